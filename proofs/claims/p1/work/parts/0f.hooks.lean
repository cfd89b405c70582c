/-! HOOKS: named ints that the ranges pin; a split of a named int -/
noncomputable def rn_pin1 (w : en_W) (c : Nat) : Nat := en_if (Nat.ble 4294967296 c) (en_if (Nat.ble c 8589934591) (en_iv w c (fun lo hi => en_if (Nat.beq lo hi) lo c)) c) c
noncomputable def rn_pins (w : en_W) (st : List Nat) : List Nat := List.rec (motive := fun _ => List Nat) [] (fun c _ r => rn_pin1 w c :: r) st
/-- named ints of the stack that have one value are that value -/
noncomputable def rn_pin : en_O → en_O := fun o loc st hp w ih => o loc (rn_pins w st) hp w ih
/-- a named int below a value, or not -/
noncomputable def rn_sp (c v : Nat) : en_O → en_O := fun o loc st hp w ih => en_lt c v w (fun w => o loc st hp w ih) (fun w => o loc st hp w ih)
section RNH
variable {E : mm_E} {kds : List (List Nat)} {P : mm_T} {L : Nat} {ρ : Nat → Int32} {ω : Nat → Value} {h0 : mm_H} {fsC : List mm_F} {FIN : mm_C → Prop}
theorem rn_pin1_v {w : en_W} {c : Nat} {v : Value} (he : en_e ρ (en_ev w)) (hv : en_v E ρ ω c v) : en_v E ρ ω (rn_pin1 w c) v := by
  unfold rn_pin1
  cases h1 : Nat.ble 4294967296 c with
  | false => exact hv
  | true =>
    cases h2 : Nat.ble c 8589934591 with
    | false => exact hv
    | true =>
      have a1 := en_ble_t.mp h1
      have a2 := en_ble_t.mp h2
      have e := (en_v_name a1 (by omega)).mp hv
      subst e
      obtain ⟨a, b, g1, g2, g3, g4⟩ := en_iv_v (w := w) he hv
      show en_v E ρ ω (en_iv w c (fun lo hi => en_if (Nat.beq lo hi) lo c)) _
      rw [g4]
      cases h3 : Nat.beq a b with
      | false => exact hv
      | true =>
        have a3 := en_beq_t.mp h3
        show en_v E ρ ω a _
        rw [en_v_const (by omega)]
        have a4 : a = en_z (ρ ((c - 4294967296) / 65536) + en_off c) := by omega
        rw [a4, en_d_z]
theorem rn_pins_v {w : en_W} (he : en_e ρ (en_ev w)) : ∀ (st : List Nat) (sv : List Value), en_sr E ρ ω st sv → en_sr E ρ ω (rn_pins w st) sv
  | [], _, h => h
  | _ :: _, [], h => h.elim
  | _ :: r, _ :: vs, h => ⟨rn_pin1_v he h.1, rn_pins_v he r vs h.2⟩
theorem rn_pin_ok {q : Nat} {o : en_O} (ho : en_OS E kds P L ρ ω h0 fsC FIN q o) : en_OS E kds P L ρ ω h0 fsC FIN q (rn_pin o) := by
  intro loc st hp w ih c hih hk hR
  obtain ⟨lv, sv, gs, h, o', rfl, hl, hs, hh, he, hx⟩ := hR
  exact ho loc _ hp w ih _ hih hk ⟨lv, sv, gs, h, o', rfl, hl, rn_pins_v he st sv hs, hh, he, hx⟩
theorem rn_sp_ok {q c v : Nat} {o : en_O} (hc : 4294967296 ≤ c) (hc2 : c < 8589934592) (hv : v < 4294967296) (ho : en_OS E kds P L ρ ω h0 fsC FIN q o) : en_OS E kds P L ρ ω h0 fsC FIN q (rn_sp c v o) := by
  intro loc st hp w ih c0 hih hk hR
  obtain ⟨lv, sv, gs, h, o', rfl, hl, hs, hh, he, hx, hd, hf⟩ := hR
  have hX := (en_v_name (E := E) (ρ := ρ) (ω := ω) hc hc2).mpr rfl
  have hY := (en_v_const (E := E) (ρ := ρ) (ω := ω) hv).mpr rfl
  obtain ⟨k1, k2⟩ := en_lt_v he hX hY hk
  have key : ∀ w', o loc st hp w' ih = true → en_wq w w' → en_e ρ (en_ev w') → en_Good E kds P L FIN ((q / 65536, q % 65536, lv, sv, w.1, w.2.1) :: gs, h, o') := by
    intro w' hk' hw he'
    obtain ⟨e1, e2, e3, e4, e5⟩ := hw
    refine ho loc st hp w' ih _ hih hk' ⟨lv, sv, gs, h, o', ?_, hl, hs, hh, he', ?_, ?_, ?_⟩
    · rw [e1, e2]
    · rw [e5]; exact hx
    · rw [e3, e4]; exact hd
    · rw [e4]; exact hf
  by_cases hlt : ρ ((c - 4294967296) / 65536) + en_off c < en_d v
  · obtain ⟨w', h1, h2, h3⟩ := k1 hlt
    exact key w' h1 h2 h3
  · obtain ⟨w', h1, h2, h3⟩ := k2 hlt
    exact key w' h1 h2 h3
end RNH
