/-! CUTS: a method by pieces from cut to cut, each cut a state without names, and a measure that goes down -/
def sf_hp0 : en_H := (((((((0, 0), 0), 0), ((0, 0), (0, 0))), ((((((0, (0, 0)), 0), 0), ((((0, 0), (0, (0, 0))), (((0, 0), 0), (0, (0, (0, 0))))), 0)), ((0, 0), 0)), (0, ((((0, 0), ((0, 0), ((0, 0), 0))), (((0, (0, 0)), ((0, 0), (0, 0))), (((0, 0), (0, 0)), ((0, 0), (0, 0))))), (((((0, 0), (0, 0)), ((0, 0), (0, 0))), (((0, 0), (0, 0)), ((0, 0), (0, 0)))), ((((0, 0), (0, 0)), ((0, 0), (0, (0, 0)))), ((((0, 0), (0, 0)), ((0, 0), 0)), (0, (0, (0, 0)))))))))), 0), ((((((0, 0), 0), (0, (0, 0))), (0, 0)), 0), ((((((((0, 0), 0), (0, 0)), (0, (0, 0))), 0), (0, (((0, 0), (0, 0)), ((0, 0), (0, 0))))), 0), (((0, 0), 0), (0, ((0, ((0, 0), (0, 0))), (((0, 0), (0, 0)), ((0, 0), ((0, 0), (0, 0))))))))))
abbrev sf_T : Type := Nat × Nat × List Nat × en_H × List (Nat × Nat) × List (Nat × Nat)
noncomputable def sf_full (n : Nat) : en_V := Nat.rec (motive := fun _ => en_V) [] (fun _ r => (0, 4294967295) :: r) n
noncomputable def sf_w0 (dp nx : Nat) : en_W := (0, 0, dp, [], nx, sf_full 40)
noncomputable def sf_nc (k : Nat) : Nat := Nat.add (Nat.add 4294967296 32768) (Nat.mul 65536 k)
/-- the code at a place: 1000: a local; else of a cell -/
noncomputable def sf_cd (loc : Nat) (hp : en_H) (p : Nat × Nat) : Nat := en_if (Nat.beq p.1 1000) (en_elt loc p.2) (en_elt (en_get hp p.1) p.2)
noncomputable def sf_pk (n : Nat) (hp : en_H) (p : Nat × Nat) : Bool := en_if (Nat.beq p.1 1000) (Nat.ble (Nat.succ p.2) n) (en_if (Nat.ble (Nat.succ p.1) 136) (en_if (Nat.ble (Nat.succ p.2) (en_len (en_get hp p.1))) (en_if (Nat.ble 6 (en_kind (en_get hp p.1))) true (en_if (Nat.ble 1 (en_kind (en_get hp p.1))) (Nat.ble (en_kind (en_get hp p.1)) 3) false)) false) false)
/-- the places of a cut get their names, one by one -/
noncomputable def sf_names (n : Nat) (pos : List (Nat × Nat)) : Nat → Nat → en_H → en_W → (Nat → en_H → en_W → Bool) → Bool := List.rec (motive := fun _ => Nat → Nat → en_H → en_W → (Nat → en_H → en_W → Bool) → Bool) (fun _ loc hp w k => k loc hp w) (fun p _ ih i loc hp w k => en_if (Nat.ble i 60000) (en_if (sf_pk n hp p) (en_if (en_isI (sf_cd loc hp p)) (en_iv w (sf_cd loc hp p) (fun lo hi => ih (Nat.succ i) (en_if (Nat.beq p.1 1000) (en_eset loc p.2 (sf_nc i)) loc) (en_if (Nat.beq p.1 1000) hp (en_put hp p.1 (en_eset (en_get hp p.1) p.2 (sf_nc i)))) (en_sev w i (lo, hi)) k)) false) false) false) pos
def sf_ath (x : Option va_E) (j : Nat) : Option Value := match x with
  | some (.inl (_, n, .inl f)) => if j < n then some (.int (f j)) else none
  | some (.inr (_, fs)) => fs[j]?
  | _ => none
def sf_at (c : mm_C) (p : Nat × Nat) : Option Value := match c with
  | (f :: _, h, _) => if p.1 = 1000 then mm_get f.2.2.1 p.2 else sf_ath h[p.1]? p.2
  | _ => none
theorem sf_at_l {f : mm_F} {fs : List mm_F} {h : mm_H} {o : Option Value} {p : Nat × Nat} (e : p.1 = 1000) : sf_at (f :: fs, h, o) p = mm_get f.2.2.1 p.2 := if_pos e
theorem sf_at_h {f : mm_F} {fs : List mm_F} {h : mm_H} {o : Option Value} {p : Nat × Nat} (e : p.1 ≠ 1000) : sf_at (f :: fs, h, o) p = sf_ath h[p.1]? p.2 := if_neg e
def sf_iv (c : mm_C) (p : Nat × Nat) : Int32 := match sf_at c p with
  | some (.int x) => x
  | _ => 0
noncomputable def sf_cm (c : mm_C) (pos : List (Nat × Nat)) (m : Nat × Nat) : Nat := if m.1 = 0 then m.2 % 1099511627776 else if m.1 = 1 then 4294967296 - en_z (sf_iv c (en_nth (0, 0) pos m.2)) else en_z (sf_iv c (en_nth (0, 0) pos m.2))
noncomputable def sf_mu (c : mm_C) (pos : List (Nat × Nat)) : Nat → List (Nat × Nat) → Nat
  | 0, _ => 0
  | _ + 1, [] => 0
  | d + 1, m :: r => sf_cm c pos m * 1099511627776 ^ d + sf_mu c pos d r
theorem sf_cm_lt (c : mm_C) (pos : List (Nat × Nat)) (m : Nat × Nat) : sf_cm c pos m < 1099511627776 := by
  unfold sf_cm
  have h := en_z_lt (sf_iv c (en_nth (0, 0) pos m.2))
  split
  · exact Nat.mod_lt _ (by decide)
  · split
    · omega
    · omega
theorem sf_mu_lt (c : mm_C) (pos : List (Nat × Nat)) : ∀ (d : Nat) (l : List (Nat × Nat)), sf_mu c pos d l < 1099511627776 ^ d
  | 0, _ => by show 0 < 1; exact Nat.one_pos
  | d + 1, [] => by show 0 < 1099511627776 ^ (d + 1); exact Nat.pow_pos (by decide)
  | d + 1, m :: r => by
    have h1 := sf_mu_lt c pos d r
    have h2 := sf_cm_lt c pos m
    show sf_cm c pos m * 1099511627776 ^ d + sf_mu c pos d r < 1099511627776 ^ (d + 1)
    have h3 : (sf_cm c pos m + 1) * 1099511627776 ^ d ≤ 1099511627776 * 1099511627776 ^ d := Nat.mul_le_mul_right _ h2
    rw [Nat.pow_succ, Nat.mul_comm (1099511627776 ^ d)]
    rw [Nat.add_mul, Nat.one_mul] at h3
    omega
theorem sf_mu_less {c c2 : mm_C} {pos pos2 : List (Nat × Nat)} {m m2 : Nat × Nat} {r r2 : List (Nat × Nat)} {d : Nat} (h : sf_cm c2 pos2 m2 < sf_cm c pos m) : sf_mu c2 pos2 (d + 1) (m2 :: r2) < sf_mu c pos (d + 1) (m :: r) := by
  show sf_cm c2 pos2 m2 * 1099511627776 ^ d + sf_mu c2 pos2 d r2 < sf_cm c pos m * 1099511627776 ^ d + sf_mu c pos d r
  have h1 := sf_mu_lt c2 pos2 d r2
  have h3 : (sf_cm c2 pos2 m2 + 1) * 1099511627776 ^ d ≤ sf_cm c pos m * 1099511627776 ^ d := Nat.mul_le_mul_right _ h
  rw [Nat.add_mul, Nat.one_mul] at h3
  omega
theorem sf_full_nth : ∀ (n i : Nat), en_nth (0, 4294967295) (sf_full n) i = (0, 4294967295)
  | 0, _ => rfl
  | _ + 1, 0 => rfl
  | n + 1, i + 1 => sf_full_nth n i
theorem sf_full_e (ρ : Nat → Int32) (n : Nat) : en_e ρ (sf_full n) := by
  intro i
  rw [sf_full_nth]
  have h := en_z_lt (ρ i)
  exact ⟨Nat.zero_le _, by show en_z (ρ i) ≤ 4294967295; omega⟩
section SFN
variable {E : mm_E} {ρ : Nat → Int32} {ω : Nat → Value}
theorem sf_nc_v {i : Nat} {x : Int32} (h : ρ i = x) (hi : i ≤ 60000) : en_v E ρ ω (sf_nc i) (.int x) := by
  have e : sf_nc i = 4294967296 + 32768 + 65536 * i := rfl
  have e1 : (sf_nc i - 4294967296) / 65536 = i := by omega
  have e2 : sf_nc i % 65536 = 32768 := by omega
  rw [en_v_name (by omega) (by omega), e1, h]
  unfold en_off
  rw [e2]
  have e3 : Int32.ofInt (((32768 : Nat) : Int) - 32768) = 0 := by decide
  rw [e3, Int32.add_zero]
theorem sf_nc_68 {i : Nat} (hi : i ≤ 60000) : sf_nc i < 2 ^ 68 := by
  have e : sf_nc i = 4294967296 + 32768 + 65536 * i := rfl
  have e2 : (2 : Nat) ^ 68 = 295147905179352825856 := by decide
  omega
/-- what the machine has at a place, and what its code says -/
theorem sf_pos_v {h0 : mm_H} {fsC : List mm_F} {q loc n : Nat} {st : List Nat} {hp : en_H} {w : en_W} {c : mm_C} {p : Nat × Nat} (hn : ∀ cs nL dd, mt_P[q / 65536]? = some (cs, nL, dd) → nL = n) (hR : en_R E mt_P 1000 ρ ω h0 fsC q loc st hp w c) (h1 : sf_pk n hp p = true) (h2 : en_isI (sf_cd loc hp p) = true) : ∃ x, sf_at c p = some (.int x) ∧ en_v E ρ ω (sf_cd loc hp p) (.int x) := by
  obtain ⟨lv, sv, gs, h, o, rfl, ⟨cs, nL, dd, hP, hl⟩, hs, hh, -⟩ := hR
  have e := hn cs nL dd hP
  subst e
  unfold sf_pk at h1
  unfold sf_cd at h2 ⊢
  obtain ⟨a, j⟩ := p
  rcases en_if_or.mp h1 with ⟨b1, h1⟩ | ⟨b1, h1⟩
  · have e1 : a = 1000 := en_beq_t.mp b1
    subst e1
    have hj : j < nL := en_ble_t.mp h1
    have e2 : Nat.beq (1000, j).1 1000 = true := rfl
    rw [e2, en_if_t] at h2 ⊢
    rcases hl j hj with h3 | ⟨v, h3, h4⟩
    · have h5 := en_isI_iff.mp h2
      have h6 : en_elt loc (1000, j).2 = 12884901891 := h3
      omega
    · obtain ⟨x, rfl⟩ := en_isI_int h2 h4
      exact ⟨x, (sf_at_l rfl).trans h3, h4⟩
  · have b2 : Nat.beq (a, j).1 1000 = false := b1
    rw [b2, en_if_f] at h2 ⊢
    have ne : a ≠ 1000 := en_beq_f.mp b1
    obtain ⟨a1, h1⟩ := en_if_and.mp h1
    obtain ⟨a2, h1⟩ := en_if_and.mp h1
    have ha : a < 136 := en_ble_t.mp a1
    have hj : j < en_len (en_get hp a) := en_ble_t.mp a2
    have hk : en_kind (en_get hp a) ≠ 0 := by
      rcases en_if_or.mp h1 with ⟨c1, -⟩ | ⟨-, c1⟩
      · have := en_ble_t.mp c1; intro e; rw [show en_kind (en_get hp (a, j).1) = en_kind (en_get hp a) from rfl, e] at this; omega
      · have := en_ble_t.mp (en_if_and.mp c1).1; intro e; rw [show en_kind (en_get hp (a, j).1) = en_kind (en_get hp a) from rfl, e] at this; omega
    have hk4 : en_kind (en_get hp a) ≠ 4 ∧ en_kind (en_get hp a) ≠ 5 := by
      rcases en_if_or.mp h1 with ⟨c1, -⟩ | ⟨-, c1⟩
      · have := en_ble_t.mp c1
        have e9 : en_kind (en_get hp (a, j).1) = en_kind (en_get hp a) := rfl
        omega
      · have := en_ble_t.mp (en_if_and.mp c1).2
        have e9 : en_kind (en_get hp (a, j).1) = en_kind (en_get hp a) := rfl
        omega
    have hc := (hh a).1 ha hk
    have hat : sf_at ((q / 65536, q % 65536, lv, sv, w.1, w.2.1) :: gs, h, o) (a, j) = sf_ath h[a]? j := sf_at_h ne
    rw [hat]
    rcases hc with ⟨t, f, d1, d2, d3, d4⟩ | ⟨f, d1, d2, d3⟩ | ⟨f, d1, d2, d3⟩ | ⟨ci, fs, d1, d2, d3, d4⟩
    · refine ⟨f j, ?_, d4 j hj⟩
      rw [d3]
      show (if j < en_len (en_get hp a) then _ else _) = _
      rw [if_pos hj]
    · exact absurd d1 hk4.1
    · exact absurd d1 hk4.2
    · have h5 : j < fs.length := by rw [d3]; exact hj
      have h6 : fs[j]? = some fs[j] := List.getElem?_eq_getElem h5
      have h7 := d4 j _ h6
      obtain ⟨x, hx⟩ := en_isI_int h2 h7
      refine ⟨x, ?_, by rw [← hx]; exact h7⟩
      rw [d2]
      show fs[j]? = _
      rw [h6, hx]
theorem sf_names_v {h0 : mm_H} {fsC : List mm_F} {q n : Nat} {st : List Nat} {c : mm_C} (hn : ∀ cs nL dd, mt_P[q / 65536]? = some (cs, nL, dd) → nL = n) : ∀ (pos : List (Nat × Nat)) (i loc : Nat) (hp : en_H) (w : en_W) (k : Nat → en_H → en_W → Bool), (∀ j p, pos[j]? = some p → ρ (i + j) = sf_iv c p) → en_R E mt_P 1000 ρ ω h0 fsC q loc st hp w c → sf_names n pos i loc hp w k = true → ∃ loc' hp' w', k loc' hp' w' = true ∧ en_R E mt_P 1000 ρ ω h0 fsC q loc' st hp' w' c
  | [], _, loc, hp, w, _, _, hR, h => ⟨loc, hp, w, h, hR⟩
  | p :: pos, i, loc, hp, w, k, hρ, hR, h => by
    obtain ⟨a1, h⟩ := en_if_and.mp (show en_if (Nat.ble i 60000) (en_if (sf_pk n hp p) (en_if (en_isI (sf_cd loc hp p)) (en_iv w (sf_cd loc hp p) (fun lo hi => sf_names n pos (Nat.succ i) (en_if (Nat.beq p.1 1000) (en_eset loc p.2 (sf_nc i)) loc) (en_if (Nat.beq p.1 1000) hp (en_put hp p.1 (en_eset (en_get hp p.1) p.2 (sf_nc i)))) (en_sev w i (lo, hi)) k)) false) false) false = true from h)
    obtain ⟨a2, h⟩ := en_if_and.mp h
    obtain ⟨a3, h⟩ := en_if_and.mp h
    have hi := en_ble_t.mp a1
    obtain ⟨x, hx, hv⟩ := sf_pos_v hn hR a2 a3
    have hρi : ρ i = x := by
      have h1 := hρ 0 p rfl
      rw [Nat.add_zero] at h1
      rw [h1]
      unfold sf_iv
      rw [hx]
    have hnc := sf_nc_v (E := E) (ω := ω) hρi
    have hnc := hnc hi
    have hn68 : sf_nc i < 2 ^ 68 := @sf_nc_68 i hi
    generalize sf_nc i = nc at h hnc hn68
    obtain ⟨lv, sv, gs, hm, o, rfl, ⟨cs, nL, dd, hP, hl⟩, hs, hh, he, hrest⟩ := hR
    obtain ⟨lo, hi2, g1, g2, g3, hk⟩ := en_iv_v he hv
    rw [hk] at h
    refine sf_names_v hn pos (Nat.succ i) _ _ (en_sev w i (lo, hi2)) k (fun j p' hp' => ?_) ⟨lv, sv, gs, hm, o, rfl, ⟨cs, nL, dd, hP, ?_⟩, hs, ?_, ?_, hrest⟩ h
    · rw [Nat.succ_add_eq_add_succ]
      exact hρ (j + 1) p' hp'
    · cases hb : Nat.beq p.1 1000 with
      | false => rw [en_if_f]; exact hl
      | true =>
        rw [en_if_t]
        intro j hj
        rw [en_elt_eset hn68]
        by_cases e : j = p.2
        · rw [if_pos e]
          refine Or.inr ⟨.int x, ?_, hnc⟩
          have h9 : mm_get lv p.2 = some (Value.int x) := (sf_at_l (en_beq_t.mp hb)).symm.trans hx
          rw [e]
          exact h9
        · rw [if_neg e]; exact hl j hj
    · cases hb : Nat.beq p.1 1000 with
      | true => rw [en_if_t]; exact hh
      | false =>
        rw [en_if_f]
        unfold sf_pk at a2
        rw [hb, en_if_f] at a2
        obtain ⟨b1, a2⟩ := en_if_and.mp a2
        obtain ⟨b2, -⟩ := en_if_and.mp a2
        have ha : p.1 < 136 := en_ble_t.mp b1
        intro k2
        by_cases hka : p.1 = k2
        · subst hka
          rw [en_get_put ha ha, if_pos rfl, en_eset_kind]
          refine ⟨fun g1 g2 => sf_cr2 (en_eset_kind _ _ _).symm (en_eset_len _ _ _).symm (fun j hj v hel hv2 => ?_) ((hh p.1).1 g1 g2), (hh p.1).2⟩
          rw [en_elt_eset hn68]
          by_cases e : j = p.2
          · rw [if_pos e]
            rw [e] at hel
            have h9 : sf_ath hm[p.1]? p.2 = some (Value.int x) := (sf_at_h (en_beq_f.mp hb)).symm.trans hx
            unfold sf_ath at h9
            have h8 : v = .int x := by
              unfold sf_el at hel
              split at hel
              · rename_i e9
                rw [e9] at h9
                simp only [] at h9
                split at h9
                · rw [hel]; exact Option.some.inj h9
                · cases h9
              · rename_i e9
                rw [e9] at h9
                simp only [] at h9
                exact Option.some.inj (hel.symm.trans h9)
              · exfalso
                rename_i e8 e9
                split at h9
                · rename_i e7; exact e8 _ _ _ e7
                · rename_i e7; exact e9 _ _ e7
                · cases h9
            rw [h8]
            exact hnc
          · rw [if_neg e]; exact hv2
        · by_cases hk1 : k2 < 136
          · rw [en_get_put ha hk1, if_neg hka]; exact hh k2
          · exact ⟨fun g => absurd g hk1, fun _ => (hh k2).2 (fun g => hk1 g.1)⟩
    · exact en_e_set he (q := (lo, hi2)) (by rw [hρi]; exact g1) (by rw [hρi]; exact g2)
end SFN
