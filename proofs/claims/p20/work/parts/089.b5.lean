/-! THE ENGINE IS SOUND, 5: instructions on the heap -/
section ENT
variable {E : mm_E} {kds : List (List Nat)} {P : mm_T} {L : Nat} {ρ : Nat → Int32} {ω : Nat → Value} {h0 : mm_H} {fsC : List mm_F} {FIN : mm_C → Prop}
/-- the String constants lie below the base, apart; their lengths; their bytes are bytes -/
def en_ST (E : mm_E) : Prop := ∃ q4 q5 q6 q7 : mm_S, E.2[4]? = some q4 ∧ E.2[5]? = some q5 ∧ E.2[6]? = some q6 ∧ E.2[7]? = some q7 ∧ q4.1 < E.1 ∧ q5.1 < E.1 ∧ q6.1 < E.1 ∧ q7.1 < E.1 ∧ q4.1 ≠ q6.1 ∧ q5.1 ≠ q7.1 ∧ q5.2.1 = 192 ∧ q7.2.1 = 9 ∧ (∀ j, -128 ≤ (q5.2.2 j).toInt ∧ (q5.2.2 j).toInt ≤ 127) ∧ ∀ j, -128 ≤ (q7.2.2 j).toInt ∧ (q7.2.2 j).toInt ≤ 127
def en_SA (E : mm_E) (ρ : Nat → Int32) (ω : Nat → Value) (SA : List (Nat × Nat)) : Prop := en_ST E ∧ ∀ (s n row : Nat), SA[s]? = some (n, row) → ∃ q q', E.2[s]? = some q ∧ q.1 < E.1 ∧ mm_stat E q.1 = some q' ∧ q'.2.1 = n ∧ ∀ j, j < n → en_v E ρ ω (en_elt row j) (.int (q'.2.2 j))
theorem en_cell_v {c : Nat} {v : Value} {k s : Nat → Bool} (hv : en_v E ρ ω c v) (h : en_cell c k s = true) : (∃ i : Nat, i < 136 ∧ v = .ref (E.1 + i) ∧ k i = true) ∨ (∃ (i : Nat) (q : mm_S), E.2[i]? = some q ∧ v = .ref q.1 ∧ s i = true) := by
  unfold en_cell at h
  obtain ⟨a1, h⟩ := en_if_and.mp h
  have a1 := en_ble_t.mp a1
  rcases en_if_or.mp h with ⟨a2, h⟩ | ⟨-, h⟩
  · have a2 := en_ble_t.mp a2
    have e := (en_v_ref a1 (by omega)).mp hv
    exact Or.inl ⟨c - 8589934592, by omega, e, h⟩
  · obtain ⟨a3, h⟩ := en_if_and.mp h
    obtain ⟨a4, h⟩ := en_if_and.mp h
    obtain ⟨q, h1, h2⟩ := (en_v_stat (en_ble_t.mp a3) (en_ble_t.mp a4)).mp hv
    exact Or.inr ⟨c - 12884901904, q, h1, h2, h⟩
theorem en_mmcell (h : mm_H) (i : Nat) : mm_cell E h (E.1 + i) = h[i]? := by
  unfold mm_cell
  rw [if_pos (Nat.le_add_right _ _), Nat.add_sub_cancel_left]
theorem en_h_get {hp : en_H} {h : mm_H} (hh : en_h E ρ ω h0 hp h) {i : Nat} (hi : i < 136) (hk : en_kind (en_get hp i) ≠ 0) : en_cr E ρ ω (en_get hp i) h[i]? := (hh i).1 hi hk
theorem en_get_put {hp : en_H} {k N j : Nat} (hk : k < 136) (hj : j < 136) : en_get (en_put hp k N) j = if k = j then N else en_get hp j := en_lens_H hp k N j (Nat.zero_le _) hk (Nat.zero_le _) hj
theorem en_cr_lt {N : Nat} {h : mm_H} {i : Nat} (hc : en_cr E ρ ω N h[i]?) : i < h.length := by
  rcases hc with ⟨t, f, -, -, e, -⟩ | ⟨f, -, e, -⟩ | ⟨f, -, e, -⟩ | ⟨ci, fs, -, e, -⟩ <;> exact (List.getElem?_eq_some_iff.mp e).1
theorem en_cr_kind {N : Nat} {x : Option va_E} (hc : en_cr E ρ ω N x) : en_kind N ≠ 0 := by
  rcases hc with ⟨t, f, e, -⟩ | ⟨f, e, -⟩ | ⟨f, e, -⟩ | ⟨ci, fs, e, -⟩ <;> omega
theorem en_h_put {hp : en_H} {h : mm_H} (hh : en_h E ρ ω h0 hp h) {i N : Nat} {e : va_E} (hi : i < 136) (hil : i < h.length) (hc : en_cr E ρ ω N (some e)) : en_h E ρ ω h0 (en_put hp i N) (h.set i e) := by
  intro k
  by_cases hk : k < 136
  · rw [en_get_put hi hk, List.getElem?_set]
    by_cases hik : i = k
    · subst hik
      simp only [if_true, hil]
      exact ⟨fun _ _ => hc, fun q => absurd ⟨hi, en_cr_kind hc⟩ q⟩
    · simp only [hik, if_false]
      exact hh k
  · refine ⟨fun q => absurd q hk, fun _ => ?_⟩
    rw [List.getElem?_set, if_neg (by omega)]
    exact (hh k).2 (fun q => hk q.1)
theorem en_h_push {hp : en_H} {h : mm_H} (hh : en_h E ρ ω h0 hp h) {N : Nat} {e : va_E} (hi : h.length < 136) (hc : en_cr E ρ ω N (some e)) : en_h E ρ ω h0 (en_put hp h.length N) (h ++ [e]) := by
  intro k
  by_cases hk : k < 136
  · rw [en_get_put hi hk]
    by_cases hik : h.length = k
    · subst hik
      simp only [if_true]
      rw [List.getElem?_append_right (Nat.le_refl _), Nat.sub_self]
      exact ⟨fun _ _ => hc, fun q => absurd ⟨hi, en_cr_kind hc⟩ q⟩
    · simp only [hik, if_false]
      have e1 : (h ++ [e])[k]? = h[k]? := by
        rcases Nat.lt_or_ge k h.length with q | q
        · rw [List.getElem?_append_left q]
        · rw [List.getElem?_append_right q, List.getElem?_eq_none (by simp; omega), List.getElem?_eq_none q]
      rw [e1]
      exact hh k
  · refine ⟨fun q => absurd q hk, fun _ => ?_⟩
    rw [List.getElem?_append_right (by omega), List.getElem?_eq_none (by simp; omega), ← (hh k).2 (fun q => hk q.1), List.getElem?_eq_none (by omega)]
theorem en_idx_v {len : Nat} {I : Int32} {k : Nat → Bool} (h : en_idx len (en_z I) k = true) : mm_inr I len = true ∧ I.toNatClampNeg < len ∧ k I.toNatClampNeg = true := by
  unfold en_idx at h
  obtain ⟨a1, h⟩ := en_if_and.mp h
  obtain ⟨a2, h⟩ := en_if_and.mp h
  have a1 := en_ble_t.mp a1
  have a2 : (en_z I - 2147483648) + 1 ≤ len := en_ble_t.mp a2
  have hz := en_z_int I
  have e : I.toNatClampNeg = en_z I - 2147483648 := by
    show I.toInt.toNat = _
    omega
  refine ⟨?_, by omega, by rw [e]; exact h⟩
  unfold mm_inr
  simp only [Bool.and_eq_true, decide_eq_true_eq]
  omega
theorem en_sub_lt {a b l : Nat} (h : a ≤ b) (h2 : b - 2147483648 < l) : a - 2147483648 < l := Nat.lt_of_le_of_lt (Nat.sub_le_sub_right h 2147483648) h2
theorem en_idx_in {len : Nat} {I : Int32} (a1 : 2147483648 ≤ en_z I) (a2 : en_z I - 2147483648 < len) : mm_inr I len = true ∧ I.toNatClampNeg < len := by
  have hz := en_z_int I
  have e : I.toNatClampNeg = en_z I - 2147483648 := by
    show I.toInt.toNat = _
    omega
  refine ⟨?_, by omega⟩
  unfold mm_inr
  simp only [Bool.and_eq_true, decide_eq_true_eq]
  omega
/-- once more at the same place -/
theorem en_again {ih : en_C} (hih : en_S E kds P L ρ ω h0 fsC FIN ih) {q loc : Nat} {st : List Nat} {hp : en_H} {w w' : en_W} {c : mm_C} (hR : en_R E P L ρ ω h0 fsC q loc st hp w c) (hk : ih q loc st hp w' = true) (hw : en_wq w w') (he : en_e ρ (en_ev w')) : en_Good E kds P L FIN c := by
  obtain ⟨lv, sv, gs, h, o, rfl, hl, hs, hh, -, hx, hd, hf⟩ := hR
  obtain ⟨w1, w2, w3, w4, w5⟩ := hw
  refine hih q loc st hp w' _ hk ⟨lv, sv, gs, h, o, by rw [w1, w2], hl, hs, hh, he, by rw [w5]; exact hx, by rw [w3, w4]; exact hd, by rw [w4]; exact hf⟩
section OPT
variable {q n : Nat} {X : mm_V → List Value → Nat → Nat → mm_H → mm_O} {cs : List (List mm_I)} {nL : Nat} {dd : mm_M}
theorem en_O_sw (hP : P[q / 65536]? = some (cs, nL, dd)) (hS : en_St E kds P L FIN q X) {qd lo m : Nat} {qs : List Nat} (hqd : qd / 65536 = q / 65536) (hqs : ∀ x ∈ qs, x / 65536 = q / 65536) (hlo : lo + m < 4294967296) (hm : qs.length = m + 1)
    (hX1 : ∀ lv I sv cb sb h, en_z I < lo ∨ lo + m < en_z I → X lv (.int I :: sv) cb sb h = some (qd % 65536, lv, sv, cb, sb, h)) (hX2 : ∀ lv I sv cb sb h t, lo ≤ en_z I → en_z I ≤ lo + m → qs[en_z I - lo]? = some t → X lv (.int I :: sv) cb sb h = some (t % 65536, lv, sv, cb, sb, h)) : en_OS E kds P L ρ ω h0 fsC FIN q (en_sw q qd lo m qs) := by
  intro loc st hp w ih c0 hih hk hR
  have hR0 := hR
  obtain ⟨lv, sv, gs, h, o, rfl, ⟨cs', nL', dd', hP', hl⟩, hs, hh, he, hx, hd, hf⟩ := hR
  cases hP.symm.trans hP'
  unfold en_sw at hk
  obtain ⟨x, st1, rfl, hk1⟩ := en_pop_t hk
  obtain ⟨h1, hk1⟩ := en_if_and.mp hk1
  obtain ⟨vx, sv1, rfl, h4, hs1⟩ := en_sr_cons hs
  obtain ⟨I, rfl⟩ := en_isI_int h1 h4
  have goD : ∀ w', ih qd loc st1 hp w' = true → en_wq w w' → en_e ρ (en_ev w') → (en_z I < lo ∨ lo + m < en_z I) → en_Good E kds P L FIN ((q / 65536, q % 65536, lv, .int I :: sv1, w.1, w.2.1) :: gs, h, o) := by
    intro w' k1 k2 k3 k4
    exact hS lv _ _ _ h gs o (qd % 65536) lv sv1 _ _ h (hX1 _ _ _ _ _ _ k4) (en_go_w hih k1 k2 k3 hqd hP hl hs1 hh hx hd hf)
  rcases en_pt_v he h4 hk1 with hk2 | ⟨w', hk2, hw, he'⟩ | hk2
  · rcases en_if_or.mp hk2 with ⟨a1, hk3⟩ | ⟨a1, hk3⟩
    · have a1 := en_ble_t.mp a1
      rcases en_if_or.mp hk3 with ⟨a2, hk4⟩ | ⟨a2, hk4⟩
      · have a2 : en_z I ≤ lo + m := en_ble_t.mp a2
        have hlt : en_z I - lo < qs.length := by omega
        have ht : qs[en_z I - lo]? = some qs[en_z I - lo] := List.getElem?_eq_getElem hlt
        have e : en_nth qd qs (Nat.sub (en_z I) lo) = qs[en_z I - lo] := by
          show en_nth qd qs (en_z I - lo) = _
          rw [en_nth_eq, ht]; rfl
        rw [e] at hk4
        exact hS lv _ _ _ h gs o (qs[en_z I - lo] % 65536) lv sv1 _ _ h (hX2 _ _ _ _ _ _ _ a1 a2 ht) (en_go_on hih hk4 (hqs _ (List.getElem_mem hlt)) hP hl hs1 hh he hx hd hf rfl rfl)
      · have a2 : lo + m < en_z I := en_ble_f.mp a2
        exact goD w hk4 (en_wq.rf w) he (Or.inr a2)
    · have a1 := en_ble_f.mp a1
      exact goD w hk3 (en_wq.rf w) he (Or.inl a1)
  · exact en_again hih hR0 hk2 hw he'
  · have hvlo : en_v E ρ ω lo (.int (en_d lo)) := by rw [en_v_const (by omega)]
    have hvhi : en_v E ρ ω (lo + m) (.int (en_d (lo + m))) := by rw [en_v_const (by omega)]
    obtain ⟨k1, k2⟩ := en_lt_v he h4 hvlo hk2
    by_cases hc : I < en_d lo
    · obtain ⟨w', hk3, hw, he'⟩ := k1 hc
      rw [en_z_lt_iff, en_z_d (by omega)] at hc
      exact goD w' hk3 hw he' (Or.inl hc)
    · obtain ⟨w', hk3, hw, he'⟩ := k2 hc
      obtain ⟨k3, k4⟩ := en_lt_v he' hvhi h4 hk3
      by_cases hc2 : en_d (lo + m) < I
      · obtain ⟨w2, hk4, hw2, he2⟩ := k3 hc2
        rw [en_z_lt_iff, en_z_d (by omega)] at hc2
        exact goD w2 hk4 (hw.tr hw2) he2 (Or.inr hc2)
      · obtain ⟨w2, hk4, hw2, he2⟩ := k4 hc2
        rcases en_pt_v he2 h4 hk4 with hk5 | ⟨w3, hk5, hw3, he3⟩ | hk5
        · cases hk5
        · exact en_again hih hR0 hk5 ((hw.tr hw2).tr hw3) he3
        · cases hk5
theorem en_O_aload (hP : P[q / 65536]? = some (cs, nL, dd)) (hS : en_St E kds P L FIN q X) (hn : n / 65536 = q / 65536) {SA : List (Nat × Nat)} (hSA : en_SA E ρ ω SA) {t : Nat → Bool} (ht0 : t 0 = false)
    (hX1 : ∀ (lv : mm_V) (I : Int32) (a : Nat) (r : List Value) (cb sb : Nat) (h : mm_H) (N : Nat), t (en_kind N) = true → en_cr E ρ ω N h[a]? → mm_inr I (en_len N) = true → I.toNatClampNeg < en_len N → ∃ v, X lv (.int I :: .ref (E.1 + a) :: r) cb sb h = some (n % 65536, lv, v :: r, cb, sb, h) ∧ en_v E ρ ω (en_elt N I.toNatClampNeg) v)
    (hX2 : t 1 = true → ∀ (lv : mm_V) (I : Int32) (a : Nat) (r : List Value) (cb sb : Nat) (h : mm_H) (q' : mm_S), a < E.1 → mm_stat E a = some q' → mm_inr I q'.2.1 = true → X lv (.int I :: .ref a :: r) cb sb h = some (n % 65536, lv, .int (q'.2.2 I.toNatClampNeg) :: r, cb, sb, h)) : en_OS E kds P L ρ ω h0 fsC FIN q (en_aload SA t q n) := by
  intro loc st hp w ih c0 hih hk hR
  have hR0 := hR
  obtain ⟨lv, sv, gs, h, o, rfl, ⟨cs', nL', dd', hP', hl⟩, hs, hh, he, hx, hd, hf⟩ := hR
  cases hP.symm.trans hP'
  unfold en_aload at hk
  obtain ⟨i, st1, rfl, hk1⟩ := en_pop_t hk
  obtain ⟨a, st2, rfl, hk2⟩ := en_pop_t hk1
  obtain ⟨h1, hk3⟩ := en_if_and.mp hk2
  obtain ⟨vi, sv1, rfl, h3, hs1⟩ := en_sr_cons hs
  obtain ⟨va, sv2, rfl, h4, hs2⟩ := en_sr_cons hs1
  obtain ⟨I, rfl⟩ := en_isI_int h1 h3
  rcases en_pt_v he h3 hk3 with hk4 | ⟨w', hk4, hw, he'⟩ | hk4
  · rcases en_cell_v h4 hk4 with ⟨k, hk5, rfl, hk6⟩ | ⟨s, qs, hs3, rfl, hk6⟩
    · obtain ⟨a1, hk7⟩ := en_if_and.mp hk6
      obtain ⟨b1, b2, b3⟩ := en_idx_v hk7
      have hkind : en_kind (en_get hp k) ≠ 0 := fun e => by rw [e, ht0] at a1; cases a1
      obtain ⟨v, e1, e2⟩ := hX1 lv I k sv2 w.1 w.2.1 h (en_get hp k) a1 (en_h_get hh hk5 hkind) b1 b2
      exact hS lv _ _ _ h gs o (n % 65536) lv (v :: sv2) _ _ h e1 (en_go_on hih b3 hn hP hl (show en_sr E ρ ω (_ :: st2) (v :: sv2) from ⟨e2, hs2⟩) hh he hx hd hf rfl rfl)
    · obtain ⟨a1, hk7⟩ := en_if_and.mp hk6
      cases hnn : en_nth (0, 0) SA s with
      | mk m row =>
        rw [hnn] at hk7
        obtain ⟨b1, b2, b3⟩ := en_idx_v (show en_idx m (en_z I) _ = true from hk7)
        have hsa : SA[s]? = some (m, row) := by
          rw [en_nth_eq] at hnn
          cases hq : SA[s]? with
          | none => rw [hq] at hnn; cases hnn; omega
          | some y => rw [hq] at hnn; simp only [Option.getD_some] at hnn; rw [hnn]
        obtain ⟨qq, q', g1, g2, g3, g4, g5⟩ := hSA.2 s m row hsa
        cases g1.symm.trans hs3
        have e1 := hX2 a1 lv I qs.1 sv2 w.1 w.2.1 h q' g2 g3 (by rw [g4]; exact b1)
        exact hS lv _ _ _ h gs o (n % 65536) lv _ _ _ h e1 (en_go_on hih b3 hn hP hl (show en_sr E ρ ω (_ :: st2) (_ :: sv2) from ⟨g5 _ b2, hs2⟩) hh he hx hd hf rfl rfl)
  · exact en_again hih hR0 hk4 hw he'
  · cases hk4
theorem en_O_astore (hP : P[q / 65536]? = some (cs, nL, dd)) (hS : en_St E kds P L FIN q X) (hn : n / 65536 = q / 65536) {t : Nat → Bool} (ht0 : t 0 = false)
    (hX1 : ∀ (lv : mm_V) (V : Value) (v : Nat) (k : Nat → Bool) (I : Int32) (a : Nat) (r : List Value) (cb sb : Nat) (h : mm_H) (N : Nat), t (en_kind N) = true → en_cr E ρ ω N h[a]? → en_v E ρ ω v V → en_fit (en_kind N) v k = true → ∃ v', k v' = true ∧ (mm_inr I (en_len N) = true → I.toNatClampNeg < en_len N → ∃ e', X lv (V :: .int I :: .ref (E.1 + a) :: r) cb sb h = some (n % 65536, lv, r, cb, sb, h.set a e') ∧ en_cr E ρ ω (en_eset N I.toNatClampNeg v') (some e'))) : en_OS E kds P L ρ ω h0 fsC FIN q (en_astore t q n) := by
  intro loc st hp w ih c0 hih hk hR
  have hR0 := hR
  obtain ⟨lv, sv, gs, h, o, rfl, ⟨cs', nL', dd', hP', hl⟩, hs, hh, he, hx, hd, hf⟩ := hR
  cases hP.symm.trans hP'
  unfold en_astore at hk
  obtain ⟨v, st0, rfl, hk0⟩ := en_pop_t hk
  obtain ⟨i, st1, rfl, hk1⟩ := en_pop_t hk0
  obtain ⟨a, st2, rfl, hk2⟩ := en_pop_t hk1
  obtain ⟨h1, hk3⟩ := en_if_and.mp hk2
  obtain ⟨V, sv0, rfl, h2, hs0⟩ := en_sr_cons hs
  obtain ⟨vi, sv1, rfl, h3, hs1⟩ := en_sr_cons hs0
  obtain ⟨va, sv2, rfl, h4, hs2⟩ := en_sr_cons hs1
  obtain ⟨I, rfl⟩ := en_isI_int h1 h3
  rcases en_pt_v he h3 hk3 with hk4 | ⟨w', hk4, hw, he'⟩ | hk4
  · rcases en_cell_v h4 hk4 with ⟨k, hk5, rfl, hk6⟩ | ⟨s, qs, hs3, rfl, hk6⟩
    · obtain ⟨a1, hk7⟩ := en_if_and.mp hk6
      have hkind : en_kind (en_get hp k) ≠ 0 := fun e => by rw [e, ht0] at a1; cases a1
      have hcr := en_h_get hh hk5 hkind
      obtain ⟨v', hk8, hx1⟩ := hX1 lv V v _ I k sv2 w.1 w.2.1 h (en_get hp k) a1 hcr h2 hk7
      obtain ⟨b1, b2, b3⟩ := en_idx_v hk8
      obtain ⟨e', e1, e2⟩ := hx1 b1 b2
      exact hS lv _ _ _ h gs o (n % 65536) lv sv2 _ _ _ e1 (en_go_on hih b3 hn hP hl hs2 (en_h_put hh hk5 (en_cr_lt hcr) e2) he (by rw [List.length_set]; exact hx) hd hf rfl rfl)
    · cases hk6
  · exact en_again hih hR0 hk4 hw he'
  · cases hk4
/-- v is what a cell has at j -/
def sf_el (x : Option va_E) (j : Nat) (v : Value) : Prop := match x with
  | some (.inl (_, _, .inl f)) => v = .int (f j)
  | some (.inr (_, fs)) => fs[j]? = some v
  | _ => True
/-- a row's codes may change where each goes over -/
theorem sf_cr2 {ρ ρ' : Nat → Int32} {N N2 : Nat} {x : Option va_E} (hk : en_kind N = en_kind N2) (hl : en_len N = en_len N2) (hj : ∀ j, j < en_len N2 → ∀ v, sf_el x j v → en_v E ρ ω (en_elt N j) v → en_v E ρ' ω (en_elt N2 j) v) (h : en_cr E ρ ω N x) : en_cr E ρ' ω N2 x := by
  unfold en_cr at h ⊢
  rw [← hk, ← hl]
  rcases h with ⟨t, f, h1, h2, h3, h4⟩ | ⟨f, h1, h2, h3⟩ | ⟨f, h1, h2, h3⟩ | ⟨ci, fs, h1, h2, h3, h4⟩
  · exact Or.inl ⟨t, f, h1, h2, h3, fun i hi => hj i (by omega) _ (by rw [h3]; rfl) (h4 i hi)⟩
  · exact Or.inr (Or.inl ⟨f, h1, h2, fun i hi => hj i (by omega) _ (by rw [h2]; trivial) (h3 i hi)⟩)
  · exact Or.inr (Or.inr (Or.inl ⟨f, h1, h2, fun i hi => hj i (by omega) _ (by rw [h2]; trivial) (h3 i hi)⟩))
  · refine Or.inr (Or.inr (Or.inr ⟨ci, fs, h1, h2, h3, fun i v hv => hj i ?_ v (by rw [h2]; exact hv) (h4 i v hv)⟩))
    have h5 := (List.getElem?_eq_some_iff.mp hv).1
    omega
theorem sf_cr {ρ ρ' : Nat → Int32} {N N2 : Nat} {x : Option va_E} (hk : en_kind N = en_kind N2) (hl : en_len N = en_len N2) (hj : ∀ j, j < en_len N2 → ∀ v, en_v E ρ ω (en_elt N j) v → en_v E ρ' ω (en_elt N2 j) v) (h : en_cr E ρ ω N x) : en_cr E ρ' ω N2 x := sf_cr2 hk hl (fun j h1 v _ h2 => hj j h1 v h2) h
theorem en_uni_t {N j : Nat} (h : en_uni N = true) (hj : j < en_len N) : en_elt N j = en_elt N 0 := by
  have e := en_beq_t.mp h
  conv => lhs; rw [e]
  exact en_rep_elt (Nat.mod_lt _ (by decide)) (Nat.mod_lt _ (by decide)) (en_elt_lt _ _) hj
theorem en_O_aloadX (hP : P[q / 65536]? = some (cs, nL, dd)) (hS : en_St E kds P L FIN q X) (hn : n / 65536 = q / 65536) {SA : List (Nat × Nat)} (hSA : en_SA E ρ ω SA) {t : Nat → Bool} (ht0 : t 0 = false)
    (hX1 : ∀ (lv : mm_V) (I : Int32) (a : Nat) (r : List Value) (cb sb : Nat) (h : mm_H) (N : Nat), t (en_kind N) = true → en_cr E ρ ω N h[a]? → mm_inr I (en_len N) = true → I.toNatClampNeg < en_len N → ∃ v, X lv (.int I :: .ref (E.1 + a) :: r) cb sb h = some (n % 65536, lv, v :: r, cb, sb, h) ∧ en_v E ρ ω (en_elt N I.toNatClampNeg) v)
    (hX2 : t 1 = true → ∀ (lv : mm_V) (I : Int32) (a : Nat) (r : List Value) (cb sb : Nat) (h : mm_H) (q' : mm_S), a < E.1 → mm_stat E a = some q' → mm_inr I q'.2.1 = true → X lv (.int I :: .ref a :: r) cb sb h = some (n % 65536, lv, .int (q'.2.2 I.toNatClampNeg) :: r, cb, sb, h)) : en_OS E kds P L ρ ω h0 fsC FIN q (en_aloadX SA t q n) := by
  intro loc st hp w ih c0 hih hk hR
  have hold := en_O_aload hP hS hn hSA ht0 hX1 hX2 loc st hp w ih c0 hih
  have hR0 := hR
  obtain ⟨lv, sv, gs, h, o, rfl, ⟨cs', nL', dd', hP', hl⟩, hs, hh, he, hx, hd, hf⟩ := hR
  cases hP.symm.trans hP'
  unfold en_aloadX at hk
  obtain ⟨i, st1, rfl, hk1⟩ := en_pop_t hk
  obtain ⟨a, st2, rfl, hk2⟩ := en_pop_t hk1
  rcases en_if_or.mp hk2 with ⟨-, hk3⟩ | ⟨-, hk3⟩
  · exact hold hk3 hR0
  obtain ⟨h1, hk3⟩ := en_if_and.mp hk3
  obtain ⟨vi, sv1, rfl, h3, hs1⟩ := en_sr_cons hs
  obtain ⟨va, sv2, rfl, h4, hs2⟩ := en_sr_cons hs1
  obtain ⟨I, rfl⟩ := en_isI_int h1 h3
  obtain ⟨lo, hi, g1, g2, g3, g4⟩ := en_iv_v he h3
  rw [g4] at hk3
  rcases en_cell_v h4 hk3 with ⟨k, hk5, rfl, hk6⟩ | ⟨s, qs, hs3, rfl, hk6⟩
  · obtain ⟨a1, hk7⟩ := en_if_and.mp hk6
    rcases en_if_or.mp hk7 with ⟨a2, hk7⟩ | ⟨-, hk7⟩
    · rcases en_if_or.mp hk7 with ⟨a3, hk7⟩ | ⟨-, hk7⟩
      · rcases en_if_or.mp hk7 with ⟨a4, hk7⟩ | ⟨-, hk7⟩
        · have a2 : 2147483648 ≤ lo := en_ble_t.mp a2
          have a3 : hi - 2147483648 < en_len (en_get hp k) := en_ble_t.mp a3
          obtain ⟨b1, b2⟩ := en_idx_in (I := I) (len := en_len (en_get hp k)) (Nat.le_trans a2 g1) (en_sub_lt g2 a3)
          have hkind : en_kind (en_get hp k) ≠ 0 := fun e => by rw [e, ht0] at a1; cases a1
          obtain ⟨v, e1, e2⟩ := hX1 lv I k sv2 w.1 w.2.1 h (en_get hp k) a1 (en_h_get hh hk5 hkind) b1 b2
          rw [en_uni_t a4 b2] at e2
          exact hS lv _ _ _ h gs o (n % 65536) lv (v :: sv2) _ _ h e1 (en_go_on hih hk7 hn hP hl (show en_sr E ρ ω (_ :: st2) (v :: sv2) from ⟨e2, hs2⟩) hh he hx hd hf rfl rfl)
        · exact hold hk7 hR0
      · exact hold hk7 hR0
    · exact hold hk7 hR0
  · exact hold hk6 hR0
theorem en_O_astoreX (hP : P[q / 65536]? = some (cs, nL, dd)) (hS : en_St E kds P L FIN q X) (hn : n / 65536 = q / 65536) {t : Nat → Bool} (ht0 : t 0 = false)
    (hX1 : ∀ (lv : mm_V) (V : Value) (v : Nat) (k : Nat → Bool) (I : Int32) (a : Nat) (r : List Value) (cb sb : Nat) (h : mm_H) (N : Nat), t (en_kind N) = true → en_cr E ρ ω N h[a]? → en_v E ρ ω v V → en_fit (en_kind N) v k = true → ∃ v', k v' = true ∧ (mm_inr I (en_len N) = true → I.toNatClampNeg < en_len N → ∃ e', X lv (V :: .int I :: .ref (E.1 + a) :: r) cb sb h = some (n % 65536, lv, r, cb, sb, h.set a e') ∧ en_cr E ρ ω (en_eset N I.toNatClampNeg v') (some e'))) : en_OS E kds P L ρ ω h0 fsC FIN q (en_astoreX t q n) := by
  intro loc st hp w ih c0 hih hk hR
  rcases en_if_or.mp (show en_if (en_weak t st hp w) (en_pop st (fun _ r => en_pop r (fun _ r => en_pop r (fun _ r => ih n loc r hp w)))) (en_astore t q n loc st hp w ih) = true from hk) with ⟨hw, hk⟩ | ⟨-, hk⟩
  · obtain ⟨lv, sv, gs, h, o, rfl, ⟨cs', nL', dd', hP', hl⟩, hs, hh, he, hx, hd, hf⟩ := hR
    cases hP.symm.trans hP'
    unfold en_weak at hw
    obtain ⟨v, st0, rfl, hk0⟩ := en_pop_t hw
    obtain ⟨i, st1, rfl, hk1⟩ := en_pop_t hk0
    obtain ⟨a, st2, rfl, hk2⟩ := en_pop_t hk1
    have hk : ih n loc st2 hp w = true := hk
    obtain ⟨h1, hk3⟩ := en_if_and.mp hk2
    obtain ⟨V, sv0, rfl, h2, hs0⟩ := en_sr_cons hs
    obtain ⟨vi, sv1, rfl, h3, hs1⟩ := en_sr_cons hs0
    obtain ⟨va, sv2, rfl, h4, hs2⟩ := en_sr_cons hs1
    obtain ⟨I, rfl⟩ := en_isI_int h1 h3
    obtain ⟨lo, hi, g1, g2, g3, g4⟩ := en_iv_v he h3
    rw [g4] at hk3
    rcases en_cell_v h4 hk3 with ⟨k, hk5, rfl, hk6⟩ | ⟨s, qs, hs3, rfl, hk6⟩
    · obtain ⟨a1, hk7⟩ := en_if_and.mp hk6
      obtain ⟨a2, hk7⟩ := en_if_and.mp hk7
      obtain ⟨a3, hk7⟩ := en_if_and.mp hk7
      obtain ⟨a4, hk7⟩ := en_if_and.mp hk7
      have a2 : 2147483648 ≤ lo := en_ble_t.mp a2
      have a3 : hi - 2147483648 < en_len (en_get hp k) := en_ble_t.mp a3
      obtain ⟨b1, b2⟩ := en_idx_in (I := I) (len := en_len (en_get hp k)) (Nat.le_trans a2 g1) (en_sub_lt g2 a3)
      have hkind : en_kind (en_get hp k) ≠ 0 := fun e => by rw [e, ht0] at a1; cases a1
      have hcr := en_h_get hh hk5 hkind
      obtain ⟨v', hk8, hx1⟩ := hX1 lv V v _ I k sv2 w.1 w.2.1 h (en_get hp k) a1 hcr h2 hk7
      obtain ⟨e', e1, e2⟩ := hx1 b1 b2
      obtain ⟨hk8a, hk9⟩ := en_if_and.mp (show en_if (Nat.ble v' 147573952589676412927) (sf_sub w v' (en_elt (en_get hp k) 0)) false = true from hk8)
      have hv' : v' < 2 ^ 68 := Nat.lt_of_le_of_lt (en_ble_t.mp hk8a) (by decide)
      have hcr2 : en_cr E ρ ω (en_get hp k) (some e') := by
        refine sf_cr (en_eset_kind _ _ _) (en_eset_len _ _ _) (fun j hj u hu => ?_) e2
        rw [en_elt_eset hv'] at hu
        by_cases e : j = I.toNatClampNeg
        · rw [if_pos e] at hu
          rw [en_uni_t a4 hj]
          exact sf_sub_v ρ he hu hk9
        · rw [if_neg e] at hu
          exact hu
      refine hS lv _ _ _ h gs o (n % 65536) lv sv2 _ _ _ e1 (en_go_on hih hk hn hP hl hs2 (fun k2 => ?_) he (by rw [List.length_set]; exact hx) hd hf rfl rfl)
      by_cases e : k = k2
      · subst e
        have h9 : (h.set k e')[k]? = some e' := by rw [List.getElem?_set_self (en_cr_lt hcr)]
        rw [h9]
        exact ⟨fun _ _ => hcr2, fun g => absurd ⟨hk5, hkind⟩ g⟩
      · rw [List.getElem?_set_ne e]
        exact hh k2
    · cases hk6
  · exact en_O_astore hP hS hn ht0 hX1 loc st hp w ih c0 hih hk hR
theorem en_len_SA (SA : List (Nat × Nat)) : (List.rec (motive := fun _ => Nat) 0 (fun _ _ n => Nat.succ n) SA : Nat) = SA.length := by
  induction SA with
  | nil => rfl
  | cons a r ih => show Nat.succ _ = _; rw [ih]; rfl
theorem en_len_v {m : Nat} (h : m < 16777216) : en_v E ρ ω (Nat.add 2147483648 m) (.int (Int32.ofNat m)) := by
  show en_v E ρ ω (2147483648 + m) _
  rw [en_v_const (by omega), Nat.add_comm]
  exact congrArg Value.int (en_nI_d m)
theorem en_sr_push {c : Nat} {v : Value} {st : List Nat} {sv : List Value} (h : en_v E ρ ω c v) (hs : en_sr E ρ ω st sv) : en_sr E ρ ω (c :: st) (v :: sv) := ⟨h, hs⟩
theorem en_O_alen (hP : P[q / 65536]? = some (cs, nL, dd)) (hS : en_St E kds P L FIN q X) (hn : n / 65536 = q / 65536) {SA : List (Nat × Nat)} (hSA : en_SA E ρ ω SA) (hX : ∀ lv sv cb sb h, X lv sv cb sb h = mm_alen E lv sv cb sb h (n % 65536) 0) : en_OS E kds P L ρ ω h0 fsC FIN q (en_alen SA n) := by
  intro loc st hp w ih c0 hih hk hR
  obtain ⟨lv, sv, gs, h, o, rfl, ⟨cs', nL', dd', hP', hl⟩, hs, hh, he, hx, hd, hf⟩ := hR
  cases hP.symm.trans hP'
  unfold en_alen at hk
  obtain ⟨a, st2, rfl, hk2⟩ := en_pop_t hk
  obtain ⟨va, sv2, rfl, h4, hs2⟩ := en_sr_cons hs
  rcases en_cell_v h4 hk2 with ⟨k, hk5, rfl, hk6⟩ | ⟨s, qs, hs3, rfl, hk6⟩
  · obtain ⟨a1, hk7⟩ := en_if_and.mp hk6
    obtain ⟨a2, hk8⟩ := en_if_and.mp hk7
    have a1 := en_ble_t.mp a1
    have a2 := en_ble_t.mp a2
    have hcr := en_h_get hh hk5 (by omega)
    have hlen : en_len (en_get hp k) < 16777216 := Nat.mod_lt _ (by decide)
    have hv := @en_len_v E ρ ω (en_len (en_get hp k)) hlen
    refine hS lv _ _ _ h gs o (n % 65536) lv (.int (Int32.ofNat (en_len (en_get hp k))) :: sv2) _ _ h ?_ (en_go_on hih hk8 hn hP hl (en_sr_push hv hs2) hh he hx hd hf rfl rfl)
    rw [hX]
    unfold mm_alen
    simp only [en_mmcell]
    rcases hcr with ⟨t, f, g1, g2, e, -⟩ | ⟨f, g1, e, -⟩ | ⟨f, g1, e, -⟩ | ⟨ci, fs, g1, -⟩
    · rw [e]; simp only []; rw [if_pos (show t < 5 by omega)]
    · rw [e]; simp only []; rw [if_pos (by decide)]
    · rw [e]; simp only []; rw [if_pos (by decide)]
    · omega
  · cases hnn : en_nth (0, 0) SA s with
    | mk m row =>
      rw [hnn] at hk6
      obtain ⟨a1, hk7⟩ := en_if_and.mp (show en_if (Nat.ble m 16777215) _ false = true from hk6)
      obtain ⟨a2, hk8⟩ := en_if_and.mp hk7
      have a1 := en_ble_t.mp a1
      rw [en_len_SA] at a2
      have a2 : s + 1 ≤ SA.length := en_ble_t.mp a2
      have hsa : SA[s]? = some (m, row) := by
        rw [en_nth_eq, List.getElem?_eq_getElem (by omega)] at hnn
        rw [List.getElem?_eq_getElem (by omega)]
        exact congrArg some hnn
      obtain ⟨qq, q', g1, g2, g3, g4, g5⟩ := hSA.2 s m row hsa
      cases g1.symm.trans hs3
      have hv := @en_len_v E ρ ω m (by omega)
      refine hS lv _ _ _ h gs o (n % 65536) lv (.int (Int32.ofNat m) :: sv2) _ _ h ?_ (en_go_on hih hk8 hn hP hl (en_sr_push hv hs2) hh he hx hd hf rfl rfl)
      rw [hX]
      unfold mm_alen
      have e1 : mm_cell E h qs.1 = none := by unfold mm_cell; rw [if_neg (by omega)]
      simp only [e1, if_true, g3]
      rw [← g4]
theorem en_O_getf (hP : P[q / 65536]? = some (cs, nL, dd)) (hS : en_St E kds P L FIN q X) (hn : n / 65536 = q / 65536) {ci b : Nat} (hX : ∀ lv sv cb sb h, X lv sv cb sb h = mm_getf E lv sv cb sb h (n % 65536) ci b) : en_OS E kds P L ρ ω h0 fsC FIN q (en_getf n ci b) := by
  intro loc st hp w ih c0 hih hk hR
  obtain ⟨lv, sv, gs, h, o, rfl, ⟨cs', nL', dd', hP', hl⟩, hs, hh, he, hx, hd, hf⟩ := hR
  cases hP.symm.trans hP'
  unfold en_getf at hk
  obtain ⟨a, st2, rfl, hk2⟩ := en_pop_t hk
  obtain ⟨va, sv2, rfl, h4, hs2⟩ := en_sr_cons hs
  rcases en_cell_v h4 hk2 with ⟨k, hk5, rfl, hk6⟩ | ⟨s, qs, hs3, rfl, hk6⟩
  · obtain ⟨a1, hk7⟩ := en_if_and.mp hk6
    obtain ⟨a2, hk8⟩ := en_if_and.mp hk7
    have a1 : en_kind (en_get hp k) = 6 + ci := en_beq_t.mp a1
    have a2 : b + 1 ≤ en_len (en_get hp k) := en_ble_t.mp a2
    rcases en_h_get hh hk5 (by omega) with ⟨t, f, g1, g2, -⟩ | ⟨f, g1, -⟩ | ⟨f, g1, -⟩ | ⟨c2, fs, g1, e, g3, g4⟩
    · omega
    · omega
    · omega
    · have hci : c2 = ci := by omega
      subst hci
      have hb : fs[b]? = some fs[b] := List.getElem?_eq_getElem (by omega)
      refine hS lv _ _ _ h gs o (n % 65536) lv (fs[b] :: sv2) _ _ h ?_ (en_go_on hih hk8 hn hP hl (show en_sr E ρ ω (_ :: st2) (_ :: sv2) from ⟨g4 b _ hb, hs2⟩) hh he hx hd hf rfl rfl)
      rw [hX]
      unfold mm_getf
      simp only [en_mmcell, e, if_true, hb]
  · cases hk6
theorem en_ffit_v {kd v : Nat} {V : Value} (hv : en_v E ρ ω v V) (h : en_ffit kd v = true) : mm_fits kd V = true := by
  unfold en_ffit at h
  rcases en_if_or.mp h with ⟨a1, k1⟩ | ⟨-, k1⟩
  · obtain ⟨x, rfl⟩ := en_isI_int k1 hv
    rw [en_beq_t.mp a1]
    simp [mm_fits]
  · rcases en_if_or.mp k1 with ⟨a1, k2⟩ | ⟨-, k2⟩
    · obtain ⟨x, rfl⟩ := en_isL_long k2 hv
      rw [en_beq_t.mp a1]
      simp [mm_fits]
    · rcases en_if_or.mp k2 with ⟨a1, k3⟩ | ⟨-, k3⟩
      · obtain ⟨a2, a3⟩ := en_if_and.mp k3
        have a2 := en_ble_t.mp a2
        have a3 := en_ble_t.mp a3
        have e := (en_v_const (by omega)).mp hv
        rw [en_beq_t.mp a1, e]
        rcases Nat.lt_or_ge 2147483648 v with q | q
        · rw [show v = 2147483649 by omega]
          decide
        · rw [show v = 2147483648 by omega]
          decide
      · obtain ⟨a1, k4⟩ := en_if_and.mp k3
        rw [en_beq_t.mp a1]
        rcases en_if_or.mp k4 with ⟨a2, -⟩ | ⟨-, a2⟩
        · obtain ⟨x, rfl⟩ := en_isR_ref a2 hv
          simp [mm_fits]
        · rw [en_beq_t.mp a2] at hv
          rw [en_v_null.mp hv]
          simp [mm_fits]
theorem en_O_putf (hP : P[q / 65536]? = some (cs, nL, dd)) (hS : en_St E kds P L FIN q X) (hn : n / 65536 = q / 65536) {ci b kd : Nat} (hX : ∀ lv sv cb sb h, X lv sv cb sb h = mm_putf E lv sv cb sb h (n % 65536) ci b kd) : en_OS E kds P L ρ ω h0 fsC FIN q (en_putf n ci b kd) := by
  intro loc st hp w ih c0 hih hk hR
  obtain ⟨lv, sv, gs, h, o, rfl, ⟨cs', nL', dd', hP', hl⟩, hs, hh, he, hx, hd, hf⟩ := hR
  cases hP.symm.trans hP'
  unfold en_putf at hk
  obtain ⟨v, st1, rfl, hk1⟩ := en_pop_t hk
  obtain ⟨a, st2, rfl, hk2⟩ := en_pop_t hk1
  obtain ⟨V, sv1, rfl, h3, hs1⟩ := en_sr_cons hs
  obtain ⟨va, sv2, rfl, h4, hs2⟩ := en_sr_cons hs1
  rcases en_cell_v h4 hk2 with ⟨k, hk5, rfl, hk6⟩ | ⟨s, qs, hs3, rfl, hk6⟩
  · obtain ⟨a1, hk7⟩ := en_if_and.mp hk6
    obtain ⟨a2, hk8⟩ := en_if_and.mp hk7
    obtain ⟨a3, hk9⟩ := en_if_and.mp hk8
    have a1 : en_kind (en_get hp k) = 6 + ci := en_beq_t.mp a1
    have a2 : b + 1 ≤ en_len (en_get hp k) := en_ble_t.mp a2
    have hcr := en_h_get hh hk5 (by omega)
    have hlt := en_cr_lt hcr
    rcases hcr with ⟨t, f, g1, g2, -⟩ | ⟨f, g1, -⟩ | ⟨f, g1, -⟩ | ⟨c2, fs, g1, e, g3, g4⟩
    · omega
    · omega
    · omega
    · have hci : c2 = ci := by omega
      subst hci
      have hc2 : en_cr E ρ ω (en_eset (en_get hp k) b v) (some (.inr (c2, fs.set b V))) := by
        refine Or.inr (Or.inr (Or.inr ⟨c2, fs.set b V, by rw [en_eset_kind]; exact g1, rfl, by rw [en_eset_len, List.length_set]; exact g3, fun j u hj => ?_⟩))
        rw [en_elt_eset (en_v_68 h3)]
        rw [List.getElem?_set] at hj
        by_cases hjb : j = b
        · subst hjb
          rw [if_pos rfl, if_pos (by omega)] at hj
          cases hj
          rw [if_pos rfl]
          exact h3
        · rw [if_neg (fun e => hjb e.symm)] at hj
          rw [if_neg hjb]
          exact g4 j u hj
      refine hS lv _ _ _ h gs o (n % 65536) lv sv2 _ _ (h.set k (.inr (c2, fs.set b V))) ?_ (en_go_on hih hk9 hn hP hl hs2 (en_h_put hh hk5 hlt hc2) he (by rw [List.length_set]; exact hx) hd hf rfl rfl)
      rw [hX]
      unfold mm_putf
      simp only [en_mmcell, e]
      rw [if_pos ⟨trivial, by omega, en_ffit_v h3 a3⟩, Nat.add_sub_cancel_left]
  · cases hk6
/-- a new cell -/
theorem en_new_v (hP : P[q / 65536]? = some (cs, nL, dd)) (hn : n / 65536 = q / 65536) {ih : en_C} (hih : en_S E kds P L ρ ω h0 fsC FIN ih) {loc m N : Nat} {st : List Nat} {hp : en_H} {w : en_W} (hk : en_new n m N loc st hp w ih = true) {e : va_E} (hc : en_cr E ρ ω N (some e)) {lv : mm_V} {sv : List Value} {gs : List mm_F} {h : mm_H} (hl : en_lr E ρ ω nL loc lv) (hs : en_sr E ρ ω st sv) (hh : en_h E ρ ω h0 hp h) (he : en_e ρ (en_ev w)) (hx : h.length = w.2.2.2.2.1) (hd : fsC.length + w.2.2.2.1.length + 1 + w.2.2.1 ≤ L) (hf : en_frs E P L ρ ω fsC w.2.2.2.1 gs) : (1 ≤ w.1 ∧ m ≤ w.2.1) ∧ en_Good E kds P L FIN ((q / 65536, n % 65536, lv, .ref (E.1 + h.length) :: sv, w.1 - 1, w.2.1 - m) :: gs, h ++ [e], none) := by
  unfold en_new at hk
  obtain ⟨a1, hk⟩ := en_if_and.mp hk
  obtain ⟨a2, hk⟩ := en_if_and.mp hk
  obtain ⟨a3, hk⟩ := en_if_and.mp hk
  have a1 := en_ble_t.mp a1
  have a2 := en_ble_t.mp a2
  have a3 : w.2.2.2.2.1 + 1 ≤ 136 := en_ble_t.mp a3
  refine ⟨⟨a1, a2⟩, ?_⟩
  rw [← hx] at hk
  have hv : en_v E ρ ω (8589934592 + h.length) (.ref (E.1 + h.length)) := by
    rw [en_v_ref (by omega) (by omega), Nat.add_sub_cancel_left]
  exact en_go_on hih hk hn hP hl (show en_sr E ρ ω (_ :: st) (_ :: sv) from ⟨hv, hs⟩) (en_h_push hh (by omega) hc) he (by show (h ++ [e]).length = Nat.succ h.length; simp) hd hf rfl rfl
theorem en_dfl_lt (k : Nat) : en_dfl k < 2 ^ 68 := by
  unfold en_dfl
  split <;> decide
theorem en_dfl_v (k : Nat) : en_v E ρ ω (en_dfl k) (mm_dflt k) := by
  unfold en_dfl mm_dflt
  split
  · rw [en_v_const (by decide), en_d_zero]; rfl
  · rw [en_v_long (by decide) (by decide)]; rfl
  · rw [en_v_const (by decide), en_d_zero]; rfl
  · rename_i h1 h2 h3
    split
    · exact absurd rfl h1
    · exact absurd rfl h2
    · exact absurd rfl h3
    · exact en_v_null.mpr rfl
theorem en_obj_v : ∀ (l : List Nat) (N j : Nat), en_kind (en_obj l N j) = en_kind N ∧ en_len (en_obj l N j) = en_len N ∧ ∀ i, en_elt (en_obj l N j) i = if j ≤ i ∧ i < j + l.length then en_dfl (l.getD (i - j) 0) else en_elt N i := by
  intro l
  induction l with
  | nil => intro N j; refine ⟨rfl, rfl, fun i => ?_⟩; rw [if_neg (by simp only [List.length_nil]; omega)]; rfl
  | cons a r ih =>
    intro N j
    obtain ⟨h1, h2, h3⟩ := ih (en_eset N j (en_dfl a)) (Nat.succ j)
    refine ⟨h1.trans (en_eset_kind _ _ _), h2.trans (en_eset_len _ _ _), fun i => ?_⟩
    show en_elt (en_obj r (en_eset N j (en_dfl a)) (Nat.succ j)) i = _
    rw [h3, en_elt_eset (en_dfl_lt a)]
    by_cases hi : i = j
    · subst hi
      rw [if_neg (by omega), if_pos rfl, if_pos (by simp only [List.length_cons]; omega), Nat.sub_self]
      rfl
    · by_cases hr : Nat.succ j ≤ i ∧ i < Nat.succ j + r.length
      · rw [if_pos hr, if_pos (by simp only [List.length_cons]; omega)]
        rw [show i - j = (i - Nat.succ j) + 1 by omega, List.getD_cons_succ]
      · rw [if_neg hr, if_neg hi, if_neg (by simp only [List.length_cons]; omega)]
theorem en_O_newo (hP : P[q / 65536]? = some (cs, nL, dd)) (hS : en_St E kds P L FIN q X) (hn : n / 65536 = q / 65536) {ci : Nat} {l : List Nat} (hci : ci < 200) (hll : l.length < 10000) (hX : ∀ lv sv cb sb h, X lv sv cb sb h = mm_new E lv sv cb sb h (n % 65536) ci l) : en_OS E kds P L ρ ω h0 fsC FIN q (en_newo n ci l) := by
  intro loc st hp w ih c0 hih hk hR
  obtain ⟨lv, sv, gs, h, o, rfl, ⟨cs', nL', dd', hP', hl⟩, hs, hh, he, hx, hd, hf⟩ := hR
  cases hP.symm.trans hP'
  obtain ⟨b1, b2, b3⟩ := en_obj_v l (6 + ci + 256 * l.length) 0
  have hc : en_cr E ρ ω (en_obj l (Nat.add (Nat.add 6 ci) (Nat.mul 256 l.length)) 0) (some (.inr (ci, l.map mm_dflt))) := by
    refine Or.inr (Or.inr (Or.inr ⟨ci, l.map mm_dflt, ?_, rfl, ?_, fun j v hj => ?_⟩))
    · exact b1.trans (by show (6 + ci + 256 * l.length) % 256 = _; omega)
    · rw [List.length_map]
      exact (b2.trans (by show (6 + ci + 256 * l.length) / 256 % 16777216 = _; omega)).symm
    · rw [List.getElem?_map] at hj
      cases hlj : l[j]? with
      | none => rw [hlj] at hj; cases hj
      | some k =>
        rw [hlj] at hj
        cases hj
        have hlt := (List.getElem?_eq_some_iff.mp hlj).1
        have e := b3 j
        rw [if_pos (by omega), Nat.sub_zero] at e
        have e2 : l.getD j 0 = k := by rw [List.getD_eq_getElem?_getD, hlj]; rfl
        rw [e2] at e
        show en_v E ρ ω (en_elt (en_obj l (6 + ci + 256 * l.length) 0) j) _
        rw [e]
        exact en_dfl_v k
  obtain ⟨⟨a1, a2⟩, g⟩ := en_new_v hP hn hih hk hc hl hs hh he hx hd hf
  refine hS lv sv _ _ h gs o (n % 65536) lv _ _ _ _ ?_ g
  rw [hX]
  unfold mm_new
  rw [if_pos ⟨a1, a2⟩]
theorem en_O_newa (hP : P[q / 65536]? = some (cs, nL, dd)) (hS : en_St E kds P L FIN q X) (hn : n / 65536 = q / 65536) {kind D : Nat} {mk : Nat → va_E} (hk0 : kind < 256) (hD : D < 2 ^ 68) (hmk : ∀ N m, m < 16777216 → en_kind N = kind → en_len N = m → (∀ j, j < m → en_elt N j = D) → en_cr E ρ ω N (some (mk m)))
    (hX : ∀ (lv : mm_V) (I : Int32) (sv : List Value) (cb sb : Nat) (h : mm_H), 0 ≤ I.toInt ∧ I.toInt ≤ 100000 ∧ 1 ≤ cb ∧ I.toNatClampNeg ≤ sb → X lv (.int I :: sv) cb sb h = some (n % 65536, lv, .ref (E.1 + h.length) :: sv, cb - 1, sb - I.toNatClampNeg, h ++ [mk I.toNatClampNeg])) : en_OS E kds P L ρ ω h0 fsC FIN q (en_newa n kind D) := by
  intro loc st hp w ih c0 hih hk hR
  obtain ⟨lv, sv, gs, h, o, rfl, ⟨cs', nL', dd', hP', hl⟩, hs, hh, he, hx, hd, hf⟩ := hR
  cases hP.symm.trans hP'
  unfold en_newa at hk
  obtain ⟨x, st1, rfl, hk1⟩ := en_pop_t hk
  obtain ⟨v, sv1, rfl, h3, hs1⟩ := en_sr_cons hs
  obtain ⟨a1, hk2⟩ := en_if_and.mp hk1
  obtain ⟨a2, hk3⟩ := en_if_and.mp hk2
  have a1 := en_ble_t.mp a1
  have a2 := en_ble_t.mp a2
  have e := (en_v_const (by omega)).mp h3
  subst e
  have ez := en_z_d (c := x) (by omega)
  have ei := en_d_int (c := x) (by omega)
  have ec : (en_d x).toNatClampNeg = x - 2147483648 := by show (en_d x).toInt.toNat = _; omega
  have hc : en_cr E ρ ω (en_rep kind (Nat.sub x 2147483648) D) (some (mk (x - 2147483648))) := hmk _ _ (by omega) (en_rep_kind hk0) (en_rep_len hk0 (show x - 2147483648 < 16777216 by omega)) (fun j hj => en_rep_elt hk0 (show x - 2147483648 < 16777216 by omega) hD hj)
  obtain ⟨⟨b1, b2⟩, g⟩ := en_new_v hP hn hih hk3 hc hl hs1 hh he hx hd hf
  refine hS lv _ _ _ h gs o (n % 65536) lv _ _ _ _ (hX _ _ _ _ _ _ ⟨by omega, by omega, b1, by rw [ec]; exact b2⟩) ?_
  rw [ec]
  exact g
end OPT
end ENT
