/-! BY HAND: the reference's common divisor and its lines -/
def ln_A (lv : mm_V) : Prop := ∀ q ∈ lv, q.2.category = 1
theorem ln_p1 {i j : Nat} {v : Value} (hij : j ≠ i) : ∀ {lv : mm_V}, ln_A lv → mm_get (mm_p1 lv i v) j = mm_get lv j := by
  intro lv hA
  have h1 : ((i, v) :: lv.filter (fun q => !(q.1 == i) && !(q.1 + 1 == i && q.2.category == 2))).find? (fun q => q.1 == j) = (lv.filter (fun q => !(q.1 == i) && !(q.1 + 1 == i && q.2.category == 2))).find? (fun q => q.1 == j) := by
    rw [List.find?_cons]
    have e : ((i, v).1 == j) = false := beq_eq_false_iff_ne.mpr (fun e => hij e.symm)
    rw [e]
  have h2 : ∀ lv : mm_V, ln_A lv → (lv.filter (fun q => !(q.1 == i) && !(q.1 + 1 == i && q.2.category == 2))).find? (fun q => q.1 == j) = lv.find? (fun q => q.1 == j) := by
    intro lv
    induction lv with
    | nil => intro _; rfl
    | cons q lv ih =>
      intro hA
      have ih := ih (fun p hp => hA p (List.mem_cons_of_mem _ hp))
      have hq := hA q List.mem_cons_self
      rw [List.filter_cons]
      by_cases hqj : q.1 = j
      · have e1 : (q.1 == i) = false := beq_eq_false_iff_ne.mpr (fun e => hij (hqj.symm.trans e))
        have e2 : (q.2.category == 2) = false := by rw [hq]; rfl
        rw [e1, e2]
        simp only [Bool.and_false, Bool.not_false, Bool.and_true, if_true]
        rw [List.find?_cons, List.find?_cons]
        have e3 : (q.1 == j) = true := beq_iff_eq.mpr hqj
        rw [e3]
      · have e3 : (q.1 == j) = false := beq_eq_false_iff_ne.mpr hqj
        split
        · rw [List.find?_cons, List.find?_cons, e3]
          exact ih
        · rw [List.find?_cons, e3]
          exact ih
  unfold mm_get mm_p1
  rw [h1, h2 lv hA]
theorem ln_p1i {i j : Nat} {v : Value} {x : Int32} (hij : j ≠ i) {lv : mm_V} (h : mm_get lv j = some (.int x)) : mm_get (mm_p1 lv i v) j = some (.int x) := by
  have h2 : ∀ lv : mm_V, (lv.find? (fun q => q.1 == j)).map (fun q => q.2) = some (.int x) → ((lv.filter (fun q => !(q.1 == i) && !(q.1 + 1 == i && q.2.category == 2))).find? (fun q => q.1 == j)).map (fun q => q.2) = some (.int x) := by
    intro lv
    induction lv with
    | nil => intro h; cases h
    | cons q lv ih =>
      intro h
      rw [List.find?_cons] at h
      rw [List.filter_cons]
      by_cases hqj : q.1 = j
      · have e3 : (q.1 == j) = true := beq_iff_eq.mpr hqj
        rw [e3] at h
        have hq2 : q.2 = .int x := Option.some.inj h
        have e1 : (q.1 == i) = false := beq_eq_false_iff_ne.mpr (fun e => hij (hqj.symm.trans e))
        have e2 : (q.2.category == 2) = false := by rw [hq2]; rfl
        rw [e1, e2]
        simp only [Bool.and_false, Bool.not_false, Bool.and_true, if_true]
        rw [List.find?_cons, e3]
        exact h
      · have e3 : (q.1 == j) = false := beq_eq_false_iff_ne.mpr hqj
        rw [e3] at h
        split
        · rw [List.find?_cons, e3]
          exact ih h
        · exact ih h
  unfold mm_get mm_p1
  rw [List.find?_cons]
  have e : ((i, v).1 == j) = false := beq_eq_false_iff_ne.mpr (fun e => hij e.symm)
  rw [e]
  exact h2 lv h
theorem ln_p0 {lv : mm_V} {i : Nat} {v : Value} : mm_get (mm_p1 lv i v) i = some v := by
  unfold mm_get mm_p1
  rw [List.find?_cons]
  have e : ((i, v).1 == i) = true := beq_iff_eq.mpr rfl
  rw [e]
  rfl
theorem ln_pA {lv : mm_V} {i : Nat} {x : Int32} (h : ln_A lv) : ln_A (mm_p1 lv i (.int x)) := by
  intro q hq
  rcases List.mem_cons.mp hq with rfl | hq
  · rfl
  · exact h q (List.mem_filter.mp hq).1
theorem ln_st {nL : Nat} {lv : mm_V} {x : Int32} {r : List Value} {cb sb pc' i : Nat} {h : mm_H} (hi : i < nL) : mm_store nL lv (.int x :: r) cb sb h pc' 0 i = some (pc', mm_p1 lv i (.int x), r, cb, sb, h) := by
  unfold mm_store
  simp only [mm_kind, if_true]
  rw [if_neg (by decide), if_pos hi]
theorem ln_rem {x y : Int32} (hy : y ≠ 0) : (x - x / y * y).toInt = x.toInt.tmod y.toInt := by
  have e1 : x / y = Int32.ofInt (x.toInt.tdiv y.toInt) := by
    apply Int32.toInt_inj.mp
    rw [Int32.toInt_div, Int32.toInt_ofInt]
  have e2 : x - x / y * y = Int32.ofInt (x.toInt - x.toInt.tdiv y.toInt * y.toInt) := by
    rw [Int32.ofInt_sub, Int32.ofInt_mul, Int32.ofInt_toInt, Int32.ofInt_toInt, ← e1]
  have e3 : x.toInt - x.toInt.tdiv y.toInt * y.toInt = x.toInt.tmod y.toInt := by
    rw [Int.tmod_def, Int.mul_comm]
  rw [e2, e3]
  have hy0 : y.toInt ≠ 0 := fun e => hy (Int32.toInt_inj.mp e)
  have h1 : (x.toInt.tmod y.toInt).natAbs = x.toInt.natAbs % y.toInt.natAbs := Int.natAbs_tmod
  have h2 : x.toInt.natAbs % y.toInt.natAbs < y.toInt.natAbs := Nat.mod_lt _ (by omega)
  have h3 := en_z_int y
  have h4 := en_z_lt y
  exact Int32.toInt_ofInt_of_le (by omega) (by omega)
theorem ln_less {x y : Int32} (hy : y ≠ 0) : (x - x / y * y).toInt.natAbs < y.toInt.natAbs := by
  rw [ln_rem hy, Int.natAbs_tmod]
  have hy0 : y.toInt ≠ 0 := fun e => hy (Int32.toInt_inj.mp e)
  exact Nat.mod_lt _ (by omega)
section LNE
variable {E : mm_E} {ω : Nat → Value} {J : mm_H → Prop} {FIN : mm_C → Prop}
theorem ln_loop {gs : List mm_F} {h : mm_H} (hp : ∀ r : Int32, r ≠ 0 → en_Good E mt_kds mt_P 1000 FIN (mm_back (some (.int r)) gs h)) : ∀ (n : Nat) (lv : mm_V) (x y : Int32) (o : Option Value), y.toInt.natAbs < n → ln_A lv → mm_get lv 2 = some (.int x) → mm_get lv 3 = some (.int y) → (y ≠ 0 ∨ x ≠ 0) → en_Good E mt_kds mt_P 1000 FIN ((16, 13, lv, [], 0, 0) :: gs, h, o) := by
  intro n
  induction n with
  | zero => intro lv x y o hn; exact absurd hn (Nat.not_lt_zero _)
  | succ n ih =>
    intro lv x y o hn hA hx hy hne
    refine sf_s1 (pc' := 14) (lv' := lv) (st' := [.int y]) (cb' := 0) (sb' := 0) (h' := h) rfl rfl rfl (sf_ld hy rfl) ?_
    by_cases hy0 : y = 0
    · refine sf_s1 (pc' := 30) (lv' := lv) (st' := []) (cb' := 0) (sb' := 0) (h' := h) rfl rfl rfl ?_ ?_
      · simp only [mm_ex]
        rw [if_pos (show mm_cond .eq y 0 = true from decide_eq_true hy0)]
        rfl
      refine sf_s1 (pc' := 31) (lv' := lv) (st' := [.int x]) (cb' := 0) (sb' := 0) (h' := h) rfl rfl rfl (sf_ld hx rfl) ?_
      refine sf_s3 (v := some (.int x)) rfl rfl rfl ?_ (hp x (hne.resolve_left (fun g => g hy0)))
      unfold mm_ans
      simp
    · refine sf_s1 (pc' := 17) (lv' := lv) (st' := []) (cb' := 0) (sb' := 0) (h' := h) rfl rfl rfl ?_ ?_
      · simp only [mm_ex]
        rw [if_neg (show ¬ mm_cond .eq y 0 = true from fun g => hy0 (of_decide_eq_true g))]
      refine sf_s1 (pc' := 18) (lv' := lv) (st' := [.int x]) (cb' := 0) (sb' := 0) (h' := h) rfl rfl rfl (sf_ld hx rfl) ?_
      refine sf_s1 (pc' := 19) (lv' := lv) (st' := [.int y, .int x]) (cb' := 0) (sb' := 0) (h' := h) rfl rfl rfl (sf_ld hy rfl) ?_
      refine sf_s1 (pc' := 20) (lv' := lv) (st' := [.int (x - x / y * y)]) (cb' := 0) (sb' := 0) (h' := h) rfl rfl rfl ?_ ?_
      · simp only [mm_ex, mm_bin, if_neg hy0]
        rfl
      refine sf_s1 (pc' := 22) (lv' := mm_p1 lv 4 (.int (x - x / y * y))) (st' := []) (cb' := 0) (sb' := 0) (h' := h) rfl rfl rfl (ln_st (by decide)) ?_
      have hA1 := ln_pA (i := 4) (x := x - x / y * y) hA
      have g3 : mm_get (mm_p1 lv 4 (.int (x - x / y * y))) 3 = some (.int y) := (ln_p1 (by decide) hA).trans hy
      refine sf_s1 (pc' := 23) (lv' := mm_p1 lv 4 (.int (x - x / y * y))) (st' := [.int y]) (cb' := 0) (sb' := 0) (h' := h) rfl rfl rfl (sf_ld g3 rfl) ?_
      refine sf_s1 (pc' := 24) (lv' := mm_p1 (mm_p1 lv 4 (.int (x - x / y * y))) 2 (.int y)) (st' := []) (cb' := 0) (sb' := 0) (h' := h) rfl rfl rfl (ln_st (by decide)) ?_
      have hA2 := ln_pA (i := 2) (x := y) hA1
      have g4 : mm_get (mm_p1 (mm_p1 lv 4 (.int (x - x / y * y))) 2 (.int y)) 4 = some (.int (x - x / y * y)) := (ln_p1 (by decide) hA1).trans ln_p0
      refine sf_s1 (pc' := 26) (lv' := mm_p1 (mm_p1 lv 4 (.int (x - x / y * y))) 2 (.int y)) (st' := [.int (x - x / y * y)]) (cb' := 0) (sb' := 0) (h' := h) rfl rfl rfl (sf_ld g4 rfl) ?_
      refine sf_s1 (pc' := 27) (lv' := mm_p1 (mm_p1 (mm_p1 lv 4 (.int (x - x / y * y))) 2 (.int y)) 3 (.int (x - x / y * y))) (st' := []) (cb' := 0) (sb' := 0) (h' := h) rfl rfl rfl (ln_st (by decide)) ?_
      refine sf_s1 (pc' := 13) (lv' := mm_p1 (mm_p1 (mm_p1 lv 4 (.int (x - x / y * y))) 2 (.int y)) 3 (.int (x - x / y * y))) (st' := []) (cb' := 0) (sb' := 0) (h' := h) rfl rfl rfl rfl ?_
      have hl := ln_less (x := x) hy0
      exact ih _ y (x - x / y * y) none (by omega) (ln_pA hA2) ((ln_p1 (by decide) hA2).trans ln_p0) ln_p0 (Or.inr hy0)
theorem ln_common {gs : List mm_F} {h : mm_H} {a b : Int32} (hb : b ≠ 0) (hp : ∀ r : Int32, r ≠ 0 → en_Good E mt_kds mt_P 1000 FIN (mm_back (some (.int r)) gs h)) : en_Good E mt_kds mt_P 1000 FIN ((16, 0, [(0, .int a), (1, .int b)], [], 0, 0) :: gs, h, none) := by
  have fin : ∀ x : Int32, en_Good E mt_kds mt_P 1000 FIN ((16, 10, [(0, .int a), (1, .int b)], [.int x], 0, 0) :: gs, h, none) := by
    intro x
    refine sf_s1 (pc' := 11) (lv' := [(2, .int x), (0, .int a), (1, .int b)]) (st' := []) (cb' := 0) (sb' := 0) (h' := h) rfl rfl rfl (ln_st (by decide)) ?_
    refine sf_s1 (pc' := 12) (lv' := [(2, .int x), (0, .int a), (1, .int b)]) (st' := [.int b]) (cb' := 0) (sb' := 0) (h' := h) rfl rfl rfl (sf_ld (lv := [(2, .int x), (0, .int a), (1, .int b)]) (i := 1) (v := .int b) rfl rfl) ?_
    refine sf_s1 (pc' := 13) (lv' := [(3, .int b), (2, .int x), (0, .int a), (1, .int b)]) (st' := []) (cb' := 0) (sb' := 0) (h' := h) rfl rfl rfl (ln_st (by decide)) ?_
    refine ln_loop hp (b.toInt.natAbs + 1) _ x b none (by omega) ?_ rfl rfl (Or.inl hb)
    intro q hq
    simp only [List.mem_cons, List.not_mem_nil, or_false] at hq
    rcases hq with rfl | rfl | rfl | rfl <;> rfl
  refine sf_s1 (pc' := 1) (lv' := [(0, .int a), (1, .int b)]) (st' := [.int a]) (cb' := 0) (sb' := 0) (h' := h) rfl rfl rfl (sf_ld (lv := [(0, .int a), (1, .int b)]) (i := 0) (v := .int a) rfl rfl) ?_
  by_cases hc : mm_cond .ge a 0 = true
  · refine sf_s1 (pc' := 9) (lv' := [(0, .int a), (1, .int b)]) (st' := []) (cb' := 0) (sb' := 0) (h' := h) rfl rfl rfl ?_ ?_
    · simp only [mm_ex]
      rw [if_pos hc]
      rfl
    exact sf_s1 (pc' := 10) (lv' := [(0, .int a), (1, .int b)]) (st' := [.int a]) (cb' := 0) (sb' := 0) (h' := h) rfl rfl rfl (sf_ld (lv := [(0, .int a), (1, .int b)]) (i := 0) (v := .int a) rfl rfl) (fin a)
  · refine sf_s1 (pc' := 4) (lv' := [(0, .int a), (1, .int b)]) (st' := []) (cb' := 0) (sb' := 0) (h' := h) rfl rfl rfl ?_ ?_
    · simp only [mm_ex]
      rw [if_neg hc]
    refine sf_s1 (pc' := 5) (lv' := [(0, .int a), (1, .int b)]) (st' := [.int a]) (cb' := 0) (sb' := 0) (h' := h) rfl rfl rfl (sf_ld (lv := [(0, .int a), (1, .int b)]) (i := 0) (v := .int a) rfl rfl) ?_
    refine sf_s1 (pc' := 6) (lv' := [(0, .int a), (1, .int b)]) (st' := [.int (-a)]) (cb' := 0) (sb' := 0) (h' := h) rfl rfl rfl rfl ?_
    exact sf_s1 (pc' := 10) (lv' := [(0, .int a), (1, .int b)]) (st' := [.int (-a)]) (cb' := 0) (sb' := 0) (h' := h) rfl rfl rfl rfl (fin (-a))
theorem ln_line : sf_K E ω J 4 133 zb_m5 := by
  intro h0 fsC FIN c hJ hR hp
  obtain ⟨lv, sv, gs, h, o, rfl, ⟨cs, nL, dd, hP, hl⟩, hs, hh, he, hx, hd, hf⟩ := hR (fun _ => 0)
  have hg : gs = fsC := hf
  subst hg
  have hs0 := en_sr_nil hs
  subst hs0
  have hnl : nL = 4 := sf_nL (m := 59) (n := 4) (by decide +kernel) cs nL dd hP
  subst hnl
  have e0 : en_elt zb_m5.2.1 0 = 73786976299133173759 := by decide +kernel
  have e1 : en_elt zb_m5.2.1 1 = 83010348340282916863 := by decide +kernel
  have e2 : en_elt zb_m5.2.1 2 = 83010348333840465921 := by decide +kernel
  have int0 : ∀ (i co lo hi : Nat), i < 4 → en_elt zb_m5.2.1 i = co → 73786976294838206464 ≤ co → co < 147573952589676412928 → (co - 73786976294838206464) / 4294967296 = lo → ∃ x : Int32, mm_get lv i = some (.int x) ∧ lo ≤ en_z x := by
    intro i co lo hi h4 h5 h6 h7 h8
    rcases hl i h4 with h1 | ⟨v, h1, h2⟩
    · have h1 : en_elt zb_m5.2.1 i = 12884901891 := h1
      omega
    · have h2 : en_v E (fun _ => 0) ω (en_elt zb_m5.2.1 i) v := h2
      rw [h5, en_v_rng h6 h7] at h2
      obtain ⟨x, rfl, h9, -⟩ := h2
      exact ⟨x, h1, by omega⟩
  obtain ⟨a, ga, -⟩ := int0 0 _ 0 0 (by decide) e0 (by decide) (by decide) (by decide)
  obtain ⟨b, gb, hb1⟩ := int0 1 _ 2147483649 0 (by decide) e1 (by decide) (by decide) (by decide)
  obtain ⟨z, gz, -⟩ := int0 2 _ 2147483648 0 (by decide) e2 (by decide) (by decide) (by decide)
  have hb : b ≠ 0 := by
    intro e
    rw [e] at hb1
    exact absurd hb1 (by decide)
  have hd : gs.length + 0 + 1 + 4 ≤ 1000 := hd
  show en_Good E mt_kds mt_P 1000 FIN ((59, 0, lv, [], 0, 0) :: gs, h, o)
  refine sf_s1 (pc' := 1) (lv' := lv) (st' := [.int a]) (cb' := 0) (sb' := 0) (h' := h) rfl rfl rfl (sf_ld ga rfl) ?_
  refine sf_s1 (pc' := 2) (lv' := lv) (st' := [.int b, .int a]) (cb' := 0) (sb' := 0) (h' := h) rfl rfl rfl (sf_ld gb rfl) ?_
  refine sf_s2 (c' := ((16, 0, [(0, .int a), (1, .int b)], [], 0, 0) :: (59, 5, lv, [], 0, 0) :: gs, h, none)) rfl rfl (by decide) ?_ ?_
  · have hlg : (gs.length + 1 < 1000) := by omega
    unfold mm_call
    rw [show mt_P[16]? = some (mt_16.1, 5, 2, 0, mt_16.2.2.2.2.1, 1, 0, 0) from rfl]
    simp only []
    rw [if_pos ⟨trivial, hlg, Nat.le_refl _, Nat.le_refl _, Nat.le_refl 2⟩]
    unfold mm_recv
    rw [if_pos rfl]
    rfl
  refine ln_common hb (fun r hr => ?_)
  show en_Good E mt_kds mt_P 1000 FIN ((59, 5, lv, [.int r], 0, 0) :: gs, h, none)
  refine sf_s1 (pc' := 6) (lv' := mm_p1 lv 3 (.int r)) (st' := []) (cb' := 0) (sb' := 0) (h' := h) rfl rfl rfl (ln_st (by decide)) ?_
  have fin : ∀ v : Int32, en_Good E mt_kds mt_P 1000 FIN ((59, 15, mm_p1 lv 3 (.int r), [.int v], 0, 0) :: gs, h, none) := by
    intro v
    refine sf_s1 (pc' := 16) (lv' := mm_p1 lv 3 (.int r)) (st' := [.int r, .int v]) (cb' := 0) (sb' := 0) (h' := h) rfl rfl rfl (sf_ld ln_p0 rfl) ?_
    refine sf_s1 (pc' := 17) (lv' := mm_p1 lv 3 (.int r)) (st' := [.int (v / r)]) (cb' := 0) (sb' := 0) (h' := h) rfl rfl rfl ?_ ?_
    · simp only [mm_ex, mm_bin, if_neg hr]
      rfl
    refine sf_s3 (v := some (.int (v / r))) rfl rfl rfl ?_ ?_
    · unfold mm_ans
      simp
    refine hp (some (.int (v / r))) h (fun ρ => ⟨Or.inr ⟨73786976299133173759, _, rfl, rfl, en_any_v _⟩, ?_⟩) hx
    obtain ⟨_, _, _, h2, _, e9, _, _, hh2, _⟩ := hR ρ
    cases e9
    exact hh2
  refine sf_s1 (pc' := 7) (lv' := mm_p1 lv 3 (.int r)) (st' := [.int z]) (cb' := 0) (sb' := 0) (h' := h) rfl rfl rfl (sf_ld (ln_p1i (by decide) gz) rfl) ?_
  by_cases hc : mm_cond .eq z 0 = true
  · refine sf_s1 (pc' := 14) (lv' := mm_p1 lv 3 (.int r)) (st' := []) (cb' := 0) (sb' := 0) (h' := h) rfl rfl rfl ?_ ?_
    · simp only [mm_ex]
      rw [if_pos hc]
      rfl
    exact sf_s1 (pc' := 15) (lv' := mm_p1 lv 3 (.int r)) (st' := [.int a]) (cb' := 0) (sb' := 0) (h' := h) rfl rfl rfl (sf_ld (ln_p1i (by decide) ga) rfl) (fin a)
  · refine sf_s1 (pc' := 10) (lv' := mm_p1 lv 3 (.int r)) (st' := []) (cb' := 0) (sb' := 0) (h' := h) rfl rfl rfl ?_ ?_
    · simp only [mm_ex]
      rw [if_neg hc]
    refine sf_s1 (pc' := 11) (lv' := mm_p1 lv 3 (.int r)) (st' := [.int b]) (cb' := 0) (sb' := 0) (h' := h) rfl rfl rfl (sf_ld (ln_p1i (by decide) gb) rfl) ?_
    exact sf_s1 (pc' := 15) (lv' := mm_p1 lv 3 (.int r)) (st' := [.int b]) (cb' := 0) (sb' := 0) (h' := h) rfl rfl rfl rfl (fin b)
end LNE
