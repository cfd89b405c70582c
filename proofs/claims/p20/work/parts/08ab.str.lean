/-! THE ENGINE IS SOUND, 6b: String constants; longs compared and cut -/
section ENV2
variable {E : mm_E} {kds : List (List Nat)} {P : mm_T} {L : Nat} {ρ : Nat → Int32} {ω : Nat → Value} {h0 : mm_H} {fsC : List mm_F} {FIN : mm_C → Prop}
variable {q n nL : Nat} {cs : List (List mm_I)} {dd : mm_M} {X : mm_V → List Value → Nat → Nat → mm_H → mm_O}
theorem en_str4 (hT : en_ST E) {v : Value} (h : en_v E ρ ω 12884901908 v) : ∃ x y, v = .ref x ∧ mm_str E x = some 0 ∧ E.2[5]? = some y := by
  obtain ⟨q4, q5, q6, q7, e4, e5, e6, e7, l4, l5, l6, l7, n46, -⟩ := hT
  obtain ⟨qq, g9, rfl⟩ := (en_v_stat (by decide) (by decide)).mp h
  have g9 : E.2[4]? = some qq := g9
  cases g9.symm.trans e4
  refine ⟨_, q5, rfl, ?_, e5⟩
  unfold mm_str
  rw [if_neg (by omega), e4, e6]
  simp only []
  rw [if_pos trivial]
theorem en_str6 (hT : en_ST E) {v : Value} (h : en_v E ρ ω 12884901910 v) : ∃ x y, v = .ref x ∧ mm_str E x = some 1 ∧ E.2[7]? = some y := by
  obtain ⟨q4, q5, q6, q7, e4, e5, e6, e7, l4, l5, l6, l7, n46, -⟩ := hT
  obtain ⟨qq, g9, rfl⟩ := (en_v_stat (by decide) (by decide)).mp h
  have g9 : E.2[6]? = some qq := g9
  cases g9.symm.trans e6
  refine ⟨_, q7, rfl, ?_, e7⟩
  unfold mm_str
  rw [if_neg (by omega), e4, e6]
  simp only []
  rw [if_neg n46, if_pos trivial]
theorem en_byt5 (hT : en_ST E) {v : Value} (h : en_v E ρ ω 12884901909 v) : ∃ x y, v = .ref x ∧ x < E.1 ∧ mm_byt E x = some y ∧ y.2.1 = 192 ∧ ∀ j, -128 ≤ (y.2.2 j).toInt ∧ (y.2.2 j).toInt ≤ 127 := by
  obtain ⟨q4, q5, q6, q7, e4, e5, e6, e7, l4, l5, l6, l7, n46, n57, m5, m7, b5, b7⟩ := hT
  obtain ⟨qq, g9, rfl⟩ := (en_v_stat (by decide) (by decide)).mp h
  have g9 : E.2[5]? = some qq := g9
  cases g9.symm.trans e5
  refine ⟨_, _, rfl, l5, ?_, m5, b5⟩
  unfold mm_byt
  rw [if_neg (by omega), e5, e7]
  simp only []
  rw [if_pos trivial]
theorem en_byt7 (hT : en_ST E) {v : Value} (h : en_v E ρ ω 12884901911 v) : ∃ x y, v = .ref x ∧ x < E.1 ∧ mm_byt E x = some y ∧ y.2.1 = 9 ∧ ∀ j, -128 ≤ (y.2.2 j).toInt ∧ (y.2.2 j).toInt ≤ 127 := by
  obtain ⟨q4, q5, q6, q7, e4, e5, e6, e7, l4, l5, l6, l7, n46, n57, m5, m7, b5, b7⟩ := hT
  obtain ⟨qq, g9, rfl⟩ := (en_v_stat (by decide) (by decide)).mp h
  have g9 : E.2[7]? = some qq := g9
  cases g9.symm.trans e7
  refine ⟨_, _, rfl, l7, ?_, m7, b7⟩
  unfold mm_byt
  rw [if_neg (by omega), e5, e7]
  simp only []
  rw [if_neg n57, if_pos trivial]
theorem en_O_gets (hP : P[q / 65536]? = some (cs, nL, dd)) (hS : en_St E kds P L FIN q X) (hn : n / 65536 = q / 65536) (hT : en_ST E) {b : Nat} (hX : ∀ lv sv cb sb h, X lv sv cb sb h = mm_gets E lv sv cb sb h (n % 65536) b) : en_OS E kds P L ρ ω h0 fsC FIN q (en_gets n b) := by
  intro loc st hp w ih c0 hih hk hR
  obtain ⟨lv, sv, gs, h, o, rfl, ⟨cs', nL', dd', hP', hl⟩, hs, hh, he, hx, hd, hf⟩ := hR
  cases hP.symm.trans hP'
  unfold en_gets at hk
  obtain ⟨a, st2, rfl, hk2⟩ := en_pop_t hk
  obtain ⟨va, sv2, rfl, h4, hs2⟩ := en_sr_cons hs
  have key : ∀ (x i : Nat) (y : mm_S) (C : Nat), va = .ref x → mm_str E x = some i → E.2[5 + 2 * i]? = some y → en_v E ρ ω C (.ref y.1) → ih n loc (en_if (Nat.beq b 1) 2147483648 C :: st2) hp w = true → en_Good E kds P L FIN ((q / 65536, q % 65536, lv, va :: sv2, w.1, w.2.1) :: gs, h, o) := by
    intro x i y C e1 e2 e3 hv hk3
    subst e1
    by_cases hb : b = 1
    · subst hb
      have hk3 : ih n loc (2147483648 :: st2) hp w = true := hk3
      have hv0 : en_v E ρ ω 2147483648 (.int 0) := by rw [en_v_const (by decide), en_d_zero]
      refine hS lv _ _ _ h gs o (n % 65536) lv (.int 0 :: sv2) _ _ h ?_ (en_go_on hih hk3 hn hP hl (en_sr_push hv0 hs2) hh he hx hd hf rfl rfl)
      rw [hX]
      unfold mm_gets
      simp only [e2]
      rw [if_pos trivial]
    · rw [en_beq_f.mpr hb, en_if_f] at hk3
      refine hS lv _ _ _ h gs o (n % 65536) lv (.ref y.1 :: sv2) _ _ h ?_ (en_go_on hih hk3 hn hP hl (en_sr_push hv hs2) hh he hx hd hf rfl rfl)
      rw [hX]
      unfold mm_gets
      simp only [e2]
      rw [if_neg hb, e3]
  rcases en_if_or.mp hk2 with ⟨a1, hk3⟩ | ⟨-, hk3⟩
  · have a1 := en_beq_t.mp a1
    subst a1
    obtain ⟨x, y, e1, e2, e3⟩ := en_str4 hT h4
    exact key x 0 y 12884901909 e1 e2 e3 ((en_v_stat (by decide) (by decide)).mpr ⟨y, e3, rfl⟩) hk3
  · obtain ⟨a1, hk3⟩ := en_if_and.mp hk3
    have a1 := en_beq_t.mp a1
    subst a1
    obtain ⟨x, y, e1, e2, e3⟩ := en_str6 hT h4
    exact key x 1 y 12884901911 e1 e2 e3 ((en_v_stat (by decide) (by decide)).mpr ⟨y, e3, rfl⟩) hk3
theorem en_O_alenB (hP : P[q / 65536]? = some (cs, nL, dd)) (hS : en_St E kds P L FIN q X) (hn : n / 65536 = q / 65536) (hT : en_ST E) {k : Nat} (hk0 : k ≠ 0) (hX : ∀ lv sv cb sb h, X lv sv cb sb h = mm_alen E lv sv cb sb h (n % 65536) k) : en_OS E kds P L ρ ω h0 fsC FIN q (en_alenB n) := by
  intro loc st hp w ih c0 hih hk hR
  obtain ⟨lv, sv, gs, h, o, rfl, ⟨cs', nL', dd', hP', hl⟩, hs, hh, he, hx, hd, hf⟩ := hR
  cases hP.symm.trans hP'
  unfold en_alenB at hk
  obtain ⟨a, st2, rfl, hk2⟩ := en_pop_t hk
  obtain ⟨va, sv2, rfl, h4, hs2⟩ := en_sr_cons hs
  have key : ∀ (x : Nat) (y : mm_S) (C : Nat), va = .ref x → x < E.1 → mm_byt E x = some y → en_v E ρ ω C (.int (Int32.ofNat y.2.1)) → ih n loc (C :: st2) hp w = true → en_Good E kds P L FIN ((q / 65536, q % 65536, lv, va :: sv2, w.1, w.2.1) :: gs, h, o) := by
    intro x y C e1 e2 e3 hv hk3
    subst e1
    refine hS lv _ _ _ h gs o (n % 65536) lv (.int (Int32.ofNat y.2.1) :: sv2) _ _ h ?_ (en_go_on hih hk3 hn hP hl (en_sr_push hv hs2) hh he hx hd hf rfl rfl)
    rw [hX]
    unfold mm_alen
    have e4 : mm_cell E h x = none := by unfold mm_cell; rw [if_neg (by omega)]
    simp only [e4]
    rw [if_neg hk0, e3]
  rcases en_if_or.mp hk2 with ⟨a1, hk3⟩ | ⟨-, hk3⟩
  · have a1 := en_beq_t.mp a1
    subst a1
    obtain ⟨x, y, e1, e2, e3, e4, -⟩ := en_byt5 hT h4
    refine key x y _ e1 e2 e3 ?_ hk3
    rw [e4, en_v_const (by decide)]
    rfl
  · obtain ⟨a1, hk3⟩ := en_if_and.mp hk3
    have a1 := en_beq_t.mp a1
    subst a1
    obtain ⟨x, y, e1, e2, e3, e4, -⟩ := en_byt7 hT h4
    refine key x y _ e1 e2 e3 ?_ hk3
    rw [e4, en_v_const (by decide)]
    rfl
theorem en_O_balB (hP : P[q / 65536]? = some (cs, nL, dd)) (hS : en_St E kds P L FIN q X) (hn : n / 65536 = q / 65536) (hT : en_ST E) (hX : ∀ lv sv cb sb h, X lv sv cb sb h = mm_ald E lv sv cb sb h (n % 65536) 1 2) : en_OS E kds P L ρ ω h0 fsC FIN q (en_balB n) := by
  intro loc st hp w ih c0 hih hk hR
  obtain ⟨lv, sv, gs, h, o, rfl, ⟨cs', nL', dd', hP', hl⟩, hs, hh, he, hx, hd, hf⟩ := hR
  cases hP.symm.trans hP'
  unfold en_balB at hk
  obtain ⟨i, st1, rfl, hk1⟩ := en_pop_t hk
  obtain ⟨a, st2, rfl, hk2⟩ := en_pop_t hk1
  obtain ⟨h1, hk3⟩ := en_if_and.mp hk2
  obtain ⟨vi, sv1, rfl, h3, hs1⟩ := en_sr_cons hs
  obtain ⟨va, sv2, rfl, h4, hs2⟩ := en_sr_cons hs1
  obtain ⟨I, rfl⟩ := en_isI_int h1 h3
  obtain ⟨lo, hi, g1, g2, g3, g4⟩ := en_iv_v he h3
  rw [g4] at hk3
  obtain ⟨a2, hk3⟩ := en_if_and.mp hk3
  obtain ⟨a3, hk7⟩ := en_if_and.mp hk3
  have a2 : 2147483648 ≤ lo := en_ble_t.mp a2
  obtain ⟨x, y, e1, e2, e3, e4, e5⟩ : ∃ x y, va = .ref x ∧ x < E.1 ∧ mm_byt E x = some y ∧ hi - 2147483648 < y.2.1 ∧ ∀ j, -128 ≤ (y.2.2 j).toInt ∧ (y.2.2 j).toInt ≤ 127 := by
    by_cases q5 : a = 12884901909
    · subst q5
      obtain ⟨x, y, e1, e2, e3, e4, e5⟩ := en_byt5 hT h4
      have a3 : hi - 2147483648 < 192 := en_ble_t.mp a3
      exact ⟨x, y, e1, e2, e3, by rw [e4]; exact a3, e5⟩
    · rw [en_beq_f.mpr q5, en_if_f] at a3
      by_cases q7 : a = 12884901911
      · subst q7
        obtain ⟨x, y, e1, e2, e3, e4, e5⟩ := en_byt7 hT h4
        have a3 : hi - 2147483648 < 9 := en_ble_t.mp a3
        exact ⟨x, y, e1, e2, e3, by rw [e4]; exact a3, e5⟩
      · rw [en_beq_f.mpr q7, en_if_f] at a3
        have a3 : hi - 2147483648 < 0 := en_ble_t.mp a3
        exact absurd a3 (Nat.not_lt_zero _)
  subst e1
  obtain ⟨b1, b2⟩ := en_idx_in (I := I) (len := y.2.1) (Nat.le_trans a2 g1) (en_sub_lt g2 e4)
  have hz := en_z_int (y.2.2 I.toNatClampNeg)
  have h5 := e5 I.toNatClampNeg
  have hv : en_v E ρ ω (en_mk 2147483520 2147483775) (.int (y.2.2 I.toNatClampNeg)) := en_mk_v (by omega) (by omega) (by decide)
  refine hS lv _ _ _ h gs o (n % 65536) lv (.int (y.2.2 I.toNatClampNeg) :: sv2) _ _ h ?_ (en_go_on hih hk7 hn hP hl (en_sr_push hv hs2) hh he hx hd hf rfl rfl)
  rw [hX]
  unfold mm_ald
  have e6 : mm_cell E h x = none := by unfold mm_cell; rw [if_neg (Nat.not_le.mpr e2)]
  simp only [e6]
  rw [if_neg (by decide), e3]
  simp only []
  rw [if_pos b1]
theorem en_O_lcmp (hP : P[q / 65536]? = some (cs, nL, dd)) (hS : en_St E kds P L FIN q X) (hn : n / 65536 = q / 65536) {r : Int64 → Int64 → Int32} (hX : ∀ lv sv cb sb h, X lv sv cb sb h = mm_binL lv sv cb sb h (n % 65536) (fun x y => .int (r x y))) : en_OS E kds P L ρ ω h0 fsC FIN q (en_lcmp n) := by
  intro loc st hp w ih c0 hih hk hR
  obtain ⟨lv, sv, gs, h, o, rfl, ⟨cs', nL', dd', hP', hl⟩, hs, hh, he, hx, hd, hf⟩ := hR
  cases hP.symm.trans hP'
  unfold en_lcmp at hk
  obtain ⟨y, st1, rfl, hk1⟩ := en_pop_t hk
  obtain ⟨x, st2, rfl, hk2⟩ := en_pop_t hk1
  obtain ⟨h1, hk2⟩ := en_if_and.mp hk2
  obtain ⟨h2, hk2⟩ := en_if_and.mp hk2
  obtain ⟨vy, sv3, rfl, h3, hs3⟩ := en_sr_cons hs
  obtain ⟨vx, sv4, rfl, h4, hs4⟩ := en_sr_cons hs3
  obtain ⟨Y, rfl⟩ := en_isL_long h2 h3
  obtain ⟨Xx, rfl⟩ := en_isL_long h1 h4
  refine hS lv _ _ _ h gs o (n % 65536) lv (.int (r Xx Y) :: sv4) _ _ h ?_ (en_go_on hih hk2 hn hP hl (en_sr_push (en_any_v _) hs4) hh he hx hd hf rfl rfl)
  rw [hX]
  rfl
theorem en_O_l2i (hP : P[q / 65536]? = some (cs, nL, dd)) (hS : en_St E kds P L FIN q X) (hn : n / 65536 = q / 65536) (hX : ∀ lv x sv cb sb h, X lv (.long x :: sv) cb sb h = some (n % 65536, lv, .int x.toInt32 :: sv, cb, sb, h)) : en_OS E kds P L ρ ω h0 fsC FIN q (en_l2i n) := by
  intro loc st hp w ih c0 hih hk hR
  obtain ⟨lv, sv, gs, h, o, rfl, ⟨cs', nL', dd', hP', hl⟩, hs, hh, he, hx, hd, hf⟩ := hR
  cases hP.symm.trans hP'
  unfold en_l2i at hk
  obtain ⟨x, st1, rfl, hk1⟩ := en_pop_t hk
  obtain ⟨h1, hk1⟩ := en_if_and.mp hk1
  obtain ⟨vx, sv2, rfl, h4, hs2⟩ := en_sr_cons hs
  obtain ⟨Xx, rfl⟩ := en_isL_long h1 h4
  exact hS lv _ _ _ h gs o (n % 65536) lv (.int Xx.toInt32 :: sv2) _ _ h (hX lv Xx sv2 _ _ h) (en_go_on hih hk1 hn hP hl (en_sr_push (en_any_v _) hs2) hh he hx hd hf rfl rfl)
theorem en_O_unR (hP : P[q / 65536]? = some (cs, nL, dd)) (hS : en_St E kds P L FIN q X) (hn : n / 65536 = q / 65536) {r : Int32 → Int32} {lo hi : Nat} (hr : ∀ x, lo ≤ en_z (r x) ∧ en_z (r x) ≤ hi) (hhi : hi < 4294967296) (hX : ∀ lv sv cb sb h, X lv sv cb sb h = mm_un lv sv cb sb h (n % 65536) (fun x => .int (r x))) : en_OS E kds P L ρ ω h0 fsC FIN q (en_unR lo hi n) := by
  intro loc st hp w ih c0 hih hk hR
  obtain ⟨lv, sv, gs, h, o, rfl, ⟨cs', nL', dd', hP', hl⟩, hs, hh, he, hx, hd, hf⟩ := hR
  cases hP.symm.trans hP'
  unfold en_unR at hk
  obtain ⟨x, st1, rfl, hk1⟩ := en_pop_t hk
  obtain ⟨h1, hk1⟩ := en_if_and.mp hk1
  obtain ⟨vx, sv2, rfl, h4, hs2⟩ := en_sr_cons hs
  obtain ⟨Xx, rfl⟩ := en_isI_int h1 h4
  refine hS lv _ _ _ h gs o (n % 65536) lv (.int (r Xx) :: sv2) _ _ h ?_ (en_go_on hih hk1 hn hP hl (en_sr_push (en_mk_v (hr Xx).1 (hr Xx).2 hhi) hs2) hh he hx hd hf rfl rfl)
  rw [hX]
  rfl
theorem en_b_rng (x : Int32) : 2147483520 ≤ en_z x.toInt8.toInt32 ∧ en_z x.toInt8.toInt32 ≤ 2147483775 := by
  have h := en_z_int x.toInt8.toInt32
  rw [Int8.toInt_toInt32] at h
  have h1 := x.toInt8.toInt_lt
  have h2 := x.toInt8.le_toInt
  have e1 : (2 : Int) ^ 7 = 128 := by decide
  omega
theorem en_c_rng (x : Int32) : 2147483648 ≤ en_z (x.toUInt32 % 65536).toInt32 ∧ en_z (x.toUInt32 % 65536).toInt32 ≤ 2147549183 := by
  have h := en_z_int (x.toUInt32 % 65536).toInt32
  have h0 : (x.toUInt32 % 65536).toNat < 65536 := by
    rw [UInt32.toNat_mod]
    exact Nat.mod_lt _ (by decide)
  have h2 : ((x.toUInt32 % 65536).toInt32).toInt = ((x.toUInt32 % 65536).toNat : Int) := by
    show ((x.toUInt32 % 65536).toBitVec).toInt = _
    rw [BitVec.toInt_eq_toNat_cond]
    have e : (x.toUInt32 % 65536).toBitVec.toNat = (x.toUInt32 % 65536).toNat := rfl
    rw [e, if_pos (by omega)]
  omega
end ENV2
