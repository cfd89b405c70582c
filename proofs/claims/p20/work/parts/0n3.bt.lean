/-! PARTIAL: the class's tokens, exact, 2 (wip/p5/mkq3.py) -/
theorem px_nm_b32 {X : Nat → Int32} {n p k : Nat} (hk : k ≤ 8) (h : ∀ j, j < k → px_lt (px_c X n (p + j)) = true) : px_nm 32 X n p k < 1099511627776 := by
  have h1 : px_nm 32 X n p k < 32 ^ k := px_nv_lt (by decide) k (fun j hj => by
    have g := px_lt_iff.mp (h j hj)
    unfold px_ld
    omega)
  have h2 : 32 ^ k ≤ 32 ^ 8 := Nat.pow_le_pow_right (by decide) hk
  have h3 : 32 ^ 8 = 1099511627776 := by decide
  omega
theorem bt_app {x y z w v : Int64} {c : Int} (h0 : 0 ≤ x.toInt) (h1 : x.toInt < 1099511627776) (hc : 97 ≤ c ∧ c ≤ 122) (h32 : y.toInt = 32) (hz : z = x * y) (hw : w.toInt = c - 96) (hv : v = z + w) : v.toInt = 32 * x.toInt + (c - 96) := by
  have e1 : z.toInt = 32 * x.toInt := by
    rw [hz, Int64.toInt_mul, h32, Int.mul_comm]
    exact Int.bmod_eq_of_le (by omega) (by omega)
  rw [hv, Int64.toInt_add, e1, hw]
  exact Int.bmod_eq_of_le (by omega) (by omega)
theorem px_sw_iff {c : Int} : (∃ u : Nat, u < 9 ∧ px_sw u = c) ↔ (c = 59 ∨ c = 61 ∨ c = 43 ∨ c = 45 ∨ c = 42 ∨ c = 47 ∨ c = 60 ∨ c = 40 ∨ c = 41) := by
  constructor
  · rintro ⟨u, hu, rfl⟩
    have hc : u = 0 ∨ u = 1 ∨ u = 2 ∨ u = 3 ∨ u = 4 ∨ u = 5 ∨ u = 6 ∨ u = 7 ∨ u = 8 := by omega
    rcases hc with rfl | rfl | rfl | rfl | rfl | rfl | rfl | rfl | rfl <;> decide
  · intro h
    rcases h with rfl | rfl | rfl | rfl | rfl | rfl | rfl | rfl | rfl
    · exact ⟨0, by decide, rfl⟩
    · exact ⟨1, by decide, rfl⟩
    · exact ⟨2, by decide, rfl⟩
    · exact ⟨3, by decide, rfl⟩
    · exact ⟨4, by decide, rfl⟩
    · exact ⟨5, by decide, rfl⟩
    · exact ⟨6, by decide, rfl⟩
    · exact ⟨7, by decide, rfl⟩
    · exact ⟨8, by decide, rfl⟩
theorem bt_i8 {x : Int32} (h1 : -128 ≤ x.toInt) (h2 : x.toInt ≤ 127) : (x.toInt8.toInt32).toInt = x.toInt := by
  rw [Int8.toInt_toInt32, Int32.toInt_toInt8]
  exact Int.bmod_eq_of_le (by omega) (by omega)
theorem bu_216_7 : mm_at mt_P 216 7 = some ((7, 1, .aload_n 0, 0, 0, 0, 0), 4, 0, 1, 7, 2, 0, 0) := rfl
theorem bu_216_8 : mm_at mt_P 216 8 = some ((8, 3, .getfield 36, 7, 6, 0, 258), 4, 0, 1, 7, 2, 0, 0) := rfl
theorem bu_216_11 : mm_at mt_P 216 11 = some ((11, 1, .aload_n 0, 0, 0, 0, 0), 4, 0, 1, 7, 2, 0, 0) := rfl
theorem bu_216_12 : mm_at mt_P 216 12 = some ((12, 3, .getfield 26, 7, 5, 0, 257), 4, 0, 1, 7, 2, 0, 0) := rfl
theorem bu_216_15 : mm_at mt_P 216 15 = some ((15, 3, .if_icmp .ge 49, 0, 0, 0, 0), 4, 0, 1, 7, 2, 0, 0) := rfl
theorem bu_216_18 : mm_at mt_P 216 18 = some ((18, 1, .aload_n 0, 0, 0, 0, 0), 4, 0, 1, 7, 2, 0, 0) := rfl
theorem bu_216_19 : mm_at mt_P 216 19 = some ((19, 3, .getfield 22, 7, 4, 0, 256), 4, 0, 1, 7, 2, 0, 0) := rfl
theorem bu_216_22 : mm_at mt_P 216 22 = some ((22, 1, .aload_n 0, 0, 0, 0, 0), 4, 0, 1, 7, 2, 0, 0) := rfl
theorem bu_216_23 : mm_at mt_P 216 23 = some ((23, 3, .getfield 36, 7, 6, 0, 258), 4, 0, 1, 7, 2, 0, 0) := rfl
theorem bu_216_26 : mm_at mt_P 216 26 = some ((26, 1, .baload, 0, 0, 0, 0), 4, 0, 1, 7, 2, 0, 0) := rfl
theorem bu_216_27 : mm_at mt_P 216 27 = some ((27, 3, .invokestatic 60, 211, 0, 0, 570), 4, 0, 1, 7, 2, 0, 0) := rfl
theorem bu_216_30 : mm_at mt_P 216 30 = some ((30, 3, .ifCond .eq 34, 0, 0, 0, 0), 4, 0, 1, 7, 2, 0, 0) := rfl
theorem bu_216_33 : mm_at mt_P 216 33 = some ((33, 1, .iload_n 2, 0, 0, 0, 0), 4, 0, 1, 7, 2, 0, 0) := rfl
theorem bu_216_34 : mm_at mt_P 216 34 = some ((34, 2, .bipush 10, 0, 0, 0, 0), 4, 0, 1, 7, 2, 0, 0) := rfl
theorem bu_216_36 : mm_at mt_P 216 36 = some ((36, 1, .imul, 0, 0, 0, 0), 4, 0, 1, 7, 2, 0, 0) := rfl
theorem bu_216_37 : mm_at mt_P 216 37 = some ((37, 1, .aload_n 0, 0, 0, 0, 0), 4, 0, 1, 7, 2, 0, 0) := rfl
theorem bu_216_38 : mm_at mt_P 216 38 = some ((38, 3, .getfield 22, 7, 4, 0, 256), 4, 0, 1, 7, 2, 0, 0) := rfl
theorem bu_216_41 : mm_at mt_P 216 41 = some ((41, 1, .aload_n 0, 0, 0, 0, 0), 4, 0, 1, 7, 2, 0, 0) := rfl
theorem bu_216_42 : mm_at mt_P 216 42 = some ((42, 3, .getfield 36, 7, 6, 0, 258), 4, 0, 1, 7, 2, 0, 0) := rfl
theorem bu_216_45 : mm_at mt_P 216 45 = some ((45, 1, .baload, 0, 0, 0, 0), 4, 0, 1, 7, 2, 0, 0) := rfl
theorem bu_216_46 : mm_at mt_P 216 46 = some ((46, 2, .bipush 48, 0, 0, 0, 0), 4, 0, 1, 7, 2, 0, 0) := rfl
theorem bu_216_48 : mm_at mt_P 216 48 = some ((48, 1, .isub, 0, 0, 0, 0), 4, 0, 1, 7, 2, 0, 0) := rfl
theorem bu_216_49 : mm_at mt_P 216 49 = some ((49, 1, .iadd, 0, 0, 0, 0), 4, 0, 1, 7, 2, 0, 0) := rfl
theorem bu_216_50 : mm_at mt_P 216 50 = some ((50, 1, .istore_n 2, 0, 0, 0, 0), 4, 0, 1, 7, 2, 0, 0) := rfl
theorem bu_216_51 : mm_at mt_P 216 51 = some ((51, 1, .aload_n 0, 0, 0, 0, 0), 4, 0, 1, 7, 2, 0, 0) := rfl
theorem bu_216_52 : mm_at mt_P 216 52 = some ((52, 1, .dup, 0, 0, 0, 0), 4, 0, 1, 7, 2, 0, 0) := rfl
theorem bu_216_53 : mm_at mt_P 216 53 = some ((53, 3, .getfield 36, 7, 6, 0, 258), 4, 0, 1, 7, 2, 0, 0) := rfl
theorem bu_216_56 : mm_at mt_P 216 56 = some ((56, 1, .iconst 1, 0, 0, 0, 0), 4, 0, 1, 7, 2, 0, 0) := rfl
theorem bu_216_57 : mm_at mt_P 216 57 = some ((57, 1, .iadd, 0, 0, 0, 0), 4, 0, 1, 7, 2, 0, 0) := rfl
theorem bu_216_58 : mm_at mt_P 216 58 = some ((58, 3, .putfield 36, 7, 6, 0, 258), 4, 0, 1, 7, 2, 0, 0) := rfl
theorem bu_216_61 : mm_at mt_P 216 61 = some ((61, 3, .goto (-54), 0, 0, 0, 0), 4, 0, 1, 7, 2, 0, 0) := rfl
theorem bu_217_7 : mm_at mt_P 217 7 = some ((7, 1, .aload_n 0, 0, 0, 0, 0), 5, 0, 1, 7, 2, 0, 0) := rfl
theorem bu_217_8 : mm_at mt_P 217 8 = some ((8, 3, .getfield 36, 7, 6, 0, 258), 5, 0, 1, 7, 2, 0, 0) := rfl
theorem bu_217_11 : mm_at mt_P 217 11 = some ((11, 1, .aload_n 0, 0, 0, 0, 0), 5, 0, 1, 7, 2, 0, 0) := rfl
theorem bu_217_12 : mm_at mt_P 217 12 = some ((12, 3, .getfield 26, 7, 5, 0, 257), 5, 0, 1, 7, 2, 0, 0) := rfl
theorem bu_217_15 : mm_at mt_P 217 15 = some ((15, 3, .if_icmp .ge 53, 0, 0, 0, 0), 5, 0, 1, 7, 2, 0, 0) := rfl
theorem bu_217_18 : mm_at mt_P 217 18 = some ((18, 1, .aload_n 0, 0, 0, 0, 0), 5, 0, 1, 7, 2, 0, 0) := rfl
theorem bu_217_19 : mm_at mt_P 217 19 = some ((19, 3, .getfield 22, 7, 4, 0, 256), 5, 0, 1, 7, 2, 0, 0) := rfl
theorem bu_217_22 : mm_at mt_P 217 22 = some ((22, 1, .aload_n 0, 0, 0, 0, 0), 5, 0, 1, 7, 2, 0, 0) := rfl
theorem bu_217_23 : mm_at mt_P 217 23 = some ((23, 3, .getfield 36, 7, 6, 0, 258), 5, 0, 1, 7, 2, 0, 0) := rfl
theorem bu_217_26 : mm_at mt_P 217 26 = some ((26, 1, .baload, 0, 0, 0, 0), 5, 0, 1, 7, 2, 0, 0) := rfl
theorem bu_217_27 : mm_at mt_P 217 27 = some ((27, 3, .invokestatic 54, 212, 0, 0, 505), 5, 0, 1, 7, 2, 0, 0) := rfl
theorem bu_217_30 : mm_at mt_P 217 30 = some ((30, 3, .ifCond .eq 38, 0, 0, 0, 0), 5, 0, 1, 7, 2, 0, 0) := rfl
theorem bu_217_33 : mm_at mt_P 217 33 = some ((33, 1, .lload_n 2, 0, 0, 0, 0), 5, 0, 1, 7, 2, 0, 0) := rfl
theorem bu_217_34 : mm_at mt_P 217 34 = some ((34, 3, .ldc2_w 74, 0, 0, 32, 512), 5, 0, 1, 7, 2, 0, 0) := rfl
theorem bu_217_37 : mm_at mt_P 217 37 = some ((37, 1, .lmul, 0, 0, 0, 0), 5, 0, 1, 7, 2, 0, 0) := rfl
theorem bu_217_38 : mm_at mt_P 217 38 = some ((38, 1, .aload_n 0, 0, 0, 0, 0), 5, 0, 1, 7, 2, 0, 0) := rfl
theorem bu_217_39 : mm_at mt_P 217 39 = some ((39, 3, .getfield 22, 7, 4, 0, 256), 5, 0, 1, 7, 2, 0, 0) := rfl
theorem bu_217_42 : mm_at mt_P 217 42 = some ((42, 1, .aload_n 0, 0, 0, 0, 0), 5, 0, 1, 7, 2, 0, 0) := rfl
theorem bu_217_43 : mm_at mt_P 217 43 = some ((43, 3, .getfield 36, 7, 6, 0, 258), 5, 0, 1, 7, 2, 0, 0) := rfl
theorem bu_217_46 : mm_at mt_P 217 46 = some ((46, 1, .baload, 0, 0, 0, 0), 5, 0, 1, 7, 2, 0, 0) := rfl
theorem bu_217_47 : mm_at mt_P 217 47 = some ((47, 2, .bipush 97, 0, 0, 0, 0), 5, 0, 1, 7, 2, 0, 0) := rfl
theorem bu_217_49 : mm_at mt_P 217 49 = some ((49, 1, .isub, 0, 0, 0, 0), 5, 0, 1, 7, 2, 0, 0) := rfl
theorem bu_217_50 : mm_at mt_P 217 50 = some ((50, 1, .iconst 1, 0, 0, 0, 0), 5, 0, 1, 7, 2, 0, 0) := rfl
theorem bu_217_51 : mm_at mt_P 217 51 = some ((51, 1, .iadd, 0, 0, 0, 0), 5, 0, 1, 7, 2, 0, 0) := rfl
theorem bu_217_52 : mm_at mt_P 217 52 = some ((52, 1, .i2l, 0, 0, 0, 0), 5, 0, 1, 7, 2, 0, 0) := rfl
theorem bu_217_53 : mm_at mt_P 217 53 = some ((53, 1, .ladd, 0, 0, 0, 0), 5, 0, 1, 7, 2, 0, 0) := rfl
theorem bu_217_54 : mm_at mt_P 217 54 = some ((54, 1, .lstore_n 2, 0, 0, 0, 0), 5, 0, 1, 7, 2, 0, 0) := rfl
theorem bu_217_55 : mm_at mt_P 217 55 = some ((55, 1, .aload_n 0, 0, 0, 0, 0), 5, 0, 1, 7, 2, 0, 0) := rfl
theorem bu_217_56 : mm_at mt_P 217 56 = some ((56, 1, .dup, 0, 0, 0, 0), 5, 0, 1, 7, 2, 0, 0) := rfl
theorem bu_217_57 : mm_at mt_P 217 57 = some ((57, 3, .getfield 36, 7, 6, 0, 258), 5, 0, 1, 7, 2, 0, 0) := rfl
theorem bu_217_60 : mm_at mt_P 217 60 = some ((60, 1, .iconst 1, 0, 0, 0, 0), 5, 0, 1, 7, 2, 0, 0) := rfl
theorem bu_217_61 : mm_at mt_P 217 61 = some ((61, 1, .iadd, 0, 0, 0, 0), 5, 0, 1, 7, 2, 0, 0) := rfl
theorem bu_217_62 : mm_at mt_P 217 62 = some ((62, 3, .putfield 36, 7, 6, 0, 258), 5, 0, 1, 7, 2, 0, 0) := rfl
theorem bu_217_65 : mm_at mt_P 217 65 = some ((65, 3, .goto (-58), 0, 0, 0, 0), 5, 0, 1, 7, 2, 0, 0) := rfl
section BTQ
variable {X : Nat → Int32} {n : Nat} {E : mm_E} {PO : mm_C → Prop} {NN : Nat} {h0 h : mm_H} {s : Nat → Int32} {A : Nat → Nat → Int32} {L : Nat → Nat → Int64} {gs : List mm_F}
set_option maxHeartbeats 4000000 in
theorem bt_l {p : Nat} {pv : Int32} {s0 : Nat → Int32} (hX : A 1 = X) (hlen : (s0 2105).toInt = (n : Int)) (hn2 : n ≤ 2000) (hb : ∀ j, j < n → -128 ≤ (X j).toInt ∧ (X j).toInt ≤ 127) : ∀ NN : Nat, (∀ (h : mm_H) (s : Nat → Int32) (lv : mm_V) (o : Option Value) (x : Int64) (ki : Nat), bm_P bq_T E h0 h s A L → (∀ j, j ≠ 2106 → s j = s0 j) → (s 2106).toInt = ((p + ki : Nat) : Int) → mm_get lv 0 = some (.ref (E.1 + 21)) → mm_get lv 1 = some (.int pv) → mm_get lv 2 = some (.long x) → p + ki ≤ n → (∀ j, j < ki → px_lt (px_c X n (p + j)) = true) → (ki ≤ 8 → x.toInt = (px_nm 32 X n p ki : Nat)) → ¬ (p + ki < n ∧ px_lt (px_c X n (p + ki)) = true) → bp_G E PO NN ((217, 68, lv, [], 0, 0) :: gs, h, o)) → (∀ (h : mm_H) (s : Nat → Int32) (lv : mm_V) (o : Option Value) (x : Int64) (ki : Nat), bm_P bq_T E h0 h s A L → (∀ j, j ≠ 2106 → s j = s0 j) → (s 2106).toInt = ((p + ki : Nat) : Int) → mm_get lv 0 = some (.ref (E.1 + 21)) → mm_get lv 1 = some (.int pv) → mm_get lv 2 = some (.long x) → p + ki ≤ n → (∀ j, j < ki → px_lt (px_c X n (p + j)) = true) → (ki ≤ 8 → x.toInt = (px_nm 32 X n p ki : Nat)) → bp_G E PO NN ((217, 7, lv, [], 0, 0) :: gs, h, o)) := by
  intro NN
  induction NN with
  | zero => intro kk h s lv o x ki hP hf hat g0 g1 g2 hp hl hx; exact bp_zero bu_217_7
  | succ NN ih =>
    intro kk h s lv o x ki hP hf hat g0 g1 g2 hp hl hx
    have hlen2 := congrArg Int32.toInt (hf 2105 (by decide))
    refine bp_ld (pc' := 8) bu_217_7 rfl rfl (fun _ _ _ => rfl) g0 rfl ?_
    refine bn_gi (pc' := 11) (K := 2106) bu_217_8 rfl rfl (fun _ _ _ => rfl) hP bq_o21 bq_i21_6 rfl rfl ?_
    refine bp_ld (pc' := 12) bu_217_11 rfl rfl (fun _ _ _ => rfl) g0 rfl ?_
    refine bn_gi (pc' := 15) (K := 2105) bu_217_12 rfl rfl (fun _ _ _ => rfl) hP bq_o21 bq_i21_5 rfl rfl ?_
    refine bp_ic (pc' := 18) (pt := 68) bu_217_15 rfl rfl (fun k4671 => ?_) (fun k4671 => ?_)
    · replace k4671 : ((s 2105)).toInt ≤ ((s 2106)).toInt := k4671
      exact kk _ _ _ _ _ ki hP hf hat g0 g1 g2 hp hl hx (fun q => by
        have q2 := px_lt_iff.mp q.2
        first | omega | (split at hc9 <;> omega))
    · replace k4671 : ¬ (((s 2105)).toInt ≤ ((s 2106)).toInt) := k4671
      refine bp_ld (pc' := 19) bu_217_18 rfl rfl (fun _ _ _ => rfl) g0 rfl ?_
      refine bn_gr (pc' := 22) (t := 1) bu_217_19 rfl rfl (fun _ _ _ => rfl) hP bq_o21 bq_r21_4 ?_
      refine bp_ld (pc' := 23) bu_217_22 rfl rfl (fun _ _ _ => rfl) g0 rfl ?_
      refine bn_gi (pc' := 26) (K := 2106) bu_217_23 rfl rfl (fun _ _ _ => rfl) hP bq_o21 bq_i21_6 rfl rfl ?_
      refine bn_iaF (pc' := 27) bu_217_26 rfl rfl (fun _ _ _ => rfl) hP bq_a1 (Or.inl rfl) (fun b4672 b4673 => ?_)
      refine bp_csF (pc' := 30) (st := []) (args := [.int (A 1 ((s 2106)).toInt.toNat)]) bu_217_27 rfl rfl (by decide) rfl (Nat.le_of_ble_eq_true rfl) (Nat.le_of_ble_eq_true rfl) ?_
      have hA1 : (A 1 ((s 2106)).toInt.toNat) = X (p + ki) := by rw [show ((s 2106)).toInt.toNat = p + ki by omega, hX]
      have hA2 := congrArg Int32.toInt hA1
      have hb9 := hb (p + ki) (by omega)
      have hc9 : px_c X n (p + ki) = (if 0 ≤ (X (p + ki)).toInt then (X (p + ki)).toInt else (X (p + ki)).toInt + 256) := px_c_sg (by omega) hb9.1 hb9.2
      refine ct_212 (c := (A 1 ((s 2106)).toInt.toNat)) (fun r4674 p4675 => ?_)
      show bp_G E PO (NN + 1) ((217, 30, lv, [.int r4674], 0, 0) :: gs, h, none)
      refine bp_i0 (pc' := 33) (pt := 68) bu_217_30 rfl rfl (fun k4676 => ?_) (fun k4676 => ?_)
      · replace k4676 : (r4674).toInt = 0 := k4676
        exact kk _ _ _ _ _ ki hP hf hat g0 g1 g2 hp hl hx (fun q => by
          have q2 := px_lt_iff.mp q.2
          first | omega | (split at hc9 <;> omega))
      · replace k4676 : ¬ ((r4674).toInt = 0) := k4676
        refine bp_ld (pc' := 34) bu_217_33 rfl rfl (fun _ _ _ => rfl) g2 rfl ?_
        refine bn_cL (pc' := 37) (n := 32) bu_217_34 rfl rfl (fun _ _ _ => rfl) (by decide) (fun x4677 e4678 => ?_)
        refine bn_lmul (pc' := 38) bu_217_37 rfl (fun x4679 e4680 => ?_)
        refine bp_ld (pc' := 39) bu_217_38 rfl rfl (fun _ _ _ => rfl) g0 rfl ?_
        refine bn_gr (pc' := 42) (t := 1) bu_217_39 rfl rfl (fun _ _ _ => rfl) hP bq_o21 bq_r21_4 ?_
        refine bp_ld (pc' := 43) bu_217_42 rfl rfl (fun _ _ _ => rfl) g0 rfl ?_
        refine bn_gi (pc' := 46) (K := 2106) bu_217_43 rfl rfl (fun _ _ _ => rfl) hP bq_o21 bq_i21_6 rfl rfl ?_
        refine bn_iaF (pc' := 47) bu_217_46 rfl rfl (fun _ _ _ => rfl) hP bq_a1 (Or.inl rfl) (fun b4681 b4682 => ?_)
        refine bp_c (pc' := 49) (n := 97) bu_217_47 rfl rfl (fun _ _ _ => rfl) (by decide) (fun c4683 e4684 => ?_)
        have hA3 : (A 1 ((s 2106)).toInt.toNat) = X (p + ki) := by rw [show ((s 2106)).toInt.toNat = p + ki by omega, hX]
        have hA4 := congrArg Int32.toInt hA3
        refine bp_sub (pc' := 50) bu_217_49 rfl (by omega) (by omega) (fun v4685 e4686 => ?_)
        refine bp_c (pc' := 51) (n := 1) bu_217_50 rfl rfl (fun _ _ _ => rfl) (by decide) (fun c4687 e4688 => ?_)
        refine bp_add (pc' := 52) bu_217_51 rfl (by omega) (by omega) (fun v4689 e4690 => ?_)
        refine bn_i2l (pc' := 53) bu_217_52 rfl (fun x4691 e4692 => ?_)
        refine bn_ladd (pc' := 54) bu_217_53 rfl (fun x4693 e4694 => ?_)
        refine bp_stL (pc' := 55) bu_217_54 rfl rfl (fun _ _ _ => rfl) (by decide) (fun lv4695 F4696 g4697 => ?_)
        have g4698 := F4696 0 (.ref (E.1 + 21)) g0 (by decide) (by decide) (Or.inl rfl)
        have g4699 := F4696 1 (.int pv) g1 (by decide) (by decide) (Or.inl rfl)
        refine bp_ld (pc' := 56) bu_217_55 rfl rfl (fun _ _ _ => rfl) g4698 rfl ?_
        refine bp_dup (pc' := 57) bu_217_56 rfl rfl ?_
        refine bn_gi (pc' := 60) (K := 2106) bu_217_57 rfl rfl (fun _ _ _ => rfl) hP bq_o21 bq_i21_6 rfl rfl ?_
        refine bp_c (pc' := 61) (n := 1) bu_217_60 rfl rfl (fun _ _ _ => rfl) (by decide) (fun c4700 e4701 => ?_)
        refine bp_add (pc' := 62) bu_217_61 rfl (by omega) (by omega) (fun v4702 e4703 => ?_)
        refine bn_pf (pc' := 65) (K := 2106) bu_217_62 rfl rfl (fun _ _ _ => rfl) hP bq_o21 bq_i21_6 rfl rfl (fun h4704 s4705 hP4706 e4707 f4708 => ?_)
        refine bp_goD (pc' := 7) bu_217_65 rfl ?_
        have hlt9 : px_lt (px_c X n (p + ki)) = true := px_lt_iff.mpr (by (split at hc9 <;> omega))
        have hcp : px_c X n (p + ki) = (X (p + ki)).toInt := by rw [hc9]; exact if_pos (by omega)
        have z2106 := congrArg Int32.toInt e4707
        exact ih (fun h s lv o x ki a0 a1 a2 a3 a4 a5 a6 a7 a8 a9 => bp_mono (Nat.le_succ NN) (kk h s lv o x ki a0 a1 a2 a3 a4 a5 a6 a7 a8 a9)) _ _ _ _ _ (ki + 1) hP4706 (fun j j1 => (f4708 j j1).trans (hf j j1)) (by omega) g4698 g4699 g4697 (by omega) (fun j hj => by
          by_cases e : j = ki
          · rw [e]
            exact hlt9
          · exact hl j (by omega)) (fun h8 => by
          have hx8 := hx (by omega)
          have hb8 := px_nm_b32 (X := X) (n := n) (p := p) (k := ki) (by omega) hl
          have en : px_nm 32 X n p (ki + 1) = 32 * px_nm 32 X n p ki + px_ld X n p ki := rfl
          have el : (px_ld X n p ki : Int) = px_c X n (p + ki) - 96 := by
            have l9 := px_lt_iff.mp hlt9
            unfold px_ld
            omega
          have l9 := px_lt_iff.mp hlt9
          have ea := bt_app (c := px_c X n (p + ki)) (x := x) (by omega) (by omega) (by omega) e4678 e4680 (by omega) e4694
          rw [en]
          omega)
set_option maxHeartbeats 4000000 in
theorem bt_d {p : Nat} {pv : Int32} {s0 : Nat → Int32} (hX : A 1 = X) (hlen : (s0 2105).toInt = (n : Int)) (hn2 : n ≤ 2000) (hb : ∀ j, j < n → -128 ≤ (X j).toInt ∧ (X j).toInt ≤ 127) : ∀ NN : Nat, (∀ (h : mm_H) (s : Nat → Int32) (lv : mm_V) (o : Option Value) (v : Int32) (ki : Nat), bm_P bq_T E h0 h s A L → (∀ j, j ≠ 2106 → s j = s0 j) → (s 2106).toInt = ((p + ki : Nat) : Int) → mm_get lv 0 = some (.ref (E.1 + 21)) → mm_get lv 1 = some (.int pv) → mm_get lv 2 = some (.int v) → p + ki ≤ n → (∀ j, j < ki → px_dg (px_c X n (p + j)) = true) → (ki ≤ 4 → v.toInt = px_dv X n p ki) → ¬ (p + ki < n ∧ px_dg (px_c X n (p + ki)) = true) → bp_G E PO NN ((216, 64, lv, [], 0, 0) :: gs, h, o)) → (∀ (h : mm_H) (s : Nat → Int32) (lv : mm_V) (o : Option Value) (v : Int32) (ki : Nat), bm_P bq_T E h0 h s A L → (∀ j, j ≠ 2106 → s j = s0 j) → (s 2106).toInt = ((p + ki : Nat) : Int) → mm_get lv 0 = some (.ref (E.1 + 21)) → mm_get lv 1 = some (.int pv) → mm_get lv 2 = some (.int v) → p + ki ≤ n → (∀ j, j < ki → px_dg (px_c X n (p + j)) = true) → (ki ≤ 4 → v.toInt = px_dv X n p ki) → bp_G E PO NN ((216, 7, lv, [], 0, 0) :: gs, h, o)) := by
  intro NN
  induction NN with
  | zero => intro kk h s lv o v ki hP hf hat g0 g1 g2 hp hl hv; exact bp_zero bu_216_7
  | succ NN ih =>
    intro kk h s lv o v ki hP hf hat g0 g1 g2 hp hl hv
    have hlen2 := congrArg Int32.toInt (hf 2105 (by decide))
    refine bp_ld (pc' := 8) bu_216_7 rfl rfl (fun _ _ _ => rfl) g0 rfl ?_
    refine bn_gi (pc' := 11) (K := 2106) bu_216_8 rfl rfl (fun _ _ _ => rfl) hP bq_o21 bq_i21_6 rfl rfl ?_
    refine bp_ld (pc' := 12) bu_216_11 rfl rfl (fun _ _ _ => rfl) g0 rfl ?_
    refine bn_gi (pc' := 15) (K := 2105) bu_216_12 rfl rfl (fun _ _ _ => rfl) hP bq_o21 bq_i21_5 rfl rfl ?_
    refine bp_ic (pc' := 18) (pt := 64) bu_216_15 rfl rfl (fun k4709 => ?_) (fun k4709 => ?_)
    · replace k4709 : ((s 2105)).toInt ≤ ((s 2106)).toInt := k4709
      exact kk _ _ _ _ _ ki hP hf hat g0 g1 g2 hp hl hv (fun q => by
        have q2 := px_dg_iff.mp q.2
        first | omega | (split at hc9 <;> omega))
    · replace k4709 : ¬ (((s 2105)).toInt ≤ ((s 2106)).toInt) := k4709
      refine bp_ld (pc' := 19) bu_216_18 rfl rfl (fun _ _ _ => rfl) g0 rfl ?_
      refine bn_gr (pc' := 22) (t := 1) bu_216_19 rfl rfl (fun _ _ _ => rfl) hP bq_o21 bq_r21_4 ?_
      refine bp_ld (pc' := 23) bu_216_22 rfl rfl (fun _ _ _ => rfl) g0 rfl ?_
      refine bn_gi (pc' := 26) (K := 2106) bu_216_23 rfl rfl (fun _ _ _ => rfl) hP bq_o21 bq_i21_6 rfl rfl ?_
      refine bn_iaF (pc' := 27) bu_216_26 rfl rfl (fun _ _ _ => rfl) hP bq_a1 (Or.inl rfl) (fun b4710 b4711 => ?_)
      refine bp_csF (pc' := 30) (st := []) (args := [.int (A 1 ((s 2106)).toInt.toNat)]) bu_216_27 rfl rfl (by decide) rfl (Nat.le_of_ble_eq_true rfl) (Nat.le_of_ble_eq_true rfl) ?_
      have hA1 : (A 1 ((s 2106)).toInt.toNat) = X (p + ki) := by rw [show ((s 2106)).toInt.toNat = p + ki by omega, hX]
      have hA2 := congrArg Int32.toInt hA1
      have hb9 := hb (p + ki) (by omega)
      have hc9 : px_c X n (p + ki) = (if 0 ≤ (X (p + ki)).toInt then (X (p + ki)).toInt else (X (p + ki)).toInt + 256) := px_c_sg (by omega) hb9.1 hb9.2
      refine ct_211 (c := (A 1 ((s 2106)).toInt.toNat)) (fun r4712 p4713 => ?_)
      show bp_G E PO (NN + 1) ((216, 30, lv, [.int r4712], 0, 0) :: gs, h, none)
      refine bp_i0 (pc' := 33) (pt := 64) bu_216_30 rfl rfl (fun k4714 => ?_) (fun k4714 => ?_)
      · replace k4714 : (r4712).toInt = 0 := k4714
        exact kk _ _ _ _ _ ki hP hf hat g0 g1 g2 hp hl hv (fun q => by
          have q2 := px_dg_iff.mp q.2
          first | omega | (split at hc9 <;> omega))
      · replace k4714 : ¬ ((r4712).toInt = 0) := k4714
        refine bp_ld (pc' := 34) bu_216_33 rfl rfl (fun _ _ _ => rfl) g2 rfl ?_
        refine bp_c (pc' := 36) (n := 10) bu_216_34 rfl rfl (fun _ _ _ => rfl) (by decide) (fun c4715 e4716 => ?_)
        refine bn_mulx (pc' := 37) bu_216_36 rfl (fun v4717 e4718 => ?_)
        rw [e4716] at e4718
        refine bp_ld (pc' := 38) bu_216_37 rfl rfl (fun _ _ _ => rfl) g0 rfl ?_
        refine bn_gr (pc' := 41) (t := 1) bu_216_38 rfl rfl (fun _ _ _ => rfl) hP bq_o21 bq_r21_4 ?_
        refine bp_ld (pc' := 42) bu_216_41 rfl rfl (fun _ _ _ => rfl) g0 rfl ?_
        refine bn_gi (pc' := 45) (K := 2106) bu_216_42 rfl rfl (fun _ _ _ => rfl) hP bq_o21 bq_i21_6 rfl rfl ?_
        refine bn_iaF (pc' := 46) bu_216_45 rfl rfl (fun _ _ _ => rfl) hP bq_a1 (Or.inl rfl) (fun b4719 b4720 => ?_)
        refine bp_c (pc' := 48) (n := 48) bu_216_46 rfl rfl (fun _ _ _ => rfl) (by decide) (fun c4721 e4722 => ?_)
        have hA3 : (A 1 ((s 2106)).toInt.toNat) = X (p + ki) := by rw [show ((s 2106)).toInt.toNat = p + ki by omega, hX]
        have hA4 := congrArg Int32.toInt hA3
        refine bp_sub (pc' := 49) bu_216_48 rfl (by omega) (by omega) (fun v4723 e4724 => ?_)
        refine bn_addx (pc' := 50) bu_216_49 rfl (fun v4725 e4726 => ?_)
        refine bp_st (pc' := 51) bu_216_50 rfl rfl (fun _ _ _ => rfl) rfl (by decide) (by decide) (fun lv4727 F4728 g4729 => ?_)
        have g4730 := F4728 0 (.ref (E.1 + 21)) g0 (by decide) (Or.inl rfl)
        have g4731 := F4728 1 (.int pv) g1 (by decide) (Or.inl rfl)
        refine bp_ld (pc' := 52) bu_216_51 rfl rfl (fun _ _ _ => rfl) g4730 rfl ?_
        refine bp_dup (pc' := 53) bu_216_52 rfl rfl ?_
        refine bn_gi (pc' := 56) (K := 2106) bu_216_53 rfl rfl (fun _ _ _ => rfl) hP bq_o21 bq_i21_6 rfl rfl ?_
        refine bp_c (pc' := 57) (n := 1) bu_216_56 rfl rfl (fun _ _ _ => rfl) (by decide) (fun c4732 e4733 => ?_)
        refine bp_add (pc' := 58) bu_216_57 rfl (by omega) (by omega) (fun v4734 e4735 => ?_)
        refine bn_pf (pc' := 61) (K := 2106) bu_216_58 rfl rfl (fun _ _ _ => rfl) hP bq_o21 bq_i21_6 rfl rfl (fun h4736 s4737 hP4738 e4739 f4740 => ?_)
        refine bp_goD (pc' := 7) bu_216_61 rfl ?_
        have hdg9 : px_dg (px_c X n (p + ki)) = true := px_dg_iff.mpr (by (split at hc9 <;> omega))
        have hcp : px_c X n (p + ki) = (X (p + ki)).toInt := by rw [hc9]; exact if_pos (by omega)
        have z2106 := congrArg Int32.toInt e4739
        exact ih (fun h s lv o x ki a0 a1 a2 a3 a4 a5 a6 a7 a8 a9 => bp_mono (Nat.le_succ NN) (kk h s lv o x ki a0 a1 a2 a3 a4 a5 a6 a7 a8 a9)) _ _ _ _ _ (ki + 1) hP4738 (fun j j1 => (f4740 j j1).trans (hf j j1)) (by omega) g4730 g4731 g4729 (by omega) (fun j hj => by
          by_cases e : j = ki
          · rw [e]
            exact hdg9
          · exact hl j (by omega)) (fun h4 => by
          have hv4 := hv (by omega)
          have hb4 := px_dv_b (X := X) (n := n) (p := p) ki (by omega) hl
          have hb5 : (10 : Int) ^ ki ≤ 1000 := by rcases (show ki = 0 ∨ ki = 1 ∨ ki = 2 ∨ ki = 3 by omega) with rfl | rfl | rfl | rfl <;> decide
          have en : px_dv X n p (ki + 1) = 10 * px_dv X n p ki + (px_c X n (p + ki) - 48) := rfl
          generalize (10 : Int) ^ ki = z9 at hb4 hb5
          have l9 := px_dg_iff.mp hdg9
          rw [en]
          omega)
end BTQ
