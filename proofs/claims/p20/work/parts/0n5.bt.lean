/-! PARTIAL: the class's tokens, exact, 4 (wip/p5/mkq5.py) -/
theorem rk_s {c V : Int} (h : c = 59 ∨ c = 61 ∨ c = 43 ∨ c = 45 ∨ c = 42 ∨ c = 47 ∨ c = 60 ∨ c = 40 ∨ c = 41) : rc_k (px_sg c) V 4 c ∧ px_sg c ≠ 0 ∧ px_sg c ≠ 3 := by
  rcases h with rfl | rfl | rfl | rfl | rfl | rfl | rfl | rfl | rfl
  · rw [show px_sg 59 = 4 by decide]; unfold rc_k; omega
  · rw [show px_sg 61 = 5 by decide]; unfold rc_k; omega
  · rw [show px_sg 43 = 8 by decide]; unfold rc_k; omega
  · rw [show px_sg 45 = 9 by decide]; unfold rc_k; omega
  · rw [show px_sg 42 = 10 by decide]; unfold rc_k; omega
  · rw [show px_sg 47 = 15 by decide]; unfold rc_k; omega
  · rw [show px_sg 60 = 13 by decide]; unfold rc_k; omega
  · rw [show px_sg 40 = 6 by decide]; unfold rc_k; omega
  · rw [show px_sg 41 = 7 by decide]; unfold rc_k; omega
theorem rk_sb {c : Int} (h : ¬ (c = 59 ∨ c = 61 ∨ c = 43 ∨ c = 45 ∨ c = 42 ∨ c = 47 ∨ c = 60 ∨ c = 40 ∨ c = 41)) : px_sg c = 3 := by
  unfold px_sg
  (repeat' split) <;> omega
theorem bu_215_39 : mm_at mt_P 215 39 = some ((39, 1, .aload_n 0, 0, 0, 0, 0), 3, 0, 1, 7, 2, 0, 0) := rfl
theorem bu_215_40 : mm_at mt_P 215 40 = some ((40, 3, .getfield 36, 7, 6, 0, 258), 3, 0, 1, 7, 2, 0, 0) := rfl
theorem bu_215_43 : mm_at mt_P 215 43 = some ((43, 1, .aload_n 0, 0, 0, 0, 0), 3, 0, 1, 7, 2, 0, 0) := rfl
theorem bu_215_44 : mm_at mt_P 215 44 = some ((44, 3, .getfield 26, 7, 5, 0, 257), 3, 0, 1, 7, 2, 0, 0) := rfl
theorem bu_215_47 : mm_at mt_P 215 47 = some ((47, 3, .if_icmp .lt 15, 0, 0, 0, 0), 3, 0, 1, 7, 2, 0, 0) := rfl
theorem bu_215_50 : mm_at mt_P 215 50 = some ((50, 1, .aload_n 0, 0, 0, 0, 0), 3, 0, 1, 7, 2, 0, 0) := rfl
theorem bu_215_51 : mm_at mt_P 215 51 = some ((51, 1, .iconst 0, 0, 0, 0, 0), 3, 0, 1, 7, 2, 0, 0) := rfl
theorem bu_215_52 : mm_at mt_P 215 52 = some ((52, 1, .lconst 0, 0, 0, 0, 0), 3, 0, 1, 7, 2, 0, 0) := rfl
theorem bu_215_53 : mm_at mt_P 215 53 = some ((53, 1, .aload_n 0, 0, 0, 0, 0), 3, 0, 1, 7, 2, 0, 0) := rfl
theorem bu_215_54 : mm_at mt_P 215 54 = some ((54, 3, .getfield 36, 7, 6, 0, 258), 3, 0, 1, 7, 2, 0, 0) := rfl
theorem bu_215_57 : mm_at mt_P 215 57 = some ((57, 3, .invokevirtual 50, 214, 0, 0, 501), 3, 0, 1, 7, 2, 0, 0) := rfl
theorem bu_215_60 : mm_at mt_P 215 60 = some ((60, 1, .iconst 0, 0, 0, 0, 0), 3, 0, 1, 7, 2, 0, 0) := rfl
theorem bu_215_61 : mm_at mt_P 215 61 = some ((61, 1, .ireturn, 0, 0, 0, 0), 3, 0, 1, 7, 2, 0, 0) := rfl
theorem bu_215_62 : mm_at mt_P 215 62 = some ((62, 1, .aload_n 0, 0, 0, 0, 0), 3, 0, 1, 7, 2, 0, 0) := rfl
theorem bu_215_63 : mm_at mt_P 215 63 = some ((63, 3, .getfield 22, 7, 4, 0, 256), 3, 0, 1, 7, 2, 0, 0) := rfl
theorem bu_215_66 : mm_at mt_P 215 66 = some ((66, 1, .aload_n 0, 0, 0, 0, 0), 3, 0, 1, 7, 2, 0, 0) := rfl
theorem bu_215_67 : mm_at mt_P 215 67 = some ((67, 3, .getfield 36, 7, 6, 0, 258), 3, 0, 1, 7, 2, 0, 0) := rfl
theorem bu_215_70 : mm_at mt_P 215 70 = some ((70, 1, .baload, 0, 0, 0, 0), 3, 0, 1, 7, 2, 0, 0) := rfl
theorem bu_215_71 : mm_at mt_P 215 71 = some ((71, 3, .invokestatic 54, 212, 0, 0, 505), 3, 0, 1, 7, 2, 0, 0) := rfl
theorem bu_215_74 : mm_at mt_P 215 74 = some ((74, 3, .ifCond .eq 8, 0, 0, 0, 0), 3, 0, 1, 7, 2, 0, 0) := rfl
theorem bu_215_77 : mm_at mt_P 215 77 = some ((77, 1, .aload_n 0, 0, 0, 0, 0), 3, 0, 1, 7, 2, 0, 0) := rfl
theorem bu_215_78 : mm_at mt_P 215 78 = some ((78, 3, .invokevirtual 57, 217, 0, 0, 508), 3, 0, 1, 7, 2, 0, 0) := rfl
theorem bu_215_81 : mm_at mt_P 215 81 = some ((81, 1, .ireturn, 0, 0, 0, 0), 3, 0, 1, 7, 2, 0, 0) := rfl
theorem bu_215_82 : mm_at mt_P 215 82 = some ((82, 1, .aload_n 0, 0, 0, 0, 0), 3, 0, 1, 7, 2, 0, 0) := rfl
theorem bu_215_83 : mm_at mt_P 215 83 = some ((83, 3, .getfield 22, 7, 4, 0, 256), 3, 0, 1, 7, 2, 0, 0) := rfl
theorem bu_215_86 : mm_at mt_P 215 86 = some ((86, 1, .aload_n 0, 0, 0, 0, 0), 3, 0, 1, 7, 2, 0, 0) := rfl
theorem bu_215_87 : mm_at mt_P 215 87 = some ((87, 3, .getfield 36, 7, 6, 0, 258), 3, 0, 1, 7, 2, 0, 0) := rfl
theorem bu_215_90 : mm_at mt_P 215 90 = some ((90, 1, .baload, 0, 0, 0, 0), 3, 0, 1, 7, 2, 0, 0) := rfl
theorem bu_215_91 : mm_at mt_P 215 91 = some ((91, 3, .invokestatic 60, 211, 0, 0, 570), 3, 0, 1, 7, 2, 0, 0) := rfl
theorem bu_215_94 : mm_at mt_P 215 94 = some ((94, 3, .ifCond .eq 8, 0, 0, 0, 0), 3, 0, 1, 7, 2, 0, 0) := rfl
theorem bu_215_97 : mm_at mt_P 215 97 = some ((97, 1, .aload_n 0, 0, 0, 0, 0), 3, 0, 1, 7, 2, 0, 0) := rfl
theorem bu_215_98 : mm_at mt_P 215 98 = some ((98, 3, .invokevirtual 63, 216, 0, 0, 573), 3, 0, 1, 7, 2, 0, 0) := rfl
theorem bu_215_101 : mm_at mt_P 215 101 = some ((101, 1, .ireturn, 0, 0, 0, 0), 3, 0, 1, 7, 2, 0, 0) := rfl
theorem bu_215_102 : mm_at mt_P 215 102 = some ((102, 1, .aload_n 0, 0, 0, 0, 0), 3, 0, 1, 7, 2, 0, 0) := rfl
theorem bu_215_103 : mm_at mt_P 215 103 = some ((103, 3, .getfield 36, 7, 6, 0, 258), 3, 0, 1, 7, 2, 0, 0) := rfl
theorem bu_215_106 : mm_at mt_P 215 106 = some ((106, 1, .istore_n 1, 0, 0, 0, 0), 3, 0, 1, 7, 2, 0, 0) := rfl
theorem bu_215_107 : mm_at mt_P 215 107 = some ((107, 1, .aload_n 0, 0, 0, 0, 0), 3, 0, 1, 7, 2, 0, 0) := rfl
theorem bu_215_108 : mm_at mt_P 215 108 = some ((108, 1, .dup, 0, 0, 0, 0), 3, 0, 1, 7, 2, 0, 0) := rfl
theorem bu_215_109 : mm_at mt_P 215 109 = some ((109, 3, .getfield 36, 7, 6, 0, 258), 3, 0, 1, 7, 2, 0, 0) := rfl
theorem bu_215_112 : mm_at mt_P 215 112 = some ((112, 1, .iconst 1, 0, 0, 0, 0), 3, 0, 1, 7, 2, 0, 0) := rfl
theorem bu_215_113 : mm_at mt_P 215 113 = some ((113, 1, .iadd, 0, 0, 0, 0), 3, 0, 1, 7, 2, 0, 0) := rfl
theorem bu_215_114 : mm_at mt_P 215 114 = some ((114, 3, .putfield 36, 7, 6, 0, 258), 3, 0, 1, 7, 2, 0, 0) := rfl
theorem bu_215_117 : mm_at mt_P 215 117 = some ((117, 1, .aload_n 0, 0, 0, 0, 0), 3, 0, 1, 7, 2, 0, 0) := rfl
theorem bu_215_118 : mm_at mt_P 215 118 = some ((118, 3, .getfield 22, 7, 4, 0, 256), 3, 0, 1, 7, 2, 0, 0) := rfl
theorem bu_215_121 : mm_at mt_P 215 121 = some ((121, 1, .iload_n 1, 0, 0, 0, 0), 3, 0, 1, 7, 2, 0, 0) := rfl
theorem bu_215_122 : mm_at mt_P 215 122 = some ((122, 1, .baload, 0, 0, 0, 0), 3, 0, 1, 7, 2, 0, 0) := rfl
theorem bu_215_123 : mm_at mt_P 215 123 = some ((123, 3, .ifCond .le 22, 0, 0, 0, 0), 3, 0, 1, 7, 2, 0, 0) := rfl
theorem bu_215_126 : mm_at mt_P 215 126 = some ((126, 2, .ldc 66, 2, 0, 0, 0), 3, 0, 1, 7, 2, 0, 0) := rfl
theorem bu_215_128 : mm_at mt_P 215 128 = some ((128, 1, .aload_n 0, 0, 0, 0, 0), 3, 0, 1, 7, 2, 0, 0) := rfl
theorem bu_215_129 : mm_at mt_P 215 129 = some ((129, 3, .getfield 22, 7, 4, 0, 256), 3, 0, 1, 7, 2, 0, 0) := rfl
theorem bu_215_132 : mm_at mt_P 215 132 = some ((132, 1, .iload_n 1, 0, 0, 0, 0), 3, 0, 1, 7, 2, 0, 0) := rfl
theorem bu_215_133 : mm_at mt_P 215 133 = some ((133, 1, .baload, 0, 0, 0, 0), 3, 0, 1, 7, 2, 0, 0) := rfl
theorem bu_215_134 : mm_at mt_P 215 134 = some ((134, 1, .i2c, 0, 0, 0, 0), 3, 0, 1, 7, 2, 0, 0) := rfl
theorem bu_215_135 : mm_at mt_P 215 135 = some ((135, 3, .invokevirtual 68, 278, 0, 0, 578), 3, 0, 1, 7, 2, 0, 0) := rfl
theorem bu_215_138 : mm_at mt_P 215 138 = some ((138, 3, .ifCond .lt 7, 0, 0, 0, 0), 3, 0, 1, 7, 2, 0, 0) := rfl
theorem bu_215_141 : mm_at mt_P 215 141 = some ((141, 1, .iconst 1, 0, 0, 0, 0), 3, 0, 1, 7, 2, 0, 0) := rfl
theorem bu_215_142 : mm_at mt_P 215 142 = some ((142, 3, .goto 4, 0, 0, 0, 0), 3, 0, 1, 7, 2, 0, 0) := rfl
theorem bu_215_145 : mm_at mt_P 215 145 = some ((145, 1, .iconst 0, 0, 0, 0, 0), 3, 0, 1, 7, 2, 0, 0) := rfl
theorem bu_215_146 : mm_at mt_P 215 146 = some ((146, 1, .istore_n 2, 0, 0, 0, 0), 3, 0, 1, 7, 2, 0, 0) := rfl
theorem bu_215_147 : mm_at mt_P 215 147 = some ((147, 1, .aload_n 0, 0, 0, 0, 0), 3, 0, 1, 7, 2, 0, 0) := rfl
theorem bu_215_148 : mm_at mt_P 215 148 = some ((148, 1, .iload_n 2, 0, 0, 0, 0), 3, 0, 1, 7, 2, 0, 0) := rfl
theorem bu_215_149 : mm_at mt_P 215 149 = some ((149, 3, .ifCond .eq 7, 0, 0, 0, 0), 3, 0, 1, 7, 2, 0, 0) := rfl
theorem bu_215_152 : mm_at mt_P 215 152 = some ((152, 1, .iconst 4, 0, 0, 0, 0), 3, 0, 1, 7, 2, 0, 0) := rfl
theorem bu_215_153 : mm_at mt_P 215 153 = some ((153, 3, .goto 4, 0, 0, 0, 0), 3, 0, 1, 7, 2, 0, 0) := rfl
theorem bu_215_156 : mm_at mt_P 215 156 = some ((156, 1, .iconst 1, 0, 0, 0, 0), 3, 0, 1, 7, 2, 0, 0) := rfl
theorem bu_215_157 : mm_at mt_P 215 157 = some ((157, 1, .aload_n 0, 0, 0, 0, 0), 3, 0, 1, 7, 2, 0, 0) := rfl
theorem bu_215_158 : mm_at mt_P 215 158 = some ((158, 3, .getfield 22, 7, 4, 0, 256), 3, 0, 1, 7, 2, 0, 0) := rfl
theorem bu_215_161 : mm_at mt_P 215 161 = some ((161, 1, .iload_n 1, 0, 0, 0, 0), 3, 0, 1, 7, 2, 0, 0) := rfl
theorem bu_215_162 : mm_at mt_P 215 162 = some ((162, 1, .baload, 0, 0, 0, 0), 3, 0, 1, 7, 2, 0, 0) := rfl
theorem bu_215_163 : mm_at mt_P 215 163 = some ((163, 1, .i2l, 0, 0, 0, 0), 3, 0, 1, 7, 2, 0, 0) := rfl
theorem bu_215_164 : mm_at mt_P 215 164 = some ((164, 1, .iload_n 1, 0, 0, 0, 0), 3, 0, 1, 7, 2, 0, 0) := rfl
theorem bu_215_165 : mm_at mt_P 215 165 = some ((165, 3, .invokevirtual 50, 214, 0, 0, 501), 3, 0, 1, 7, 2, 0, 0) := rfl
theorem bu_215_168 : mm_at mt_P 215 168 = some ((168, 1, .iload_n 2, 0, 0, 0, 0), 3, 0, 1, 7, 2, 0, 0) := rfl
theorem bu_215_169 : mm_at mt_P 215 169 = some ((169, 1, .ireturn, 0, 0, 0, 0), 3, 0, 1, 7, 2, 0, 0) := rfl
section BTQ
variable {X : Nat → Int32} {n : Nat} {E : mm_E} {PO : mm_C → Prop} {NN : Nat} {h0 h : mm_H} {s : Nat → Int32} {A : Nat → Nat → Int32} {L : Nat → Nat → Int64} {gs : List mm_F}
set_option maxHeartbeats 4000000 in
theorem bt_39 {q m : Nat} {s0 : Nat → Int32} {lv : mm_V} {o : Option Value} {q4 q4' q6 q6' : mm_S} (hq4 : E.2[4]? = some q4) (hE4 : bs_E E 0 q4 q4') (hn4 : q4'.2.1 = 192) (hW4 : ∀ k, k < 24 → ∀ i, i < 8 → (q4'.2.2 (8 * k + i)).toInt = px_wc k i) (hq6 : E.2[6]? = some q6) (hE6 : bs_E E 1 q6 q6') (hn6 : q6'.2.1 = 9) (hW6 : ∀ i, i < 9 → (q6'.2.2 i).toInt = px_sw i) (hX : A 1 = X) (hlen : (s0 2105).toInt = (n : Int)) (hn2 : n ≤ 2000) (hb : ∀ j, j < n → -128 ≤ (X j).toInt ∧ (X j).toInt ≤ 127) (hP : bm_P bq_T E h0 h s A L) (hf : ∀ j, j ≠ 2106 → s j = s0 j) (hm : (s0 2103).toInt = (m : Int)) (hm4 : m ≤ 400) (hat : (s 2106).toInt = (q : Int)) (hq : q ≤ n) (hnb : ¬ (q < n ∧ px_bl (px_c X n q) = true)) (g0 : mm_get lv 0 = some (.ref (E.1 + 21))) (kk : (∀ (h' : mm_H) (s' : Nat → Int32) (kv pv : Int32) (vv : Int64) (r : Int32), bm_P bq_T E h0 h' s' (bh_up (bh_up A 22 m kv) 23 m pv) (bh_upL L 24 m vv) → (s' 2103).toInt = (m : Int) + 1 → (s' 2106).toInt = (px_nx X n q : Nat) → (∀ j, j ≠ 2103 → j ≠ 2106 → s' j = s0 j) → rc_k (px_kd X n q) (px_vl X n q) kv.toInt vv.toInt → pv.toInt = (q : Nat) → (px_kd X n q = 1 → vv.toInt = (px_nm 32 X n q (px_tl X n q) : Nat)) → ((r.toInt = 1 ∧ px_kd X n q ≠ 0 ∧ px_kd X n q ≠ 3) ∨ (r.toInt = 0 ∧ (px_kd X n q = 0 ∨ px_kd X n q = 3))) → bp_G E PO NN (mm_back (some (.int r)) gs h'))) : bp_G E PO NN ((215, 39, lv, [], 0, 0) :: gs, h, o) := by
  have hlen0 := congrArg Int32.toInt (hf 2105 (by decide))
  refine bp_ld (pc' := 40) bu_215_39 rfl rfl (fun _ _ _ => rfl) g0 rfl ?_
  refine bn_gi (pc' := 43) (K := 2106) bu_215_40 rfl rfl (fun _ _ _ => rfl) hP bq_o21 bq_i21_6 rfl rfl ?_
  refine bp_ld (pc' := 44) bu_215_43 rfl rfl (fun _ _ _ => rfl) g0 rfl ?_
  refine bn_gi (pc' := 47) (K := 2105) bu_215_44 rfl rfl (fun _ _ _ => rfl) hP bq_o21 bq_i21_5 rfl rfl ?_
  refine bp_ic (pc' := 50) (pt := 62) bu_215_47 rfl rfl (fun k4893 => ?_) (fun k4893 => ?_)
  · replace k4893 : ((s 2106)).toInt < ((s 2105)).toInt := k4893
    refine bp_ld (pc' := 63) bu_215_62 rfl rfl (fun _ _ _ => rfl) g0 rfl ?_
    refine bn_gr (pc' := 66) (t := 1) bu_215_63 rfl rfl (fun _ _ _ => rfl) hP bq_o21 bq_r21_4 ?_
    refine bp_ld (pc' := 67) bu_215_66 rfl rfl (fun _ _ _ => rfl) g0 rfl ?_
    refine bn_gi (pc' := 70) (K := 2106) bu_215_67 rfl rfl (fun _ _ _ => rfl) hP bq_o21 bq_i21_6 rfl rfl ?_
    refine bn_iaF (pc' := 71) bu_215_70 rfl rfl (fun _ _ _ => rfl) hP bq_a1 (Or.inl rfl) (fun b4894 b4895 => ?_)
    refine bp_csF (pc' := 74) (st := []) (args := [.int (A 1 ((s 2106)).toInt.toNat)]) bu_215_71 rfl rfl (by decide) rfl (Nat.le_of_ble_eq_true rfl) (Nat.le_of_ble_eq_true rfl) ?_
    have hA1 : (A 1 ((s 2106)).toInt.toNat) = X q := by rw [show ((s 2106)).toInt.toNat = q by omega, hX]
    have hA1b := congrArg Int32.toInt hA1
    have hpn : q < n := by omega
    have hb9 := hb q hpn
    have hc9 : px_c X n q = (if 0 ≤ (X q).toInt then (X q).toInt else (X q).toInt + 256) := px_c_sg hpn hb9.1 hb9.2
    have hcx := hc9
    refine ct_212 (c := (A 1 ((s 2106)).toInt.toNat)) (fun r4896 p4897 => ?_)
    show bp_G E PO NN ((215, 74, lv, [.int r4896], 0, 0) :: gs, h, none)
    refine bp_i0 (pc' := 77) (pt := 82) bu_215_74 rfl rfl (fun k4898 => ?_) (fun k4898 => ?_)
    · replace k4898 : (r4896).toInt = 0 := k4898
      have hnl : ¬ px_lt (px_c X n q) = true := fun u => by
        have u2 := px_lt_iff.mp u
        first | omega | (split at hc9 <;> omega)
      refine bp_ld (pc' := 83) bu_215_82 rfl rfl (fun _ _ _ => rfl) g0 rfl ?_
      refine bn_gr (pc' := 86) (t := 1) bu_215_83 rfl rfl (fun _ _ _ => rfl) hP bq_o21 bq_r21_4 ?_
      refine bp_ld (pc' := 87) bu_215_86 rfl rfl (fun _ _ _ => rfl) g0 rfl ?_
      refine bn_gi (pc' := 90) (K := 2106) bu_215_87 rfl rfl (fun _ _ _ => rfl) hP bq_o21 bq_i21_6 rfl rfl ?_
      refine bn_iaF (pc' := 91) bu_215_90 rfl rfl (fun _ _ _ => rfl) hP bq_a1 (Or.inl rfl) (fun b4899 b4900 => ?_)
      refine bp_csF (pc' := 94) (st := []) (args := [.int (A 1 ((s 2106)).toInt.toNat)]) bu_215_91 rfl rfl (by decide) rfl (Nat.le_of_ble_eq_true rfl) (Nat.le_of_ble_eq_true rfl) ?_
      have hA1 : (A 1 ((s 2106)).toInt.toNat) = X q := by rw [show ((s 2106)).toInt.toNat = q by omega, hX]
      have hA1b := congrArg Int32.toInt hA1
      have hpn : q < n := by omega
      have hb9 := hb q hpn
      have hc9 : px_c X n q = (if 0 ≤ (X q).toInt then (X q).toInt else (X q).toInt + 256) := px_c_sg hpn hb9.1 hb9.2
      have hcx := hc9
      refine ct_211 (c := (A 1 ((s 2106)).toInt.toNat)) (fun r4901 p4902 => ?_)
      show bp_G E PO NN ((215, 94, lv, [.int r4901], 0, 0) :: gs, h, none)
      refine bp_i0 (pc' := 97) (pt := 102) bu_215_94 rfl rfl (fun k4903 => ?_) (fun k4903 => ?_)
      · replace k4903 : (r4901).toInt = 0 := k4903
        refine bp_ld (pc' := 103) bu_215_102 rfl rfl (fun _ _ _ => rfl) g0 rfl ?_
        refine bn_gi (pc' := 106) (K := 2106) bu_215_103 rfl rfl (fun _ _ _ => rfl) hP bq_o21 bq_i21_6 rfl rfl ?_
        refine bp_st (pc' := 107) bu_215_106 rfl rfl (fun _ _ _ => rfl) rfl (by decide) (by decide) (fun lv4904 F4905 g4906 => ?_)
        have g4907 := F4905 0 (.ref (E.1 + 21)) g0 (by decide) (Or.inl rfl)
        refine bp_ld (pc' := 108) bu_215_107 rfl rfl (fun _ _ _ => rfl) g4907 rfl ?_
        refine bp_dup (pc' := 109) bu_215_108 rfl rfl ?_
        refine bn_gi (pc' := 112) (K := 2106) bu_215_109 rfl rfl (fun _ _ _ => rfl) hP bq_o21 bq_i21_6 rfl rfl ?_
        refine bp_c (pc' := 113) (n := 1) bu_215_112 rfl rfl (fun _ _ _ => rfl) (by decide) (fun c4908 e4909 => ?_)
        refine bp_add (pc' := 114) bu_215_113 rfl (by omega) (by omega) (fun v4910 e4911 => ?_)
        refine bn_pf (pc' := 117) (K := 2106) bu_215_114 rfl rfl (fun _ _ _ => rfl) hP bq_o21 bq_i21_6 rfl rfl (fun h4912 s4913 hP4914 e4915 f4916 => ?_)
        refine bp_ld (pc' := 118) bu_215_117 rfl rfl (fun _ _ _ => rfl) g4907 rfl ?_
        refine bn_gr (pc' := 121) (t := 1) bu_215_118 rfl rfl (fun _ _ _ => rfl) hP4914 bq_o21 bq_r21_4 ?_
        refine bp_ld (pc' := 122) bu_215_121 rfl rfl (fun _ _ _ => rfl) g4906 rfl ?_
        refine bn_iaF (pc' := 123) bu_215_122 rfl rfl (fun _ _ _ => rfl) hP4914 bq_a1 (Or.inl rfl) (fun b4917 b4918 => ?_)
        have hA5 : (A 1 ((s 2106)).toInt.toNat) = X q := by rw [show ((s 2106)).toInt.toNat = q by omega, hX]
        have hA5b := congrArg Int32.toInt hA5
        refine bp_i0 (pc' := 126) (pt := 145) bu_215_123 rfl rfl (fun k4919 => ?_) (fun k4919 => ?_)
        · replace k4919 : ((A 1 ((s 2106)).toInt.toNat)).toInt ≤ 0 := k4919
          refine bp_c (pc' := 146) (n := 0) bu_215_145 rfl rfl (fun _ _ _ => rfl) (by decide) (fun c4920 e4921 => ?_)
          refine bp_st (pc' := 147) bu_215_146 rfl rfl (fun _ _ _ => rfl) rfl (by decide) (by decide) (fun lv4922 F4923 g4924 => ?_)
          have g4925 := F4923 0 (.ref (E.1 + 21)) g4907 (by decide) (Or.inl rfl)
          have g4926 := F4923 1 (.int (s 2106)) g4906 (by decide) (Or.inl rfl)
          refine bp_ld (pc' := 148) bu_215_147 rfl rfl (fun _ _ _ => rfl) g4925 rfl ?_
          refine bp_ld (pc' := 149) bu_215_148 rfl rfl (fun _ _ _ => rfl) g4924 rfl ?_
          refine bp_i0 (pc' := 152) (pt := 156) bu_215_149 rfl rfl (fun k4927 => ?_) (fun k4927 => ?_)
          · replace k4927 : (c4920).toInt = 0 := k4927
            refine bp_c (pc' := 157) (n := 1) bu_215_156 rfl rfl (fun _ _ _ => rfl) (by decide) (fun c4928 e4929 => ?_)
            refine bp_ld (pc' := 158) bu_215_157 rfl rfl (fun _ _ _ => rfl) g4925 rfl ?_
            refine bn_gr (pc' := 161) (t := 1) bu_215_158 rfl rfl (fun _ _ _ => rfl) hP4914 bq_o21 bq_r21_4 ?_
            refine bp_ld (pc' := 162) bu_215_161 rfl rfl (fun _ _ _ => rfl) g4926 rfl ?_
            refine bn_iaF (pc' := 163) bu_215_162 rfl rfl (fun _ _ _ => rfl) hP4914 bq_a1 (Or.inl rfl) (fun b4930 b4931 => ?_)
            have hA6 : (A 1 ((s 2106)).toInt.toNat) = X q := by rw [show ((s 2106)).toInt.toNat = q by omega, hX]
            have hA6b := congrArg Int32.toInt hA6
            refine bn_i2l (pc' := 164) bu_215_163 rfl (fun x4932 e4933 => ?_)
            refine bp_ld (pc' := 165) bu_215_164 rfl rfl (fun _ _ _ => rfl) g4926 rfl ?_
            refine bn_cvF (pc' := 168) (st := []) (args := [.int (s 2106), .long x4932, .int c4928]) bu_215_165 rfl rfl rfl (by decide) hP4914 bq_o21 (by decide) rfl (Nat.le_of_ble_eq_true rfl) (Nat.le_of_ble_eq_true rfl) ?_
            have hm9 : (s4913 2103).toInt = (m : Int) := by rw [(f4916 2103 (by decide)).trans (hf 2103 (by decide))]; exact hm
            refine ct_214 (k := c4928) (v := x4932) (p := (s 2106)) hP4914 (by omega) (by omega) (fun h4934 s4935 hP4936 p4937 f4938 => ?_)
            rw [show (s4913 2103).toInt.toNat = m by omega] at hP4936
            show bp_G E PO NN ((215, 168, lv4922, [], 0, 0) :: gs, h4934, none)
            refine bp_ld (pc' := 169) bu_215_168 rfl rfl (fun _ _ _ => rfl) g4924 rfl ?_
            refine bp_rbF bu_215_169 (fun rb4939 => ?_)
            have hnd : ¬ px_dg (px_c X n q) = true := fun u => by
              have u2 := px_dg_iff.mp u
              first | omega | (split at hc9 <;> omega)
            have hks := px_kd_s hpn hnl hnd
            have htl := px_tl_s hnl hnd
            have hnx : px_nx X n q = q + 1 := by unfold px_nx; rw [if_neg (by omega), htl]
            have hz6 := congrArg Int32.toInt (f4938 2106 (by decide))
            have hz7 := congrArg Int32.toInt e4915
            have hrs : px_sg (px_c X n q) = 3 := rk_sb (by
              first | omega | (split at hcx <;> omega))
            rw [hrs] at hks
            exact kk _ _ _ _ _ _ hP4936 (by omega) (by rw [hnx]; omega) (fun j j1 j2 => (f4938 j j1).trans ((f4916 j j2).trans (hf j j2))) (rk_b hks (by omega)) (by omega) (fun u => by omega) (Or.inr ⟨by omega, Or.inr hks⟩)
          · replace k4927 : ¬ ((c4920).toInt = 0) := k4927
            omega
        · replace k4919 : ¬ (((A 1 ((s 2106)).toInt.toNat)).toInt ≤ 0) := k4919
          refine bs_ldc (pc' := 128) bu_215_126 rfl (by decide) hq6 ?_
          refine bp_ld (pc' := 129) bu_215_128 rfl rfl (fun _ _ _ => rfl) g4907 rfl ?_
          refine bn_gr (pc' := 132) (t := 1) bu_215_129 rfl rfl (fun _ _ _ => rfl) hP4914 bq_o21 bq_r21_4 ?_
          refine bp_ld (pc' := 133) bu_215_132 rfl rfl (fun _ _ _ => rfl) g4906 rfl ?_
          refine bn_iaF (pc' := 134) bu_215_133 rfl rfl (fun _ _ _ => rfl) hP4914 bq_a1 (Or.inl rfl) (fun b4940 b4941 => ?_)
          refine bs_i2c (pc' := 135) bu_215_134 rfl (fun v4942 e4943 => ?_)
          refine bs_cv (pc' := 138) (st := []) (args := [.int v4942]) bu_215_135 rfl rfl (by decide) hE6 rfl (Nat.le_of_ble_eq_true rfl) (Nat.le_of_ble_eq_true rfl) ?_
          have hA7 : (A 1 ((s 2106)).toInt.toNat) = X q := by rw [show ((s 2106)).toInt.toNat = q by omega, hX]
          have hA7b := congrArg Int32.toInt hA7
          have hcv : v4942 = (A 1 ((s 2106)).toInt.toNat) := e4943 (by omega) (by omega)
          have hcw : (v4942).toInt = (X q).toInt := by rw [hcv, hA7]
          refine bq_278 (c := v4942) hE6 (by omega) (by omega) (by omega) (by omega) (fun r4944 p4945 => ?_)
          have hi8 := bt_i8 (x := v4942) (by omega) (by omega)
          have hsx : (0 ≤ (r4944).toInt ∧ ((X q).toInt = 59 ∨ (X q).toInt = 61 ∨ (X q).toInt = 43 ∨ (X q).toInt = 45 ∨ (X q).toInt = 42 ∨ (X q).toInt = 47 ∨ (X q).toInt = 60 ∨ (X q).toInt = 40 ∨ (X q).toInt = 41)) ∨ ((r4944).toInt < 0 ∧ ¬ ((X q).toInt = 59 ∨ (X q).toInt = 61 ∨ (X q).toInt = 43 ∨ (X q).toInt = 45 ∨ (X q).toInt = 42 ∨ (X q).toInt = 47 ∨ (X q).toInt = 60 ∨ (X q).toInt = 40 ∨ (X q).toInt = 41)) := by
            rcases p4945 with ⟨a9, u, hu, eu⟩ | ⟨a9, hno⟩
            · exact Or.inl ⟨a9, px_sw_iff.mp ⟨u, by omega, by rw [← hW6 u (by omega), eu, hi8, hcw]⟩⟩
            · refine Or.inr ⟨a9, fun w9 => ?_⟩
              obtain ⟨u, hu, eu⟩ := px_sw_iff.mpr w9
              exact hno u (by omega) (by rw [hW6 u hu, eu, hi8, hcw])
          show bp_G E PO NN ((215, 138, lv4904, [.int r4944], 0, 0) :: gs, h4912, none)
          refine bp_i0 (pc' := 141) (pt := 145) bu_215_138 rfl rfl (fun k4946 => ?_) (fun k4946 => ?_)
          · replace k4946 : (r4944).toInt < 0 := k4946
            refine bp_c (pc' := 146) (n := 0) bu_215_145 rfl rfl (fun _ _ _ => rfl) (by decide) (fun c4947 e4948 => ?_)
            refine bp_st (pc' := 147) bu_215_146 rfl rfl (fun _ _ _ => rfl) rfl (by decide) (by decide) (fun lv4949 F4950 g4951 => ?_)
            have g4952 := F4950 0 (.ref (E.1 + 21)) g4907 (by decide) (Or.inl rfl)
            have g4953 := F4950 1 (.int (s 2106)) g4906 (by decide) (Or.inl rfl)
            refine bp_ld (pc' := 148) bu_215_147 rfl rfl (fun _ _ _ => rfl) g4952 rfl ?_
            refine bp_ld (pc' := 149) bu_215_148 rfl rfl (fun _ _ _ => rfl) g4951 rfl ?_
            refine bp_i0 (pc' := 152) (pt := 156) bu_215_149 rfl rfl (fun k4954 => ?_) (fun k4954 => ?_)
            · replace k4954 : (c4947).toInt = 0 := k4954
              refine bp_c (pc' := 157) (n := 1) bu_215_156 rfl rfl (fun _ _ _ => rfl) (by decide) (fun c4955 e4956 => ?_)
              refine bp_ld (pc' := 158) bu_215_157 rfl rfl (fun _ _ _ => rfl) g4952 rfl ?_
              refine bn_gr (pc' := 161) (t := 1) bu_215_158 rfl rfl (fun _ _ _ => rfl) hP4914 bq_o21 bq_r21_4 ?_
              refine bp_ld (pc' := 162) bu_215_161 rfl rfl (fun _ _ _ => rfl) g4953 rfl ?_
              refine bn_iaF (pc' := 163) bu_215_162 rfl rfl (fun _ _ _ => rfl) hP4914 bq_a1 (Or.inl rfl) (fun b4957 b4958 => ?_)
              have hA6 : (A 1 ((s 2106)).toInt.toNat) = X q := by rw [show ((s 2106)).toInt.toNat = q by omega, hX]
              have hA6b := congrArg Int32.toInt hA6
              refine bn_i2l (pc' := 164) bu_215_163 rfl (fun x4959 e4960 => ?_)
              refine bp_ld (pc' := 165) bu_215_164 rfl rfl (fun _ _ _ => rfl) g4953 rfl ?_
              refine bn_cvF (pc' := 168) (st := []) (args := [.int (s 2106), .long x4959, .int c4955]) bu_215_165 rfl rfl rfl (by decide) hP4914 bq_o21 (by decide) rfl (Nat.le_of_ble_eq_true rfl) (Nat.le_of_ble_eq_true rfl) ?_
              have hm9 : (s4913 2103).toInt = (m : Int) := by rw [(f4916 2103 (by decide)).trans (hf 2103 (by decide))]; exact hm
              refine ct_214 (k := c4955) (v := x4959) (p := (s 2106)) hP4914 (by omega) (by omega) (fun h4961 s4962 hP4963 p4964 f4965 => ?_)
              rw [show (s4913 2103).toInt.toNat = m by omega] at hP4963
              show bp_G E PO NN ((215, 168, lv4949, [], 0, 0) :: gs, h4961, none)
              refine bp_ld (pc' := 169) bu_215_168 rfl rfl (fun _ _ _ => rfl) g4951 rfl ?_
              refine bp_rbF bu_215_169 (fun rb4966 => ?_)
              have hnd : ¬ px_dg (px_c X n q) = true := fun u => by
                have u2 := px_dg_iff.mp u
                first | omega | (split at hc9 <;> omega)
              have hks := px_kd_s hpn hnl hnd
              have htl := px_tl_s hnl hnd
              have hnx : px_nx X n q = q + 1 := by unfold px_nx; rw [if_neg (by omega), htl]
              have hz6 := congrArg Int32.toInt (f4965 2106 (by decide))
              have hz7 := congrArg Int32.toInt e4915
              have hrs : px_sg (px_c X n q) = 3 := rk_sb (by
                first | omega | (split at hcx <;> omega))
              rw [hrs] at hks
              exact kk _ _ _ _ _ _ hP4963 (by omega) (by rw [hnx]; omega) (fun j j1 j2 => (f4965 j j1).trans ((f4916 j j2).trans (hf j j2))) (rk_b hks (by omega)) (by omega) (fun u => by omega) (Or.inr ⟨by omega, Or.inr hks⟩)
            · replace k4954 : ¬ ((c4947).toInt = 0) := k4954
              omega
          · replace k4946 : ¬ ((r4944).toInt < 0) := k4946
            refine bp_c (pc' := 142) (n := 1) bu_215_141 rfl rfl (fun _ _ _ => rfl) (by decide) (fun c4967 e4968 => ?_)
            refine bp_go (pc' := 146) bu_215_142 rfl ?_
            refine bp_st (pc' := 147) bu_215_146 rfl rfl (fun _ _ _ => rfl) rfl (by decide) (by decide) (fun lv4969 F4970 g4971 => ?_)
            have g4972 := F4970 0 (.ref (E.1 + 21)) g4907 (by decide) (Or.inl rfl)
            have g4973 := F4970 1 (.int (s 2106)) g4906 (by decide) (Or.inl rfl)
            refine bp_ld (pc' := 148) bu_215_147 rfl rfl (fun _ _ _ => rfl) g4972 rfl ?_
            refine bp_ld (pc' := 149) bu_215_148 rfl rfl (fun _ _ _ => rfl) g4971 rfl ?_
            refine bp_i0 (pc' := 152) (pt := 156) bu_215_149 rfl rfl (fun k4974 => ?_) (fun k4974 => ?_)
            · replace k4974 : (c4967).toInt = 0 := k4974
              omega
            · replace k4974 : ¬ ((c4967).toInt = 0) := k4974
              refine bp_c (pc' := 153) (n := 4) bu_215_152 rfl rfl (fun _ _ _ => rfl) (by decide) (fun c4975 e4976 => ?_)
              refine bp_go (pc' := 157) bu_215_153 rfl ?_
              refine bp_ld (pc' := 158) bu_215_157 rfl rfl (fun _ _ _ => rfl) g4972 rfl ?_
              refine bn_gr (pc' := 161) (t := 1) bu_215_158 rfl rfl (fun _ _ _ => rfl) hP4914 bq_o21 bq_r21_4 ?_
              refine bp_ld (pc' := 162) bu_215_161 rfl rfl (fun _ _ _ => rfl) g4973 rfl ?_
              refine bn_iaF (pc' := 163) bu_215_162 rfl rfl (fun _ _ _ => rfl) hP4914 bq_a1 (Or.inl rfl) (fun b4977 b4978 => ?_)
              have hA6 : (A 1 ((s 2106)).toInt.toNat) = X q := by rw [show ((s 2106)).toInt.toNat = q by omega, hX]
              have hA6b := congrArg Int32.toInt hA6
              refine bn_i2l (pc' := 164) bu_215_163 rfl (fun x4979 e4980 => ?_)
              refine bp_ld (pc' := 165) bu_215_164 rfl rfl (fun _ _ _ => rfl) g4973 rfl ?_
              refine bn_cvF (pc' := 168) (st := []) (args := [.int (s 2106), .long x4979, .int c4975]) bu_215_165 rfl rfl rfl (by decide) hP4914 bq_o21 (by decide) rfl (Nat.le_of_ble_eq_true rfl) (Nat.le_of_ble_eq_true rfl) ?_
              have hm9 : (s4913 2103).toInt = (m : Int) := by rw [(f4916 2103 (by decide)).trans (hf 2103 (by decide))]; exact hm
              refine ct_214 (k := c4975) (v := x4979) (p := (s 2106)) hP4914 (by omega) (by omega) (fun h4981 s4982 hP4983 p4984 f4985 => ?_)
              rw [show (s4913 2103).toInt.toNat = m by omega] at hP4983
              show bp_G E PO NN ((215, 168, lv4969, [], 0, 0) :: gs, h4981, none)
              refine bp_ld (pc' := 169) bu_215_168 rfl rfl (fun _ _ _ => rfl) g4971 rfl ?_
              refine bp_rbF bu_215_169 (fun rb4986 => ?_)
              have hnd : ¬ px_dg (px_c X n q) = true := fun u => by
                have u2 := px_dg_iff.mp u
                first | omega | (split at hc9 <;> omega)
              have hks := px_kd_s hpn hnl hnd
              have htl := px_tl_s hnl hnd
              have hnx : px_nx X n q = q + 1 := by unfold px_nx; rw [if_neg (by omega), htl]
              have hz6 := congrArg Int32.toInt (f4985 2106 (by decide))
              have hz7 := congrArg Int32.toInt e4915
              have hcp : px_c X n q = (X q).toInt := by rw [hcx]; exact if_pos (by omega)
              have hrs := rk_s (c := (X q).toInt) (V := px_vl X n q) (by omega)
              rw [hcp] at hks
              exact kk _ _ _ _ _ _ hP4983 (by omega) (by rw [hnx]; omega) (fun j j1 j2 => (f4985 j j1).trans ((f4916 j j2).trans (hf j j2))) (by rw [hks, show (c4975).toInt = 4 by omega, show (x4979).toInt = (X q).toInt by omega]; exact hrs.1) (by omega) (fun u => by have u3 := px_sg_n (c := (X q).toInt); omega) (Or.inl ⟨by omega, by rw [hks]; exact hrs.2.1, by rw [hks]; exact hrs.2.2⟩)
      · replace k4903 : ¬ ((r4901).toInt = 0) := k4903
        refine bp_ld (pc' := 98) bu_215_97 rfl rfl (fun _ _ _ => rfl) g0 rfl ?_
        refine bn_cvF (pc' := 101) (st := []) (args := []) bu_215_98 rfl rfl rfl (by decide) hP bq_o21 (by decide) rfl (Nat.le_of_ble_eq_true rfl) (Nat.le_of_ble_eq_true rfl) ?_
        have hlen2 : (s 2105).toInt = (n : Int) := by rw [hf 2105 (by decide)]; exact hlen
        have hm2 : (s 2103).toInt = (m : Int) := by rw [hf 2103 (by decide)]; exact hm
        refine bt_216 (p := q) (m := m) hP hX hlen2 hn2 hb hm2 hm4 hat hpn hnl (px_dg_iff.mpr (by (split at hc9 <;> omega))) (fun h4987 s4988 kv4989 pv4990 vv4991 r4992 hP4993 a4994 b4995 c4996 d4997 e4998 f4999 z5000 => ?_)
        show bp_G E PO NN ((215, 101, lv, [.int r4992], 0, 0) :: gs, h4987, none)
        refine bp_rbF bu_215_101 (fun rb5001 => ?_)
        exact kk _ _ _ _ _ _ hP4993 a4994 b4995 (fun j j1 j2 => (c4996 j j1 j2).trans (hf j j2)) d4997 e4998 f4999 z5000
    · replace k4898 : ¬ ((r4896).toInt = 0) := k4898
      refine bp_ld (pc' := 78) bu_215_77 rfl rfl (fun _ _ _ => rfl) g0 rfl ?_
      refine bn_cvF (pc' := 81) (st := []) (args := []) bu_215_78 rfl rfl rfl (by decide) hP bq_o21 (by decide) rfl (Nat.le_of_ble_eq_true rfl) (Nat.le_of_ble_eq_true rfl) ?_
      have hlen2 : (s 2105).toInt = (n : Int) := by rw [hf 2105 (by decide)]; exact hlen
      have hm2 : (s 2103).toInt = (m : Int) := by rw [hf 2103 (by decide)]; exact hm
      refine bt_217 (p := q) (m := m) hq4 hE4 hn4 hW4 hq6 hE6 hn6 hW6 hP hX hlen2 hn2 hb hm2 hm4 hat hpn (px_lt_iff.mpr (by (split at hc9 <;> omega))) (fun h5002 s5003 kv5004 pv5005 vv5006 r5007 hP5008 a5009 b5010 c5011 d5012 e5013 f5014 z5015 => ?_)
      show bp_G E PO NN ((215, 81, lv, [.int r5007], 0, 0) :: gs, h5002, none)
      refine bp_rbF bu_215_81 (fun rb5016 => ?_)
      exact kk _ _ _ _ _ _ hP5008 a5009 b5010 (fun j j1 j2 => (c5011 j j1 j2).trans (hf j j2)) d5012 e5013 f5014 z5015
  · replace k4893 : ¬ (((s 2106)).toInt < ((s 2105)).toInt) := k4893
    refine bp_ld (pc' := 51) bu_215_50 rfl rfl (fun _ _ _ => rfl) g0 rfl ?_
    refine bp_c (pc' := 52) (n := 0) bu_215_51 rfl rfl (fun _ _ _ => rfl) (by decide) (fun c5017 e5018 => ?_)
    refine bn_cL (pc' := 53) (n := 0) bu_215_52 rfl rfl (fun _ _ _ => rfl) (by decide) (fun x5019 e5020 => ?_)
    refine bp_ld (pc' := 54) bu_215_53 rfl rfl (fun _ _ _ => rfl) g0 rfl ?_
    refine bn_gi (pc' := 57) (K := 2106) bu_215_54 rfl rfl (fun _ _ _ => rfl) hP bq_o21 bq_i21_6 rfl rfl ?_
    refine bn_cvF (pc' := 60) (st := []) (args := [.int (s 2106), .long x5019, .int c5017]) bu_215_57 rfl rfl rfl (by decide) hP bq_o21 (by decide) rfl (Nat.le_of_ble_eq_true rfl) (Nat.le_of_ble_eq_true rfl) ?_
    have hm9 : (s 2103).toInt = (m : Int) := by rw [hf 2103 (by decide)]; exact hm
    refine ct_214 (k := c5017) (v := x5019) (p := (s 2106)) hP (by omega) (by omega) (fun h5021 s5022 hP5023 p5024 f5025 => ?_)
    rw [show (s 2103).toInt.toNat = m by omega] at hP5023
    show bp_G E PO NN ((215, 60, lv, [], 0, 0) :: gs, h5021, none)
    refine bp_c (pc' := 61) (n := 0) bu_215_60 rfl rfl (fun _ _ _ => rfl) (by decide) (fun c5026 e5027 => ?_)
    refine bp_rbF bu_215_61 (fun rb5028 => ?_)
    have hk0 : px_kd X n q = 0 := px_kd_e (by omega)
    have hnx : px_nx X n q = q := if_pos (by omega)
    exact kk _ _ _ _ _ _ hP5023 (by omega) (by rw [f5025 2106 (by decide), hnx]; omega) (fun j j1 j2 => (f5025 j j1).trans (hf j j2)) (rk_e hk0 (by omega)) (by omega) (fun u => by omega) (Or.inr ⟨by omega, Or.inl hk0⟩)
theorem bt_215 {q m p : Nat} {q4 q4' q6 q6' : mm_S} (hq4 : E.2[4]? = some q4) (hE4 : bs_E E 0 q4 q4') (hn4 : q4'.2.1 = 192) (hW4 : ∀ k, k < 24 → ∀ i, i < 8 → (q4'.2.2 (8 * k + i)).toInt = px_wc k i) (hq6 : E.2[6]? = some q6) (hE6 : bs_E E 1 q6 q6') (hn6 : q6'.2.1 = 9) (hW6 : ∀ i, i < 9 → (q6'.2.2 i).toInt = px_sw i) (hP : bm_P bq_T E h0 h s A L) (hX : A 1 = X) (hlen : (s 2105).toInt = (n : Int)) (hn2 : n ≤ 2000) (hb : ∀ j, j < n → -128 ≤ (X j).toInt ∧ (X j).toInt ≤ 127) (hm : (s 2103).toInt = (m : Int)) (hm4 : m ≤ 400) (hat : (s 2106).toInt = (p : Int)) (hpn : p ≤ n) (hrn : px_rn px_bl X n p = q) (kk : (∀ (h' : mm_H) (s' : Nat → Int32) (kv pv : Int32) (vv : Int64) (r : Int32), bm_P bq_T E h0 h' s' (bh_up (bh_up A 22 m kv) 23 m pv) (bh_upL L 24 m vv) → (s' 2103).toInt = (m : Int) + 1 → (s' 2106).toInt = (px_nx X n q : Nat) → (∀ j, j ≠ 2103 → j ≠ 2106 → s' j = s j) → rc_k (px_kd X n q) (px_vl X n q) kv.toInt vv.toInt → pv.toInt = (q : Nat) → (px_kd X n q = 1 → vv.toInt = (px_nm 32 X n q (px_tl X n q) : Nat)) → ((r.toInt = 1 ∧ px_kd X n q ≠ 0 ∧ px_kd X n q ≠ 3) ∨ (r.toInt = 0 ∧ (px_kd X n q = 0 ∨ px_kd X n q = 3))) → bp_G E PO NN (mm_back (some (.int r)) gs h'))) : bp_G E PO NN ((215, 0, [(0, .ref (E.1 + 21))], [], 0, 0) :: gs, h, none) := by
  exact bt_b hX hlen hn2 hb NN (fun h1 s1 lv o a0 a1 a2 a3 a4 a5 => bt_39 hq4 hE4 hn4 hW4 hq6 hE6 hn6 hW6 hX hlen hn2 hb a0 a1 hm hm4 a2 a3 a4 a5 kk) _ _ _ _ p hP (fun _ _ => rfl) hat hpn hrn rfl
end BTQ
