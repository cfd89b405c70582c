/-! BY HAND: the class's Reader, 4: laws, men, tells (wip/p4/mkc6.py) -/
theorem bu_169_0 : mm_at mt_P 169 0 = some ((0, 1, .aload_n 0, 0, 0, 0, 0), 6, 1, 1, 4, 0, 0, 0) := rfl
theorem bu_169_1 : mm_at mt_P 169 1 = some ((1, 3, .getfield 9, 4, 1, 0, 275), 6, 1, 1, 4, 0, 0, 0) := rfl
theorem bu_169_4 : mm_at mt_P 169 4 = some ((4, 3, .getfield 118, 6, 0, 0, 178), 6, 1, 1, 4, 0, 0, 0) := rfl
theorem bu_169_7 : mm_at mt_P 169 7 = some ((7, 1, .astore_n 2, 0, 0, 0, 0), 6, 1, 1, 4, 0, 0, 0) := rfl
theorem bu_169_8 : mm_at mt_P 169 8 = some ((8, 1, .aload_n 2, 0, 0, 0, 0), 6, 1, 1, 4, 0, 0, 0) := rfl
theorem bu_169_9 : mm_at mt_P 169 9 = some ((9, 3, .invokevirtual 122, 135, 0, 0, 681), 6, 1, 1, 4, 0, 0, 0) := rfl
theorem bu_169_12 : mm_at mt_P 169 12 = some ((12, 1, .istore_n 3, 0, 0, 0, 0), 6, 1, 1, 4, 0, 0, 0) := rfl
theorem bu_169_13 : mm_at mt_P 169 13 = some ((13, 1, .aload_n 0, 0, 0, 0, 0), 6, 1, 1, 4, 0, 0, 0) := rfl
theorem bu_169_14 : mm_at mt_P 169 14 = some ((14, 3, .invokevirtual 49, 161, 0, 0, 633), 6, 1, 1, 4, 0, 0, 0) := rfl
theorem bu_169_17 : mm_at mt_P 169 17 = some ((17, 1, .aload_n 0, 0, 0, 0, 0), 6, 1, 1, 4, 0, 0, 0) := rfl
theorem bu_169_18 : mm_at mt_P 169 18 = some ((18, 2, .bipush 61, 0, 0, 0, 0), 6, 1, 1, 4, 0, 0, 0) := rfl
theorem bu_169_20 : mm_at mt_P 169 20 = some ((20, 3, .invokevirtual 96, 177, 0, 0, 669), 6, 1, 1, 4, 0, 0, 0) := rfl
theorem bu_169_23 : mm_at mt_P 169 23 = some ((23, 1, .iconst 0, 0, 0, 0, 0), 6, 1, 1, 4, 0, 0, 0) := rfl
theorem bu_169_24 : mm_at mt_P 169 24 = some ((24, 2, .istore 4, 0, 0, 0, 0), 6, 1, 1, 4, 0, 0, 0) := rfl
theorem bu_169_26 : mm_at mt_P 169 26 = some ((26, 2, .iload 4, 0, 0, 0, 0), 6, 1, 1, 4, 0, 0, 0) := rfl
theorem bu_169_28 : mm_at mt_P 169 28 = some ((28, 1, .iconst 4, 0, 0, 0, 0), 6, 1, 1, 4, 0, 0, 0) := rfl
theorem bu_169_29 : mm_at mt_P 169 29 = some ((29, 3, .if_icmp .ge 82, 0, 0, 0, 0), 6, 1, 1, 4, 0, 0, 0) := rfl
theorem bu_169_32 : mm_at mt_P 169 32 = some ((32, 1, .aload_n 0, 0, 0, 0, 0), 6, 1, 1, 4, 0, 0, 0) := rfl
theorem bu_169_33 : mm_at mt_P 169 33 = some ((33, 2, .bipush 12, 0, 0, 0, 0), 6, 1, 1, 4, 0, 0, 0) := rfl
theorem bu_169_35 : mm_at mt_P 169 35 = some ((35, 3, .invokevirtual 128, 164, 0, 0, 685), 6, 1, 1, 4, 0, 0, 0) := rfl
theorem bu_169_38 : mm_at mt_P 169 38 = some ((38, 3, .ifCond .eq 73, 0, 0, 0, 0), 6, 1, 1, 4, 0, 0, 0) := rfl
theorem bu_169_41 : mm_at mt_P 169 41 = some ((41, 1, .aload_n 0, 0, 0, 0, 0), 6, 1, 1, 4, 0, 0, 0) := rfl
theorem bu_169_42 : mm_at mt_P 169 42 = some ((42, 3, .invokevirtual 49, 161, 0, 0, 633), 6, 1, 1, 4, 0, 0, 0) := rfl
theorem bu_169_45 : mm_at mt_P 169 45 = some ((45, 1, .aload_n 0, 0, 0, 0, 0), 6, 1, 1, 4, 0, 0, 0) := rfl
theorem bu_169_46 : mm_at mt_P 169 46 = some ((46, 1, .iload_n 1, 0, 0, 0, 0), 6, 1, 1, 4, 0, 0, 0) := rfl
theorem bu_169_47 : mm_at mt_P 169 47 = some ((47, 1, .iconst 0, 0, 0, 0, 0), 6, 1, 1, 4, 0, 0, 0) := rfl
theorem bu_169_48 : mm_at mt_P 169 48 = some ((48, 3, .invokevirtual 132, 172, 0, 0, 689), 6, 1, 1, 4, 0, 0, 0) := rfl
theorem bu_169_51 : mm_at mt_P 169 51 = some ((51, 1, .aload_n 0, 0, 0, 0, 0), 6, 1, 1, 4, 0, 0, 0) := rfl
theorem bu_169_52 : mm_at mt_P 169 52 = some ((52, 2, .bipush 60, 0, 0, 0, 0), 6, 1, 1, 4, 0, 0, 0) := rfl
theorem bu_169_54 : mm_at mt_P 169 54 = some ((54, 3, .invokevirtual 96, 177, 0, 0, 669), 6, 1, 1, 4, 0, 0, 0) := rfl
theorem bu_169_57 : mm_at mt_P 169 57 = some ((57, 1, .aload_n 0, 0, 0, 0, 0), 6, 1, 1, 4, 0, 0, 0) := rfl
theorem bu_169_58 : mm_at mt_P 169 58 = some ((58, 1, .iload_n 1, 0, 0, 0, 0), 6, 1, 1, 4, 0, 0, 0) := rfl
theorem bu_169_59 : mm_at mt_P 169 59 = some ((59, 1, .iconst 0, 0, 0, 0, 0), 6, 1, 1, 4, 0, 0, 0) := rfl
theorem bu_169_60 : mm_at mt_P 169 60 = some ((60, 3, .invokevirtual 132, 172, 0, 0, 689), 6, 1, 1, 4, 0, 0, 0) := rfl
theorem bu_169_63 : mm_at mt_P 169 63 = some ((63, 1, .aload_n 2, 0, 0, 0, 0), 6, 1, 1, 4, 0, 0, 0) := rfl
theorem bu_169_64 : mm_at mt_P 169 64 = some ((64, 3, .invokevirtual 122, 135, 0, 0, 681), 6, 1, 1, 4, 0, 0, 0) := rfl
theorem bu_169_67 : mm_at mt_P 169 67 = some ((67, 2, .istore 5, 0, 0, 0, 0), 6, 1, 1, 4, 0, 0, 0) := rfl
theorem bu_169_69 : mm_at mt_P 169 69 = some ((69, 1, .aload_n 2, 0, 0, 0, 0), 6, 1, 1, 4, 0, 0, 0) := rfl
theorem bu_169_70 : mm_at mt_P 169 70 = some ((70, 1, .iconst 3, 0, 0, 0, 0), 6, 1, 1, 4, 0, 0, 0) := rfl
theorem bu_169_71 : mm_at mt_P 169 71 = some ((71, 1, .iconst 0, 0, 0, 0, 0), 6, 1, 1, 4, 0, 0, 0) := rfl
theorem bu_169_72 : mm_at mt_P 169 72 = some ((72, 3, .invokevirtual 135, 136, 0, 0, 697), 6, 1, 1, 4, 0, 0, 0) := rfl
theorem bu_169_75 : mm_at mt_P 169 75 = some ((75, 1, .aload_n 0, 0, 0, 0, 0), 6, 1, 1, 4, 0, 0, 0) := rfl
theorem bu_169_76 : mm_at mt_P 169 76 = some ((76, 2, .bipush 13, 0, 0, 0, 0), 6, 1, 1, 4, 0, 0, 0) := rfl
theorem bu_169_78 : mm_at mt_P 169 78 = some ((78, 3, .invokevirtual 138, 178, 0, 0, 710), 6, 1, 1, 4, 0, 0, 0) := rfl
theorem bu_169_81 : mm_at mt_P 169 81 = some ((81, 1, .aload_n 0, 0, 0, 0, 0), 6, 1, 1, 4, 0, 0, 0) := rfl
theorem bu_169_82 : mm_at mt_P 169 82 = some ((82, 1, .iload_n 1, 0, 0, 0, 0), 6, 1, 1, 4, 0, 0, 0) := rfl
theorem bu_169_83 : mm_at mt_P 169 83 = some ((83, 1, .iconst 0, 0, 0, 0, 0), 6, 1, 1, 4, 0, 0, 0) := rfl
theorem bu_169_84 : mm_at mt_P 169 84 = some ((84, 3, .invokevirtual 132, 172, 0, 0, 689), 6, 1, 1, 4, 0, 0, 0) := rfl
theorem bu_169_87 : mm_at mt_P 169 87 = some ((87, 1, .aload_n 2, 0, 0, 0, 0), 6, 1, 1, 4, 0, 0, 0) := rfl
theorem bu_169_88 : mm_at mt_P 169 88 = some ((88, 1, .iconst 2, 0, 0, 0, 0), 6, 1, 1, 4, 0, 0, 0) := rfl
theorem bu_169_89 : mm_at mt_P 169 89 = some ((89, 1, .iconst 0, 0, 0, 0, 0), 6, 1, 1, 4, 0, 0, 0) := rfl
theorem bu_169_90 : mm_at mt_P 169 90 = some ((90, 3, .invokevirtual 135, 136, 0, 0, 697), 6, 1, 1, 4, 0, 0, 0) := rfl
theorem bu_169_93 : mm_at mt_P 169 93 = some ((93, 1, .aload_n 2, 0, 0, 0, 0), 6, 1, 1, 4, 0, 0, 0) := rfl
theorem bu_169_94 : mm_at mt_P 169 94 = some ((94, 2, .iload 5, 0, 0, 0, 0), 6, 1, 1, 4, 0, 0, 0) := rfl
theorem bu_169_96 : mm_at mt_P 169 96 = some ((96, 3, .invokevirtual 141, 132, 0, 0, 714), 6, 1, 1, 4, 0, 0, 0) := rfl
theorem bu_169_99 : mm_at mt_P 169 99 = some ((99, 1, .aload_n 0, 0, 0, 0, 0), 6, 1, 1, 4, 0, 0, 0) := rfl
theorem bu_169_100 : mm_at mt_P 169 100 = some ((100, 2, .bipush 14, 0, 0, 0, 0), 6, 1, 1, 4, 0, 0, 0) := rfl
theorem bu_169_102 : mm_at mt_P 169 102 = some ((102, 3, .invokevirtual 138, 178, 0, 0, 710), 6, 1, 1, 4, 0, 0, 0) := rfl
theorem bu_169_105 : mm_at mt_P 169 105 = some ((105, 3, .iinc 4 1, 0, 0, 0, 0), 6, 1, 1, 4, 0, 0, 0) := rfl
theorem bu_169_108 : mm_at mt_P 169 108 = some ((108, 3, .goto (-82), 0, 0, 0, 0), 6, 1, 1, 4, 0, 0, 0) := rfl
theorem bu_169_111 : mm_at mt_P 169 111 = some ((111, 1, .aload_n 0, 0, 0, 0, 0), 6, 1, 1, 4, 0, 0, 0) := rfl
theorem bu_169_112 : mm_at mt_P 169 112 = some ((112, 2, .bipush 12, 0, 0, 0, 0), 6, 1, 1, 4, 0, 0, 0) := rfl
theorem bu_169_114 : mm_at mt_P 169 114 = some ((114, 3, .invokevirtual 128, 164, 0, 0, 685), 6, 1, 1, 4, 0, 0, 0) := rfl
theorem bu_169_117 : mm_at mt_P 169 117 = some ((117, 3, .ifCond .eq 8, 0, 0, 0, 0), 6, 1, 1, 4, 0, 0, 0) := rfl
theorem bu_169_120 : mm_at mt_P 169 120 = some ((120, 1, .aload_n 0, 0, 0, 0, 0), 6, 1, 1, 4, 0, 0, 0) := rfl
theorem bu_169_121 : mm_at mt_P 169 121 = some ((121, 1, .iconst 2, 0, 0, 0, 0), 6, 1, 1, 4, 0, 0, 0) := rfl
theorem bu_169_122 : mm_at mt_P 169 122 = some ((122, 3, .invokevirtual 71, 176, 0, 0, 645), 6, 1, 1, 4, 0, 0, 0) := rfl
theorem bu_169_125 : mm_at mt_P 169 125 = some ((125, 1, .aload_n 0, 0, 0, 0, 0), 6, 1, 1, 4, 0, 0, 0) := rfl
theorem bu_169_126 : mm_at mt_P 169 126 = some ((126, 1, .iload_n 1, 0, 0, 0, 0), 6, 1, 1, 4, 0, 0, 0) := rfl
theorem bu_169_127 : mm_at mt_P 169 127 = some ((127, 1, .iconst 0, 0, 0, 0, 0), 6, 1, 1, 4, 0, 0, 0) := rfl
theorem bu_169_128 : mm_at mt_P 169 128 = some ((128, 3, .invokevirtual 132, 172, 0, 0, 689), 6, 1, 1, 4, 0, 0, 0) := rfl
theorem bu_169_131 : mm_at mt_P 169 131 = some ((131, 1, .aload_n 2, 0, 0, 0, 0), 6, 1, 1, 4, 0, 0, 0) := rfl
theorem bu_169_132 : mm_at mt_P 169 132 = some ((132, 1, .iconst 2, 0, 0, 0, 0), 6, 1, 1, 4, 0, 0, 0) := rfl
theorem bu_169_133 : mm_at mt_P 169 133 = some ((133, 1, .iconst 0, 0, 0, 0, 0), 6, 1, 1, 4, 0, 0, 0) := rfl
theorem bu_169_134 : mm_at mt_P 169 134 = some ((134, 3, .invokevirtual 135, 136, 0, 0, 697), 6, 1, 1, 4, 0, 0, 0) := rfl
theorem bu_169_137 : mm_at mt_P 169 137 = some ((137, 1, .aload_n 2, 0, 0, 0, 0), 6, 1, 1, 4, 0, 0, 0) := rfl
theorem bu_169_138 : mm_at mt_P 169 138 = some ((138, 1, .iload_n 1, 0, 0, 0, 0), 6, 1, 1, 4, 0, 0, 0) := rfl
theorem bu_169_139 : mm_at mt_P 169 139 = some ((139, 1, .iload_n 3, 0, 0, 0, 0), 6, 1, 1, 4, 0, 0, 0) := rfl
theorem bu_169_140 : mm_at mt_P 169 140 = some ((140, 3, .invokevirtual 144, 144, 0, 0, 718), 6, 1, 1, 4, 0, 0, 0) := rfl
theorem bu_169_143 : mm_at mt_P 169 143 = some ((143, 1, .aload_n 0, 0, 0, 0, 0), 6, 1, 1, 4, 0, 0, 0) := rfl
theorem bu_169_144 : mm_at mt_P 169 144 = some ((144, 2, .bipush 59, 0, 0, 0, 0), 6, 1, 1, 4, 0, 0, 0) := rfl
theorem bu_169_146 : mm_at mt_P 169 146 = some ((146, 3, .invokevirtual 96, 177, 0, 0, 669), 6, 1, 1, 4, 0, 0, 0) := rfl
theorem bu_169_149 : mm_at mt_P 169 149 = some ((149, 1, .return_, 0, 0, 0, 0), 6, 1, 1, 4, 0, 0, 0) := rfl
section CR
variable {K V P : Nat → Int} {σ : py_S} {N : Nat} {E : mm_E} {PO : mm_C → Prop} {NN : Nat} {h0 h : mm_H} {s : Nat → Int32} {A : Nat → Nat → Int32} {L : Nat → Nat → Int64} {gs : List mm_F}
set_option maxHeartbeats 4000000 in
theorem cr_169l {x9 y9 l f9 : Int32} (hS : ∀ ρ, en_SA E ρ (wl_o x9 y9) mt_SB) {s0 : Nat → Int32} {A0 : Nat → Nat → Int32} {L0 : Nat → Nat → Int64} (hT : rc_T K V P N s0 A0 L0) (hd : gs.length + 40 ≤ 999) : ∀ (c : Nat) (h : mm_H) (s : Nat → Int32) (A : Nat → Nat → Int32) (L : Nat → Nat → Int64) (σ : py_S) (lv : mm_V) (o : Option Value) (i : Int32), bm_P bq_T E h0 h s A L → rc_F s0 A0 L0 s A L → rc_R K V P N σ s L → (0 ≤ (s 1204).toInt ∧ (s 1204).toInt ≤ 432 ∧ 0 ≤ (s 1104).toInt ∧ (s 1104).toInt ≤ 6) → mm_get lv 0 = some (.ref (E.1 + 20)) → mm_get lv 1 = some (.int l) → mm_get lv 2 = some (.ref (E.1 + 12)) → mm_get lv 3 = some (.int f9) → mm_get lv 4 = some (.int i) → i.toInt = 4 - (c : Int) → 0 ≤ i.toInt → (∀ (h' : mm_H) (s' : Nat → Int32) (A' : Nat → Nat → Int32) (L' : Nat → Nat → Int64), bm_P bq_T E h0 h' s' A' L' → rc_F s0 A0 L0 s' A' L' → rc_R K V P N (py_mu K 4 (py_x K true 0 (py_ifs K c σ))) s' L' → bp_G E PO NN (mm_back none gs h')) → bp_G E PO NN ((169, 26, lv, [], 0, 0) :: gs, h, o) := by
  intro c
  induction c with
  | zero =>
    intro h s A L σ lv o i hP hF hR hc g0 g1 g2 g3 g4 hi i0 kk
    have q1 := hR.1
    have q2 := fun e => (hR.2.1 e).2.2.1
    have q3 := fun e => (hR.2.2 e).1
    unfold rc_k at q2
    refine bp_ld (pc' := 28) bu_169_26 rfl rfl (fun _ _ _ => rfl) g4 rfl ?_
    refine bp_c (pc' := 29) (n := 4) bu_169_28 rfl rfl (fun _ _ _ => rfl) (by decide) (fun c1253 e1254 => ?_)
    refine bp_ic (pc' := 32) (pt := 111) bu_169_29 rfl rfl (fun k1255 => ?_) (fun k1255 => ?_)
    · replace k1255 : (c1253).toInt ≤ (i).toInt := k1255
      refine bp_ld (pc' := 112) bu_169_111 rfl rfl (fun _ _ _ => rfl) g0 rfl ?_
      refine bp_c (pc' := 114) (n := 12) bu_169_112 rfl rfl (fun _ _ _ => rfl) (by decide) (fun c1256 e1257 => ?_)
      refine bn_cv (pc' := 117) (st := []) (args := [.int c1256]) bu_169_114 rfl rfl rfl (by decide) hP bq_o20 (by decide) (by omega) rfl (Nat.le_of_ble_eq_true rfl) (Nat.le_of_ble_eq_true rfl) ?_
      refine cr_164 (c := c1256) hP (fun r1258 p1259 => ?_)
      show bp_G E PO NN ((169, 117, lv, [.int r1258], 0, 0) :: gs, h, none)
      refine bp_i0 (pc' := 120) (pt := 125) bu_169_117 rfl rfl (fun k1260 => ?_) (fun k1260 => ?_)
      · replace k1260 : (r1258).toInt = 0 := k1260
        refine bp_ld (pc' := 126) bu_169_125 rfl rfl (fun _ _ _ => rfl) g0 rfl ?_
        refine bp_ld (pc' := 127) bu_169_126 rfl rfl (fun _ _ _ => rfl) g1 rfl ?_
        refine bp_c (pc' := 128) (n := 0) bu_169_127 rfl rfl (fun _ _ _ => rfl) (by decide) (fun c1261 e1262 => ?_)
        refine bn_cv (pc' := 131) (st := []) (args := [.int c1261, .int l]) bu_169_128 rfl rfl rfl (by decide) hP bq_o20 (by decide) (by omega) rfl (Nat.le_of_ble_eq_true rfl) (Nat.le_of_ble_eq_true rfl) ?_
        refine cr_sum hS 6 0 rfl σ _ _ _ _ _ _ _ (by omega) (by simp only [List.length_cons]; omega) hP hR (rc_T_F hT hF) hc (fun h1263 s1264 A1265 L1266 σ1270 hP1267 F1268 R1269 Y1271 => ?_)
        have e1272 : py_x K true 0 σ = σ1270 := Y1271.1.trans (py_x_z (fun u => ⟨(R1269.2.1 u).2.1.1, (Y1271.2 u).2.2 rfl⟩))
        subst e1272
        show bp_G E PO NN ((169, 131, lv, [], 0, 0) :: gs, h1263, none)
        refine bp_ld (pc' := 132) bu_169_131 rfl rfl (fun _ _ _ => rfl) g2 rfl ?_
        refine bp_c (pc' := 133) (n := 2) bu_169_132 rfl rfl (fun _ _ _ => rfl) (by decide) (fun c1273 e1274 => ?_)
        refine bp_c (pc' := 134) (n := 0) bu_169_133 rfl rfl (fun _ _ _ => rfl) (by decide) (fun c1275 e1276 => ?_)
        refine bn_cv (pc' := 137) (st := []) (args := [.int c1275, .int c1273]) bu_169_134 rfl rfl rfl (by decide) hP1267 bq_o12 (by decide) (by omega) rfl (Nat.le_of_ble_eq_true rfl) (Nat.le_of_ble_eq_true rfl) ?_
        refine cr_136 hP1267 (F1268.2.2.2 hc) (fun h1277 s1278 A1279 hP1280 f1281 a1282 z1283 => ?_)
        show bp_G E PO NN ((169, 137, lv, [], 0, 0) :: gs, h1277, none)
        refine bp_ld (pc' := 138) bu_169_137 rfl rfl (fun _ _ _ => rfl) g2 rfl ?_
        refine bp_ld (pc' := 139) bu_169_138 rfl rfl (fun _ _ _ => rfl) g1 rfl ?_
        refine bp_ld (pc' := 140) bu_169_139 rfl rfl (fun _ _ _ => rfl) g3 rfl ?_
        refine bn_cv (pc' := 143) (st := []) (args := [.int f9, .int l]) bu_169_140 rfl rfl rfl (by decide) hP1280 bq_o12 (by decide) (by omega) rfl (Nat.le_of_ble_eq_true rfl) (Nat.le_of_ble_eq_true rfl) ?_
        refine cr_144 hP1280 z1283 (fun h1284 s1285 A1286 hP1287 f1288 a1289 z1290 => ?_)
        show bp_G E PO NN ((169, 143, lv, [], 0, 0) :: gs, h1284, none)
        refine bp_ld (pc' := 144) bu_169_143 rfl rfl (fun _ _ _ => rfl) g0 rfl ?_
        refine bp_c (pc' := 146) (n := 59) bu_169_144 rfl rfl (fun _ _ _ => rfl) (by decide) (fun c1291 e1292 => ?_)
        refine bn_cv (pc' := 149) (st := []) (args := [.int c1291]) bu_169_146 rfl rfl rfl (by decide) hP1287 bq_o20 (by decide) (by omega) rfl (Nat.le_of_ble_eq_true rfl) (Nat.le_of_ble_eq_true rfl) ?_
        refine cr_177 (σ := (py_x K true 0 σ)) (kc := 4) (by omega) hP1287 (by simp only [List.length_cons]; omega) (rc_R_e (rc_R_e R1269 f1281) f1288) (rc_T_F hT (rc_F_t (rc_F_t (rc_F_t hF F1268) (rc_F_e f1281 a1282 z1283)) (rc_F_e f1288 a1289 z1290))) (fun h1293 s1294 A1295 L1296 hP1297 F1298 R1299 => ?_)
        show bp_G E PO NN ((169, 149, lv, [], 0, 0) :: gs, h1293, none)
        refine bp_rv bu_169_149 ?_
        have ee : py_ifs K 0 σ = σ := if_neg (fun hh => by
          have q2 := q2 hh.1
          have q4 := hh.2
          omega)
        exact kk _ _ _ _ hP1297 (rc_F_t (rc_F_t (rc_F_t (rc_F_t hF F1268) (rc_F_e f1281 a1282 z1283)) (rc_F_e f1288 a1289 z1290)) F1298) (by rw [ee]; exact R1299)
      · replace k1260 : ¬ ((r1258).toInt = 0) := k1260
        have hf : σ.2.1 = 0 := by
          by_cases e : σ.2.1 = 0
          · exact e
          · have := q3 e
            omega
        have q2' := q2 hf
        have hk : K σ.1 = 32 := by omega
        refine bp_ld (pc' := 121) bu_169_120 rfl rfl (fun _ _ _ => rfl) g0 rfl ?_
        refine bp_c (pc' := 122) (n := 2) bu_169_121 rfl rfl (fun _ _ _ => rfl) (by decide) (fun c1300 e1301 => ?_)
        refine bn_cv (pc' := 125) (st := []) (args := [.int c1300]) bu_169_122 rfl rfl rfl (by decide) hP bq_o20 (by decide) (by omega) rfl (Nat.le_of_ble_eq_true rfl) (Nat.le_of_ble_eq_true rfl) ?_
        refine cr_176 (σ := σ) (kn := 2) (by omega) (by decide) hP hR (fun h1302 s1303 A1304 L1305 hP1306 F1307 R1308 => ?_)
        show bp_G E PO NN ((169, 125, lv, [], 0, 0) :: gs, h1302, none)
        refine bp_ld (pc' := 126) bu_169_125 rfl rfl (fun _ _ _ => rfl) g0 rfl ?_
        refine bp_ld (pc' := 127) bu_169_126 rfl rfl (fun _ _ _ => rfl) g1 rfl ?_
        refine bp_c (pc' := 128) (n := 0) bu_169_127 rfl rfl (fun _ _ _ => rfl) (by decide) (fun c1309 e1310 => ?_)
        refine bn_cv (pc' := 131) (st := []) (args := [.int c1309, .int l]) bu_169_128 rfl rfl rfl (by decide) hP1306 bq_o20 (by decide) (by omega) rfl (Nat.le_of_ble_eq_true rfl) (Nat.le_of_ble_eq_true rfl) ?_
        refine cr_sum hS 6 0 rfl (py_fl 2 σ) _ _ _ _ _ _ _ (by omega) (by simp only [List.length_cons]; omega) hP1306 R1308 (rc_T_F hT (rc_F_t hF F1307)) (F1307.2.2.2 hc) (fun h1311 s1312 A1313 L1314 σ1318 hP1315 F1316 R1317 Y1319 => ?_)
        have e1320 : py_x K true 0 (py_fl 2 σ) = σ1318 := Y1319.1.trans (py_x_z (fun u => ⟨(R1317.2.1 u).2.1.1, (Y1319.2 u).2.2 rfl⟩))
        subst e1320
        show bp_G E PO NN ((169, 131, lv, [], 0, 0) :: gs, h1311, none)
        refine bp_ld (pc' := 132) bu_169_131 rfl rfl (fun _ _ _ => rfl) g2 rfl ?_
        refine bp_c (pc' := 133) (n := 2) bu_169_132 rfl rfl (fun _ _ _ => rfl) (by decide) (fun c1321 e1322 => ?_)
        refine bp_c (pc' := 134) (n := 0) bu_169_133 rfl rfl (fun _ _ _ => rfl) (by decide) (fun c1323 e1324 => ?_)
        refine bn_cv (pc' := 137) (st := []) (args := [.int c1323, .int c1321]) bu_169_134 rfl rfl rfl (by decide) hP1315 bq_o12 (by decide) (by omega) rfl (Nat.le_of_ble_eq_true rfl) (Nat.le_of_ble_eq_true rfl) ?_
        refine cr_136 hP1315 (F1316.2.2.2 (F1307.2.2.2 hc)) (fun h1325 s1326 A1327 hP1328 f1329 a1330 z1331 => ?_)
        show bp_G E PO NN ((169, 137, lv, [], 0, 0) :: gs, h1325, none)
        refine bp_ld (pc' := 138) bu_169_137 rfl rfl (fun _ _ _ => rfl) g2 rfl ?_
        refine bp_ld (pc' := 139) bu_169_138 rfl rfl (fun _ _ _ => rfl) g1 rfl ?_
        refine bp_ld (pc' := 140) bu_169_139 rfl rfl (fun _ _ _ => rfl) g3 rfl ?_
        refine bn_cv (pc' := 143) (st := []) (args := [.int f9, .int l]) bu_169_140 rfl rfl rfl (by decide) hP1328 bq_o12 (by decide) (by omega) rfl (Nat.le_of_ble_eq_true rfl) (Nat.le_of_ble_eq_true rfl) ?_
        refine cr_144 hP1328 z1331 (fun h1332 s1333 A1334 hP1335 f1336 a1337 z1338 => ?_)
        show bp_G E PO NN ((169, 143, lv, [], 0, 0) :: gs, h1332, none)
        refine bp_ld (pc' := 144) bu_169_143 rfl rfl (fun _ _ _ => rfl) g0 rfl ?_
        refine bp_c (pc' := 146) (n := 59) bu_169_144 rfl rfl (fun _ _ _ => rfl) (by decide) (fun c1339 e1340 => ?_)
        refine bn_cv (pc' := 149) (st := []) (args := [.int c1339]) bu_169_146 rfl rfl rfl (by decide) hP1335 bq_o20 (by decide) (by omega) rfl (Nat.le_of_ble_eq_true rfl) (Nat.le_of_ble_eq_true rfl) ?_
        refine cr_177 (σ := (py_x K true 0 (py_fl 2 σ))) (kc := 4) (by omega) hP1335 (by simp only [List.length_cons]; omega) (rc_R_e (rc_R_e R1317 f1329) f1336) (rc_T_F hT (rc_F_t (rc_F_t (rc_F_t (rc_F_t hF F1307) F1316) (rc_F_e f1329 a1330 z1331)) (rc_F_e f1336 a1337 z1338))) (fun h1341 s1342 A1343 L1344 hP1345 F1346 R1347 => ?_)
        show bp_G E PO NN ((169, 149, lv, [], 0, 0) :: gs, h1341, none)
        refine bp_rv bu_169_149 ?_
        have ee : py_ifs K 0 σ = py_fl 2 σ := if_pos ⟨hf, hk⟩
        exact kk _ _ _ _ hP1345 (rc_F_t (rc_F_t (rc_F_t (rc_F_t (rc_F_t hF F1307) F1316) (rc_F_e f1329 a1330 z1331)) (rc_F_e f1336 a1337 z1338)) F1346) (by rw [ee]; exact R1347)
    · replace k1255 : ¬ ((c1253).toInt ≤ (i).toInt) := k1255
      exfalso
      omega
  | succ c ih =>
    intro h s A L σ lv o i hP hF hR hc g0 g1 g2 g3 g4 hi i0 kk
    have q1 := hR.1
    have q2 := fun e => (hR.2.1 e).2.2.1
    have q3 := fun e => (hR.2.2 e).1
    unfold rc_k at q2
    refine bp_ld (pc' := 28) bu_169_26 rfl rfl (fun _ _ _ => rfl) g4 rfl ?_
    refine bp_c (pc' := 29) (n := 4) bu_169_28 rfl rfl (fun _ _ _ => rfl) (by decide) (fun c1348 e1349 => ?_)
    refine bp_ic (pc' := 32) (pt := 111) bu_169_29 rfl rfl (fun k1350 => ?_) (fun k1350 => ?_)
    · replace k1350 : (c1348).toInt ≤ (i).toInt := k1350
      refine bp_ld (pc' := 112) bu_169_111 rfl rfl (fun _ _ _ => rfl) g0 rfl ?_
      refine bp_c (pc' := 114) (n := 12) bu_169_112 rfl rfl (fun _ _ _ => rfl) (by decide) (fun c1351 e1352 => ?_)
      refine bn_cv (pc' := 117) (st := []) (args := [.int c1351]) bu_169_114 rfl rfl rfl (by decide) hP bq_o20 (by decide) (by omega) rfl (Nat.le_of_ble_eq_true rfl) (Nat.le_of_ble_eq_true rfl) ?_
      refine cr_164 (c := c1351) hP (fun r1353 p1354 => ?_)
      show bp_G E PO NN ((169, 117, lv, [.int r1353], 0, 0) :: gs, h, none)
      refine bp_i0 (pc' := 120) (pt := 125) bu_169_117 rfl rfl (fun k1355 => ?_) (fun k1355 => ?_)
      · replace k1355 : (r1353).toInt = 0 := k1355
        refine bp_ld (pc' := 126) bu_169_125 rfl rfl (fun _ _ _ => rfl) g0 rfl ?_
        refine bp_ld (pc' := 127) bu_169_126 rfl rfl (fun _ _ _ => rfl) g1 rfl ?_
        refine bp_c (pc' := 128) (n := 0) bu_169_127 rfl rfl (fun _ _ _ => rfl) (by decide) (fun c1356 e1357 => ?_)
        refine bn_cv (pc' := 131) (st := []) (args := [.int c1356, .int l]) bu_169_128 rfl rfl rfl (by decide) hP bq_o20 (by decide) (by omega) rfl (Nat.le_of_ble_eq_true rfl) (Nat.le_of_ble_eq_true rfl) ?_
        refine cr_sum hS 6 0 rfl σ _ _ _ _ _ _ _ (by omega) (by simp only [List.length_cons]; omega) hP hR (rc_T_F hT hF) hc (fun h1358 s1359 A1360 L1361 σ1365 hP1362 F1363 R1364 Y1366 => ?_)
        have e1367 : py_x K true 0 σ = σ1365 := Y1366.1.trans (py_x_z (fun u => ⟨(R1364.2.1 u).2.1.1, (Y1366.2 u).2.2 rfl⟩))
        subst e1367
        show bp_G E PO NN ((169, 131, lv, [], 0, 0) :: gs, h1358, none)
        refine bp_ld (pc' := 132) bu_169_131 rfl rfl (fun _ _ _ => rfl) g2 rfl ?_
        refine bp_c (pc' := 133) (n := 2) bu_169_132 rfl rfl (fun _ _ _ => rfl) (by decide) (fun c1368 e1369 => ?_)
        refine bp_c (pc' := 134) (n := 0) bu_169_133 rfl rfl (fun _ _ _ => rfl) (by decide) (fun c1370 e1371 => ?_)
        refine bn_cv (pc' := 137) (st := []) (args := [.int c1370, .int c1368]) bu_169_134 rfl rfl rfl (by decide) hP1362 bq_o12 (by decide) (by omega) rfl (Nat.le_of_ble_eq_true rfl) (Nat.le_of_ble_eq_true rfl) ?_
        refine cr_136 hP1362 (F1363.2.2.2 hc) (fun h1372 s1373 A1374 hP1375 f1376 a1377 z1378 => ?_)
        show bp_G E PO NN ((169, 137, lv, [], 0, 0) :: gs, h1372, none)
        refine bp_ld (pc' := 138) bu_169_137 rfl rfl (fun _ _ _ => rfl) g2 rfl ?_
        refine bp_ld (pc' := 139) bu_169_138 rfl rfl (fun _ _ _ => rfl) g1 rfl ?_
        refine bp_ld (pc' := 140) bu_169_139 rfl rfl (fun _ _ _ => rfl) g3 rfl ?_
        refine bn_cv (pc' := 143) (st := []) (args := [.int f9, .int l]) bu_169_140 rfl rfl rfl (by decide) hP1375 bq_o12 (by decide) (by omega) rfl (Nat.le_of_ble_eq_true rfl) (Nat.le_of_ble_eq_true rfl) ?_
        refine cr_144 hP1375 z1378 (fun h1379 s1380 A1381 hP1382 f1383 a1384 z1385 => ?_)
        show bp_G E PO NN ((169, 143, lv, [], 0, 0) :: gs, h1379, none)
        refine bp_ld (pc' := 144) bu_169_143 rfl rfl (fun _ _ _ => rfl) g0 rfl ?_
        refine bp_c (pc' := 146) (n := 59) bu_169_144 rfl rfl (fun _ _ _ => rfl) (by decide) (fun c1386 e1387 => ?_)
        refine bn_cv (pc' := 149) (st := []) (args := [.int c1386]) bu_169_146 rfl rfl rfl (by decide) hP1382 bq_o20 (by decide) (by omega) rfl (Nat.le_of_ble_eq_true rfl) (Nat.le_of_ble_eq_true rfl) ?_
        refine cr_177 (σ := (py_x K true 0 σ)) (kc := 4) (by omega) hP1382 (by simp only [List.length_cons]; omega) (rc_R_e (rc_R_e R1364 f1376) f1383) (rc_T_F hT (rc_F_t (rc_F_t (rc_F_t hF F1363) (rc_F_e f1376 a1377 z1378)) (rc_F_e f1383 a1384 z1385))) (fun h1388 s1389 A1390 L1391 hP1392 F1393 R1394 => ?_)
        show bp_G E PO NN ((169, 149, lv, [], 0, 0) :: gs, h1388, none)
        refine bp_rv bu_169_149 ?_
        have ee : py_ifs K (c + 1) σ = σ := if_neg (fun hh => by
          have q2 := q2 hh.1
          have q4 := hh.2
          omega)
        exact kk _ _ _ _ hP1392 (rc_F_t (rc_F_t (rc_F_t (rc_F_t hF F1363) (rc_F_e f1376 a1377 z1378)) (rc_F_e f1383 a1384 z1385)) F1393) (by rw [ee]; exact R1394)
      · replace k1355 : ¬ ((r1353).toInt = 0) := k1355
        refine bp_ld (pc' := 121) bu_169_120 rfl rfl (fun _ _ _ => rfl) g0 rfl ?_
        refine bp_c (pc' := 122) (n := 2) bu_169_121 rfl rfl (fun _ _ _ => rfl) (by decide) (fun c1395 e1396 => ?_)
        refine bn_cv (pc' := 125) (st := []) (args := [.int c1395]) bu_169_122 rfl rfl rfl (by decide) hP bq_o20 (by decide) (by omega) rfl (Nat.le_of_ble_eq_true rfl) (Nat.le_of_ble_eq_true rfl) ?_
        refine cr_176 (σ := σ) (kn := 2) (by omega) (by decide) hP hR (fun h1397 s1398 A1399 L1400 hP1401 F1402 R1403 => ?_)
        show bp_G E PO NN ((169, 125, lv, [], 0, 0) :: gs, h1397, none)
        refine bp_ld (pc' := 126) bu_169_125 rfl rfl (fun _ _ _ => rfl) g0 rfl ?_
        refine bp_ld (pc' := 127) bu_169_126 rfl rfl (fun _ _ _ => rfl) g1 rfl ?_
        refine bp_c (pc' := 128) (n := 0) bu_169_127 rfl rfl (fun _ _ _ => rfl) (by decide) (fun c1404 e1405 => ?_)
        refine bn_cv (pc' := 131) (st := []) (args := [.int c1404, .int l]) bu_169_128 rfl rfl rfl (by decide) hP1401 bq_o20 (by decide) (by omega) rfl (Nat.le_of_ble_eq_true rfl) (Nat.le_of_ble_eq_true rfl) ?_
        refine cr_sum hS 6 0 rfl (py_fl 2 σ) _ _ _ _ _ _ _ (by omega) (by simp only [List.length_cons]; omega) hP1401 R1403 (rc_T_F hT (rc_F_t hF F1402)) (F1402.2.2.2 hc) (fun h1406 s1407 A1408 L1409 σ1413 hP1410 F1411 R1412 Y1414 => ?_)
        have e1415 : py_x K true 0 (py_fl 2 σ) = σ1413 := Y1414.1.trans (py_x_z (fun u => ⟨(R1412.2.1 u).2.1.1, (Y1414.2 u).2.2 rfl⟩))
        subst e1415
        show bp_G E PO NN ((169, 131, lv, [], 0, 0) :: gs, h1406, none)
        refine bp_ld (pc' := 132) bu_169_131 rfl rfl (fun _ _ _ => rfl) g2 rfl ?_
        refine bp_c (pc' := 133) (n := 2) bu_169_132 rfl rfl (fun _ _ _ => rfl) (by decide) (fun c1416 e1417 => ?_)
        refine bp_c (pc' := 134) (n := 0) bu_169_133 rfl rfl (fun _ _ _ => rfl) (by decide) (fun c1418 e1419 => ?_)
        refine bn_cv (pc' := 137) (st := []) (args := [.int c1418, .int c1416]) bu_169_134 rfl rfl rfl (by decide) hP1410 bq_o12 (by decide) (by omega) rfl (Nat.le_of_ble_eq_true rfl) (Nat.le_of_ble_eq_true rfl) ?_
        refine cr_136 hP1410 (F1411.2.2.2 (F1402.2.2.2 hc)) (fun h1420 s1421 A1422 hP1423 f1424 a1425 z1426 => ?_)
        show bp_G E PO NN ((169, 137, lv, [], 0, 0) :: gs, h1420, none)
        refine bp_ld (pc' := 138) bu_169_137 rfl rfl (fun _ _ _ => rfl) g2 rfl ?_
        refine bp_ld (pc' := 139) bu_169_138 rfl rfl (fun _ _ _ => rfl) g1 rfl ?_
        refine bp_ld (pc' := 140) bu_169_139 rfl rfl (fun _ _ _ => rfl) g3 rfl ?_
        refine bn_cv (pc' := 143) (st := []) (args := [.int f9, .int l]) bu_169_140 rfl rfl rfl (by decide) hP1423 bq_o12 (by decide) (by omega) rfl (Nat.le_of_ble_eq_true rfl) (Nat.le_of_ble_eq_true rfl) ?_
        refine cr_144 hP1423 z1426 (fun h1427 s1428 A1429 hP1430 f1431 a1432 z1433 => ?_)
        show bp_G E PO NN ((169, 143, lv, [], 0, 0) :: gs, h1427, none)
        refine bp_ld (pc' := 144) bu_169_143 rfl rfl (fun _ _ _ => rfl) g0 rfl ?_
        refine bp_c (pc' := 146) (n := 59) bu_169_144 rfl rfl (fun _ _ _ => rfl) (by decide) (fun c1434 e1435 => ?_)
        refine bn_cv (pc' := 149) (st := []) (args := [.int c1434]) bu_169_146 rfl rfl rfl (by decide) hP1430 bq_o20 (by decide) (by omega) rfl (Nat.le_of_ble_eq_true rfl) (Nat.le_of_ble_eq_true rfl) ?_
        refine cr_177 (σ := (py_x K true 0 (py_fl 2 σ))) (kc := 4) (by omega) hP1430 (by simp only [List.length_cons]; omega) (rc_R_e (rc_R_e R1412 f1424) f1431) (rc_T_F hT (rc_F_t (rc_F_t (rc_F_t (rc_F_t hF F1402) F1411) (rc_F_e f1424 a1425 z1426)) (rc_F_e f1431 a1432 z1433))) (fun h1436 s1437 A1438 L1439 hP1440 F1441 R1442 => ?_)
        show bp_G E PO NN ((169, 149, lv, [], 0, 0) :: gs, h1436, none)
        refine bp_rv bu_169_149 ?_
        exfalso
        omega
    · replace k1350 : ¬ ((c1348).toInt ≤ (i).toInt) := k1350
      refine bp_ld (pc' := 33) bu_169_32 rfl rfl (fun _ _ _ => rfl) g0 rfl ?_
      refine bp_c (pc' := 35) (n := 12) bu_169_33 rfl rfl (fun _ _ _ => rfl) (by decide) (fun c1443 e1444 => ?_)
      refine bn_cv (pc' := 38) (st := []) (args := [.int c1443]) bu_169_35 rfl rfl rfl (by decide) hP bq_o20 (by decide) (by omega) rfl (Nat.le_of_ble_eq_true rfl) (Nat.le_of_ble_eq_true rfl) ?_
      refine cr_164 (c := c1443) hP (fun r1445 p1446 => ?_)
      show bp_G E PO NN ((169, 38, lv, [.int r1445], 0, 0) :: gs, h, none)
      refine bp_i0 (pc' := 41) (pt := 111) bu_169_38 rfl rfl (fun k1447 => ?_) (fun k1447 => ?_)
      · replace k1447 : (r1445).toInt = 0 := k1447
        refine bp_ld (pc' := 112) bu_169_111 rfl rfl (fun _ _ _ => rfl) g0 rfl ?_
        refine bp_c (pc' := 114) (n := 12) bu_169_112 rfl rfl (fun _ _ _ => rfl) (by decide) (fun c1448 e1449 => ?_)
        refine bn_cv (pc' := 117) (st := []) (args := [.int c1448]) bu_169_114 rfl rfl rfl (by decide) hP bq_o20 (by decide) (by omega) rfl (Nat.le_of_ble_eq_true rfl) (Nat.le_of_ble_eq_true rfl) ?_
        refine cr_164 (c := c1448) hP (fun r1450 p1451 => ?_)
        show bp_G E PO NN ((169, 117, lv, [.int r1450], 0, 0) :: gs, h, none)
        refine bp_i0 (pc' := 120) (pt := 125) bu_169_117 rfl rfl (fun k1452 => ?_) (fun k1452 => ?_)
        · replace k1452 : (r1450).toInt = 0 := k1452
          refine bp_ld (pc' := 126) bu_169_125 rfl rfl (fun _ _ _ => rfl) g0 rfl ?_
          refine bp_ld (pc' := 127) bu_169_126 rfl rfl (fun _ _ _ => rfl) g1 rfl ?_
          refine bp_c (pc' := 128) (n := 0) bu_169_127 rfl rfl (fun _ _ _ => rfl) (by decide) (fun c1453 e1454 => ?_)
          refine bn_cv (pc' := 131) (st := []) (args := [.int c1453, .int l]) bu_169_128 rfl rfl rfl (by decide) hP bq_o20 (by decide) (by omega) rfl (Nat.le_of_ble_eq_true rfl) (Nat.le_of_ble_eq_true rfl) ?_
          refine cr_sum hS 6 0 rfl σ _ _ _ _ _ _ _ (by omega) (by simp only [List.length_cons]; omega) hP hR (rc_T_F hT hF) hc (fun h1455 s1456 A1457 L1458 σ1462 hP1459 F1460 R1461 Y1463 => ?_)
          have e1464 : py_x K true 0 σ = σ1462 := Y1463.1.trans (py_x_z (fun u => ⟨(R1461.2.1 u).2.1.1, (Y1463.2 u).2.2 rfl⟩))
          subst e1464
          show bp_G E PO NN ((169, 131, lv, [], 0, 0) :: gs, h1455, none)
          refine bp_ld (pc' := 132) bu_169_131 rfl rfl (fun _ _ _ => rfl) g2 rfl ?_
          refine bp_c (pc' := 133) (n := 2) bu_169_132 rfl rfl (fun _ _ _ => rfl) (by decide) (fun c1465 e1466 => ?_)
          refine bp_c (pc' := 134) (n := 0) bu_169_133 rfl rfl (fun _ _ _ => rfl) (by decide) (fun c1467 e1468 => ?_)
          refine bn_cv (pc' := 137) (st := []) (args := [.int c1467, .int c1465]) bu_169_134 rfl rfl rfl (by decide) hP1459 bq_o12 (by decide) (by omega) rfl (Nat.le_of_ble_eq_true rfl) (Nat.le_of_ble_eq_true rfl) ?_
          refine cr_136 hP1459 (F1460.2.2.2 hc) (fun h1469 s1470 A1471 hP1472 f1473 a1474 z1475 => ?_)
          show bp_G E PO NN ((169, 137, lv, [], 0, 0) :: gs, h1469, none)
          refine bp_ld (pc' := 138) bu_169_137 rfl rfl (fun _ _ _ => rfl) g2 rfl ?_
          refine bp_ld (pc' := 139) bu_169_138 rfl rfl (fun _ _ _ => rfl) g1 rfl ?_
          refine bp_ld (pc' := 140) bu_169_139 rfl rfl (fun _ _ _ => rfl) g3 rfl ?_
          refine bn_cv (pc' := 143) (st := []) (args := [.int f9, .int l]) bu_169_140 rfl rfl rfl (by decide) hP1472 bq_o12 (by decide) (by omega) rfl (Nat.le_of_ble_eq_true rfl) (Nat.le_of_ble_eq_true rfl) ?_
          refine cr_144 hP1472 z1475 (fun h1476 s1477 A1478 hP1479 f1480 a1481 z1482 => ?_)
          show bp_G E PO NN ((169, 143, lv, [], 0, 0) :: gs, h1476, none)
          refine bp_ld (pc' := 144) bu_169_143 rfl rfl (fun _ _ _ => rfl) g0 rfl ?_
          refine bp_c (pc' := 146) (n := 59) bu_169_144 rfl rfl (fun _ _ _ => rfl) (by decide) (fun c1483 e1484 => ?_)
          refine bn_cv (pc' := 149) (st := []) (args := [.int c1483]) bu_169_146 rfl rfl rfl (by decide) hP1479 bq_o20 (by decide) (by omega) rfl (Nat.le_of_ble_eq_true rfl) (Nat.le_of_ble_eq_true rfl) ?_
          refine cr_177 (σ := (py_x K true 0 σ)) (kc := 4) (by omega) hP1479 (by simp only [List.length_cons]; omega) (rc_R_e (rc_R_e R1461 f1473) f1480) (rc_T_F hT (rc_F_t (rc_F_t (rc_F_t hF F1460) (rc_F_e f1473 a1474 z1475)) (rc_F_e f1480 a1481 z1482))) (fun h1485 s1486 A1487 L1488 hP1489 F1490 R1491 => ?_)
          show bp_G E PO NN ((169, 149, lv, [], 0, 0) :: gs, h1485, none)
          refine bp_rv bu_169_149 ?_
          have ee : py_ifs K (c + 1) σ = σ := if_neg (fun hh => by
            have q2 := q2 hh.1
            have q4 := hh.2
            omega)
          exact kk _ _ _ _ hP1489 (rc_F_t (rc_F_t (rc_F_t (rc_F_t hF F1460) (rc_F_e f1473 a1474 z1475)) (rc_F_e f1480 a1481 z1482)) F1490) (by rw [ee]; exact R1491)
        · replace k1452 : ¬ ((r1450).toInt = 0) := k1452
          refine bp_ld (pc' := 121) bu_169_120 rfl rfl (fun _ _ _ => rfl) g0 rfl ?_
          refine bp_c (pc' := 122) (n := 2) bu_169_121 rfl rfl (fun _ _ _ => rfl) (by decide) (fun c1492 e1493 => ?_)
          refine bn_cv (pc' := 125) (st := []) (args := [.int c1492]) bu_169_122 rfl rfl rfl (by decide) hP bq_o20 (by decide) (by omega) rfl (Nat.le_of_ble_eq_true rfl) (Nat.le_of_ble_eq_true rfl) ?_
          refine cr_176 (σ := σ) (kn := 2) (by omega) (by decide) hP hR (fun h1494 s1495 A1496 L1497 hP1498 F1499 R1500 => ?_)
          show bp_G E PO NN ((169, 125, lv, [], 0, 0) :: gs, h1494, none)
          refine bp_ld (pc' := 126) bu_169_125 rfl rfl (fun _ _ _ => rfl) g0 rfl ?_
          refine bp_ld (pc' := 127) bu_169_126 rfl rfl (fun _ _ _ => rfl) g1 rfl ?_
          refine bp_c (pc' := 128) (n := 0) bu_169_127 rfl rfl (fun _ _ _ => rfl) (by decide) (fun c1501 e1502 => ?_)
          refine bn_cv (pc' := 131) (st := []) (args := [.int c1501, .int l]) bu_169_128 rfl rfl rfl (by decide) hP1498 bq_o20 (by decide) (by omega) rfl (Nat.le_of_ble_eq_true rfl) (Nat.le_of_ble_eq_true rfl) ?_
          refine cr_sum hS 6 0 rfl (py_fl 2 σ) _ _ _ _ _ _ _ (by omega) (by simp only [List.length_cons]; omega) hP1498 R1500 (rc_T_F hT (rc_F_t hF F1499)) (F1499.2.2.2 hc) (fun h1503 s1504 A1505 L1506 σ1510 hP1507 F1508 R1509 Y1511 => ?_)
          have e1512 : py_x K true 0 (py_fl 2 σ) = σ1510 := Y1511.1.trans (py_x_z (fun u => ⟨(R1509.2.1 u).2.1.1, (Y1511.2 u).2.2 rfl⟩))
          subst e1512
          show bp_G E PO NN ((169, 131, lv, [], 0, 0) :: gs, h1503, none)
          refine bp_ld (pc' := 132) bu_169_131 rfl rfl (fun _ _ _ => rfl) g2 rfl ?_
          refine bp_c (pc' := 133) (n := 2) bu_169_132 rfl rfl (fun _ _ _ => rfl) (by decide) (fun c1513 e1514 => ?_)
          refine bp_c (pc' := 134) (n := 0) bu_169_133 rfl rfl (fun _ _ _ => rfl) (by decide) (fun c1515 e1516 => ?_)
          refine bn_cv (pc' := 137) (st := []) (args := [.int c1515, .int c1513]) bu_169_134 rfl rfl rfl (by decide) hP1507 bq_o12 (by decide) (by omega) rfl (Nat.le_of_ble_eq_true rfl) (Nat.le_of_ble_eq_true rfl) ?_
          refine cr_136 hP1507 (F1508.2.2.2 (F1499.2.2.2 hc)) (fun h1517 s1518 A1519 hP1520 f1521 a1522 z1523 => ?_)
          show bp_G E PO NN ((169, 137, lv, [], 0, 0) :: gs, h1517, none)
          refine bp_ld (pc' := 138) bu_169_137 rfl rfl (fun _ _ _ => rfl) g2 rfl ?_
          refine bp_ld (pc' := 139) bu_169_138 rfl rfl (fun _ _ _ => rfl) g1 rfl ?_
          refine bp_ld (pc' := 140) bu_169_139 rfl rfl (fun _ _ _ => rfl) g3 rfl ?_
          refine bn_cv (pc' := 143) (st := []) (args := [.int f9, .int l]) bu_169_140 rfl rfl rfl (by decide) hP1520 bq_o12 (by decide) (by omega) rfl (Nat.le_of_ble_eq_true rfl) (Nat.le_of_ble_eq_true rfl) ?_
          refine cr_144 hP1520 z1523 (fun h1524 s1525 A1526 hP1527 f1528 a1529 z1530 => ?_)
          show bp_G E PO NN ((169, 143, lv, [], 0, 0) :: gs, h1524, none)
          refine bp_ld (pc' := 144) bu_169_143 rfl rfl (fun _ _ _ => rfl) g0 rfl ?_
          refine bp_c (pc' := 146) (n := 59) bu_169_144 rfl rfl (fun _ _ _ => rfl) (by decide) (fun c1531 e1532 => ?_)
          refine bn_cv (pc' := 149) (st := []) (args := [.int c1531]) bu_169_146 rfl rfl rfl (by decide) hP1527 bq_o20 (by decide) (by omega) rfl (Nat.le_of_ble_eq_true rfl) (Nat.le_of_ble_eq_true rfl) ?_
          refine cr_177 (σ := (py_x K true 0 (py_fl 2 σ))) (kc := 4) (by omega) hP1527 (by simp only [List.length_cons]; omega) (rc_R_e (rc_R_e R1509 f1521) f1528) (rc_T_F hT (rc_F_t (rc_F_t (rc_F_t (rc_F_t hF F1499) F1508) (rc_F_e f1521 a1522 z1523)) (rc_F_e f1528 a1529 z1530))) (fun h1533 s1534 A1535 L1536 hP1537 F1538 R1539 => ?_)
          show bp_G E PO NN ((169, 149, lv, [], 0, 0) :: gs, h1533, none)
          refine bp_rv bu_169_149 ?_
          exfalso
          omega
      · replace k1447 : ¬ ((r1445).toInt = 0) := k1447
        have hf : σ.2.1 = 0 := by
          by_cases e : σ.2.1 = 0
          · exact e
          · have := q3 e
            omega
        have q2' := q2 hf
        have hk : K σ.1 = 32 := by omega
        refine bp_ld (pc' := 42) bu_169_41 rfl rfl (fun _ _ _ => rfl) g0 rfl ?_
        refine bn_cv (pc' := 45) (st := []) (args := []) bu_169_42 rfl rfl rfl (by decide) hP bq_o20 (by decide) (by omega) rfl (Nat.le_of_ble_eq_true rfl) (Nat.le_of_ble_eq_true rfl) ?_
        refine cr_161 (σ := σ) hP hR (rc_T_F hT hF) hf (by rw [hk]; decide) (by rw [hk]; decide) (fun h1540 s1541 A1542 L1543 hP1544 F1545 R1546 => ?_)
        show bp_G E PO NN ((169, 45, lv, [], 0, 0) :: gs, h1540, none)
        refine bp_ld (pc' := 46) bu_169_45 rfl rfl (fun _ _ _ => rfl) g0 rfl ?_
        refine bp_ld (pc' := 47) bu_169_46 rfl rfl (fun _ _ _ => rfl) g1 rfl ?_
        refine bp_c (pc' := 48) (n := 0) bu_169_47 rfl rfl (fun _ _ _ => rfl) (by decide) (fun c1547 e1548 => ?_)
        refine bn_cv (pc' := 51) (st := []) (args := [.int c1547, .int l]) bu_169_48 rfl rfl rfl (by decide) hP1544 bq_o20 (by decide) (by omega) rfl (Nat.le_of_ble_eq_true rfl) (Nat.le_of_ble_eq_true rfl) ?_
        refine cr_sum hS 6 0 rfl (py_go σ) _ _ _ _ _ _ _ (by omega) (by simp only [List.length_cons]; omega) hP1544 R1546 (rc_T_F hT (rc_F_t hF F1545)) (F1545.2.2.2 hc) (fun h1549 s1550 A1551 L1552 σ1556 hP1553 F1554 R1555 Y1557 => ?_)
        have e1558 : py_x K true 0 (py_go σ) = σ1556 := Y1557.1.trans (py_x_z (fun u => ⟨(R1555.2.1 u).2.1.1, (Y1557.2 u).2.2 rfl⟩))
        subst e1558
        show bp_G E PO NN ((169, 51, lv, [], 0, 0) :: gs, h1549, none)
        refine bp_ld (pc' := 52) bu_169_51 rfl rfl (fun _ _ _ => rfl) g0 rfl ?_
        refine bp_c (pc' := 54) (n := 60) bu_169_52 rfl rfl (fun _ _ _ => rfl) (by decide) (fun c1559 e1560 => ?_)
        refine bn_cv (pc' := 57) (st := []) (args := [.int c1559]) bu_169_54 rfl rfl rfl (by decide) hP1553 bq_o20 (by decide) (by omega) rfl (Nat.le_of_ble_eq_true rfl) (Nat.le_of_ble_eq_true rfl) ?_
        refine cr_177 (σ := (py_x K true 0 (py_go σ))) (kc := 13) (by omega) hP1553 (by simp only [List.length_cons]; omega) R1555 (rc_T_F hT (rc_F_t (rc_F_t hF F1545) F1554)) (fun h1561 s1562 A1563 L1564 hP1565 F1566 R1567 => ?_)
        show bp_G E PO NN ((169, 57, lv, [], 0, 0) :: gs, h1561, none)
        refine bp_ld (pc' := 58) bu_169_57 rfl rfl (fun _ _ _ => rfl) g0 rfl ?_
        refine bp_ld (pc' := 59) bu_169_58 rfl rfl (fun _ _ _ => rfl) g1 rfl ?_
        refine bp_c (pc' := 60) (n := 0) bu_169_59 rfl rfl (fun _ _ _ => rfl) (by decide) (fun c1568 e1569 => ?_)
        refine bn_cv (pc' := 63) (st := []) (args := [.int c1568, .int l]) bu_169_60 rfl rfl rfl (by decide) hP1565 bq_o20 (by decide) (by omega) rfl (Nat.le_of_ble_eq_true rfl) (Nat.le_of_ble_eq_true rfl) ?_
        refine cr_sum hS 6 0 rfl (py_mu K 13 (py_x K true 0 (py_go σ))) _ _ _ _ _ _ _ (by omega) (by simp only [List.length_cons]; omega) hP1565 R1567 (rc_T_F hT (rc_F_t (rc_F_t (rc_F_t hF F1545) F1554) F1566)) (F1566.2.2.2 (F1554.2.2.2 (F1545.2.2.2 hc))) (fun h1570 s1571 A1572 L1573 σ1577 hP1574 F1575 R1576 Y1578 => ?_)
        have e1579 : py_x K true 0 (py_mu K 13 (py_x K true 0 (py_go σ))) = σ1577 := Y1578.1.trans (py_x_z (fun u => ⟨(R1576.2.1 u).2.1.1, (Y1578.2 u).2.2 rfl⟩))
        subst e1579
        show bp_G E PO NN ((169, 63, lv, [], 0, 0) :: gs, h1570, none)
        refine bp_ld (pc' := 64) bu_169_63 rfl rfl (fun _ _ _ => rfl) g2 rfl ?_
        refine bn_cv (pc' := 67) (st := []) (args := []) bu_169_64 rfl rfl rfl (by decide) hP1574 bq_o12 (by decide) (by omega) rfl (Nat.le_of_ble_eq_true rfl) (Nat.le_of_ble_eq_true rfl) ?_
        refine cr_135 hP1574 ?_
        show bp_G E PO NN ((169, 67, lv, [.int (s1571 1204)], 0, 0) :: gs, h1570, none)
        refine bp_st (pc' := 69) bu_169_67 rfl rfl (fun _ _ _ => rfl) rfl (by decide) (by decide) (fun lv1580 F1581 g1582 => ?_)
        have g1583 := F1581 0 (.ref (E.1 + 20)) g0 (by decide) (Or.inl rfl)
        have g1584 := F1581 1 (.int l) g1 (by decide) (Or.inl rfl)
        have g1585 := F1581 2 (.ref (E.1 + 12)) g2 (by decide) (Or.inl rfl)
        have g1586 := F1581 3 (.int f9) g3 (by decide) (Or.inl rfl)
        have g1587 := F1581 4 (.int i) g4 (by decide) (Or.inl rfl)
        refine bp_ld (pc' := 70) bu_169_69 rfl rfl (fun _ _ _ => rfl) g1585 rfl ?_
        refine bp_c (pc' := 71) (n := 3) bu_169_70 rfl rfl (fun _ _ _ => rfl) (by decide) (fun c1588 e1589 => ?_)
        refine bp_c (pc' := 72) (n := 0) bu_169_71 rfl rfl (fun _ _ _ => rfl) (by decide) (fun c1590 e1591 => ?_)
        refine bn_cv (pc' := 75) (st := []) (args := [.int c1590, .int c1588]) bu_169_72 rfl rfl rfl (by decide) hP1574 bq_o12 (by decide) (by omega) rfl (Nat.le_of_ble_eq_true rfl) (Nat.le_of_ble_eq_true rfl) ?_
        refine cr_136 hP1574 (F1575.2.2.2 (F1566.2.2.2 (F1554.2.2.2 (F1545.2.2.2 hc)))) (fun h1592 s1593 A1594 hP1595 f1596 a1597 z1598 => ?_)
        show bp_G E PO NN ((169, 75, lv1580, [], 0, 0) :: gs, h1592, none)
        refine bp_ld (pc' := 76) bu_169_75 rfl rfl (fun _ _ _ => rfl) g1583 rfl ?_
        refine bp_c (pc' := 78) (n := 13) bu_169_76 rfl rfl (fun _ _ _ => rfl) (by decide) (fun c1599 e1600 => ?_)
        refine bn_cv (pc' := 81) (st := []) (args := [.int c1599]) bu_169_78 rfl rfl rfl (by decide) hP1595 bq_o20 (by decide) (by omega) rfl (Nat.le_of_ble_eq_true rfl) (Nat.le_of_ble_eq_true rfl) ?_
        refine cr_178 (σ := (py_x K true 0 (py_mu K 13 (py_x K true 0 (py_go σ))))) (kc := 33) (by omega) hP1595 (by simp only [List.length_cons]; omega) (rc_R_e R1576 f1596) (rc_T_F hT (rc_F_t (rc_F_t (rc_F_t (rc_F_t (rc_F_t hF F1545) F1554) F1566) F1575) (rc_F_e f1596 a1597 z1598))) (fun h1601 s1602 A1603 L1604 hP1605 F1606 R1607 => ?_)
        show bp_G E PO NN ((169, 81, lv1580, [], 0, 0) :: gs, h1601, none)
        refine bp_ld (pc' := 82) bu_169_81 rfl rfl (fun _ _ _ => rfl) g1583 rfl ?_
        refine bp_ld (pc' := 83) bu_169_82 rfl rfl (fun _ _ _ => rfl) g1584 rfl ?_
        refine bp_c (pc' := 84) (n := 0) bu_169_83 rfl rfl (fun _ _ _ => rfl) (by decide) (fun c1608 e1609 => ?_)
        refine bn_cv (pc' := 87) (st := []) (args := [.int c1608, .int l]) bu_169_84 rfl rfl rfl (by decide) hP1605 bq_o20 (by decide) (by omega) rfl (Nat.le_of_ble_eq_true rfl) (Nat.le_of_ble_eq_true rfl) ?_
        refine cr_sum hS 6 0 rfl (py_mu K 33 (py_x K true 0 (py_mu K 13 (py_x K true 0 (py_go σ))))) _ _ _ _ _ _ _ (by omega) (by simp only [List.length_cons]; omega) hP1605 R1607 (rc_T_F hT (rc_F_t (rc_F_t (rc_F_t (rc_F_t (rc_F_t (rc_F_t hF F1545) F1554) F1566) F1575) (rc_F_e f1596 a1597 z1598)) F1606)) (F1606.2.2.2 z1598) (fun h1610 s1611 A1612 L1613 σ1617 hP1614 F1615 R1616 Y1618 => ?_)
        have e1619 : py_x K true 0 (py_mu K 33 (py_x K true 0 (py_mu K 13 (py_x K true 0 (py_go σ))))) = σ1617 := Y1618.1.trans (py_x_z (fun u => ⟨(R1616.2.1 u).2.1.1, (Y1618.2 u).2.2 rfl⟩))
        subst e1619
        show bp_G E PO NN ((169, 87, lv1580, [], 0, 0) :: gs, h1610, none)
        refine bp_ld (pc' := 88) bu_169_87 rfl rfl (fun _ _ _ => rfl) g1585 rfl ?_
        refine bp_c (pc' := 89) (n := 2) bu_169_88 rfl rfl (fun _ _ _ => rfl) (by decide) (fun c1620 e1621 => ?_)
        refine bp_c (pc' := 90) (n := 0) bu_169_89 rfl rfl (fun _ _ _ => rfl) (by decide) (fun c1622 e1623 => ?_)
        refine bn_cv (pc' := 93) (st := []) (args := [.int c1622, .int c1620]) bu_169_90 rfl rfl rfl (by decide) hP1614 bq_o12 (by decide) (by omega) rfl (Nat.le_of_ble_eq_true rfl) (Nat.le_of_ble_eq_true rfl) ?_
        refine cr_136 hP1614 (F1615.2.2.2 (F1606.2.2.2 z1598)) (fun h1624 s1625 A1626 hP1627 f1628 a1629 z1630 => ?_)
        show bp_G E PO NN ((169, 93, lv1580, [], 0, 0) :: gs, h1624, none)
        refine bp_ld (pc' := 94) bu_169_93 rfl rfl (fun _ _ _ => rfl) g1585 rfl ?_
        refine bp_ld (pc' := 96) bu_169_94 rfl rfl (fun _ _ _ => rfl) g1582 rfl ?_
        refine bn_cv (pc' := 99) (st := []) (args := [.int (s1571 1204)]) bu_169_96 rfl rfl rfl (by decide) hP1627 bq_o12 (by decide) (by omega) rfl (Nat.le_of_ble_eq_true rfl) (Nat.le_of_ble_eq_true rfl) ?_
        refine cr_132 hP1627 z1630 (fun h1631 s1632 A1633 hP1634 f1635 a1636 z1637 => ?_)
        show bp_G E PO NN ((169, 99, lv1580, [], 0, 0) :: gs, h1631, none)
        refine bp_ld (pc' := 100) bu_169_99 rfl rfl (fun _ _ _ => rfl) g1583 rfl ?_
        refine bp_c (pc' := 102) (n := 14) bu_169_100 rfl rfl (fun _ _ _ => rfl) (by decide) (fun c1638 e1639 => ?_)
        refine bn_cv (pc' := 105) (st := []) (args := [.int c1638]) bu_169_102 rfl rfl rfl (by decide) hP1634 bq_o20 (by decide) (by omega) rfl (Nat.le_of_ble_eq_true rfl) (Nat.le_of_ble_eq_true rfl) ?_
        refine cr_178 (σ := (py_x K true 0 (py_mu K 33 (py_x K true 0 (py_mu K 13 (py_x K true 0 (py_go σ))))))) (kc := 34) (by omega) hP1634 (by simp only [List.length_cons]; omega) (rc_R_e (rc_R_e R1616 f1628) f1635) (rc_T_F hT (rc_F_t (rc_F_t (rc_F_t (rc_F_t (rc_F_t (rc_F_t (rc_F_t (rc_F_t (rc_F_t hF F1545) F1554) F1566) F1575) (rc_F_e f1596 a1597 z1598)) F1606) F1615) (rc_F_e f1628 a1629 z1630)) (rc_F_e f1635 a1636 z1637))) (fun h1640 s1641 A1642 L1643 hP1644 F1645 R1646 => ?_)
        show bp_G E PO NN ((169, 105, lv1580, [], 0, 0) :: gs, h1640, none)
        refine bp_inc (pc' := 108) bu_169_105 rfl (by decide) g1587 (by decide) (by omega) (by omega) (fun lv1647 y1650 F1648 g1649 e1651 => ?_)
        have g1652 := F1648 0 (.ref (E.1 + 20)) g1583 (by decide) (Or.inl rfl)
        have g1653 := F1648 1 (.int l) g1584 (by decide) (Or.inl rfl)
        have g1654 := F1648 2 (.ref (E.1 + 12)) g1585 (by decide) (Or.inl rfl)
        have g1655 := F1648 3 (.int f9) g1586 (by decide) (Or.inl rfl)
        have g1656 := F1648 5 (.int (s1571 1204)) g1582 (by decide) (Or.inl rfl)
        refine bp_go (pc' := 26) bu_169_108 rfl ?_
        have ee : py_ifs K (c + 1) σ = py_ifs K c (py_mu K 34 (py_x K true 0 (py_mu K 33 (py_x K true 0 (py_mu K 13 (py_x K true 0 (py_go σ))))))) := if_pos ⟨hf, hk⟩
        rw [ee] at kk
        exact ih _ _ _ _ _ _ _ _ hP1644 (rc_F_t (rc_F_t (rc_F_t (rc_F_t (rc_F_t (rc_F_t (rc_F_t (rc_F_t (rc_F_t (rc_F_t hF F1545) F1554) F1566) F1575) (rc_F_e f1596 a1597 z1598)) F1606) F1615) (rc_F_e f1628 a1629 z1630)) (rc_F_e f1635 a1636 z1637)) F1645) R1646 (F1645.2.2.2 z1637) g1652 g1653 g1654 g1655 g1649 (by omega) (by omega) kk
theorem cr_169 {x9 y9 l : Int32} (hS : ∀ ρ, en_SA E ρ (wl_o x9 y9) mt_SB) (hP : bm_P bq_T E h0 h s A L) (hd : gs.length + 40 ≤ 999) (hR : rc_R K V P N σ s L) (hT : rc_T K V P N s A L) (hc : 0 ≤ (s 1204).toInt ∧ (s 1204).toInt ≤ 432 ∧ 0 ≤ (s 1104).toInt ∧ (s 1104).toInt ≤ 6) (hf : σ.2.1 = 0) (hk : 21 ≤ K σ.1) (kk : ∀ (h' : mm_H) (s' : Nat → Int32) (A' : Nat → Nat → Int32) (L' : Nat → Nat → Int64), bm_P bq_T E h0 h' s' A' L' → rc_F s A L s' A' L' → rc_R K V P N (py_law K σ) s' L' → bp_G E PO NN (mm_back none gs h')) : bp_G E PO NN ((169, 0, [(0, .ref (E.1 + 20)), (1, .int l)], [], 0, 0) :: gs, h, none) := by
  refine bp_ld (pc' := 1) bu_169_0 rfl rfl (fun _ _ _ => rfl) rfl rfl ?_
  refine bn_gr (pc' := 4) (t := 11) bu_169_1 rfl rfl (fun _ _ _ => rfl) hP bq_o20 bq_r20_1 ?_
  refine bn_gr (pc' := 7) (t := 12) bu_169_4 rfl rfl (fun _ _ _ => rfl) hP bq_o11 bq_r11_0 ?_
  refine bp_st (pc' := 8) bu_169_7 rfl rfl (fun _ _ _ => rfl) rfl (by decide) (by decide) (fun lv1657 F1658 g1659 => ?_)
  have g1660 := F1658 0 (.ref (E.1 + 20)) rfl (by decide) (Or.inl rfl)
  have g1661 := F1658 1 (.int l) rfl (by decide) (Or.inl rfl)
  refine bp_ld (pc' := 9) bu_169_8 rfl rfl (fun _ _ _ => rfl) g1659 rfl ?_
  refine bn_cv (pc' := 12) (st := []) (args := []) bu_169_9 rfl rfl rfl (by decide) hP bq_o12 (by decide) (by omega) rfl (Nat.le_of_ble_eq_true rfl) (Nat.le_of_ble_eq_true rfl) ?_
  refine cr_135 hP ?_
  show bp_G E PO NN ((169, 12, lv1657, [.int (s 1204)], 0, 0) :: gs, h, none)
  refine bp_st (pc' := 13) bu_169_12 rfl rfl (fun _ _ _ => rfl) rfl (by decide) (by decide) (fun lv1662 F1663 g1664 => ?_)
  have g1665 := F1663 0 (.ref (E.1 + 20)) g1660 (by decide) (Or.inl rfl)
  have g1666 := F1663 1 (.int l) g1661 (by decide) (Or.inl rfl)
  have g1667 := F1663 2 (.ref (E.1 + 12)) g1659 (by decide) (Or.inl rfl)
  refine bp_ld (pc' := 14) bu_169_13 rfl rfl (fun _ _ _ => rfl) g1665 rfl ?_
  refine bn_cv (pc' := 17) (st := []) (args := []) bu_169_14 rfl rfl rfl (by decide) hP bq_o20 (by decide) (by omega) rfl (Nat.le_of_ble_eq_true rfl) (Nat.le_of_ble_eq_true rfl) ?_
  refine cr_161 (σ := σ) hP hR hT hf (by omega) (by omega) (fun h1668 s1669 A1670 L1671 hP1672 F1673 R1674 => ?_)
  show bp_G E PO NN ((169, 17, lv1662, [], 0, 0) :: gs, h1668, none)
  refine bp_ld (pc' := 18) bu_169_17 rfl rfl (fun _ _ _ => rfl) g1665 rfl ?_
  refine bp_c (pc' := 20) (n := 61) bu_169_18 rfl rfl (fun _ _ _ => rfl) (by decide) (fun c1675 e1676 => ?_)
  refine bn_cv (pc' := 23) (st := []) (args := [.int c1675]) bu_169_20 rfl rfl rfl (by decide) hP1672 bq_o20 (by decide) (by omega) rfl (Nat.le_of_ble_eq_true rfl) (Nat.le_of_ble_eq_true rfl) ?_
  refine cr_177 (σ := (py_go σ)) (kc := 5) (by omega) hP1672 (by simp only [List.length_cons]; omega) R1674 (rc_T_F hT F1673) (fun h1677 s1678 A1679 L1680 hP1681 F1682 R1683 => ?_)
  show bp_G E PO NN ((169, 23, lv1662, [], 0, 0) :: gs, h1677, none)
  refine bp_c (pc' := 24) (n := 0) bu_169_23 rfl rfl (fun _ _ _ => rfl) (by decide) (fun c1684 e1685 => ?_)
  refine bp_st (pc' := 26) bu_169_24 rfl rfl (fun _ _ _ => rfl) rfl (by decide) (by decide) (fun lv1686 F1687 g1688 => ?_)
  have g1689 := F1687 0 (.ref (E.1 + 20)) g1665 (by decide) (Or.inl rfl)
  have g1690 := F1687 1 (.int l) g1666 (by decide) (Or.inl rfl)
  have g1691 := F1687 2 (.ref (E.1 + 12)) g1667 (by decide) (Or.inl rfl)
  have g1692 := F1687 3 (.int (s 1204)) g1664 (by decide) (Or.inl rfl)
  exact cr_169l hS hT hd 4 _ _ _ _ _ _ _ _ hP1681 (rc_F_t F1673 F1682) R1683 (F1682.2.2.2 (F1673.2.2.2 hc)) g1689 g1690 g1691 g1692 g1688 (by omega) (by omega) kk
end CR
