/-! PARTIAL: the class's tokens, exact, 3: one token, all of them (wip/p5/mkq4.py) -/
theorem rk_b {K V k v : Int} (h1 : K = 3) (h2 : k = 1) : rc_k K V k v := Or.inr (Or.inr (Or.inr (Or.inl ⟨h1, h2⟩)))
theorem rk_e {K V k v : Int} (h1 : K = 0) (h2 : k = 0) : rc_k K V k v := Or.inl ⟨h1, h2⟩
theorem rk_n {K V k v : Int} (h1 : K = 1) (h2 : k = 2) : rc_k K V k v := Or.inr (Or.inl ⟨h1, h2⟩)
theorem rk_i {K V k v : Int} (h1 : K = 2) (h2 : k = 3) (h3 : v = V) (h4 : 0 ≤ V) (h5 : V ≤ 9999) : rc_k K V k v := Or.inr (Or.inr (Or.inl ⟨h1, h2, h3, h4, h5⟩))
theorem rk_w {K V k v : Int} (h1 : 20 ≤ K) (h2 : K ≤ 43) (h3 : k = 5) (h4 : v = K - 20) : rc_k K V k v := Or.inr (Or.inr (Or.inr (Or.inr (Or.inr (Or.inr (Or.inr (Or.inr (Or.inr (Or.inr (Or.inr (Or.inr (Or.inr ⟨h1, h2, h3, h4⟩))))))))))))
theorem bu_215_0 : mm_at mt_P 215 0 = some ((0, 1, .aload_n 0, 0, 0, 0, 0), 3, 0, 1, 7, 2, 0, 0) := rfl
theorem bu_215_1 : mm_at mt_P 215 1 = some ((1, 3, .getfield 36, 7, 6, 0, 258), 3, 0, 1, 7, 2, 0, 0) := rfl
theorem bu_215_4 : mm_at mt_P 215 4 = some ((4, 1, .aload_n 0, 0, 0, 0, 0), 3, 0, 1, 7, 2, 0, 0) := rfl
theorem bu_215_5 : mm_at mt_P 215 5 = some ((5, 3, .getfield 26, 7, 5, 0, 257), 3, 0, 1, 7, 2, 0, 0) := rfl
theorem bu_215_8 : mm_at mt_P 215 8 = some ((8, 3, .if_icmp .ge 31, 0, 0, 0, 0), 3, 0, 1, 7, 2, 0, 0) := rfl
theorem bu_215_11 : mm_at mt_P 215 11 = some ((11, 1, .aload_n 0, 0, 0, 0, 0), 3, 0, 1, 7, 2, 0, 0) := rfl
theorem bu_215_12 : mm_at mt_P 215 12 = some ((12, 3, .getfield 22, 7, 4, 0, 256), 3, 0, 1, 7, 2, 0, 0) := rfl
theorem bu_215_15 : mm_at mt_P 215 15 = some ((15, 1, .aload_n 0, 0, 0, 0, 0), 3, 0, 1, 7, 2, 0, 0) := rfl
theorem bu_215_16 : mm_at mt_P 215 16 = some ((16, 3, .getfield 36, 7, 6, 0, 258), 3, 0, 1, 7, 2, 0, 0) := rfl
theorem bu_215_19 : mm_at mt_P 215 19 = some ((19, 1, .baload, 0, 0, 0, 0), 3, 0, 1, 7, 2, 0, 0) := rfl
theorem bu_215_20 : mm_at mt_P 215 20 = some ((20, 3, .invokestatic 46, 210, 0, 0, 498), 3, 0, 1, 7, 2, 0, 0) := rfl
theorem bu_215_23 : mm_at mt_P 215 23 = some ((23, 3, .ifCond .eq 16, 0, 0, 0, 0), 3, 0, 1, 7, 2, 0, 0) := rfl
theorem bu_215_26 : mm_at mt_P 215 26 = some ((26, 1, .aload_n 0, 0, 0, 0, 0), 3, 0, 1, 7, 2, 0, 0) := rfl
theorem bu_215_27 : mm_at mt_P 215 27 = some ((27, 1, .dup, 0, 0, 0, 0), 3, 0, 1, 7, 2, 0, 0) := rfl
theorem bu_215_28 : mm_at mt_P 215 28 = some ((28, 3, .getfield 36, 7, 6, 0, 258), 3, 0, 1, 7, 2, 0, 0) := rfl
theorem bu_215_31 : mm_at mt_P 215 31 = some ((31, 1, .iconst 1, 0, 0, 0, 0), 3, 0, 1, 7, 2, 0, 0) := rfl
theorem bu_215_32 : mm_at mt_P 215 32 = some ((32, 1, .iadd, 0, 0, 0, 0), 3, 0, 1, 7, 2, 0, 0) := rfl
theorem bu_215_33 : mm_at mt_P 215 33 = some ((33, 3, .putfield 36, 7, 6, 0, 258), 3, 0, 1, 7, 2, 0, 0) := rfl
theorem bu_215_36 : mm_at mt_P 215 36 = some ((36, 3, .goto (-36), 0, 0, 0, 0), 3, 0, 1, 7, 2, 0, 0) := rfl
theorem bu_216_0 : mm_at mt_P 216 0 = some ((0, 1, .aload_n 0, 0, 0, 0, 0), 4, 0, 1, 7, 2, 0, 0) := rfl
theorem bu_216_1 : mm_at mt_P 216 1 = some ((1, 3, .getfield 36, 7, 6, 0, 258), 4, 0, 1, 7, 2, 0, 0) := rfl
theorem bu_216_4 : mm_at mt_P 216 4 = some ((4, 1, .istore_n 1, 0, 0, 0, 0), 4, 0, 1, 7, 2, 0, 0) := rfl
theorem bu_216_5 : mm_at mt_P 216 5 = some ((5, 1, .iconst 0, 0, 0, 0, 0), 4, 0, 1, 7, 2, 0, 0) := rfl
theorem bu_216_6 : mm_at mt_P 216 6 = some ((6, 1, .istore_n 2, 0, 0, 0, 0), 4, 0, 1, 7, 2, 0, 0) := rfl
theorem bu_216_64 : mm_at mt_P 216 64 = some ((64, 1, .aload_n 0, 0, 0, 0, 0), 4, 0, 1, 7, 2, 0, 0) := rfl
theorem bu_216_65 : mm_at mt_P 216 65 = some ((65, 3, .getfield 36, 7, 6, 0, 258), 4, 0, 1, 7, 2, 0, 0) := rfl
theorem bu_216_68 : mm_at mt_P 216 68 = some ((68, 1, .iload_n 1, 0, 0, 0, 0), 4, 0, 1, 7, 2, 0, 0) := rfl
theorem bu_216_69 : mm_at mt_P 216 69 = some ((69, 1, .isub, 0, 0, 0, 0), 4, 0, 1, 7, 2, 0, 0) := rfl
theorem bu_216_70 : mm_at mt_P 216 70 = some ((70, 1, .iconst 4, 0, 0, 0, 0), 4, 0, 1, 7, 2, 0, 0) := rfl
theorem bu_216_71 : mm_at mt_P 216 71 = some ((71, 3, .if_icmp .gt 7, 0, 0, 0, 0), 4, 0, 1, 7, 2, 0, 0) := rfl
theorem bu_216_74 : mm_at mt_P 216 74 = some ((74, 1, .iconst 1, 0, 0, 0, 0), 4, 0, 1, 7, 2, 0, 0) := rfl
theorem bu_216_75 : mm_at mt_P 216 75 = some ((75, 3, .goto 4, 0, 0, 0, 0), 4, 0, 1, 7, 2, 0, 0) := rfl
theorem bu_216_78 : mm_at mt_P 216 78 = some ((78, 1, .iconst 0, 0, 0, 0, 0), 4, 0, 1, 7, 2, 0, 0) := rfl
theorem bu_216_79 : mm_at mt_P 216 79 = some ((79, 1, .istore_n 3, 0, 0, 0, 0), 4, 0, 1, 7, 2, 0, 0) := rfl
theorem bu_216_80 : mm_at mt_P 216 80 = some ((80, 1, .aload_n 0, 0, 0, 0, 0), 4, 0, 1, 7, 2, 0, 0) := rfl
theorem bu_216_81 : mm_at mt_P 216 81 = some ((81, 1, .iload_n 3, 0, 0, 0, 0), 4, 0, 1, 7, 2, 0, 0) := rfl
theorem bu_216_82 : mm_at mt_P 216 82 = some ((82, 3, .ifCond .eq 7, 0, 0, 0, 0), 4, 0, 1, 7, 2, 0, 0) := rfl
theorem bu_216_85 : mm_at mt_P 216 85 = some ((85, 1, .iconst 3, 0, 0, 0, 0), 4, 0, 1, 7, 2, 0, 0) := rfl
theorem bu_216_86 : mm_at mt_P 216 86 = some ((86, 3, .goto 4, 0, 0, 0, 0), 4, 0, 1, 7, 2, 0, 0) := rfl
theorem bu_216_89 : mm_at mt_P 216 89 = some ((89, 1, .iconst 1, 0, 0, 0, 0), 4, 0, 1, 7, 2, 0, 0) := rfl
theorem bu_216_90 : mm_at mt_P 216 90 = some ((90, 1, .iload_n 2, 0, 0, 0, 0), 4, 0, 1, 7, 2, 0, 0) := rfl
theorem bu_216_91 : mm_at mt_P 216 91 = some ((91, 1, .i2l, 0, 0, 0, 0), 4, 0, 1, 7, 2, 0, 0) := rfl
theorem bu_216_92 : mm_at mt_P 216 92 = some ((92, 1, .iload_n 1, 0, 0, 0, 0), 4, 0, 1, 7, 2, 0, 0) := rfl
theorem bu_216_93 : mm_at mt_P 216 93 = some ((93, 3, .invokevirtual 50, 214, 0, 0, 501), 4, 0, 1, 7, 2, 0, 0) := rfl
theorem bu_216_96 : mm_at mt_P 216 96 = some ((96, 1, .iload_n 3, 0, 0, 0, 0), 4, 0, 1, 7, 2, 0, 0) := rfl
theorem bu_216_97 : mm_at mt_P 216 97 = some ((97, 1, .ireturn, 0, 0, 0, 0), 4, 0, 1, 7, 2, 0, 0) := rfl
theorem bu_217_0 : mm_at mt_P 217 0 = some ((0, 1, .aload_n 0, 0, 0, 0, 0), 5, 0, 1, 7, 2, 0, 0) := rfl
theorem bu_217_1 : mm_at mt_P 217 1 = some ((1, 3, .getfield 36, 7, 6, 0, 258), 5, 0, 1, 7, 2, 0, 0) := rfl
theorem bu_217_4 : mm_at mt_P 217 4 = some ((4, 1, .istore_n 1, 0, 0, 0, 0), 5, 0, 1, 7, 2, 0, 0) := rfl
theorem bu_217_5 : mm_at mt_P 217 5 = some ((5, 1, .lconst 0, 0, 0, 0, 0), 5, 0, 1, 7, 2, 0, 0) := rfl
theorem bu_217_6 : mm_at mt_P 217 6 = some ((6, 1, .lstore_n 2, 0, 0, 0, 0), 5, 0, 1, 7, 2, 0, 0) := rfl
theorem bu_217_68 : mm_at mt_P 217 68 = some ((68, 1, .aload_n 0, 0, 0, 0, 0), 5, 0, 1, 7, 2, 0, 0) := rfl
theorem bu_217_69 : mm_at mt_P 217 69 = some ((69, 3, .getfield 36, 7, 6, 0, 258), 5, 0, 1, 7, 2, 0, 0) := rfl
theorem bu_217_72 : mm_at mt_P 217 72 = some ((72, 1, .iload_n 1, 0, 0, 0, 0), 5, 0, 1, 7, 2, 0, 0) := rfl
theorem bu_217_73 : mm_at mt_P 217 73 = some ((73, 1, .isub, 0, 0, 0, 0), 5, 0, 1, 7, 2, 0, 0) := rfl
theorem bu_217_74 : mm_at mt_P 217 74 = some ((74, 2, .bipush 8, 0, 0, 0, 0), 5, 0, 1, 7, 2, 0, 0) := rfl
theorem bu_217_76 : mm_at mt_P 217 76 = some ((76, 3, .if_icmp .le 12, 0, 0, 0, 0), 5, 0, 1, 7, 2, 0, 0) := rfl
theorem bu_217_79 : mm_at mt_P 217 79 = some ((79, 1, .aload_n 0, 0, 0, 0, 0), 5, 0, 1, 7, 2, 0, 0) := rfl
theorem bu_217_80 : mm_at mt_P 217 80 = some ((80, 1, .iconst 1, 0, 0, 0, 0), 5, 0, 1, 7, 2, 0, 0) := rfl
theorem bu_217_81 : mm_at mt_P 217 81 = some ((81, 1, .lconst 0, 0, 0, 0, 0), 5, 0, 1, 7, 2, 0, 0) := rfl
theorem bu_217_82 : mm_at mt_P 217 82 = some ((82, 1, .iload_n 1, 0, 0, 0, 0), 5, 0, 1, 7, 2, 0, 0) := rfl
theorem bu_217_83 : mm_at mt_P 217 83 = some ((83, 3, .invokevirtual 50, 214, 0, 0, 501), 5, 0, 1, 7, 2, 0, 0) := rfl
theorem bu_217_86 : mm_at mt_P 217 86 = some ((86, 1, .iconst 0, 0, 0, 0, 0), 5, 0, 1, 7, 2, 0, 0) := rfl
theorem bu_217_87 : mm_at mt_P 217 87 = some ((87, 1, .ireturn, 0, 0, 0, 0), 5, 0, 1, 7, 2, 0, 0) := rfl
theorem bu_217_88 : mm_at mt_P 217 88 = some ((88, 1, .aload_n 0, 0, 0, 0, 0), 5, 0, 1, 7, 2, 0, 0) := rfl
theorem bu_217_89 : mm_at mt_P 217 89 = some ((89, 1, .iload_n 1, 0, 0, 0, 0), 5, 0, 1, 7, 2, 0, 0) := rfl
theorem bu_217_90 : mm_at mt_P 217 90 = some ((90, 1, .aload_n 0, 0, 0, 0, 0), 5, 0, 1, 7, 2, 0, 0) := rfl
theorem bu_217_91 : mm_at mt_P 217 91 = some ((91, 3, .getfield 36, 7, 6, 0, 258), 5, 0, 1, 7, 2, 0, 0) := rfl
theorem bu_217_94 : mm_at mt_P 217 94 = some ((94, 1, .iload_n 1, 0, 0, 0, 0), 5, 0, 1, 7, 2, 0, 0) := rfl
theorem bu_217_95 : mm_at mt_P 217 95 = some ((95, 1, .isub, 0, 0, 0, 0), 5, 0, 1, 7, 2, 0, 0) := rfl
theorem bu_217_96 : mm_at mt_P 217 96 = some ((96, 3, .invokevirtual 76, 219, 0, 0, 513), 5, 0, 1, 7, 2, 0, 0) := rfl
theorem bu_217_99 : mm_at mt_P 217 99 = some ((99, 2, .istore 4, 0, 0, 0, 0), 5, 0, 1, 7, 2, 0, 0) := rfl
theorem bu_217_101 : mm_at mt_P 217 101 = some ((101, 2, .iload 4, 0, 0, 0, 0), 5, 0, 1, 7, 2, 0, 0) := rfl
theorem bu_217_103 : mm_at mt_P 217 103 = some ((103, 1, .iconst (-1), 0, 0, 0, 0), 5, 0, 1, 7, 2, 0, 0) := rfl
theorem bu_217_104 : mm_at mt_P 217 104 = some ((104, 3, .if_icmp .ne 13, 0, 0, 0, 0), 5, 0, 1, 7, 2, 0, 0) := rfl
theorem bu_217_107 : mm_at mt_P 217 107 = some ((107, 1, .aload_n 0, 0, 0, 0, 0), 5, 0, 1, 7, 2, 0, 0) := rfl
theorem bu_217_108 : mm_at mt_P 217 108 = some ((108, 1, .iconst 2, 0, 0, 0, 0), 5, 0, 1, 7, 2, 0, 0) := rfl
theorem bu_217_109 : mm_at mt_P 217 109 = some ((109, 1, .lload_n 2, 0, 0, 0, 0), 5, 0, 1, 7, 2, 0, 0) := rfl
theorem bu_217_110 : mm_at mt_P 217 110 = some ((110, 1, .iload_n 1, 0, 0, 0, 0), 5, 0, 1, 7, 2, 0, 0) := rfl
theorem bu_217_111 : mm_at mt_P 217 111 = some ((111, 3, .invokevirtual 50, 214, 0, 0, 501), 5, 0, 1, 7, 2, 0, 0) := rfl
theorem bu_217_114 : mm_at mt_P 217 114 = some ((114, 3, .goto 12, 0, 0, 0, 0), 5, 0, 1, 7, 2, 0, 0) := rfl
theorem bu_217_117 : mm_at mt_P 217 117 = some ((117, 1, .aload_n 0, 0, 0, 0, 0), 5, 0, 1, 7, 2, 0, 0) := rfl
theorem bu_217_118 : mm_at mt_P 217 118 = some ((118, 1, .iconst 5, 0, 0, 0, 0), 5, 0, 1, 7, 2, 0, 0) := rfl
theorem bu_217_119 : mm_at mt_P 217 119 = some ((119, 2, .iload 4, 0, 0, 0, 0), 5, 0, 1, 7, 2, 0, 0) := rfl
theorem bu_217_121 : mm_at mt_P 217 121 = some ((121, 1, .i2l, 0, 0, 0, 0), 5, 0, 1, 7, 2, 0, 0) := rfl
theorem bu_217_122 : mm_at mt_P 217 122 = some ((122, 1, .iload_n 1, 0, 0, 0, 0), 5, 0, 1, 7, 2, 0, 0) := rfl
theorem bu_217_123 : mm_at mt_P 217 123 = some ((123, 3, .invokevirtual 50, 214, 0, 0, 501), 5, 0, 1, 7, 2, 0, 0) := rfl
theorem bu_217_126 : mm_at mt_P 217 126 = some ((126, 1, .iconst 1, 0, 0, 0, 0), 5, 0, 1, 7, 2, 0, 0) := rfl
theorem bu_217_127 : mm_at mt_P 217 127 = some ((127, 1, .ireturn, 0, 0, 0, 0), 5, 0, 1, 7, 2, 0, 0) := rfl
section BTQ
variable {X : Nat → Int32} {n : Nat} {E : mm_E} {PO : mm_C → Prop} {NN : Nat} {h0 h : mm_H} {s : Nat → Int32} {A : Nat → Nat → Int32} {L : Nat → Nat → Int64} {gs : List mm_F}
set_option maxHeartbeats 4000000 in
theorem bt_217 {p m : Nat} {q4 q4' q6 q6' : mm_S} (hq4 : E.2[4]? = some q4) (hE4 : bs_E E 0 q4 q4') (hn4 : q4'.2.1 = 192) (hW4 : ∀ k, k < 24 → ∀ i, i < 8 → (q4'.2.2 (8 * k + i)).toInt = px_wc k i) (hq6 : E.2[6]? = some q6) (hE6 : bs_E E 1 q6 q6') (hn6 : q6'.2.1 = 9) (hW6 : ∀ i, i < 9 → (q6'.2.2 i).toInt = px_sw i) (hP : bm_P bq_T E h0 h s A L) (hX : A 1 = X) (hlen : (s 2105).toInt = (n : Int)) (hn2 : n ≤ 2000) (hb : ∀ j, j < n → -128 ≤ (X j).toInt ∧ (X j).toInt ≤ 127) (hm : (s 2103).toInt = (m : Int)) (hm4 : m ≤ 400) (hat : (s 2106).toInt = (p : Int)) (hpn : p < n) (hlp : px_lt (px_c X n p) = true) (kk : (∀ (h' : mm_H) (s' : Nat → Int32) (kv pv : Int32) (vv : Int64) (r : Int32), bm_P bq_T E h0 h' s' (bh_up (bh_up A 22 m kv) 23 m pv) (bh_upL L 24 m vv) → (s' 2103).toInt = (m : Int) + 1 → (s' 2106).toInt = (px_nx X n p : Nat) → (∀ j, j ≠ 2103 → j ≠ 2106 → s' j = s j) → rc_k (px_kd X n p) (px_vl X n p) kv.toInt vv.toInt → pv.toInt = (p : Nat) → (px_kd X n p = 1 → vv.toInt = (px_nm 32 X n p (px_tl X n p) : Nat)) → ((r.toInt = 1 ∧ px_kd X n p ≠ 0 ∧ px_kd X n p ≠ 3) ∨ (r.toInt = 0 ∧ (px_kd X n p = 0 ∨ px_kd X n p = 3))) → bp_G E PO NN (mm_back (some (.int r)) gs h'))) : bp_G E PO NN ((217, 0, [(0, .ref (E.1 + 21))], [], 0, 0) :: gs, h, none) := by
  refine bp_ld (pc' := 1) bu_217_0 rfl rfl (fun _ _ _ => rfl) rfl rfl ?_
  refine bn_gi (pc' := 4) (K := 2106) bu_217_1 rfl rfl (fun _ _ _ => rfl) hP bq_o21 bq_i21_6 rfl rfl ?_
  refine bp_st (pc' := 5) bu_217_4 rfl rfl (fun _ _ _ => rfl) rfl (by decide) (by decide) (fun lv4741 F4742 g4743 => ?_)
  have g4744 := F4742 0 (.ref (E.1 + 21)) rfl (by decide) (Or.inl rfl)
  refine bn_cL (pc' := 6) (n := 0) bu_217_5 rfl rfl (fun _ _ _ => rfl) (by decide) (fun x4745 e4746 => ?_)
  refine bp_stL (pc' := 7) bu_217_6 rfl rfl (fun _ _ _ => rfl) (by decide) (fun lv4747 F4748 g4749 => ?_)
  have g4750 := F4748 0 (.ref (E.1 + 21)) g4744 (by decide) (by decide) (Or.inl rfl)
  have g4751 := F4748 1 (.int (s 2106)) g4743 (by decide) (by decide) (Or.inl rfl)
  refine bt_l (p := p) hX hlen hn2 hb NN (fun h4752 s4753 lv4754 o4755 x ki hP4756 f4757 at4758 g4759 g4760 g4761 hp hl hx hnl => ?_) _ _ _ _ _ 0 hP (fun _ _ => rfl) (by omega) g4750 g4751 g4749 (by omega) (fun j hj => absurd hj (Nat.not_lt_zero j)) (fun _ => by rw [show px_nm 32 X n p 0 = 0 from rfl]; omega)
  have hlen2 : (s4753 2105).toInt = (n : Int) := by rw [f4757 2105 (by decide)]; exact hlen
  have hrn : px_rn px_lt X n p = p + ki := px_rn_k ki p (fun j hj => ⟨px_lt0 (px_lt_iff.mp (hl j hj)).1, hl j hj⟩) hnl
  have htl : px_tl X n p = ki := by rw [px_tl_l hlp, hrn]; omega
  have hkd := px_kd_l hpn hlp
  rw [htl] at hkd
  have hnx : px_nx X n p = p + ki := by unfold px_nx; rw [if_neg (by omega), htl]
  refine bp_ld (pc' := 69) bu_217_68 rfl rfl (fun _ _ _ => rfl) g4759 rfl ?_
  refine bn_gi (pc' := 72) (K := 2106) bu_217_69 rfl rfl (fun _ _ _ => rfl) hP4756 bq_o21 bq_i21_6 rfl rfl ?_
  refine bp_ld (pc' := 73) bu_217_72 rfl rfl (fun _ _ _ => rfl) g4760 rfl ?_
  refine bp_sub (pc' := 74) bu_217_73 rfl (by omega) (by omega) (fun v4762 e4763 => ?_)
  refine bp_c (pc' := 76) (n := 8) bu_217_74 rfl rfl (fun _ _ _ => rfl) (by decide) (fun c4764 e4765 => ?_)
  refine bp_ic (pc' := 79) (pt := 88) bu_217_76 rfl rfl (fun k4766 => ?_) (fun k4766 => ?_)
  · replace k4766 : (v4762).toInt ≤ (c4764).toInt := k4766
    refine bp_ld (pc' := 89) bu_217_88 rfl rfl (fun _ _ _ => rfl) g4759 rfl ?_
    refine bp_ld (pc' := 90) bu_217_89 rfl rfl (fun _ _ _ => rfl) g4760 rfl ?_
    refine bp_ld (pc' := 91) bu_217_90 rfl rfl (fun _ _ _ => rfl) g4759 rfl ?_
    refine bn_gi (pc' := 94) (K := 2106) bu_217_91 rfl rfl (fun _ _ _ => rfl) hP4756 bq_o21 bq_i21_6 rfl rfl ?_
    refine bp_ld (pc' := 95) bu_217_94 rfl rfl (fun _ _ _ => rfl) g4760 rfl ?_
    refine bp_sub (pc' := 96) bu_217_95 rfl (by omega) (by omega) (fun v4767 e4768 => ?_)
    refine bn_cvF (pc' := 99) (st := []) (args := [.int v4767, .int (s 2106)]) bu_217_96 rfl rfl rfl (by decide) hP4756 bq_o21 (by decide) rfl (Nat.le_of_ble_eq_true rfl) (Nat.le_of_ble_eq_true rfl) ?_
    refine bt_219 (p := p) (len := ki) hq4 hE4 hn4 hW4 hq6 hE6 hn6 hW6 hP4756 hX hlen2 hn2 hb hl hp (by omega) (by omega) (by omega) (fun r4769 p4770 => ?_)
    show bp_G E PO NN ((217, 99, lv4754, [.int r4769], 0, 0) :: gs, h4752, none)
    refine bp_st (pc' := 101) bu_217_99 rfl rfl (fun _ _ _ => rfl) rfl (by decide) (by decide) (fun lv4771 F4772 g4773 => ?_)
    have g4774 := F4772 0 (.ref (E.1 + 21)) g4759 (by decide) (Or.inl rfl)
    have g4775 := F4772 1 (.int (s 2106)) g4760 (by decide) (Or.inl rfl)
    have g4776 := F4772 2 (.long x) g4761 (by decide) (Or.inr (by decide))
    refine bp_ld (pc' := 103) bu_217_101 rfl rfl (fun _ _ _ => rfl) g4773 rfl ?_
    refine bp_c (pc' := 104) (n := -1) bu_217_103 rfl rfl (fun _ _ _ => rfl) (by decide) (fun c4777 e4778 => ?_)
    refine bp_ic (pc' := 107) (pt := 117) bu_217_104 rfl rfl (fun k4779 => ?_) (fun k4779 => ?_)
    · replace k4779 : (r4769).toInt ≠ (c4777).toInt := k4779
      refine bp_ld (pc' := 118) bu_217_117 rfl rfl (fun _ _ _ => rfl) g4774 rfl ?_
      refine bp_c (pc' := 119) (n := 5) bu_217_118 rfl rfl (fun _ _ _ => rfl) (by decide) (fun c4780 e4781 => ?_)
      refine bp_ld (pc' := 121) bu_217_119 rfl rfl (fun _ _ _ => rfl) g4773 rfl ?_
      refine bn_i2l (pc' := 122) bu_217_121 rfl (fun x4782 e4783 => ?_)
      refine bp_ld (pc' := 123) bu_217_122 rfl rfl (fun _ _ _ => rfl) g4775 rfl ?_
      refine bn_cvF (pc' := 126) (st := []) (args := [.int (s 2106), .long x4782, .int c4780]) bu_217_123 rfl rfl rfl (by decide) hP4756 bq_o21 (by decide) rfl (Nat.le_of_ble_eq_true rfl) (Nat.le_of_ble_eq_true rfl) ?_
      have hm9 : (s4753 2103).toInt = (m : Int) := by rw [f4757 2103 (by decide)]; exact hm
      refine ct_214 (k := c4780) (v := x4782) (p := (s 2106)) hP4756 (by omega) (by omega) (fun h4784 s4785 hP4786 p4787 f4788 => ?_)
      rw [show (s4753 2103).toInt.toNat = m by omega] at hP4786
      show bp_G E PO NN ((217, 126, lv4771, [], 0, 0) :: gs, h4784, none)
      refine bp_c (pc' := 127) (n := 1) bu_217_126 rfl rfl (fun _ _ _ => rfl) (by decide) (fun c4789 e4790 => ?_)
      refine bp_rbF bu_217_127 (fun rb4791 => ?_)
      rw [if_neg (by omega)] at hkd
      rw [if_pos (by omega)] at hkd
      exact kk _ _ _ _ _ _ hP4786 (by omega) (by rw [f4788 2106 (by decide), hnx]; omega) (fun j j1 j2 => (f4788 j j1).trans (f4757 j j2)) (rk_w (by omega) (by omega) (by omega) (by omega)) (by omega) (fun q => by omega) (Or.inl ⟨by omega, by omega, by omega⟩)
    · replace k4779 : ¬ ((r4769).toInt ≠ (c4777).toInt) := k4779
      refine bp_ld (pc' := 108) bu_217_107 rfl rfl (fun _ _ _ => rfl) g4774 rfl ?_
      refine bp_c (pc' := 109) (n := 2) bu_217_108 rfl rfl (fun _ _ _ => rfl) (by decide) (fun c4792 e4793 => ?_)
      refine bp_ld (pc' := 110) bu_217_109 rfl rfl (fun _ _ _ => rfl) g4776 rfl ?_
      refine bp_ld (pc' := 111) bu_217_110 rfl rfl (fun _ _ _ => rfl) g4775 rfl ?_
      refine bn_cvF (pc' := 114) (st := []) (args := [.int (s 2106), .long x, .int c4792]) bu_217_111 rfl rfl rfl (by decide) hP4756 bq_o21 (by decide) rfl (Nat.le_of_ble_eq_true rfl) (Nat.le_of_ble_eq_true rfl) ?_
      have hm9 : (s4753 2103).toInt = (m : Int) := by rw [f4757 2103 (by decide)]; exact hm
      refine ct_214 (k := c4792) (v := x) (p := (s 2106)) hP4756 (by omega) (by omega) (fun h4794 s4795 hP4796 p4797 f4798 => ?_)
      rw [show (s4753 2103).toInt.toNat = m by omega] at hP4796
      show bp_G E PO NN ((217, 114, lv4771, [], 0, 0) :: gs, h4794, none)
      refine bp_go (pc' := 126) bu_217_114 rfl ?_
      refine bp_c (pc' := 127) (n := 1) bu_217_126 rfl rfl (fun _ _ _ => rfl) (by decide) (fun c4799 e4800 => ?_)
      refine bp_rbF bu_217_127 (fun rb4801 => ?_)
      rw [if_neg (by omega)] at hkd
      rw [if_neg (by omega)] at hkd
      exact kk _ _ _ _ _ _ hP4796 (by omega) (by rw [f4798 2106 (by decide), hnx]; omega) (fun j j1 j2 => (f4798 j j1).trans (f4757 j j2)) (rk_n hkd (by omega)) (by omega) (fun q => by rw [htl]; exact hx (by omega)) (Or.inl ⟨by omega, by omega, by omega⟩)
  · replace k4766 : ¬ ((v4762).toInt ≤ (c4764).toInt) := k4766
    refine bp_ld (pc' := 80) bu_217_79 rfl rfl (fun _ _ _ => rfl) g4759 rfl ?_
    refine bp_c (pc' := 81) (n := 1) bu_217_80 rfl rfl (fun _ _ _ => rfl) (by decide) (fun c4802 e4803 => ?_)
    refine bn_cL (pc' := 82) (n := 0) bu_217_81 rfl rfl (fun _ _ _ => rfl) (by decide) (fun x4804 e4805 => ?_)
    refine bp_ld (pc' := 83) bu_217_82 rfl rfl (fun _ _ _ => rfl) g4760 rfl ?_
    refine bn_cvF (pc' := 86) (st := []) (args := [.int (s 2106), .long x4804, .int c4802]) bu_217_83 rfl rfl rfl (by decide) hP4756 bq_o21 (by decide) rfl (Nat.le_of_ble_eq_true rfl) (Nat.le_of_ble_eq_true rfl) ?_
    have hm9 : (s4753 2103).toInt = (m : Int) := by rw [f4757 2103 (by decide)]; exact hm
    refine ct_214 (k := c4802) (v := x4804) (p := (s 2106)) hP4756 (by omega) (by omega) (fun h4806 s4807 hP4808 p4809 f4810 => ?_)
    rw [show (s4753 2103).toInt.toNat = m by omega] at hP4808
    show bp_G E PO NN ((217, 86, lv4754, [], 0, 0) :: gs, h4806, none)
    refine bp_c (pc' := 87) (n := 0) bu_217_86 rfl rfl (fun _ _ _ => rfl) (by decide) (fun c4811 e4812 => ?_)
    refine bp_rbF bu_217_87 (fun rb4813 => ?_)
    rw [if_pos (by omega)] at hkd
    exact kk _ _ _ _ _ _ hP4808 (by omega) (by rw [f4810 2106 (by decide), hnx]; omega) (fun j j1 j2 => (f4810 j j1).trans (f4757 j j2)) (rk_b hkd (by omega)) (by omega) (fun q => by omega) (Or.inr ⟨by omega, Or.inr hkd⟩)
set_option maxHeartbeats 4000000 in
theorem bt_216 {p m : Nat} (hP : bm_P bq_T E h0 h s A L) (hX : A 1 = X) (hlen : (s 2105).toInt = (n : Int)) (hn2 : n ≤ 2000) (hb : ∀ j, j < n → -128 ≤ (X j).toInt ∧ (X j).toInt ≤ 127) (hm : (s 2103).toInt = (m : Int)) (hm4 : m ≤ 400) (hat : (s 2106).toInt = (p : Int)) (hpn : p < n) (hlp : ¬ px_lt (px_c X n p) = true) (hdp : px_dg (px_c X n p) = true) (kk : (∀ (h' : mm_H) (s' : Nat → Int32) (kv pv : Int32) (vv : Int64) (r : Int32), bm_P bq_T E h0 h' s' (bh_up (bh_up A 22 m kv) 23 m pv) (bh_upL L 24 m vv) → (s' 2103).toInt = (m : Int) + 1 → (s' 2106).toInt = (px_nx X n p : Nat) → (∀ j, j ≠ 2103 → j ≠ 2106 → s' j = s j) → rc_k (px_kd X n p) (px_vl X n p) kv.toInt vv.toInt → pv.toInt = (p : Nat) → (px_kd X n p = 1 → vv.toInt = (px_nm 32 X n p (px_tl X n p) : Nat)) → ((r.toInt = 1 ∧ px_kd X n p ≠ 0 ∧ px_kd X n p ≠ 3) ∨ (r.toInt = 0 ∧ (px_kd X n p = 0 ∨ px_kd X n p = 3))) → bp_G E PO NN (mm_back (some (.int r)) gs h'))) : bp_G E PO NN ((216, 0, [(0, .ref (E.1 + 21))], [], 0, 0) :: gs, h, none) := by
  refine bp_ld (pc' := 1) bu_216_0 rfl rfl (fun _ _ _ => rfl) rfl rfl ?_
  refine bn_gi (pc' := 4) (K := 2106) bu_216_1 rfl rfl (fun _ _ _ => rfl) hP bq_o21 bq_i21_6 rfl rfl ?_
  refine bp_st (pc' := 5) bu_216_4 rfl rfl (fun _ _ _ => rfl) rfl (by decide) (by decide) (fun lv4814 F4815 g4816 => ?_)
  have g4817 := F4815 0 (.ref (E.1 + 21)) rfl (by decide) (Or.inl rfl)
  refine bp_c (pc' := 6) (n := 0) bu_216_5 rfl rfl (fun _ _ _ => rfl) (by decide) (fun c4818 e4819 => ?_)
  refine bp_st (pc' := 7) bu_216_6 rfl rfl (fun _ _ _ => rfl) rfl (by decide) (by decide) (fun lv4820 F4821 g4822 => ?_)
  have g4823 := F4821 0 (.ref (E.1 + 21)) g4817 (by decide) (Or.inl rfl)
  have g4824 := F4821 1 (.int (s 2106)) g4816 (by decide) (Or.inl rfl)
  refine bt_d (p := p) hX hlen hn2 hb NN (fun h4825 s4826 lv4827 o4828 v ki hP4829 f4830 at4831 g4832 g4833 g4834 hp hl hv hnl => ?_) _ _ _ _ _ 0 hP (fun _ _ => rfl) (by omega) g4823 g4824 g4822 (by omega) (fun j hj => absurd hj (Nat.not_lt_zero j)) (fun _ => by rw [show px_dv X n p 0 = 0 from rfl]; omega)
  have hrn : px_rn px_dg X n p = p + ki := px_rn_k ki p (fun j hj => ⟨px_dg0 (px_dg_iff.mp (hl j hj)).1, hl j hj⟩) hnl
  have htl : px_tl X n p = ki := by rw [px_tl_d hlp hdp, hrn]; omega
  have hkd := px_kd_d hpn hlp hdp
  rw [htl] at hkd
  have hnx : px_nx X n p = p + ki := by unfold px_nx; rw [if_neg (by omega), htl]
  refine bp_ld (pc' := 65) bu_216_64 rfl rfl (fun _ _ _ => rfl) g4832 rfl ?_
  refine bn_gi (pc' := 68) (K := 2106) bu_216_65 rfl rfl (fun _ _ _ => rfl) hP4829 bq_o21 bq_i21_6 rfl rfl ?_
  refine bp_ld (pc' := 69) bu_216_68 rfl rfl (fun _ _ _ => rfl) g4833 rfl ?_
  refine bp_sub (pc' := 70) bu_216_69 rfl (by omega) (by omega) (fun v4835 e4836 => ?_)
  refine bp_c (pc' := 71) (n := 4) bu_216_70 rfl rfl (fun _ _ _ => rfl) (by decide) (fun c4837 e4838 => ?_)
  refine bp_ic (pc' := 74) (pt := 78) bu_216_71 rfl rfl (fun k4839 => ?_) (fun k4839 => ?_)
  · replace k4839 : (c4837).toInt < (v4835).toInt := k4839
    refine bp_c (pc' := 79) (n := 0) bu_216_78 rfl rfl (fun _ _ _ => rfl) (by decide) (fun c4840 e4841 => ?_)
    refine bp_st (pc' := 80) bu_216_79 rfl rfl (fun _ _ _ => rfl) rfl (by decide) (by decide) (fun lv4842 F4843 g4844 => ?_)
    have g4845 := F4843 0 (.ref (E.1 + 21)) g4832 (by decide) (Or.inl rfl)
    have g4846 := F4843 1 (.int (s 2106)) g4833 (by decide) (Or.inl rfl)
    have g4847 := F4843 2 (.int v) g4834 (by decide) (Or.inl rfl)
    refine bp_ld (pc' := 81) bu_216_80 rfl rfl (fun _ _ _ => rfl) g4845 rfl ?_
    refine bp_ld (pc' := 82) bu_216_81 rfl rfl (fun _ _ _ => rfl) g4844 rfl ?_
    refine bp_i0 (pc' := 85) (pt := 89) bu_216_82 rfl rfl (fun k4848 => ?_) (fun k4848 => ?_)
    · replace k4848 : (c4840).toInt = 0 := k4848
      refine bp_c (pc' := 90) (n := 1) bu_216_89 rfl rfl (fun _ _ _ => rfl) (by decide) (fun c4849 e4850 => ?_)
      refine bp_ld (pc' := 91) bu_216_90 rfl rfl (fun _ _ _ => rfl) g4847 rfl ?_
      refine bn_i2l (pc' := 92) bu_216_91 rfl (fun x4851 e4852 => ?_)
      refine bp_ld (pc' := 93) bu_216_92 rfl rfl (fun _ _ _ => rfl) g4846 rfl ?_
      refine bn_cvF (pc' := 96) (st := []) (args := [.int (s 2106), .long x4851, .int c4849]) bu_216_93 rfl rfl rfl (by decide) hP4829 bq_o21 (by decide) rfl (Nat.le_of_ble_eq_true rfl) (Nat.le_of_ble_eq_true rfl) ?_
      have hm9 : (s4826 2103).toInt = (m : Int) := by rw [f4830 2103 (by decide)]; exact hm
      refine ct_214 (k := c4849) (v := x4851) (p := (s 2106)) hP4829 (by omega) (by omega) (fun h4853 s4854 hP4855 p4856 f4857 => ?_)
      rw [show (s4826 2103).toInt.toNat = m by omega] at hP4855
      show bp_G E PO NN ((216, 96, lv4842, [], 0, 0) :: gs, h4853, none)
      refine bp_ld (pc' := 97) bu_216_96 rfl rfl (fun _ _ _ => rfl) g4844 rfl ?_
      refine bp_rbF bu_216_97 (fun rb4858 => ?_)
      rw [if_pos (by omega)] at hkd
      exact kk _ _ _ _ _ _ hP4855 (by omega) (by rw [f4857 2106 (by decide), hnx]; omega) (fun j j1 j2 => (f4857 j j1).trans (f4830 j j2)) (rk_b hkd (by omega)) (by omega) (fun q => by omega) (Or.inr ⟨by omega, Or.inr hkd⟩)
    · replace k4848 : ¬ ((c4840).toInt = 0) := k4848
      omega
  · replace k4839 : ¬ ((c4837).toInt < (v4835).toInt) := k4839
    refine bp_c (pc' := 75) (n := 1) bu_216_74 rfl rfl (fun _ _ _ => rfl) (by decide) (fun c4859 e4860 => ?_)
    refine bp_go (pc' := 79) bu_216_75 rfl ?_
    refine bp_st (pc' := 80) bu_216_79 rfl rfl (fun _ _ _ => rfl) rfl (by decide) (by decide) (fun lv4861 F4862 g4863 => ?_)
    have g4864 := F4862 0 (.ref (E.1 + 21)) g4832 (by decide) (Or.inl rfl)
    have g4865 := F4862 1 (.int (s 2106)) g4833 (by decide) (Or.inl rfl)
    have g4866 := F4862 2 (.int v) g4834 (by decide) (Or.inl rfl)
    refine bp_ld (pc' := 81) bu_216_80 rfl rfl (fun _ _ _ => rfl) g4864 rfl ?_
    refine bp_ld (pc' := 82) bu_216_81 rfl rfl (fun _ _ _ => rfl) g4863 rfl ?_
    refine bp_i0 (pc' := 85) (pt := 89) bu_216_82 rfl rfl (fun k4867 => ?_) (fun k4867 => ?_)
    · replace k4867 : (c4859).toInt = 0 := k4867
      omega
    · replace k4867 : ¬ ((c4859).toInt = 0) := k4867
      refine bp_c (pc' := 86) (n := 3) bu_216_85 rfl rfl (fun _ _ _ => rfl) (by decide) (fun c4868 e4869 => ?_)
      refine bp_go (pc' := 90) bu_216_86 rfl ?_
      refine bp_ld (pc' := 91) bu_216_90 rfl rfl (fun _ _ _ => rfl) g4866 rfl ?_
      refine bn_i2l (pc' := 92) bu_216_91 rfl (fun x4870 e4871 => ?_)
      refine bp_ld (pc' := 93) bu_216_92 rfl rfl (fun _ _ _ => rfl) g4865 rfl ?_
      refine bn_cvF (pc' := 96) (st := []) (args := [.int (s 2106), .long x4870, .int c4868]) bu_216_93 rfl rfl rfl (by decide) hP4829 bq_o21 (by decide) rfl (Nat.le_of_ble_eq_true rfl) (Nat.le_of_ble_eq_true rfl) ?_
      have hm9 : (s4826 2103).toInt = (m : Int) := by rw [f4830 2103 (by decide)]; exact hm
      refine ct_214 (k := c4868) (v := x4870) (p := (s 2106)) hP4829 (by omega) (by omega) (fun h4872 s4873 hP4874 p4875 f4876 => ?_)
      rw [show (s4826 2103).toInt.toNat = m by omega] at hP4874
      show bp_G E PO NN ((216, 96, lv4861, [], 0, 0) :: gs, h4872, none)
      refine bp_ld (pc' := 97) bu_216_96 rfl rfl (fun _ _ _ => rfl) g4863 rfl ?_
      refine bp_rbF bu_216_97 (fun rb4877 => ?_)
      rw [if_neg (by omega)] at hkd
      have hvl : px_vl X n p = px_dv X n p (px_tl X n p) := if_pos hkd
      rw [htl] at hvl
      have hv9 := hv (by omega)
      have hb4 := px_dv_b (X := X) (n := n) (p := p) ki (by omega) hl
      have hb5 : (10 : Int) ^ ki ≤ 10000 := by rcases (show ki = 0 ∨ ki = 1 ∨ ki = 2 ∨ ki = 3 ∨ ki = 4 by omega) with rfl | rfl | rfl | rfl | rfl <;> decide
      generalize (10 : Int) ^ ki = z9 at hb4 hb5
      exact kk _ _ _ _ _ _ hP4874 (by omega) (by rw [f4876 2106 (by decide), hnx]; omega) (fun j j1 j2 => (f4876 j j1).trans (f4830 j j2)) (rk_i hkd (by omega) (by omega) (by omega) (by omega)) (by omega) (fun q => by omega) (Or.inl ⟨by omega, by omega, by omega⟩)
set_option maxHeartbeats 4000000 in
theorem bt_b {q : Nat} {s0 : Nat → Int32} (hX : A 1 = X) (hlen : (s0 2105).toInt = (n : Int)) (hn2 : n ≤ 2000) (hb : ∀ j, j < n → -128 ≤ (X j).toInt ∧ (X j).toInt ≤ 127) : ∀ NN : Nat, (∀ (h : mm_H) (s : Nat → Int32) (lv : mm_V) (o : Option Value), bm_P bq_T E h0 h s A L → (∀ j, j ≠ 2106 → s j = s0 j) → (s 2106).toInt = (q : Int) → q ≤ n → ¬ (q < n ∧ px_bl (px_c X n q) = true) → mm_get lv 0 = some (.ref (E.1 + 21)) → bp_G E PO NN ((215, 39, lv, [], 0, 0) :: gs, h, o)) → (∀ (h : mm_H) (s : Nat → Int32) (lv : mm_V) (o : Option Value) (p : Nat), bm_P bq_T E h0 h s A L → (∀ j, j ≠ 2106 → s j = s0 j) → (s 2106).toInt = (p : Int) → p ≤ n → px_rn px_bl X n p = q → mm_get lv 0 = some (.ref (E.1 + 21)) → bp_G E PO NN ((215, 0, lv, [], 0, 0) :: gs, h, o)) := by
  intro NN
  induction NN with
  | zero => intro kk h s lv o p hP hf hat hp hrn g0; exact bp_zero bu_215_0
  | succ NN ih =>
    intro kk h s lv o p hP hf hat hp hrn g0
    have hlen2 := congrArg Int32.toInt (hf 2105 (by decide))
    refine bp_ld (pc' := 1) bu_215_0 rfl rfl (fun _ _ _ => rfl) g0 rfl ?_
    refine bn_gi (pc' := 4) (K := 2106) bu_215_1 rfl rfl (fun _ _ _ => rfl) hP bq_o21 bq_i21_6 rfl rfl ?_
    refine bp_ld (pc' := 5) bu_215_4 rfl rfl (fun _ _ _ => rfl) g0 rfl ?_
    refine bn_gi (pc' := 8) (K := 2105) bu_215_5 rfl rfl (fun _ _ _ => rfl) hP bq_o21 bq_i21_5 rfl rfl ?_
    refine bp_ic (pc' := 11) (pt := 39) bu_215_8 rfl rfl (fun k4878 => ?_) (fun k4878 => ?_)
    · replace k4878 : ((s 2105)).toInt ≤ ((s 2106)).toInt := k4878
      have hnb : ¬ (p < n ∧ px_bl (px_c X n p) = true) := fun q => by
        have q2 := px_bl_iff.mp q.2
        first | omega | (split at hc9 <;> omega)
      have hpq : p = q := (px_rn_e hnb).symm.trans hrn
      subst hpq
      exact kk _ _ _ _ hP hf hat hp hnb g0
    · replace k4878 : ¬ (((s 2105)).toInt ≤ ((s 2106)).toInt) := k4878
      refine bp_ld (pc' := 12) bu_215_11 rfl rfl (fun _ _ _ => rfl) g0 rfl ?_
      refine bn_gr (pc' := 15) (t := 1) bu_215_12 rfl rfl (fun _ _ _ => rfl) hP bq_o21 bq_r21_4 ?_
      refine bp_ld (pc' := 16) bu_215_15 rfl rfl (fun _ _ _ => rfl) g0 rfl ?_
      refine bn_gi (pc' := 19) (K := 2106) bu_215_16 rfl rfl (fun _ _ _ => rfl) hP bq_o21 bq_i21_6 rfl rfl ?_
      refine bn_iaF (pc' := 20) bu_215_19 rfl rfl (fun _ _ _ => rfl) hP bq_a1 (Or.inl rfl) (fun b4879 b4880 => ?_)
      refine bp_csF (pc' := 23) (st := []) (args := [.int (A 1 ((s 2106)).toInt.toNat)]) bu_215_20 rfl rfl (by decide) rfl (Nat.le_of_ble_eq_true rfl) (Nat.le_of_ble_eq_true rfl) ?_
      have hA1 : (A 1 ((s 2106)).toInt.toNat) = X (p) := by rw [show ((s 2106)).toInt.toNat = p by omega, hX]
      have hA2 := congrArg Int32.toInt hA1
      have hb9 := hb (p) (by omega)
      have hc9 : px_c X n (p) = (if 0 ≤ (X (p)).toInt then (X (p)).toInt else (X (p)).toInt + 256) := px_c_sg (by omega) hb9.1 hb9.2
      refine ct_210 (c := (A 1 ((s 2106)).toInt.toNat)) (fun r4881 p4882 => ?_)
      show bp_G E PO (NN + 1) ((215, 23, lv, [.int r4881], 0, 0) :: gs, h, none)
      refine bp_i0 (pc' := 26) (pt := 39) bu_215_23 rfl rfl (fun k4883 => ?_) (fun k4883 => ?_)
      · replace k4883 : (r4881).toInt = 0 := k4883
        have hnb : ¬ (p < n ∧ px_bl (px_c X n p) = true) := fun q => by
          have q2 := px_bl_iff.mp q.2
          first | omega | (split at hc9 <;> omega)
        have hpq : p = q := (px_rn_e hnb).symm.trans hrn
        subst hpq
        exact kk _ _ _ _ hP hf hat hp hnb g0
      · replace k4883 : ¬ ((r4881).toInt = 0) := k4883
        refine bp_ld (pc' := 27) bu_215_26 rfl rfl (fun _ _ _ => rfl) g0 rfl ?_
        refine bp_dup (pc' := 28) bu_215_27 rfl rfl ?_
        refine bn_gi (pc' := 31) (K := 2106) bu_215_28 rfl rfl (fun _ _ _ => rfl) hP bq_o21 bq_i21_6 rfl rfl ?_
        refine bp_c (pc' := 32) (n := 1) bu_215_31 rfl rfl (fun _ _ _ => rfl) (by decide) (fun c4884 e4885 => ?_)
        refine bp_add (pc' := 33) bu_215_32 rfl (by omega) (by omega) (fun v4886 e4887 => ?_)
        refine bn_pf (pc' := 36) (K := 2106) bu_215_33 rfl rfl (fun _ _ _ => rfl) hP bq_o21 bq_i21_6 rfl rfl (fun h4888 s4889 hP4890 e4891 f4892 => ?_)
        refine bp_goD (pc' := 0) bu_215_36 rfl ?_
        have hbl9 : px_bl (px_c X n p) = true := px_bl_iff.mpr (by (split at hc9 <;> omega))
        have z2106 := congrArg Int32.toInt e4891
        exact ih (fun h s lv o a0 a1 a2 a3 a4 a5 => bp_mono (Nat.le_succ NN) (kk h s lv o a0 a1 a2 a3 a4 a5)) _ _ _ _ (p + 1) hP4890 (fun j j1 => (f4892 j j1).trans (hf j j1)) (by omega) (by omega) ((px_rn_s (by omega) hbl9).symm.trans hrn) g0
end BTQ
