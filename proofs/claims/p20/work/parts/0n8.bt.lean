/-! PARTIAL: the class reads its tape, exact, 2 (wip/p5/mkq8.py) -/
theorem bu_173_0 : mm_at mt_P 173 0 = some ((0, 1, .aload_n 0, 0, 0, 0, 0), 3, 1, 1, 4, 1, 0, 0) := rfl
theorem bu_173_1 : mm_at mt_P 173 1 = some ((1, 3, .getfield 9, 4, 1, 0, 275), 3, 1, 1, 4, 1, 0, 0) := rfl
theorem bu_173_4 : mm_at mt_P 173 4 = some ((4, 3, .invokevirtual 28, 202, 0, 0, 486), 3, 1, 1, 4, 1, 0, 0) := rfl
theorem bu_173_7 : mm_at mt_P 173 7 = some ((7, 1, .aload_n 0, 0, 0, 0, 0), 3, 1, 1, 4, 1, 0, 0) := rfl
theorem bu_173_8 : mm_at mt_P 173 8 = some ((8, 3, .getfield 20, 4, 0, 0, 274), 3, 1, 1, 4, 1, 0, 0) := rfl
theorem bu_173_11 : mm_at mt_P 173 11 = some ((11, 1, .iload_n 1, 0, 0, 0, 0), 3, 1, 1, 4, 1, 0, 0) := rfl
theorem bu_173_12 : mm_at mt_P 173 12 = some ((12, 3, .invokevirtual 33, 218, 0, 0, 487), 3, 1, 1, 4, 1, 0, 0) := rfl
theorem bu_173_15 : mm_at mt_P 173 15 = some ((15, 1, .aload_n 0, 0, 0, 0, 0), 3, 1, 1, 4, 1, 0, 0) := rfl
theorem bu_173_16 : mm_at mt_P 173 16 = some ((16, 1, .iconst 0, 0, 0, 0, 0), 3, 1, 1, 4, 1, 0, 0) := rfl
theorem bu_173_17 : mm_at mt_P 173 17 = some ((17, 3, .putfield 37, 4, 6, 0, 280), 3, 1, 1, 4, 1, 0, 0) := rfl
theorem bu_173_20 : mm_at mt_P 173 20 = some ((20, 1, .aload_n 0, 0, 0, 0, 0), 3, 1, 1, 4, 1, 0, 0) := rfl
theorem bu_173_21 : mm_at mt_P 173 21 = some ((21, 1, .iconst (-1), 0, 0, 0, 0), 3, 1, 1, 4, 1, 0, 0) := rfl
theorem bu_173_22 : mm_at mt_P 173 22 = some ((22, 3, .putfield 24, 4, 7, 0, 281), 3, 1, 1, 4, 1, 0, 0) := rfl
theorem bu_173_25 : mm_at mt_P 173 25 = some ((25, 1, .aload_n 0, 0, 0, 0, 0), 3, 1, 1, 4, 1, 0, 0) := rfl
theorem bu_173_26 : mm_at mt_P 173 26 = some ((26, 1, .iconst 0, 0, 0, 0, 0), 3, 1, 1, 4, 1, 0, 0) := rfl
theorem bu_173_27 : mm_at mt_P 173 27 = some ((27, 3, .putfield 40, 4, 8, 0, 282), 3, 1, 1, 4, 1, 0, 0) := rfl
theorem bu_173_30 : mm_at mt_P 173 30 = some ((30, 1, .aload_n 0, 0, 0, 0, 0), 3, 1, 1, 4, 1, 0, 0) := rfl
theorem bu_173_31 : mm_at mt_P 173 31 = some ((31, 1, .iconst (-1), 0, 0, 0, 0), 3, 1, 1, 4, 1, 0, 0) := rfl
theorem bu_173_32 : mm_at mt_P 173 32 = some ((32, 3, .putfield 43, 4, 9, 0, 283), 3, 1, 1, 4, 1, 0, 0) := rfl
theorem bu_173_35 : mm_at mt_P 173 35 = some ((35, 1, .aload_n 0, 0, 0, 0, 0), 3, 1, 1, 4, 1, 0, 0) := rfl
theorem bu_173_36 : mm_at mt_P 173 36 = some ((36, 1, .iconst (-1), 0, 0, 0, 0), 3, 1, 1, 4, 1, 0, 0) := rfl
theorem bu_173_37 : mm_at mt_P 173 37 = some ((37, 3, .putfield 46, 4, 2, 0, 276), 3, 1, 1, 4, 1, 0, 0) := rfl
theorem bu_173_40 : mm_at mt_P 173 40 = some ((40, 1, .aload_n 0, 0, 0, 0, 0), 3, 1, 1, 4, 1, 0, 0) := rfl
theorem bu_173_41 : mm_at mt_P 173 41 = some ((41, 3, .invokevirtual 49, 161, 0, 0, 633), 3, 1, 1, 4, 1, 0, 0) := rfl
theorem bu_173_44 : mm_at mt_P 173 44 = some ((44, 1, .iconst 0, 0, 0, 0, 0), 3, 1, 1, 4, 1, 0, 0) := rfl
theorem bu_173_45 : mm_at mt_P 173 45 = some ((45, 1, .istore_n 2, 0, 0, 0, 0), 3, 1, 1, 4, 1, 0, 0) := rfl
section BTQ
variable {X : Nat → Int32} {n : Nat} {E : mm_E} {PO : mm_C → Prop} {NN : Nat} {h0 h : mm_H} {s : Nat → Int32} {A : Nat → Nat → Int32} {L : Nat → Nat → Int64} {gs : List mm_F}
set_option maxHeartbeats 4000000 in
theorem bt_173 {x9 y9 tl : Int32} {q4 q4' q6 q6' : mm_S} (hq4 : E.2[4]? = some q4) (hE4 : bs_E E 0 q4 q4') (hn4 : q4'.2.1 = 192) (hW4 : ∀ k, k < 24 → ∀ i, i < 8 → (q4'.2.2 (8 * k + i)).toInt = px_wc k i) (hq6 : E.2[6]? = some q6) (hE6 : bs_E E 1 q6 q6') (hn6 : q6'.2.1 = 9) (hW6 : ∀ i, i < 9 → (q6'.2.2 i).toInt = px_sw i) (hS : ∀ ρ, en_SA E ρ (wl_o x9 y9) mt_SB) (hP : bm_P bq_T E h0 h s A L) (hd : gs.length + 60 ≤ 999) (hX : A 1 = X) (htl : tl.toInt = (n : Int)) (hn2 : n ≤ 2000) (hb : ∀ j, j < n → -128 ≤ (X j).toInt ∧ (X j).toInt ≤ 127) (kk : ∀ (h' : mm_H) (s' : Nat → Int32) (A' : Nat → Nat → Int32) (L' : Nat → Nat → Int64) (r : Int32), bm_P bq_T E h0 h' s' A' L' → r.toInt = (py_ft (py_end (fun j => px_kd X n (px_at X n j)) (fun j => px_vl X n (px_at X n j)) (rq_Q X n)) : Int) → (s' 2007).toInt = py_pl (fun j => px_at X n j) (py_end (fun j => px_kd X n (px_at X n j)) (fun j => px_vl X n (px_at X n j)) (rq_Q X n)) → (r.toInt = 0 → (s' 1104).toInt = (((py_end (fun j => px_kd X n (px_at X n j)) (fun j => px_vl X n (px_at X n j)) (rq_Q X n))).2.2.2.2.length : Int) ∧ rc_O (fun j => px_vl X n (px_at X n j)) ((py_end (fun j => px_kd X n (px_at X n j)) (fun j => px_vl X n (px_at X n j)) (rq_Q X n))).2.2.2.2 (py_wend (fun j => px_kd X n (px_at X n j)) (fun j => px_vl X n (px_at X n j)) (rq_Q X n)) s' A' ∧ ((py_end (fun j => px_kd X n (px_at X n j)) (fun j => px_vl X n (px_at X n j)) (rq_Q X n))).2.2.2.2.length ≤ 6) → bp_G E PO NN (mm_back (some (.int r)) gs h')) : bp_G E PO NN ((173, 0, [(0, .ref (E.1 + 20)), (1, .int tl)], [], 0, 0) :: gs, h, none) := by
  refine bp_ld (pc' := 1) bu_173_0 rfl rfl (fun _ _ _ => rfl) rfl rfl ?_
  refine bn_gr (pc' := 4) (t := 11) bu_173_1 rfl rfl (fun _ _ _ => rfl) hP bq_o20 bq_r20_1 ?_
  refine bn_cvF (pc' := 7) (st := []) (args := []) bu_173_4 rfl rfl rfl (by decide) hP bq_o11 (by decide) rfl (Nat.le_of_ble_eq_true rfl) (Nat.le_of_ble_eq_true rfl) ?_
  refine bt_202 hP (fun h5841 s5842 A5843 hP5844 f5845 a5846 z5847 zz5848 c5849 => ?_)
  show bp_G E PO NN ((173, 7, _, [], 0, 0) :: gs, h5841, none)
  refine bp_ld (pc' := 8) bu_173_7 rfl rfl (fun _ _ _ => rfl) rfl rfl ?_
  refine bn_gr (pc' := 11) (t := 21) bu_173_8 rfl rfl (fun _ _ _ => rfl) hP5844 bq_o20 bq_r20_0 ?_
  refine bp_ld (pc' := 12) bu_173_11 rfl rfl (fun _ _ _ => rfl) rfl rfl ?_
  refine bn_cvF (pc' := 15) (st := []) (args := [.int tl]) bu_173_12 rfl rfl rfl (by decide) hP5844 bq_o21 (by decide) rfl (Nat.le_of_ble_eq_true rfl) (Nat.le_of_ble_eq_true rfl) ?_
  refine bt_218 hq4 hE4 hn4 hW4 hq6 hE6 hn6 hW6 hP5844 ((a5846 1 (by decide) (by decide)).trans hX) htl hn2 hb (fun h5850 s5851 A5852 L5853 N5854 hP5855 f5856 a5857 l5858 hN5859 hN5860 hN5861 hcl5862 hK5863 => ?_)
  show bp_G E PO NN ((173, 15, _, [], 0, 0) :: gs, h5850, none)
  refine bp_ld (pc' := 16) bu_173_15 rfl rfl (fun _ _ _ => rfl) rfl rfl ?_
  refine bp_c (pc' := 17) (n := 0) bu_173_16 rfl rfl (fun _ _ _ => rfl) (by decide) (fun c5864 e5865 => ?_)
  refine bn_pf (pc' := 20) (K := 2006) bu_173_17 rfl rfl (fun _ _ _ => rfl) hP5855 bq_o20 bq_i20_6 rfl rfl (fun h5866 s5867 hP5868 e5869 f5870 => ?_)
  refine bp_ld (pc' := 21) bu_173_20 rfl rfl (fun _ _ _ => rfl) rfl rfl ?_
  refine bp_c (pc' := 22) (n := -1) bu_173_21 rfl rfl (fun _ _ _ => rfl) (by decide) (fun c5871 e5872 => ?_)
  refine bn_pf (pc' := 25) (K := 2007) bu_173_22 rfl rfl (fun _ _ _ => rfl) hP5868 bq_o20 bq_i20_7 rfl rfl (fun h5873 s5874 hP5875 e5876 f5877 => ?_)
  refine bp_ld (pc' := 26) bu_173_25 rfl rfl (fun _ _ _ => rfl) rfl rfl ?_
  refine bp_c (pc' := 27) (n := 0) bu_173_26 rfl rfl (fun _ _ _ => rfl) (by decide) (fun c5878 e5879 => ?_)
  refine bn_pf (pc' := 30) (K := 2008) bu_173_27 rfl rfl (fun _ _ _ => rfl) hP5875 bq_o20 bq_i20_8 rfl rfl (fun h5880 s5881 hP5882 e5883 f5884 => ?_)
  refine bp_ld (pc' := 31) bu_173_30 rfl rfl (fun _ _ _ => rfl) rfl rfl ?_
  refine bp_c (pc' := 32) (n := -1) bu_173_31 rfl rfl (fun _ _ _ => rfl) (by decide) (fun c5885 e5886 => ?_)
  refine bn_pf (pc' := 35) (K := 2009) bu_173_32 rfl rfl (fun _ _ _ => rfl) hP5882 bq_o20 bq_i20_9 rfl rfl (fun h5887 s5888 hP5889 e5890 f5891 => ?_)
  refine bp_ld (pc' := 36) bu_173_35 rfl rfl (fun _ _ _ => rfl) rfl rfl ?_
  refine bp_c (pc' := 37) (n := -1) bu_173_36 rfl rfl (fun _ _ _ => rfl) (by decide) (fun c5892 e5893 => ?_)
  refine bn_pf (pc' := 40) (K := 2002) bu_173_37 rfl rfl (fun _ _ _ => rfl) hP5889 bq_o20 bq_i20_2 rfl rfl (fun h5894 s5895 hP5896 e5897 f5898 => ?_)
  refine bp_ld (pc' := 41) bu_173_40 rfl rfl (fun _ _ _ => rfl) rfl rfl ?_
  refine bn_cvF (pc' := 44) (st := []) (args := []) bu_173_41 rfl rfl rfl (by decide) hP5896 bq_o20 (by decide) rfl (Nat.le_of_ble_eq_true rfl) (Nat.le_of_ble_eq_true rfl) ?_
  have z2002 := congrArg Int32.toInt e5897
  refine bt_161 (N := N5854) hP5896 (by omega) (by rw [((f5898 2103 (by decide)).trans ((f5891 2103 (by decide)).trans ((f5884 2103 (by decide)).trans ((f5877 2103 (by decide)).trans (f5870 2103 (by decide))))))]; exact hN5859) hN5861 (fun h5899 s5900 L5901 hP5902 e5903 e5904 e5905 e5906 f5907 l5908 => ?_)
  show bp_G E PO NN ((173, 44, _, [], 0, 0) :: gs, h5899, none)
  refine bp_c (pc' := 45) (n := 0) bu_173_44 rfl rfl (fun _ _ _ => rfl) (by decide) (fun c5909 e5910 => ?_)
  refine bp_st (pc' := 46) bu_173_45 rfl rfl (fun _ _ _ => rfl) rfl (by decide) (by decide) (fun lv5911 F5912 g5913 => ?_)
  have g5914 := F5912 0 (.ref (E.1 + 20)) rfl (by decide) (Or.inl rfl)
  have g5915 := F5912 1 (.int tl) rfl (by decide) (Or.inl rfl)
  have z2006 := congrArg Int32.toInt ((f5898 2006 (by decide)).trans ((f5891 2006 (by decide)).trans ((f5884 2006 (by decide)).trans ((f5877 2006 (by decide)).trans e5869))))
  have z2008 := congrArg Int32.toInt ((f5898 2008 (by decide)).trans ((f5891 2008 (by decide)).trans e5883))
  have z2009 := congrArg Int32.toInt ((f5898 2009 (by decide)).trans e5890)
  have w6 := congrArg Int32.toInt (f5907 2006 (by decide) (by decide) (by decide))
  have w8 := congrArg Int32.toInt (f5907 2008 (by decide) (by decide) (by decide))
  have w9 := congrArg Int32.toInt (f5907 2009 (by decide) (by decide) (by decide))
  have w1 := congrArg Int32.toInt (((f5907 1104 (by decide) (by decide) (by decide)).trans ((f5898 1104 (by decide)).trans ((f5891 1104 (by decide)).trans ((f5884 1104 (by decide)).trans ((f5877 1104 (by decide)).trans (f5870 1104 (by decide))))))).trans (f5856 1104 (by decide) (by decide) (by decide)))
  have w2 := congrArg Int32.toInt (((f5907 1204 (by decide) (by decide) (by decide)).trans ((f5898 1204 (by decide)).trans ((f5891 1204 (by decide)).trans ((f5884 1204 (by decide)).trans ((f5877 1204 (by decide)).trans (f5870 1204 (by decide))))))).trans (f5856 1204 (by decide) (by decide) (by decide)))
  have w3 := congrArg Int32.toInt ((f5907 2103 (by decide) (by decide) (by decide)).trans ((f5898 2103 (by decide)).trans ((f5891 2103 (by decide)).trans ((f5884 2103 (by decide)).trans ((f5877 2103 (by decide)).trans (f5870 2103 (by decide)))))))
  have hl24 := l5908 24 (by decide)
  have hO9 : rc_O (fun j => px_vl X n (px_at X n j)) ([] : List Nat) (fun _ => 0) s5900 A5852 := by
    have x1105 := congrArg Int32.toInt (((f5907 1105 (by decide) (by decide) (by decide)).trans ((f5898 1105 (by decide)).trans ((f5891 1105 (by decide)).trans ((f5884 1105 (by decide)).trans ((f5877 1105 (by decide)).trans (f5870 1105 (by decide))))))).trans (f5856 1105 (by decide) (by decide) (by decide)))
    have x1106 := congrArg Int32.toInt (((f5907 1106 (by decide) (by decide) (by decide)).trans ((f5898 1106 (by decide)).trans ((f5891 1106 (by decide)).trans ((f5884 1106 (by decide)).trans ((f5877 1106 (by decide)).trans (f5870 1106 (by decide))))))).trans (f5856 1106 (by decide) (by decide) (by decide)))
    have x1107 := congrArg Int32.toInt (((f5907 1107 (by decide) (by decide) (by decide)).trans ((f5898 1107 (by decide)).trans ((f5891 1107 (by decide)).trans ((f5884 1107 (by decide)).trans ((f5877 1107 (by decide)).trans (f5870 1107 (by decide))))))).trans (f5856 1107 (by decide) (by decide) (by decide)))
    have x1108 := congrArg Int32.toInt (((f5907 1108 (by decide) (by decide) (by decide)).trans ((f5898 1108 (by decide)).trans ((f5891 1108 (by decide)).trans ((f5884 1108 (by decide)).trans ((f5877 1108 (by decide)).trans (f5870 1108 (by decide))))))).trans (f5856 1108 (by decide) (by decide) (by decide)))
    have x1109 := congrArg Int32.toInt (((f5907 1109 (by decide) (by decide) (by decide)).trans ((f5898 1109 (by decide)).trans ((f5891 1109 (by decide)).trans ((f5884 1109 (by decide)).trans ((f5877 1109 (by decide)).trans (f5870 1109 (by decide))))))).trans (f5856 1109 (by decide) (by decide) (by decide)))
    have x1110 := congrArg Int32.toInt (((f5907 1110 (by decide) (by decide) (by decide)).trans ((f5898 1110 (by decide)).trans ((f5891 1110 (by decide)).trans ((f5884 1110 (by decide)).trans ((f5877 1110 (by decide)).trans (f5870 1110 (by decide))))))).trans (f5856 1110 (by decide) (by decide) (by decide)))
    obtain ⟨y5, y6, y7, y8, y9, y10⟩ := zz5848
    exact ⟨fun i hi => absurd hi (Nat.not_lt_zero i), x1105.trans y5, x1106.trans y6, x1107.trans y7, x1108.trans y8, x1109.trans y9, x1110.trans y10⟩
  have hT9 : rc_T (fun j => px_kd X n (px_at X n j)) (fun j => px_vl X n (px_at X n j)) (fun j => (px_at X n j : Int)) N5854 s5900 A5852 L5901 := ⟨by omega, hN5860, fun j hj => ⟨by rw [hl24]; exact (hK5863 j hj).1, (hK5863 j hj).2.1⟩, hN5861, hcl5862⟩
  have hR9 : rc_R (fun j => px_kd X n (px_at X n j)) (fun j => px_vl X n (px_at X n j)) (fun j => (px_at X n j : Int)) N5854 (0, 0, 0, 0, []) s5900 L5901 := ⟨by show (s5900 2006).toInt = ((0 : Nat) : Int); omega, fun _ => ⟨by show (s5900 2002).toInt = ((0 : Nat) : Int); omega, ⟨Nat.zero_le _, hN5861⟩, by rw [e5904, e5905]; exact (hK5863 0 hN5861).1, by rw [e5906]; exact (hK5863 0 hN5861).2.1, by show (s5900 2008).toInt = ((0 : Nat) : Int); omega, by show (s5900 2009).toInt = -1; omega, by show (s5900 1104).toInt = ((0 : Nat) : Int); omega, Nat.zero_le _, fun i hi => absurd hi (Nat.not_lt_zero i), by rw [hl24]; exact e5905⟩, fun q => absurd rfl q⟩
  exact bt_173l hS hd hT9 (rk_Qi (fun j hj hk => by rw [hl24]; exact (hK5863 j hj).2.2 hk)) NN (fun h s A L lv o a0 a1 a2 a3 a4 => bt_173e a0 a2 a3 a4 kk) _ _ _ _ _ _ (0, 0, 0, 0, []) _ 401 _ hP5902 rc_G_r hR9 ⟨by omega, by omega, by omega, by omega⟩ g5914 g5913 (by omega) (by omega) rfl rfl (fun _ => hO9)
end BTQ
