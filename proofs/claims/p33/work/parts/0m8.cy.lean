/-! BY HAND: the class's Reader, 3: laws, numbers, men (wip/p4/mkc5.py) -/
section RC5
variable {K V P : Nat → Int} {Q : Nat → Nat → Bool} {σ τ : py_S} {N : Nat} {s s1 : Nat → Int32} {A A1 : Nat → Nat → Int32} {L L1 : Nat → Nat → Int64}
theorem rc_R_s (h : ∀ j, j = 1104 ∨ 2000 ≤ j → s1 j = s j) (hR : rc_R K V P N σ s L) : rc_R K V P N σ s1 L := by
  unfold rc_R at *
  rw [h 2006 (by decide), h 2002 (by decide), h 2003 (by decide), h 2005 (by decide), h 2008 (by decide), h 2009 (by decide), h 1104 (by decide), h 2007 (by decide)]
  exact hR
theorem py_x_z (h : τ.2.1 = 0 → τ.1 ≤ 400 ∧ ¬ (K τ.1 = 8 ∨ K τ.1 = 9 ∨ K τ.1 = 10 ∨ K τ.1 = 15)) : py_x K false 0 τ = τ := by
  by_cases e : τ.2.1 = 0
  · rw [py_x_d (h e).1 e (h e).2 (Or.inr rfl)]
    rfl
  · exact py_x_f e
/-- a name is kept -/
theorem rc_ad (hR : rc_R K V P N σ s L) (hf : σ.2.1 = 0) (hl : σ.2.2.2.2.length < 6) (hk : K σ.1 = 1) (h1 : (s1 1104).toInt = (s 1104).toInt + 1) (h2 : ∀ j, j ≠ 1104 → s1 j = s j) : rc_R K V P N (py_ad σ.1 σ) s1 (bh_upL L 19 (s 1104).toInt.toNat (L 20 4)) := by
  obtain ⟨r1, r2, r3⟩ := hR
  have r2 := r2 hf
  obtain ⟨a1, a2, a3, a4, a5, a6, a7, a8, a9, a10⟩ := r2
  have e20 : (bh_upL L 19 (s 1104).toInt.toNat (L 20 4)) 20 = L 20 := if_neg (by decide)
  have e24 : (bh_upL L 19 (s 1104).toInt.toNat (L 20 4)) 24 = L 24 := if_neg (by decide)
  have ei : (s 1104).toInt.toNat = σ.2.2.2.2.length := by omega
  refine ⟨by rw [h2 2006 (by decide)]; exact r1, fun _ => ⟨by rw [h2 2002 (by decide)]; exact a1, a2, by rw [h2 2003 (by decide), e20]; exact a3, by rw [h2 2005 (by decide)]; exact a4, by rw [h2 2008 (by decide)]; exact a5, by rw [h2 2009 (by decide)]; exact a6, ?_, ?_, fun i hi => ?_, by rw [e20, e24]; exact a10⟩, fun h => absurd hf h⟩
  · show (s1 1104).toInt = ((σ.2.2.2.2 ++ [σ.1]).length : Int)
    rw [List.length_append]
    show (s1 1104).toInt = ((σ.2.2.2.2.length + 1 : Nat) : Int)
    omega
  · show (σ.2.2.2.2 ++ [σ.1]).length ≤ 6
    rw [List.length_append]
    show σ.2.2.2.2.length + 1 ≤ 6
    omega
  · have hi : i < (σ.2.2.2.2 ++ [σ.1]).length := hi
    rw [List.length_append] at hi
    have hi : i < σ.2.2.2.2.length + 1 := hi
    show bh_upL L 19 (s 1104).toInt.toNat (L 20 4) 19 i = bh_upL L 19 (s 1104).toInt.toNat (L 20 4) 24 ((σ.2.2.2.2 ++ [σ.1]).getD i 0) ∧ (σ.2.2.2.2 ++ [σ.1]).getD i 0 < N ∧ K ((σ.2.2.2.2 ++ [σ.1]).getD i 0) = 1
    rw [e24, ei]
    unfold bh_upL vp_updL
    rw [if_pos rfl]
    by_cases e : i = σ.2.2.2.2.length
    · rw [if_pos e]
      have eg : (σ.2.2.2.2 ++ [σ.1]).getD i 0 = σ.1 := by
        rw [e, List.getD_eq_getElem?_getD, List.getElem?_append_right (Nat.le_refl _), Nat.sub_self]
        rfl
      rw [eg]
      exact ⟨a10, a2.2, hk⟩
    · rw [if_neg e]
      have eg : (σ.2.2.2.2 ++ [σ.1]).getD i 0 = σ.2.2.2.2.getD i 0 := by
        rw [List.getD_eq_getElem?_getD, List.getD_eq_getElem?_getD, List.getElem?_append_left (by omega)]
      rw [eg]
      exact a9 i (by omega)
/-- is the name known -/
theorem rc_kn (hR : rc_R K V P N σ s L) (hf : σ.2.1 = 0) (hk : K σ.1 = 1) (hQ : ∀ i j, i < N → j < N → K i = 1 → K j = 1 → (Q i j = true ↔ L 24 i = L 24 j)) : (σ.2.2.2.2.any (fun i => Q i σ.1) = true) ↔ ∃ j, j < (s 1104).toInt.toNat ∧ L 19 j = L 20 4 := by
  obtain ⟨r1, r2, r3⟩ := hR
  obtain ⟨a1, a2, a3, a4, a5, a6, a7, a8, a9, a10⟩ := r2 hf
  have ei : (s 1104).toInt.toNat = σ.2.2.2.2.length := by omega
  rw [ei, a10, List.any_eq_true]
  constructor
  · rintro ⟨x, hx, hq⟩
    obtain ⟨j, hj, ej⟩ := List.getElem_of_mem hx
    have eg : σ.2.2.2.2.getD j 0 = x := by
      rw [List.getD_eq_getElem?_getD, List.getElem?_eq_getElem hj, ej]
      rfl
    have g := a9 j hj
    rw [eg] at g
    exact ⟨j, hj, g.1.trans ((hQ x σ.1 g.2.1 a2.2 g.2.2 hk).mp hq)⟩
  · rintro ⟨j, hj, ej⟩
    have g := a9 j hj
    have eg : σ.2.2.2.2.getD j 0 = σ.2.2.2.2[j] := by
      rw [List.getD_eq_getElem?_getD, List.getElem?_eq_getElem hj]
      rfl
    rw [eg] at g
    exact ⟨σ.2.2.2.2[j], List.getElem_mem hj, (hQ _ _ g.2.1 a2.2 g.2.2 hk).mpr (g.1.symm.trans ej)⟩
end RC5
theorem bu_171_0 : mm_at mt_P 171 0 = some ((0, 1, .aload_n 0, 0, 0, 0, 0), 2, 1, 1, 4, 0, 0, 0) := rfl
theorem bu_171_1 : mm_at mt_P 171 1 = some ((1, 3, .invokevirtual 49, 161, 0, 0, 633), 2, 1, 1, 4, 0, 0, 0) := rfl
theorem bu_171_4 : mm_at mt_P 171 4 = some ((4, 1, .iload_n 1, 0, 0, 0, 0), 2, 1, 1, 4, 0, 0, 0) := rfl
theorem bu_171_5 : mm_at mt_P 171 5 = some ((5, 2, .bipush 8, 0, 0, 0, 0), 2, 1, 1, 4, 0, 0, 0) := rfl
theorem bu_171_7 : mm_at mt_P 171 7 = some ((7, 3, .if_icmp .ne 49, 0, 0, 0, 0), 2, 1, 1, 4, 0, 0, 0) := rfl
theorem bu_171_10 : mm_at mt_P 171 10 = some ((10, 1, .aload_n 0, 0, 0, 0, 0), 2, 1, 1, 4, 0, 0, 0) := rfl
theorem bu_171_11 : mm_at mt_P 171 11 = some ((11, 3, .getfield 9, 4, 1, 0, 275), 2, 1, 1, 4, 0, 0, 0) := rfl
theorem bu_171_14 : mm_at mt_P 171 14 = some ((14, 1, .aload_n 0, 0, 0, 0, 0), 2, 1, 1, 4, 0, 0, 0) := rfl
theorem bu_171_15 : mm_at mt_P 171 15 = some ((15, 1, .iconst 1, 0, 0, 0, 0), 2, 1, 1, 4, 0, 0, 0) := rfl
theorem bu_171_16 : mm_at mt_P 171 16 = some ((16, 2, .bipush 99, 0, 0, 0, 0), 2, 1, 1, 4, 0, 0, 0) := rfl
theorem bu_171_18 : mm_at mt_P 171 18 = some ((18, 3, .invokevirtual 74, 166, 0, 0, 661), 2, 1, 1, 4, 0, 0, 0) := rfl
theorem bu_171_21 : mm_at mt_P 171 21 = some ((21, 3, .putfield 78, 6, 5, 0, 193), 2, 1, 1, 4, 0, 0, 0) := rfl
theorem bu_171_24 : mm_at mt_P 171 24 = some ((24, 1, .aload_n 0, 0, 0, 0, 0), 2, 1, 1, 4, 0, 0, 0) := rfl
theorem bu_171_25 : mm_at mt_P 171 25 = some ((25, 3, .getfield 9, 4, 1, 0, 275), 2, 1, 1, 4, 0, 0, 0) := rfl
theorem bu_171_28 : mm_at mt_P 171 28 = some ((28, 1, .aload_n 0, 0, 0, 0, 0), 2, 1, 1, 4, 0, 0, 0) := rfl
theorem bu_171_29 : mm_at mt_P 171 29 = some ((29, 1, .iconst 0, 0, 0, 0, 0), 2, 1, 1, 4, 0, 0, 0) := rfl
theorem bu_171_30 : mm_at mt_P 171 30 = some ((30, 3, .sipush 999, 0, 0, 0, 0), 2, 1, 1, 4, 0, 0, 0) := rfl
theorem bu_171_33 : mm_at mt_P 171 33 = some ((33, 3, .invokevirtual 74, 166, 0, 0, 661), 2, 1, 1, 4, 0, 0, 0) := rfl
theorem bu_171_36 : mm_at mt_P 171 36 = some ((36, 3, .putfield 81, 6, 6, 0, 196), 2, 1, 1, 4, 0, 0, 0) := rfl
theorem bu_171_39 : mm_at mt_P 171 39 = some ((39, 1, .aload_n 0, 0, 0, 0, 0), 2, 1, 1, 4, 0, 0, 0) := rfl
theorem bu_171_40 : mm_at mt_P 171 40 = some ((40, 3, .getfield 9, 4, 1, 0, 275), 2, 1, 1, 4, 0, 0, 0) := rfl
theorem bu_171_43 : mm_at mt_P 171 43 = some ((43, 1, .aload_n 0, 0, 0, 0, 0), 2, 1, 1, 4, 0, 0, 0) := rfl
theorem bu_171_44 : mm_at mt_P 171 44 = some ((44, 1, .iconst 0, 0, 0, 0, 0), 2, 1, 1, 4, 0, 0, 0) := rfl
theorem bu_171_45 : mm_at mt_P 171 45 = some ((45, 2, .bipush 99, 0, 0, 0, 0), 2, 1, 1, 4, 0, 0, 0) := rfl
theorem bu_171_47 : mm_at mt_P 171 47 = some ((47, 3, .invokevirtual 74, 166, 0, 0, 661), 2, 1, 1, 4, 0, 0, 0) := rfl
theorem bu_171_50 : mm_at mt_P 171 50 = some ((50, 3, .putfield 84, 6, 7, 0, 199), 2, 1, 1, 4, 0, 0, 0) := rfl
theorem bu_171_53 : mm_at mt_P 171 53 = some ((53, 3, .goto 66, 0, 0, 0, 0), 2, 1, 1, 4, 0, 0, 0) := rfl
theorem bu_171_56 : mm_at mt_P 171 56 = some ((56, 1, .iload_n 1, 0, 0, 0, 0), 2, 1, 1, 4, 0, 0, 0) := rfl
theorem bu_171_57 : mm_at mt_P 171 57 = some ((57, 2, .bipush 9, 0, 0, 0, 0), 2, 1, 1, 4, 0, 0, 0) := rfl
theorem bu_171_59 : mm_at mt_P 171 59 = some ((59, 3, .if_icmp .ne 21, 0, 0, 0, 0), 2, 1, 1, 4, 0, 0, 0) := rfl
theorem bu_171_62 : mm_at mt_P 171 62 = some ((62, 1, .aload_n 0, 0, 0, 0, 0), 2, 1, 1, 4, 0, 0, 0) := rfl
theorem bu_171_63 : mm_at mt_P 171 63 = some ((63, 3, .getfield 9, 4, 1, 0, 275), 2, 1, 1, 4, 0, 0, 0) := rfl
theorem bu_171_66 : mm_at mt_P 171 66 = some ((66, 1, .aload_n 0, 0, 0, 0, 0), 2, 1, 1, 4, 0, 0, 0) := rfl
theorem bu_171_67 : mm_at mt_P 171 67 = some ((67, 1, .iconst 1, 0, 0, 0, 0), 2, 1, 1, 4, 0, 0, 0) := rfl
theorem bu_171_68 : mm_at mt_P 171 68 = some ((68, 3, .sipush 999, 0, 0, 0, 0), 2, 1, 1, 4, 0, 0, 0) := rfl
theorem bu_171_71 : mm_at mt_P 171 71 = some ((71, 3, .invokevirtual 74, 166, 0, 0, 661), 2, 1, 1, 4, 0, 0, 0) := rfl
theorem bu_171_74 : mm_at mt_P 171 74 = some ((74, 3, .putfield 87, 6, 8, 0, 201), 2, 1, 1, 4, 0, 0, 0) := rfl
theorem bu_171_77 : mm_at mt_P 171 77 = some ((77, 3, .goto 42, 0, 0, 0, 0), 2, 1, 1, 4, 0, 0, 0) := rfl
theorem bu_171_80 : mm_at mt_P 171 80 = some ((80, 1, .iload_n 1, 0, 0, 0, 0), 2, 1, 1, 4, 0, 0, 0) := rfl
theorem bu_171_81 : mm_at mt_P 171 81 = some ((81, 2, .bipush 10, 0, 0, 0, 0), 2, 1, 1, 4, 0, 0, 0) := rfl
theorem bu_171_83 : mm_at mt_P 171 83 = some ((83, 3, .if_icmp .ne 21, 0, 0, 0, 0), 2, 1, 1, 4, 0, 0, 0) := rfl
theorem bu_171_86 : mm_at mt_P 171 86 = some ((86, 1, .aload_n 0, 0, 0, 0, 0), 2, 1, 1, 4, 0, 0, 0) := rfl
theorem bu_171_87 : mm_at mt_P 171 87 = some ((87, 3, .getfield 9, 4, 1, 0, 275), 2, 1, 1, 4, 0, 0, 0) := rfl
theorem bu_171_90 : mm_at mt_P 171 90 = some ((90, 1, .aload_n 0, 0, 0, 0, 0), 2, 1, 1, 4, 0, 0, 0) := rfl
theorem bu_171_91 : mm_at mt_P 171 91 = some ((91, 1, .iconst 0, 0, 0, 0, 0), 2, 1, 1, 4, 0, 0, 0) := rfl
theorem bu_171_92 : mm_at mt_P 171 92 = some ((92, 3, .sipush 9999, 0, 0, 0, 0), 2, 1, 1, 4, 0, 0, 0) := rfl
theorem bu_171_95 : mm_at mt_P 171 95 = some ((95, 3, .invokevirtual 74, 166, 0, 0, 661), 2, 1, 1, 4, 0, 0, 0) := rfl
theorem bu_171_98 : mm_at mt_P 171 98 = some ((98, 3, .putfield 90, 6, 9, 0, 207), 2, 1, 1, 4, 0, 0, 0) := rfl
theorem bu_171_101 : mm_at mt_P 171 101 = some ((101, 3, .goto 18, 0, 0, 0, 0), 2, 1, 1, 4, 0, 0, 0) := rfl
theorem bu_171_104 : mm_at mt_P 171 104 = some ((104, 1, .aload_n 0, 0, 0, 0, 0), 2, 1, 1, 4, 0, 0, 0) := rfl
theorem bu_171_105 : mm_at mt_P 171 105 = some ((105, 3, .getfield 9, 4, 1, 0, 275), 2, 1, 1, 4, 0, 0, 0) := rfl
theorem bu_171_108 : mm_at mt_P 171 108 = some ((108, 1, .aload_n 0, 0, 0, 0, 0), 2, 1, 1, 4, 0, 0, 0) := rfl
theorem bu_171_109 : mm_at mt_P 171 109 = some ((109, 1, .iconst 0, 0, 0, 0, 0), 2, 1, 1, 4, 0, 0, 0) := rfl
theorem bu_171_110 : mm_at mt_P 171 110 = some ((110, 3, .sipush 9999, 0, 0, 0, 0), 2, 1, 1, 4, 0, 0, 0) := rfl
theorem bu_171_113 : mm_at mt_P 171 113 = some ((113, 3, .invokevirtual 74, 166, 0, 0, 661), 2, 1, 1, 4, 0, 0, 0) := rfl
theorem bu_171_116 : mm_at mt_P 171 116 = some ((116, 3, .putfield 93, 6, 10, 0, 210), 2, 1, 1, 4, 0, 0, 0) := rfl
theorem bu_171_119 : mm_at mt_P 171 119 = some ((119, 1, .aload_n 0, 0, 0, 0, 0), 2, 1, 1, 4, 0, 0, 0) := rfl
theorem bu_171_120 : mm_at mt_P 171 120 = some ((120, 2, .bipush 59, 0, 0, 0, 0), 2, 1, 1, 4, 0, 0, 0) := rfl
theorem bu_171_122 : mm_at mt_P 171 122 = some ((122, 3, .invokevirtual 96, 177, 0, 0, 669), 2, 1, 1, 4, 0, 0, 0) := rfl
theorem bu_171_125 : mm_at mt_P 171 125 = some ((125, 1, .return_, 0, 0, 0, 0), 2, 1, 1, 4, 0, 0, 0) := rfl
section CR
variable {K V P : Nat → Int} {σ : py_S} {N : Nat} {E : mm_E} {PO : mm_C → Prop} {NN : Nat} {h0 h : mm_H} {s : Nat → Int32} {A : Nat → Nat → Int32} {L : Nat → Nat → Int64} {gs : List mm_F}
def rc_nm (K V : Nat → Int) (w : Int) (σ : py_S) : py_S := if w = 8 then py_mu K 4 (py_nu K V 0 99 (py_nu K V 0 999 (py_nu K V 1 99 (py_go σ)))) else if w = 9 then py_mu K 4 (py_nu K V 1 999 (py_go σ)) else py_mu K 4 (py_nu K V 0 9999 (py_go σ))
theorem cr_171 {w : Int32} (hw : 8 ≤ w.toInt) (hP : bm_P bq_T E h0 h s A L) (hd : gs.length + 3 ≤ 999) (hf : σ.2.1 = 0) (hk : 28 ≤ K σ.1) (hR : rc_R K V P N σ s L) (hT : rc_T K V P N s A L) (hc : 0 ≤ (s 1204).toInt ∧ (s 1204).toInt ≤ 432 ∧ 0 ≤ (s 1104).toInt ∧ (s 1104).toInt ≤ 6) (kk : ∀ (h' : mm_H) (s' : Nat → Int32) (A' : Nat → Nat → Int32) (L' : Nat → Nat → Int64), bm_P bq_T E h0 h' s' A' L' → rc_F s A L s' A' L' → rc_R K V P N (rc_nm K V w.toInt σ) s' L' → bp_G E PO NN (mm_back none gs h')) : bp_G E PO NN ((171, 0, [(0, .ref (E.1 + 20)), (1, .int w)], [], 0, 0) :: gs, h, none) := by
  refine bp_ld (pc' := 1) bu_171_0 rfl rfl (fun _ _ _ => rfl) rfl rfl ?_
  refine bn_cv (pc' := 4) (st := []) (args := []) bu_171_1 rfl rfl rfl (by decide) hP bq_o20 (by decide) (by omega) rfl (Nat.le_of_ble_eq_true rfl) (Nat.le_of_ble_eq_true rfl) ?_
  refine cr_161 (σ := σ) hP hR hT hf (by omega) (by omega) (fun h1081 s1082 A1083 L1084 hP1085 F1086 R1087 => ?_)
  show bp_G E PO NN ((171, 4, _, [], 0, 0) :: gs, h1081, none)
  refine bp_ld (pc' := 5) bu_171_4 rfl rfl (fun _ _ _ => rfl) rfl rfl ?_
  refine bp_c (pc' := 7) (n := 8) bu_171_5 rfl rfl (fun _ _ _ => rfl) (by decide) (fun c1088 e1089 => ?_)
  refine bp_ic (pc' := 10) (pt := 56) bu_171_7 rfl rfl (fun k1090 => ?_) (fun k1090 => ?_)
  · replace k1090 : (w).toInt ≠ (c1088).toInt := k1090
    refine bp_ld (pc' := 57) bu_171_56 rfl rfl (fun _ _ _ => rfl) rfl rfl ?_
    refine bp_c (pc' := 59) (n := 9) bu_171_57 rfl rfl (fun _ _ _ => rfl) (by decide) (fun c1091 e1092 => ?_)
    refine bp_ic (pc' := 62) (pt := 80) bu_171_59 rfl rfl (fun k1093 => ?_) (fun k1093 => ?_)
    · replace k1093 : (w).toInt ≠ (c1091).toInt := k1093
      refine bp_ld (pc' := 81) bu_171_80 rfl rfl (fun _ _ _ => rfl) rfl rfl ?_
      refine bp_c (pc' := 83) (n := 10) bu_171_81 rfl rfl (fun _ _ _ => rfl) (by decide) (fun c1094 e1095 => ?_)
      refine bp_ic (pc' := 86) (pt := 104) bu_171_83 rfl rfl (fun k1096 => ?_) (fun k1096 => ?_)
      · replace k1096 : (w).toInt ≠ (c1094).toInt := k1096
        refine bp_ld (pc' := 105) bu_171_104 rfl rfl (fun _ _ _ => rfl) rfl rfl ?_
        refine bn_gr (pc' := 108) (t := 11) bu_171_105 rfl rfl (fun _ _ _ => rfl) hP1085 bq_o20 bq_r20_1 ?_
        refine bp_ld (pc' := 109) bu_171_108 rfl rfl (fun _ _ _ => rfl) rfl rfl ?_
        refine bp_c (pc' := 110) (n := 0) bu_171_109 rfl rfl (fun _ _ _ => rfl) (by decide) (fun c1097 e1098 => ?_)
        refine bp_c (pc' := 113) (n := 9999) bu_171_110 rfl rfl (fun _ _ _ => rfl) (by decide) (fun c1099 e1100 => ?_)
        refine bn_cv (pc' := 116) (st := [.ref (E.1 + 11)]) (args := [.int c1099, .int c1097]) bu_171_113 rfl rfl rfl (by decide) hP1085 bq_o20 (by decide) (by omega) rfl (Nat.le_of_ble_eq_true rfl) (Nat.le_of_ble_eq_true rfl) ?_
        refine cr_166 (σ := (py_go σ)) hP1085 (by simp only [List.length_cons]; omega) R1087 (rc_T_F hT F1086) (fun h1101 s1102 A1103 L1104 r1108 hP1105 F1106 R1107 v1109 => ?_)
        rw [show (c1097 : Int32).toInt = 0 from e1098, show (c1099 : Int32).toInt = 9999 from e1100] at R1107
        show bp_G E PO NN ((171, 116, _, [.int r1108, .ref (E.1 + 11)], 0, 0) :: gs, h1101, none)
        refine bn_pf (pc' := 119) (K := 1110) bu_171_116 rfl rfl (fun _ _ _ => rfl) hP1105 bq_o11 bq_i11_10 rfl rfl (fun h1110 s1111 hP1112 e1113 f1114 => ?_)
        refine bp_ld (pc' := 120) bu_171_119 rfl rfl (fun _ _ _ => rfl) rfl rfl ?_
        refine bp_c (pc' := 122) (n := 59) bu_171_120 rfl rfl (fun _ _ _ => rfl) (by decide) (fun c1115 e1116 => ?_)
        refine bn_cv (pc' := 125) (st := []) (args := [.int c1115]) bu_171_122 rfl rfl rfl (by decide) hP1112 bq_o20 (by decide) (by omega) rfl (Nat.le_of_ble_eq_true rfl) (Nat.le_of_ble_eq_true rfl) ?_
        have R1117 := rc_R_s (s1 := s1111) (fun j u => (f1114 j (by omega))) R1107
        have F1118 : rc_F s1102 A1103 L1104 s1111 A1103 L1104 := ⟨fun j u1 => (f1114 j (by omega)), fun _ _ => rfl, rfl, fun hq => by rw [(f1114 1204 (by omega)), (f1114 1104 (by omega))]; exact hq⟩
        refine cr_177 (σ := (py_nu K V 0 9999 (py_go σ))) (kc := 4) (by omega) hP1112 (by simp only [List.length_cons]; omega) R1117 (rc_T_F hT (rc_F_t (rc_F_t F1086 F1106) F1118)) (fun h1119 s1120 A1121 L1122 hP1123 F1124 R1125 => ?_)
        show bp_G E PO NN ((171, 125, _, [], 0, 0) :: gs, h1119, none)
        refine bp_rv bu_171_125 ?_
        exact kk _ _ _ _ hP1123 (rc_F_t (rc_F_t (rc_F_t F1086 F1106) F1118) F1124) (by
          have hR9 := R1125
          unfold rc_nm
          first
            | (rw [if_pos (by omega)]; exact hR9)
            | (rw [if_neg (by omega), if_pos (by omega)]; exact hR9)
            | (rw [if_neg (by omega), if_neg (by omega)]; exact hR9))
      · replace k1096 : ¬ ((w).toInt ≠ (c1094).toInt) := k1096
        refine bp_ld (pc' := 87) bu_171_86 rfl rfl (fun _ _ _ => rfl) rfl rfl ?_
        refine bn_gr (pc' := 90) (t := 11) bu_171_87 rfl rfl (fun _ _ _ => rfl) hP1085 bq_o20 bq_r20_1 ?_
        refine bp_ld (pc' := 91) bu_171_90 rfl rfl (fun _ _ _ => rfl) rfl rfl ?_
        refine bp_c (pc' := 92) (n := 0) bu_171_91 rfl rfl (fun _ _ _ => rfl) (by decide) (fun c1126 e1127 => ?_)
        refine bp_c (pc' := 95) (n := 9999) bu_171_92 rfl rfl (fun _ _ _ => rfl) (by decide) (fun c1128 e1129 => ?_)
        refine bn_cv (pc' := 98) (st := [.ref (E.1 + 11)]) (args := [.int c1128, .int c1126]) bu_171_95 rfl rfl rfl (by decide) hP1085 bq_o20 (by decide) (by omega) rfl (Nat.le_of_ble_eq_true rfl) (Nat.le_of_ble_eq_true rfl) ?_
        refine cr_166 (σ := (py_go σ)) hP1085 (by simp only [List.length_cons]; omega) R1087 (rc_T_F hT F1086) (fun h1130 s1131 A1132 L1133 r1137 hP1134 F1135 R1136 v1138 => ?_)
        rw [show (c1126 : Int32).toInt = 0 from e1127, show (c1128 : Int32).toInt = 9999 from e1129] at R1136
        show bp_G E PO NN ((171, 98, _, [.int r1137, .ref (E.1 + 11)], 0, 0) :: gs, h1130, none)
        refine bn_pf (pc' := 101) (K := 1109) bu_171_98 rfl rfl (fun _ _ _ => rfl) hP1134 bq_o11 bq_i11_9 rfl rfl (fun h1139 s1140 hP1141 e1142 f1143 => ?_)
        refine bp_go (pc' := 119) bu_171_101 rfl ?_
        refine bp_ld (pc' := 120) bu_171_119 rfl rfl (fun _ _ _ => rfl) rfl rfl ?_
        refine bp_c (pc' := 122) (n := 59) bu_171_120 rfl rfl (fun _ _ _ => rfl) (by decide) (fun c1144 e1145 => ?_)
        refine bn_cv (pc' := 125) (st := []) (args := [.int c1144]) bu_171_122 rfl rfl rfl (by decide) hP1141 bq_o20 (by decide) (by omega) rfl (Nat.le_of_ble_eq_true rfl) (Nat.le_of_ble_eq_true rfl) ?_
        have R1146 := rc_R_s (s1 := s1140) (fun j u => (f1143 j (by omega))) R1136
        have F1147 : rc_F s1131 A1132 L1133 s1140 A1132 L1133 := ⟨fun j u1 => (f1143 j (by omega)), fun _ _ => rfl, rfl, fun hq => by rw [(f1143 1204 (by omega)), (f1143 1104 (by omega))]; exact hq⟩
        refine cr_177 (σ := (py_nu K V 0 9999 (py_go σ))) (kc := 4) (by omega) hP1141 (by simp only [List.length_cons]; omega) R1146 (rc_T_F hT (rc_F_t (rc_F_t F1086 F1135) F1147)) (fun h1148 s1149 A1150 L1151 hP1152 F1153 R1154 => ?_)
        show bp_G E PO NN ((171, 125, _, [], 0, 0) :: gs, h1148, none)
        refine bp_rv bu_171_125 ?_
        exact kk _ _ _ _ hP1152 (rc_F_t (rc_F_t (rc_F_t F1086 F1135) F1147) F1153) (by
          have hR9 := R1154
          unfold rc_nm
          first
            | (rw [if_pos (by omega)]; exact hR9)
            | (rw [if_neg (by omega), if_pos (by omega)]; exact hR9)
            | (rw [if_neg (by omega), if_neg (by omega)]; exact hR9))
    · replace k1093 : ¬ ((w).toInt ≠ (c1091).toInt) := k1093
      refine bp_ld (pc' := 63) bu_171_62 rfl rfl (fun _ _ _ => rfl) rfl rfl ?_
      refine bn_gr (pc' := 66) (t := 11) bu_171_63 rfl rfl (fun _ _ _ => rfl) hP1085 bq_o20 bq_r20_1 ?_
      refine bp_ld (pc' := 67) bu_171_66 rfl rfl (fun _ _ _ => rfl) rfl rfl ?_
      refine bp_c (pc' := 68) (n := 1) bu_171_67 rfl rfl (fun _ _ _ => rfl) (by decide) (fun c1155 e1156 => ?_)
      refine bp_c (pc' := 71) (n := 999) bu_171_68 rfl rfl (fun _ _ _ => rfl) (by decide) (fun c1157 e1158 => ?_)
      refine bn_cv (pc' := 74) (st := [.ref (E.1 + 11)]) (args := [.int c1157, .int c1155]) bu_171_71 rfl rfl rfl (by decide) hP1085 bq_o20 (by decide) (by omega) rfl (Nat.le_of_ble_eq_true rfl) (Nat.le_of_ble_eq_true rfl) ?_
      refine cr_166 (σ := (py_go σ)) hP1085 (by simp only [List.length_cons]; omega) R1087 (rc_T_F hT F1086) (fun h1159 s1160 A1161 L1162 r1166 hP1163 F1164 R1165 v1167 => ?_)
      rw [show (c1155 : Int32).toInt = 1 from e1156, show (c1157 : Int32).toInt = 999 from e1158] at R1165
      show bp_G E PO NN ((171, 74, _, [.int r1166, .ref (E.1 + 11)], 0, 0) :: gs, h1159, none)
      refine bn_pf (pc' := 77) (K := 1108) bu_171_74 rfl rfl (fun _ _ _ => rfl) hP1163 bq_o11 bq_i11_8 rfl rfl (fun h1168 s1169 hP1170 e1171 f1172 => ?_)
      refine bp_go (pc' := 119) bu_171_77 rfl ?_
      refine bp_ld (pc' := 120) bu_171_119 rfl rfl (fun _ _ _ => rfl) rfl rfl ?_
      refine bp_c (pc' := 122) (n := 59) bu_171_120 rfl rfl (fun _ _ _ => rfl) (by decide) (fun c1173 e1174 => ?_)
      refine bn_cv (pc' := 125) (st := []) (args := [.int c1173]) bu_171_122 rfl rfl rfl (by decide) hP1170 bq_o20 (by decide) (by omega) rfl (Nat.le_of_ble_eq_true rfl) (Nat.le_of_ble_eq_true rfl) ?_
      have R1175 := rc_R_s (s1 := s1169) (fun j u => (f1172 j (by omega))) R1165
      have F1176 : rc_F s1160 A1161 L1162 s1169 A1161 L1162 := ⟨fun j u1 => (f1172 j (by omega)), fun _ _ => rfl, rfl, fun hq => by rw [(f1172 1204 (by omega)), (f1172 1104 (by omega))]; exact hq⟩
      refine cr_177 (σ := (py_nu K V 1 999 (py_go σ))) (kc := 4) (by omega) hP1170 (by simp only [List.length_cons]; omega) R1175 (rc_T_F hT (rc_F_t (rc_F_t F1086 F1164) F1176)) (fun h1177 s1178 A1179 L1180 hP1181 F1182 R1183 => ?_)
      show bp_G E PO NN ((171, 125, _, [], 0, 0) :: gs, h1177, none)
      refine bp_rv bu_171_125 ?_
      exact kk _ _ _ _ hP1181 (rc_F_t (rc_F_t (rc_F_t F1086 F1164) F1176) F1182) (by
        have hR9 := R1183
        unfold rc_nm
        first
          | (rw [if_pos (by omega)]; exact hR9)
          | (rw [if_neg (by omega), if_pos (by omega)]; exact hR9)
          | (rw [if_neg (by omega), if_neg (by omega)]; exact hR9))
  · replace k1090 : ¬ ((w).toInt ≠ (c1088).toInt) := k1090
    refine bp_ld (pc' := 11) bu_171_10 rfl rfl (fun _ _ _ => rfl) rfl rfl ?_
    refine bn_gr (pc' := 14) (t := 11) bu_171_11 rfl rfl (fun _ _ _ => rfl) hP1085 bq_o20 bq_r20_1 ?_
    refine bp_ld (pc' := 15) bu_171_14 rfl rfl (fun _ _ _ => rfl) rfl rfl ?_
    refine bp_c (pc' := 16) (n := 1) bu_171_15 rfl rfl (fun _ _ _ => rfl) (by decide) (fun c1184 e1185 => ?_)
    refine bp_c (pc' := 18) (n := 99) bu_171_16 rfl rfl (fun _ _ _ => rfl) (by decide) (fun c1186 e1187 => ?_)
    refine bn_cv (pc' := 21) (st := [.ref (E.1 + 11)]) (args := [.int c1186, .int c1184]) bu_171_18 rfl rfl rfl (by decide) hP1085 bq_o20 (by decide) (by omega) rfl (Nat.le_of_ble_eq_true rfl) (Nat.le_of_ble_eq_true rfl) ?_
    refine cr_166 (σ := (py_go σ)) hP1085 (by simp only [List.length_cons]; omega) R1087 (rc_T_F hT F1086) (fun h1188 s1189 A1190 L1191 r1195 hP1192 F1193 R1194 v1196 => ?_)
    rw [show (c1184 : Int32).toInt = 1 from e1185, show (c1186 : Int32).toInt = 99 from e1187] at R1194
    show bp_G E PO NN ((171, 21, _, [.int r1195, .ref (E.1 + 11)], 0, 0) :: gs, h1188, none)
    refine bn_pf (pc' := 24) (K := 1105) bu_171_21 rfl rfl (fun _ _ _ => rfl) hP1192 bq_o11 bq_i11_5 rfl rfl (fun h1197 s1198 hP1199 e1200 f1201 => ?_)
    refine bp_ld (pc' := 25) bu_171_24 rfl rfl (fun _ _ _ => rfl) rfl rfl ?_
    refine bn_gr (pc' := 28) (t := 11) bu_171_25 rfl rfl (fun _ _ _ => rfl) hP1199 bq_o20 bq_r20_1 ?_
    refine bp_ld (pc' := 29) bu_171_28 rfl rfl (fun _ _ _ => rfl) rfl rfl ?_
    refine bp_c (pc' := 30) (n := 0) bu_171_29 rfl rfl (fun _ _ _ => rfl) (by decide) (fun c1202 e1203 => ?_)
    refine bp_c (pc' := 33) (n := 999) bu_171_30 rfl rfl (fun _ _ _ => rfl) (by decide) (fun c1204 e1205 => ?_)
    refine bn_cv (pc' := 36) (st := [.ref (E.1 + 11)]) (args := [.int c1204, .int c1202]) bu_171_33 rfl rfl rfl (by decide) hP1199 bq_o20 (by decide) (by omega) rfl (Nat.le_of_ble_eq_true rfl) (Nat.le_of_ble_eq_true rfl) ?_
    have R1206 := rc_R_s (s1 := s1198) (fun j u => (f1201 j (by omega))) R1194
    have F1207 : rc_F s1189 A1190 L1191 s1198 A1190 L1191 := ⟨fun j u1 => (f1201 j (by omega)), fun _ _ => rfl, rfl, fun hq => by rw [(f1201 1204 (by omega)), (f1201 1104 (by omega))]; exact hq⟩
    refine cr_166 (σ := (py_nu K V 1 99 (py_go σ))) hP1199 (by simp only [List.length_cons]; omega) R1206 (rc_T_F hT (rc_F_t (rc_F_t F1086 F1193) F1207)) (fun h1208 s1209 A1210 L1211 r1215 hP1212 F1213 R1214 v1216 => ?_)
    rw [show (c1202 : Int32).toInt = 0 from e1203, show (c1204 : Int32).toInt = 999 from e1205] at R1214
    show bp_G E PO NN ((171, 36, _, [.int r1215, .ref (E.1 + 11)], 0, 0) :: gs, h1208, none)
    refine bn_pf (pc' := 39) (K := 1106) bu_171_36 rfl rfl (fun _ _ _ => rfl) hP1212 bq_o11 bq_i11_6 rfl rfl (fun h1217 s1218 hP1219 e1220 f1221 => ?_)
    refine bp_ld (pc' := 40) bu_171_39 rfl rfl (fun _ _ _ => rfl) rfl rfl ?_
    refine bn_gr (pc' := 43) (t := 11) bu_171_40 rfl rfl (fun _ _ _ => rfl) hP1219 bq_o20 bq_r20_1 ?_
    refine bp_ld (pc' := 44) bu_171_43 rfl rfl (fun _ _ _ => rfl) rfl rfl ?_
    refine bp_c (pc' := 45) (n := 0) bu_171_44 rfl rfl (fun _ _ _ => rfl) (by decide) (fun c1222 e1223 => ?_)
    refine bp_c (pc' := 47) (n := 99) bu_171_45 rfl rfl (fun _ _ _ => rfl) (by decide) (fun c1224 e1225 => ?_)
    refine bn_cv (pc' := 50) (st := [.ref (E.1 + 11)]) (args := [.int c1224, .int c1222]) bu_171_47 rfl rfl rfl (by decide) hP1219 bq_o20 (by decide) (by omega) rfl (Nat.le_of_ble_eq_true rfl) (Nat.le_of_ble_eq_true rfl) ?_
    have R1226 := rc_R_s (s1 := s1218) (fun j u => (f1221 j (by omega))) R1214
    have F1227 : rc_F s1209 A1210 L1211 s1218 A1210 L1211 := ⟨fun j u1 => (f1221 j (by omega)), fun _ _ => rfl, rfl, fun hq => by rw [(f1221 1204 (by omega)), (f1221 1104 (by omega))]; exact hq⟩
    refine cr_166 (σ := (py_nu K V 0 999 (py_nu K V 1 99 (py_go σ)))) hP1219 (by simp only [List.length_cons]; omega) R1226 (rc_T_F hT (rc_F_t (rc_F_t (rc_F_t (rc_F_t F1086 F1193) F1207) F1213) F1227)) (fun h1228 s1229 A1230 L1231 r1235 hP1232 F1233 R1234 v1236 => ?_)
    rw [show (c1222 : Int32).toInt = 0 from e1223, show (c1224 : Int32).toInt = 99 from e1225] at R1234
    show bp_G E PO NN ((171, 50, _, [.int r1235, .ref (E.1 + 11)], 0, 0) :: gs, h1228, none)
    refine bn_pf (pc' := 53) (K := 1107) bu_171_50 rfl rfl (fun _ _ _ => rfl) hP1232 bq_o11 bq_i11_7 rfl rfl (fun h1237 s1238 hP1239 e1240 f1241 => ?_)
    refine bp_go (pc' := 119) bu_171_53 rfl ?_
    refine bp_ld (pc' := 120) bu_171_119 rfl rfl (fun _ _ _ => rfl) rfl rfl ?_
    refine bp_c (pc' := 122) (n := 59) bu_171_120 rfl rfl (fun _ _ _ => rfl) (by decide) (fun c1242 e1243 => ?_)
    refine bn_cv (pc' := 125) (st := []) (args := [.int c1242]) bu_171_122 rfl rfl rfl (by decide) hP1239 bq_o20 (by decide) (by omega) rfl (Nat.le_of_ble_eq_true rfl) (Nat.le_of_ble_eq_true rfl) ?_
    have R1244 := rc_R_s (s1 := s1238) (fun j u => (f1241 j (by omega))) R1234
    have F1245 : rc_F s1229 A1230 L1231 s1238 A1230 L1231 := ⟨fun j u1 => (f1241 j (by omega)), fun _ _ => rfl, rfl, fun hq => by rw [(f1241 1204 (by omega)), (f1241 1104 (by omega))]; exact hq⟩
    refine cr_177 (σ := (py_nu K V 0 99 (py_nu K V 0 999 (py_nu K V 1 99 (py_go σ))))) (kc := 4) (by omega) hP1239 (by simp only [List.length_cons]; omega) R1244 (rc_T_F hT (rc_F_t (rc_F_t (rc_F_t (rc_F_t (rc_F_t (rc_F_t F1086 F1193) F1207) F1213) F1227) F1233) F1245)) (fun h1246 s1247 A1248 L1249 hP1250 F1251 R1252 => ?_)
    show bp_G E PO NN ((171, 125, _, [], 0, 0) :: gs, h1246, none)
    refine bp_rv bu_171_125 ?_
    exact kk _ _ _ _ hP1250 (rc_F_t (rc_F_t (rc_F_t (rc_F_t (rc_F_t (rc_F_t (rc_F_t F1086 F1193) F1207) F1213) F1227) F1233) F1245) F1251) (by
      have hR9 := R1252
      unfold rc_nm
      first
        | (rw [if_pos (by omega)]; exact hR9)
        | (rw [if_neg (by omega), if_pos (by omega)]; exact hR9)
        | (rw [if_neg (by omega), if_neg (by omega)]; exact hR9))
end CR
