/-! BY HAND: the class's Reader, 3: laws, numbers, men (wip/p4/mkc5.py) -/
section RC5
variable {K V P : Nat → Int} {Q : Nat → Nat → Bool} {σ τ : py_S} {N : Nat} {s s1 : Nat → Int32} {A A1 : Nat → Nat → Int32} {L L1 : Nat → Nat → Int64}
theorem rc_R_s (h : ∀ j, j = 1104 ∨ 2000 ≤ j → s1 j = s j) (hR : rc_R K V P N σ s L) : rc_R K V P N σ s1 L := by
  unfold rc_R at *
  rw [h 2006 (by decide), h 2002 (by decide), h 2003 (by decide), h 2005 (by decide), h 2008 (by decide), h 2009 (by decide), h 1104 (by decide), h 2007 (by decide)]
  exact hR
theorem py_x_z (h : τ.2.1 = 0 → τ.1 ≤ 400 ∧ ¬ (K τ.1 = 8 ∨ K τ.1 = 9 ∨ K τ.1 = 10 ∨ K τ.1 = 15)) : py_x K false 0 τ = τ := by
  by_cases e : τ.2.1 = 0
  · rw [py_x_d (h e).1 e (h e).2 (Or.inr rfl)]
    rfl
  · exact py_x_f e
/-- a name is kept -/
theorem rc_ad (hR : rc_R K V P N σ s L) (hf : σ.2.1 = 0) (hl : σ.2.2.2.2.length < 6) (hk : K σ.1 = 1) (h1 : (s1 1104).toInt = (s 1104).toInt + 1) (h2 : ∀ j, j ≠ 1104 → s1 j = s j) : rc_R K V P N (py_ad σ.1 σ) s1 (bh_upL L 19 (s 1104).toInt.toNat (L 20 4)) := by
  obtain ⟨r1, r2, r3⟩ := hR
  have r2 := r2 hf
  obtain ⟨a1, a2, a3, a4, a5, a6, a7, a8, a9, a10⟩ := r2
  have e20 : (bh_upL L 19 (s 1104).toInt.toNat (L 20 4)) 20 = L 20 := if_neg (by decide)
  have e24 : (bh_upL L 19 (s 1104).toInt.toNat (L 20 4)) 24 = L 24 := if_neg (by decide)
  have ei : (s 1104).toInt.toNat = σ.2.2.2.2.length := by omega
  refine ⟨by rw [h2 2006 (by decide)]; exact r1, fun _ => ⟨by rw [h2 2002 (by decide)]; exact a1, a2, by rw [h2 2003 (by decide), e20]; exact a3, by rw [h2 2005 (by decide)]; exact a4, by rw [h2 2008 (by decide)]; exact a5, by rw [h2 2009 (by decide)]; exact a6, ?_, ?_, fun i hi => ?_, by rw [e20, e24]; exact a10⟩, fun h => absurd hf h⟩
  · show (s1 1104).toInt = ((σ.2.2.2.2 ++ [σ.1]).length : Int)
    rw [List.length_append]
    show (s1 1104).toInt = ((σ.2.2.2.2.length + 1 : Nat) : Int)
    omega
  · show (σ.2.2.2.2 ++ [σ.1]).length ≤ 6
    rw [List.length_append]
    show σ.2.2.2.2.length + 1 ≤ 6
    omega
  · have hi : i < (σ.2.2.2.2 ++ [σ.1]).length := hi
    rw [List.length_append] at hi
    have hi : i < σ.2.2.2.2.length + 1 := hi
    show bh_upL L 19 (s 1104).toInt.toNat (L 20 4) 19 i = bh_upL L 19 (s 1104).toInt.toNat (L 20 4) 24 ((σ.2.2.2.2 ++ [σ.1]).getD i 0) ∧ (σ.2.2.2.2 ++ [σ.1]).getD i 0 < N ∧ K ((σ.2.2.2.2 ++ [σ.1]).getD i 0) = 1
    rw [e24, ei]
    unfold bh_upL vp_updL
    rw [if_pos rfl]
    by_cases e : i = σ.2.2.2.2.length
    · rw [if_pos e]
      have eg : (σ.2.2.2.2 ++ [σ.1]).getD i 0 = σ.1 := by
        rw [e, List.getD_eq_getElem?_getD, List.getElem?_append_right (Nat.le_refl _), Nat.sub_self]
        rfl
      rw [eg]
      exact ⟨a10, a2.2, hk⟩
    · rw [if_neg e]
      have eg : (σ.2.2.2.2 ++ [σ.1]).getD i 0 = σ.2.2.2.2.getD i 0 := by
        rw [List.getD_eq_getElem?_getD, List.getD_eq_getElem?_getD, List.getElem?_append_left (by omega)]
      rw [eg]
      exact a9 i (by omega)
/-- is the name known -/
theorem rc_kn (hR : rc_R K V P N σ s L) (hf : σ.2.1 = 0) (hk : K σ.1 = 1) (hQ : ∀ i j, i < N → j < N → K i = 1 → K j = 1 → (Q i j = true ↔ L 24 i = L 24 j)) : (σ.2.2.2.2.any (fun i => Q i σ.1) = true) ↔ ∃ j, j < (s 1104).toInt.toNat ∧ L 19 j = L 20 4 := by
  obtain ⟨r1, r2, r3⟩ := hR
  obtain ⟨a1, a2, a3, a4, a5, a6, a7, a8, a9, a10⟩ := r2 hf
  have ei : (s 1104).toInt.toNat = σ.2.2.2.2.length := by omega
  rw [ei, a10, List.any_eq_true]
  constructor
  · rintro ⟨x, hx, hq⟩
    obtain ⟨j, hj, ej⟩ := List.getElem_of_mem hx
    have eg : σ.2.2.2.2.getD j 0 = x := by
      rw [List.getD_eq_getElem?_getD, List.getElem?_eq_getElem hj, ej]
      rfl
    have g := a9 j hj
    rw [eg] at g
    exact ⟨j, hj, g.1.trans ((hQ x σ.1 g.2.1 a2.2 g.2.2 hk).mp hq)⟩
  · rintro ⟨j, hj, ej⟩
    have g := a9 j hj
    have eg : σ.2.2.2.2.getD j 0 = σ.2.2.2.2[j] := by
      rw [List.getD_eq_getElem?_getD, List.getElem?_eq_getElem hj]
      rfl
    rw [eg] at g
    exact ⟨σ.2.2.2.2[j], List.getElem_mem hj, (hQ _ _ g.2.1 a2.2 g.2.2 hk).mpr (g.1.symm.trans ej)⟩
end RC5
theorem bu_171_0 : mm_at mt_P 171 0 = some ((0, 1, .aload_n 0, 0, 0, 0, 0), 2, 1, 1, 4, 0, 0, 0) := rfl
theorem bu_171_1 : mm_at mt_P 171 1 = some ((1, 3, .invokevirtual 49, 161, 0, 0, 633), 2, 1, 1, 4, 0, 0, 0) := rfl
theorem bu_171_4 : mm_at mt_P 171 4 = some ((4, 1, .iload_n 1, 0, 0, 0, 0), 2, 1, 1, 4, 0, 0, 0) := rfl
theorem bu_171_5 : mm_at mt_P 171 5 = some ((5, 2, .bipush 8, 0, 0, 0, 0), 2, 1, 1, 4, 0, 0, 0) := rfl
theorem bu_171_7 : mm_at mt_P 171 7 = some ((7, 3, .if_icmp .ne 49, 0, 0, 0, 0), 2, 1, 1, 4, 0, 0, 0) := rfl
theorem bu_171_10 : mm_at mt_P 171 10 = some ((10, 1, .aload_n 0, 0, 0, 0, 0), 2, 1, 1, 4, 0, 0, 0) := rfl
theorem bu_171_11 : mm_at mt_P 171 11 = some ((11, 3, .getfield 9, 4, 1, 0, 275), 2, 1, 1, 4, 0, 0, 0) := rfl
theorem bu_171_14 : mm_at mt_P 171 14 = some ((14, 1, .aload_n 0, 0, 0, 0, 0), 2, 1, 1, 4, 0, 0, 0) := rfl
theorem bu_171_15 : mm_at mt_P 171 15 = some ((15, 1, .iconst 1, 0, 0, 0, 0), 2, 1, 1, 4, 0, 0, 0) := rfl
theorem bu_171_16 : mm_at mt_P 171 16 = some ((16, 2, .bipush 99, 0, 0, 0, 0), 2, 1, 1, 4, 0, 0, 0) := rfl
theorem bu_171_18 : mm_at mt_P 171 18 = some ((18, 3, .invokevirtual 74, 166, 0, 0, 661), 2, 1, 1, 4, 0, 0, 0) := rfl
theorem bu_171_21 : mm_at mt_P 171 21 = some ((21, 3, .putfield 78, 6, 5, 0, 193), 2, 1, 1, 4, 0, 0, 0) := rfl
theorem bu_171_24 : mm_at mt_P 171 24 = some ((24, 1, .aload_n 0, 0, 0, 0, 0), 2, 1, 1, 4, 0, 0, 0) := rfl
theorem bu_171_25 : mm_at mt_P 171 25 = some ((25, 3, .getfield 9, 4, 1, 0, 275), 2, 1, 1, 4, 0, 0, 0) := rfl
theorem bu_171_28 : mm_at mt_P 171 28 = some ((28, 1, .aload_n 0, 0, 0, 0, 0), 2, 1, 1, 4, 0, 0, 0) := rfl
theorem bu_171_29 : mm_at mt_P 171 29 = some ((29, 1, .iconst 0, 0, 0, 0, 0), 2, 1, 1, 4, 0, 0, 0) := rfl
theorem bu_171_30 : mm_at mt_P 171 30 = some ((30, 3, .sipush 999, 0, 0, 0, 0), 2, 1, 1, 4, 0, 0, 0) := rfl
theorem bu_171_33 : mm_at mt_P 171 33 = some ((33, 3, .invokevirtual 74, 166, 0, 0, 661), 2, 1, 1, 4, 0, 0, 0) := rfl
theorem bu_171_36 : mm_at mt_P 171 36 = some ((36, 3, .putfield 81, 6, 6, 0, 196), 2, 1, 1, 4, 0, 0, 0) := rfl
theorem bu_171_39 : mm_at mt_P 171 39 = some ((39, 1, .aload_n 0, 0, 0, 0, 0), 2, 1, 1, 4, 0, 0, 0) := rfl
theorem bu_171_40 : mm_at mt_P 171 40 = some ((40, 3, .getfield 9, 4, 1, 0, 275), 2, 1, 1, 4, 0, 0, 0) := rfl
theorem bu_171_43 : mm_at mt_P 171 43 = some ((43, 1, .aload_n 0, 0, 0, 0, 0), 2, 1, 1, 4, 0, 0, 0) := rfl
theorem bu_171_44 : mm_at mt_P 171 44 = some ((44, 1, .iconst 0, 0, 0, 0, 0), 2, 1, 1, 4, 0, 0, 0) := rfl
theorem bu_171_45 : mm_at mt_P 171 45 = some ((45, 2, .bipush 99, 0, 0, 0, 0), 2, 1, 1, 4, 0, 0, 0) := rfl
theorem bu_171_47 : mm_at mt_P 171 47 = some ((47, 3, .invokevirtual 74, 166, 0, 0, 661), 2, 1, 1, 4, 0, 0, 0) := rfl
theorem bu_171_50 : mm_at mt_P 171 50 = some ((50, 3, .putfield 84, 6, 7, 0, 199), 2, 1, 1, 4, 0, 0, 0) := rfl
theorem bu_171_53 : mm_at mt_P 171 53 = some ((53, 3, .goto 66, 0, 0, 0, 0), 2, 1, 1, 4, 0, 0, 0) := rfl
theorem bu_171_56 : mm_at mt_P 171 56 = some ((56, 1, .iload_n 1, 0, 0, 0, 0), 2, 1, 1, 4, 0, 0, 0) := rfl
theorem bu_171_57 : mm_at mt_P 171 57 = some ((57, 2, .bipush 9, 0, 0, 0, 0), 2, 1, 1, 4, 0, 0, 0) := rfl
theorem bu_171_59 : mm_at mt_P 171 59 = some ((59, 3, .if_icmp .ne 21, 0, 0, 0, 0), 2, 1, 1, 4, 0, 0, 0) := rfl
theorem bu_171_62 : mm_at mt_P 171 62 = some ((62, 1, .aload_n 0, 0, 0, 0, 0), 2, 1, 1, 4, 0, 0, 0) := rfl
theorem bu_171_63 : mm_at mt_P 171 63 = some ((63, 3, .getfield 9, 4, 1, 0, 275), 2, 1, 1, 4, 0, 0, 0) := rfl
theorem bu_171_66 : mm_at mt_P 171 66 = some ((66, 1, .aload_n 0, 0, 0, 0, 0), 2, 1, 1, 4, 0, 0, 0) := rfl
theorem bu_171_67 : mm_at mt_P 171 67 = some ((67, 1, .iconst 1, 0, 0, 0, 0), 2, 1, 1, 4, 0, 0, 0) := rfl
theorem bu_171_68 : mm_at mt_P 171 68 = some ((68, 3, .sipush 999, 0, 0, 0, 0), 2, 1, 1, 4, 0, 0, 0) := rfl
theorem bu_171_71 : mm_at mt_P 171 71 = some ((71, 3, .invokevirtual 74, 166, 0, 0, 661), 2, 1, 1, 4, 0, 0, 0) := rfl
theorem bu_171_74 : mm_at mt_P 171 74 = some ((74, 3, .putfield 87, 6, 8, 0, 201), 2, 1, 1, 4, 0, 0, 0) := rfl
theorem bu_171_77 : mm_at mt_P 171 77 = some ((77, 3, .goto 42, 0, 0, 0, 0), 2, 1, 1, 4, 0, 0, 0) := rfl
theorem bu_171_80 : mm_at mt_P 171 80 = some ((80, 1, .iload_n 1, 0, 0, 0, 0), 2, 1, 1, 4, 0, 0, 0) := rfl
theorem bu_171_81 : mm_at mt_P 171 81 = some ((81, 2, .bipush 10, 0, 0, 0, 0), 2, 1, 1, 4, 0, 0, 0) := rfl
theorem bu_171_83 : mm_at mt_P 171 83 = some ((83, 3, .if_icmp .ne 21, 0, 0, 0, 0), 2, 1, 1, 4, 0, 0, 0) := rfl
theorem bu_171_86 : mm_at mt_P 171 86 = some ((86, 1, .aload_n 0, 0, 0, 0, 0), 2, 1, 1, 4, 0, 0, 0) := rfl
theorem bu_171_87 : mm_at mt_P 171 87 = some ((87, 3, .getfield 9, 4, 1, 0, 275), 2, 1, 1, 4, 0, 0, 0) := rfl
theorem bu_171_90 : mm_at mt_P 171 90 = some ((90, 1, .aload_n 0, 0, 0, 0, 0), 2, 1, 1, 4, 0, 0, 0) := rfl
theorem bu_171_91 : mm_at mt_P 171 91 = some ((91, 1, .iconst 0, 0, 0, 0, 0), 2, 1, 1, 4, 0, 0, 0) := rfl
theorem bu_171_92 : mm_at mt_P 171 92 = some ((92, 3, .sipush 9999, 0, 0, 0, 0), 2, 1, 1, 4, 0, 0, 0) := rfl
theorem bu_171_95 : mm_at mt_P 171 95 = some ((95, 3, .invokevirtual 74, 166, 0, 0, 661), 2, 1, 1, 4, 0, 0, 0) := rfl
theorem bu_171_98 : mm_at mt_P 171 98 = some ((98, 3, .putfield 90, 6, 9, 0, 207), 2, 1, 1, 4, 0, 0, 0) := rfl
theorem bu_171_101 : mm_at mt_P 171 101 = some ((101, 3, .goto 18, 0, 0, 0, 0), 2, 1, 1, 4, 0, 0, 0) := rfl
theorem bu_171_104 : mm_at mt_P 171 104 = some ((104, 1, .aload_n 0, 0, 0, 0, 0), 2, 1, 1, 4, 0, 0, 0) := rfl
theorem bu_171_105 : mm_at mt_P 171 105 = some ((105, 3, .getfield 9, 4, 1, 0, 275), 2, 1, 1, 4, 0, 0, 0) := rfl
theorem bu_171_108 : mm_at mt_P 171 108 = some ((108, 1, .aload_n 0, 0, 0, 0, 0), 2, 1, 1, 4, 0, 0, 0) := rfl
theorem bu_171_109 : mm_at mt_P 171 109 = some ((109, 1, .iconst 0, 0, 0, 0, 0), 2, 1, 1, 4, 0, 0, 0) := rfl
theorem bu_171_110 : mm_at mt_P 171 110 = some ((110, 3, .sipush 9999, 0, 0, 0, 0), 2, 1, 1, 4, 0, 0, 0) := rfl
theorem bu_171_113 : mm_at mt_P 171 113 = some ((113, 3, .invokevirtual 74, 166, 0, 0, 661), 2, 1, 1, 4, 0, 0, 0) := rfl
theorem bu_171_116 : mm_at mt_P 171 116 = some ((116, 3, .putfield 93, 6, 10, 0, 210), 2, 1, 1, 4, 0, 0, 0) := rfl
theorem bu_171_119 : mm_at mt_P 171 119 = some ((119, 1, .aload_n 0, 0, 0, 0, 0), 2, 1, 1, 4, 0, 0, 0) := rfl
theorem bu_171_120 : mm_at mt_P 171 120 = some ((120, 2, .bipush 59, 0, 0, 0, 0), 2, 1, 1, 4, 0, 0, 0) := rfl
theorem bu_171_122 : mm_at mt_P 171 122 = some ((122, 3, .invokevirtual 96, 177, 0, 0, 669), 2, 1, 1, 4, 0, 0, 0) := rfl
theorem bu_171_125 : mm_at mt_P 171 125 = some ((125, 1, .return_, 0, 0, 0, 0), 2, 1, 1, 4, 0, 0, 0) := rfl
section CR
variable {K V P : Nat → Int} {σ : py_S} {N : Nat} {E : mm_E} {PO : mm_C → Prop} {NN : Nat} {h0 h : mm_H} {s : Nat → Int32} {A : Nat → Nat → Int32} {L : Nat → Nat → Int64} {gs : List mm_F}
/-- the numbers of the SHIP, by the word that tells them: 8 ship, 9 goal, 10 broom, else seed -/
def rc_NM (V : Nat → Int) (w : Int) (t : Nat) (s s' : Nat → Int32) : Prop := (w = 8 → (s' 1105).toInt = V t ∧ (s' 1106).toInt = V (t + 1) ∧ (s' 1107).toInt = V (t + 2) ∧ s' 1108 = s 1108 ∧ s' 1109 = s 1109 ∧ s' 1110 = s 1110) ∧ (w = 9 → (s' 1108).toInt = V t ∧ s' 1105 = s 1105 ∧ s' 1106 = s 1106 ∧ s' 1107 = s 1107 ∧ s' 1109 = s 1109 ∧ s' 1110 = s 1110) ∧ (w = 10 → (s' 1109).toInt = V t ∧ s' 1105 = s 1105 ∧ s' 1106 = s 1106 ∧ s' 1107 = s 1107 ∧ s' 1108 = s 1108 ∧ s' 1110 = s 1110) ∧ (¬ (w = 8 ∨ w = 9 ∨ w = 10) → (s' 1110).toInt = V t ∧ s' 1105 = s 1105 ∧ s' 1106 = s 1106 ∧ s' 1107 = s 1107 ∧ s' 1108 = s 1108 ∧ s' 1109 = s 1109)
def rc_nm (K V : Nat → Int) (w : Int) (σ : py_S) : py_S := if w = 8 then py_mu K 4 (py_nu K V 0 99 (py_nu K V 0 999 (py_nu K V 1 99 (py_go σ)))) else if w = 9 then py_mu K 4 (py_nu K V 1 999 (py_go σ)) else py_mu K 4 (py_nu K V 0 9999 (py_go σ))
theorem cr_171 {w : Int32} (hw : 8 ≤ w.toInt) (hP : bm_P bq_T E h0 h s A L) (hd : gs.length + 3 ≤ 999) (hf : σ.2.1 = 0) (hk : 28 ≤ K σ.1) (hR : rc_R K V P N σ s L) (hT : rc_T K V P N s A L) (hc : 0 ≤ (s 1204).toInt ∧ (s 1204).toInt ≤ 432 ∧ 0 ≤ (s 1104).toInt ∧ (s 1104).toInt ≤ 6) (kk : ∀ (h' : mm_H) (s' : Nat → Int32) (A' : Nat → Nat → Int32) (L' : Nat → Nat → Int64), bm_P bq_T E h0 h' s' A' L' → rc_G s A L s' A' L' → rc_R K V P N (rc_nm K V w.toInt σ) s' L' → ((rc_nm K V w.toInt σ).2.1 = 0 → A' 17 = A 17 ∧ A' 18 = A 18 ∧ s' 1104 = s 1104 ∧ rc_NM V w.toInt (σ.1 + 1) s s') → bp_G E PO NN (mm_back none gs h')) : bp_G E PO NN ((171, 0, [(0, .ref (E.1 + 20)), (1, .int w)], [], 0, 0) :: gs, h, none) := by
  refine bp_ld (pc' := 1) bu_171_0 rfl rfl (fun _ _ _ => rfl) rfl rfl ?_
  refine bn_cv (pc' := 4) (st := []) (args := []) bu_171_1 rfl rfl rfl (by decide) hP bq_o20 (by decide) (by omega) rfl (Nat.le_of_ble_eq_true rfl) (Nat.le_of_ble_eq_true rfl) ?_
  refine cr_161 (σ := σ) hP hR hT hf (by omega) (by omega) (fun h1081 s1082 A1083 L1084 hP1085 F1086 R1087 => ?_)
  have w1088 : s1082 1104 = (s 1104) := (F1086.1 1104 (Or.inr ⟨by decide, by decide⟩)).trans rfl
  have w1089 : s1082 1105 = (s 1105) := (F1086.1 1105 (Or.inr ⟨by decide, by decide⟩)).trans rfl
  have w1090 : s1082 1106 = (s 1106) := (F1086.1 1106 (Or.inr ⟨by decide, by decide⟩)).trans rfl
  have w1091 : s1082 1107 = (s 1107) := (F1086.1 1107 (Or.inr ⟨by decide, by decide⟩)).trans rfl
  have w1092 : s1082 1108 = (s 1108) := (F1086.1 1108 (Or.inr ⟨by decide, by decide⟩)).trans rfl
  have w1093 : s1082 1109 = (s 1109) := (F1086.1 1109 (Or.inr ⟨by decide, by decide⟩)).trans rfl
  have w1094 : s1082 1110 = (s 1110) := (F1086.1 1110 (Or.inr ⟨by decide, by decide⟩)).trans rfl
  have w1095 : A1083 17 = (A 17) := (F1086.2.1 17 (by decide)).trans rfl
  have w1096 : A1083 18 = (A 18) := (F1086.2.1 18 (by decide)).trans rfl
  show bp_G E PO NN ((171, 4, _, [], 0, 0) :: gs, h1081, none)
  refine bp_ld (pc' := 5) bu_171_4 rfl rfl (fun _ _ _ => rfl) rfl rfl ?_
  refine bp_c (pc' := 7) (n := 8) bu_171_5 rfl rfl (fun _ _ _ => rfl) (by decide) (fun c1097 e1098 => ?_)
  refine bp_ic (pc' := 10) (pt := 56) bu_171_7 rfl rfl (fun k1099 => ?_) (fun k1099 => ?_)
  · replace k1099 : (w).toInt ≠ (c1097).toInt := k1099
    refine bp_ld (pc' := 57) bu_171_56 rfl rfl (fun _ _ _ => rfl) rfl rfl ?_
    refine bp_c (pc' := 59) (n := 9) bu_171_57 rfl rfl (fun _ _ _ => rfl) (by decide) (fun c1100 e1101 => ?_)
    refine bp_ic (pc' := 62) (pt := 80) bu_171_59 rfl rfl (fun k1102 => ?_) (fun k1102 => ?_)
    · replace k1102 : (w).toInt ≠ (c1100).toInt := k1102
      refine bp_ld (pc' := 81) bu_171_80 rfl rfl (fun _ _ _ => rfl) rfl rfl ?_
      refine bp_c (pc' := 83) (n := 10) bu_171_81 rfl rfl (fun _ _ _ => rfl) (by decide) (fun c1103 e1104 => ?_)
      refine bp_ic (pc' := 86) (pt := 104) bu_171_83 rfl rfl (fun k1105 => ?_) (fun k1105 => ?_)
      · replace k1105 : (w).toInt ≠ (c1103).toInt := k1105
        refine bp_ld (pc' := 105) bu_171_104 rfl rfl (fun _ _ _ => rfl) rfl rfl ?_
        refine bn_gr (pc' := 108) (t := 11) bu_171_105 rfl rfl (fun _ _ _ => rfl) hP1085 bq_o20 bq_r20_1 ?_
        refine bp_ld (pc' := 109) bu_171_108 rfl rfl (fun _ _ _ => rfl) rfl rfl ?_
        refine bp_c (pc' := 110) (n := 0) bu_171_109 rfl rfl (fun _ _ _ => rfl) (by decide) (fun c1106 e1107 => ?_)
        refine bp_c (pc' := 113) (n := 9999) bu_171_110 rfl rfl (fun _ _ _ => rfl) (by decide) (fun c1108 e1109 => ?_)
        refine bn_cv (pc' := 116) (st := [.ref (E.1 + 11)]) (args := [.int c1108, .int c1106]) bu_171_113 rfl rfl rfl (by decide) hP1085 bq_o20 (by decide) (by omega) rfl (Nat.le_of_ble_eq_true rfl) (Nat.le_of_ble_eq_true rfl) ?_
        refine cr_166 (σ := (py_go σ)) hP1085 (by simp only [List.length_cons]; omega) R1087 (rc_T_F hT F1086) (fun h1110 s1111 A1112 L1113 r1117 hP1114 F1115 R1116 v1118 => ?_)
        rw [show (c1106 : Int32).toInt = 0 from e1107, show (c1108 : Int32).toInt = 9999 from e1109] at R1116
        have w1119 : s1111 1104 = (s 1104) := (F1115.1 1104 (Or.inr ⟨by decide, by decide⟩)).trans w1088
        have w1120 : s1111 1105 = (s 1105) := (F1115.1 1105 (Or.inr ⟨by decide, by decide⟩)).trans w1089
        have w1121 : s1111 1106 = (s 1106) := (F1115.1 1106 (Or.inr ⟨by decide, by decide⟩)).trans w1090
        have w1122 : s1111 1107 = (s 1107) := (F1115.1 1107 (Or.inr ⟨by decide, by decide⟩)).trans w1091
        have w1123 : s1111 1108 = (s 1108) := (F1115.1 1108 (Or.inr ⟨by decide, by decide⟩)).trans w1092
        have w1124 : s1111 1109 = (s 1109) := (F1115.1 1109 (Or.inr ⟨by decide, by decide⟩)).trans w1093
        have w1125 : s1111 1110 = (s 1110) := (F1115.1 1110 (Or.inr ⟨by decide, by decide⟩)).trans w1094
        have w1126 : A1112 17 = (A 17) := (F1115.2.1 17 (by decide)).trans w1095
        have w1127 : A1112 18 = (A 18) := (F1115.2.1 18 (by decide)).trans w1096
        show bp_G E PO NN ((171, 116, _, [.int r1117, .ref (E.1 + 11)], 0, 0) :: gs, h1110, none)
        refine bn_pf (pc' := 119) (K := 1110) bu_171_116 rfl rfl (fun _ _ _ => rfl) hP1114 bq_o11 bq_i11_10 rfl rfl (fun h1128 s1129 hP1130 e1131 f1132 => ?_)
        refine bp_ld (pc' := 120) bu_171_119 rfl rfl (fun _ _ _ => rfl) rfl rfl ?_
        refine bp_c (pc' := 122) (n := 59) bu_171_120 rfl rfl (fun _ _ _ => rfl) (by decide) (fun c1133 e1134 => ?_)
        refine bn_cv (pc' := 125) (st := []) (args := [.int c1133]) bu_171_122 rfl rfl rfl (by decide) hP1130 bq_o20 (by decide) (by omega) rfl (Nat.le_of_ble_eq_true rfl) (Nat.le_of_ble_eq_true rfl) ?_
        have R1135 := rc_R_s (s1 := s1129) (fun j u => (f1132 j (by omega))) R1116
        have F1136 : rc_G s1111 A1112 L1113 s1129 A1112 L1113 := ⟨fun j u1 => (f1132 j (by omega)), fun _ _ => rfl, rfl, fun hq => by rw [(f1132 1204 (by omega)), (f1132 1104 (by omega))]; exact hq⟩
        have w1137 : s1129 1104 = (s 1104) := ((f1132 1104 (by omega))).trans w1119
        have w1138 : s1129 1105 = (s 1105) := ((f1132 1105 (by omega))).trans w1120
        have w1139 : s1129 1106 = (s 1106) := ((f1132 1106 (by omega))).trans w1121
        have w1140 : s1129 1107 = (s 1107) := ((f1132 1107 (by omega))).trans w1122
        have w1141 : s1129 1108 = (s 1108) := ((f1132 1108 (by omega))).trans w1123
        have w1142 : s1129 1109 = (s 1109) := ((f1132 1109 (by omega))).trans w1124
        have w1143 : s1129 1110 = r1117 := e1131
        have G1144 := rc_G_t (rc_G_of (rc_F_t F1086 F1115)) F1136
        refine cr_177 (σ := (py_nu K V 0 9999 (py_go σ))) (kc := 4) (by omega) hP1130 (by simp only [List.length_cons]; omega) R1135 (rc_T_G hT G1144) (fun h1145 s1146 A1147 L1148 hP1149 F1150 R1151 => ?_)
        have w1152 : s1146 1104 = (s 1104) := (F1150.1 1104 (Or.inr ⟨by decide, by decide⟩)).trans w1137
        have w1153 : s1146 1105 = (s 1105) := (F1150.1 1105 (Or.inr ⟨by decide, by decide⟩)).trans w1138
        have w1154 : s1146 1106 = (s 1106) := (F1150.1 1106 (Or.inr ⟨by decide, by decide⟩)).trans w1139
        have w1155 : s1146 1107 = (s 1107) := (F1150.1 1107 (Or.inr ⟨by decide, by decide⟩)).trans w1140
        have w1156 : s1146 1108 = (s 1108) := (F1150.1 1108 (Or.inr ⟨by decide, by decide⟩)).trans w1141
        have w1157 : s1146 1109 = (s 1109) := (F1150.1 1109 (Or.inr ⟨by decide, by decide⟩)).trans w1142
        have w1158 : s1146 1110 = r1117 := (F1150.1 1110 (Or.inr ⟨by decide, by decide⟩)).trans w1143
        have w1159 : A1147 17 = (A 17) := (F1150.2.1 17 (by decide)).trans w1126
        have w1160 : A1147 18 = (A 18) := (F1150.2.1 18 (by decide)).trans w1127
        have G1161 := rc_G_t G1144 (rc_G_of F1150)
        show bp_G E PO NN ((171, 125, _, [], 0, 0) :: gs, h1145, none)
        refine bp_rv bu_171_125 ?_
        have ee9 : rc_nm K V w.toInt σ = (py_mu K 4 (py_nu K V 0 9999 (py_go σ))) := by
          unfold rc_nm
          first
            | (rw [if_pos (by omega)])
            | (rw [if_neg (by omega), if_pos (by omega)])
            | (rw [if_neg (by omega), if_neg (by omega)])
        refine kk _ _ _ _ hP1149 G1161 (by rw [ee9]; exact R1151) (fun q => ⟨w1159, w1160, w1152, ?_⟩)
        rw [ee9] at q
        have f1 := py_one_ok q
        have eg := (py_go_st f1.1).2
        have x0 := v1118 f1.1 f1.2
        rw [eg] at x0
        exact ⟨fun u => absurd u (by omega), fun u => absurd u (by omega), fun u => absurd u (by omega), fun _ => ⟨by rw [w1158]; exact x0, w1153, w1154, w1155, w1156, w1157⟩⟩
      · replace k1105 : ¬ ((w).toInt ≠ (c1103).toInt) := k1105
        refine bp_ld (pc' := 87) bu_171_86 rfl rfl (fun _ _ _ => rfl) rfl rfl ?_
        refine bn_gr (pc' := 90) (t := 11) bu_171_87 rfl rfl (fun _ _ _ => rfl) hP1085 bq_o20 bq_r20_1 ?_
        refine bp_ld (pc' := 91) bu_171_90 rfl rfl (fun _ _ _ => rfl) rfl rfl ?_
        refine bp_c (pc' := 92) (n := 0) bu_171_91 rfl rfl (fun _ _ _ => rfl) (by decide) (fun c1162 e1163 => ?_)
        refine bp_c (pc' := 95) (n := 9999) bu_171_92 rfl rfl (fun _ _ _ => rfl) (by decide) (fun c1164 e1165 => ?_)
        refine bn_cv (pc' := 98) (st := [.ref (E.1 + 11)]) (args := [.int c1164, .int c1162]) bu_171_95 rfl rfl rfl (by decide) hP1085 bq_o20 (by decide) (by omega) rfl (Nat.le_of_ble_eq_true rfl) (Nat.le_of_ble_eq_true rfl) ?_
        refine cr_166 (σ := (py_go σ)) hP1085 (by simp only [List.length_cons]; omega) R1087 (rc_T_F hT F1086) (fun h1166 s1167 A1168 L1169 r1173 hP1170 F1171 R1172 v1174 => ?_)
        rw [show (c1162 : Int32).toInt = 0 from e1163, show (c1164 : Int32).toInt = 9999 from e1165] at R1172
        have w1175 : s1167 1104 = (s 1104) := (F1171.1 1104 (Or.inr ⟨by decide, by decide⟩)).trans w1088
        have w1176 : s1167 1105 = (s 1105) := (F1171.1 1105 (Or.inr ⟨by decide, by decide⟩)).trans w1089
        have w1177 : s1167 1106 = (s 1106) := (F1171.1 1106 (Or.inr ⟨by decide, by decide⟩)).trans w1090
        have w1178 : s1167 1107 = (s 1107) := (F1171.1 1107 (Or.inr ⟨by decide, by decide⟩)).trans w1091
        have w1179 : s1167 1108 = (s 1108) := (F1171.1 1108 (Or.inr ⟨by decide, by decide⟩)).trans w1092
        have w1180 : s1167 1109 = (s 1109) := (F1171.1 1109 (Or.inr ⟨by decide, by decide⟩)).trans w1093
        have w1181 : s1167 1110 = (s 1110) := (F1171.1 1110 (Or.inr ⟨by decide, by decide⟩)).trans w1094
        have w1182 : A1168 17 = (A 17) := (F1171.2.1 17 (by decide)).trans w1095
        have w1183 : A1168 18 = (A 18) := (F1171.2.1 18 (by decide)).trans w1096
        show bp_G E PO NN ((171, 98, _, [.int r1173, .ref (E.1 + 11)], 0, 0) :: gs, h1166, none)
        refine bn_pf (pc' := 101) (K := 1109) bu_171_98 rfl rfl (fun _ _ _ => rfl) hP1170 bq_o11 bq_i11_9 rfl rfl (fun h1184 s1185 hP1186 e1187 f1188 => ?_)
        refine bp_go (pc' := 119) bu_171_101 rfl ?_
        refine bp_ld (pc' := 120) bu_171_119 rfl rfl (fun _ _ _ => rfl) rfl rfl ?_
        refine bp_c (pc' := 122) (n := 59) bu_171_120 rfl rfl (fun _ _ _ => rfl) (by decide) (fun c1189 e1190 => ?_)
        refine bn_cv (pc' := 125) (st := []) (args := [.int c1189]) bu_171_122 rfl rfl rfl (by decide) hP1186 bq_o20 (by decide) (by omega) rfl (Nat.le_of_ble_eq_true rfl) (Nat.le_of_ble_eq_true rfl) ?_
        have R1191 := rc_R_s (s1 := s1185) (fun j u => (f1188 j (by omega))) R1172
        have F1192 : rc_G s1167 A1168 L1169 s1185 A1168 L1169 := ⟨fun j u1 => (f1188 j (by omega)), fun _ _ => rfl, rfl, fun hq => by rw [(f1188 1204 (by omega)), (f1188 1104 (by omega))]; exact hq⟩
        have w1193 : s1185 1104 = (s 1104) := ((f1188 1104 (by omega))).trans w1175
        have w1194 : s1185 1105 = (s 1105) := ((f1188 1105 (by omega))).trans w1176
        have w1195 : s1185 1106 = (s 1106) := ((f1188 1106 (by omega))).trans w1177
        have w1196 : s1185 1107 = (s 1107) := ((f1188 1107 (by omega))).trans w1178
        have w1197 : s1185 1108 = (s 1108) := ((f1188 1108 (by omega))).trans w1179
        have w1198 : s1185 1109 = r1173 := e1187
        have w1199 : s1185 1110 = (s 1110) := ((f1188 1110 (by omega))).trans w1181
        have G1200 := rc_G_t (rc_G_of (rc_F_t F1086 F1171)) F1192
        refine cr_177 (σ := (py_nu K V 0 9999 (py_go σ))) (kc := 4) (by omega) hP1186 (by simp only [List.length_cons]; omega) R1191 (rc_T_G hT G1200) (fun h1201 s1202 A1203 L1204 hP1205 F1206 R1207 => ?_)
        have w1208 : s1202 1104 = (s 1104) := (F1206.1 1104 (Or.inr ⟨by decide, by decide⟩)).trans w1193
        have w1209 : s1202 1105 = (s 1105) := (F1206.1 1105 (Or.inr ⟨by decide, by decide⟩)).trans w1194
        have w1210 : s1202 1106 = (s 1106) := (F1206.1 1106 (Or.inr ⟨by decide, by decide⟩)).trans w1195
        have w1211 : s1202 1107 = (s 1107) := (F1206.1 1107 (Or.inr ⟨by decide, by decide⟩)).trans w1196
        have w1212 : s1202 1108 = (s 1108) := (F1206.1 1108 (Or.inr ⟨by decide, by decide⟩)).trans w1197
        have w1213 : s1202 1109 = r1173 := (F1206.1 1109 (Or.inr ⟨by decide, by decide⟩)).trans w1198
        have w1214 : s1202 1110 = (s 1110) := (F1206.1 1110 (Or.inr ⟨by decide, by decide⟩)).trans w1199
        have w1215 : A1203 17 = (A 17) := (F1206.2.1 17 (by decide)).trans w1182
        have w1216 : A1203 18 = (A 18) := (F1206.2.1 18 (by decide)).trans w1183
        have G1217 := rc_G_t G1200 (rc_G_of F1206)
        show bp_G E PO NN ((171, 125, _, [], 0, 0) :: gs, h1201, none)
        refine bp_rv bu_171_125 ?_
        have ee9 : rc_nm K V w.toInt σ = (py_mu K 4 (py_nu K V 0 9999 (py_go σ))) := by
          unfold rc_nm
          first
            | (rw [if_pos (by omega)])
            | (rw [if_neg (by omega), if_pos (by omega)])
            | (rw [if_neg (by omega), if_neg (by omega)])
        refine kk _ _ _ _ hP1205 G1217 (by rw [ee9]; exact R1207) (fun q => ⟨w1215, w1216, w1208, ?_⟩)
        rw [ee9] at q
        have f1 := py_one_ok q
        have eg := (py_go_st f1.1).2
        have x0 := v1174 f1.1 f1.2
        rw [eg] at x0
        exact ⟨fun u => absurd u (by omega), fun u => absurd u (by omega), fun _ => ⟨by rw [w1213]; exact x0, w1209, w1210, w1211, w1212, w1214⟩, fun u => absurd u (by omega)⟩
    · replace k1102 : ¬ ((w).toInt ≠ (c1100).toInt) := k1102
      refine bp_ld (pc' := 63) bu_171_62 rfl rfl (fun _ _ _ => rfl) rfl rfl ?_
      refine bn_gr (pc' := 66) (t := 11) bu_171_63 rfl rfl (fun _ _ _ => rfl) hP1085 bq_o20 bq_r20_1 ?_
      refine bp_ld (pc' := 67) bu_171_66 rfl rfl (fun _ _ _ => rfl) rfl rfl ?_
      refine bp_c (pc' := 68) (n := 1) bu_171_67 rfl rfl (fun _ _ _ => rfl) (by decide) (fun c1218 e1219 => ?_)
      refine bp_c (pc' := 71) (n := 999) bu_171_68 rfl rfl (fun _ _ _ => rfl) (by decide) (fun c1220 e1221 => ?_)
      refine bn_cv (pc' := 74) (st := [.ref (E.1 + 11)]) (args := [.int c1220, .int c1218]) bu_171_71 rfl rfl rfl (by decide) hP1085 bq_o20 (by decide) (by omega) rfl (Nat.le_of_ble_eq_true rfl) (Nat.le_of_ble_eq_true rfl) ?_
      refine cr_166 (σ := (py_go σ)) hP1085 (by simp only [List.length_cons]; omega) R1087 (rc_T_F hT F1086) (fun h1222 s1223 A1224 L1225 r1229 hP1226 F1227 R1228 v1230 => ?_)
      rw [show (c1218 : Int32).toInt = 1 from e1219, show (c1220 : Int32).toInt = 999 from e1221] at R1228
      have w1231 : s1223 1104 = (s 1104) := (F1227.1 1104 (Or.inr ⟨by decide, by decide⟩)).trans w1088
      have w1232 : s1223 1105 = (s 1105) := (F1227.1 1105 (Or.inr ⟨by decide, by decide⟩)).trans w1089
      have w1233 : s1223 1106 = (s 1106) := (F1227.1 1106 (Or.inr ⟨by decide, by decide⟩)).trans w1090
      have w1234 : s1223 1107 = (s 1107) := (F1227.1 1107 (Or.inr ⟨by decide, by decide⟩)).trans w1091
      have w1235 : s1223 1108 = (s 1108) := (F1227.1 1108 (Or.inr ⟨by decide, by decide⟩)).trans w1092
      have w1236 : s1223 1109 = (s 1109) := (F1227.1 1109 (Or.inr ⟨by decide, by decide⟩)).trans w1093
      have w1237 : s1223 1110 = (s 1110) := (F1227.1 1110 (Or.inr ⟨by decide, by decide⟩)).trans w1094
      have w1238 : A1224 17 = (A 17) := (F1227.2.1 17 (by decide)).trans w1095
      have w1239 : A1224 18 = (A 18) := (F1227.2.1 18 (by decide)).trans w1096
      show bp_G E PO NN ((171, 74, _, [.int r1229, .ref (E.1 + 11)], 0, 0) :: gs, h1222, none)
      refine bn_pf (pc' := 77) (K := 1108) bu_171_74 rfl rfl (fun _ _ _ => rfl) hP1226 bq_o11 bq_i11_8 rfl rfl (fun h1240 s1241 hP1242 e1243 f1244 => ?_)
      refine bp_go (pc' := 119) bu_171_77 rfl ?_
      refine bp_ld (pc' := 120) bu_171_119 rfl rfl (fun _ _ _ => rfl) rfl rfl ?_
      refine bp_c (pc' := 122) (n := 59) bu_171_120 rfl rfl (fun _ _ _ => rfl) (by decide) (fun c1245 e1246 => ?_)
      refine bn_cv (pc' := 125) (st := []) (args := [.int c1245]) bu_171_122 rfl rfl rfl (by decide) hP1242 bq_o20 (by decide) (by omega) rfl (Nat.le_of_ble_eq_true rfl) (Nat.le_of_ble_eq_true rfl) ?_
      have R1247 := rc_R_s (s1 := s1241) (fun j u => (f1244 j (by omega))) R1228
      have F1248 : rc_G s1223 A1224 L1225 s1241 A1224 L1225 := ⟨fun j u1 => (f1244 j (by omega)), fun _ _ => rfl, rfl, fun hq => by rw [(f1244 1204 (by omega)), (f1244 1104 (by omega))]; exact hq⟩
      have w1249 : s1241 1104 = (s 1104) := ((f1244 1104 (by omega))).trans w1231
      have w1250 : s1241 1105 = (s 1105) := ((f1244 1105 (by omega))).trans w1232
      have w1251 : s1241 1106 = (s 1106) := ((f1244 1106 (by omega))).trans w1233
      have w1252 : s1241 1107 = (s 1107) := ((f1244 1107 (by omega))).trans w1234
      have w1253 : s1241 1108 = r1229 := e1243
      have w1254 : s1241 1109 = (s 1109) := ((f1244 1109 (by omega))).trans w1236
      have w1255 : s1241 1110 = (s 1110) := ((f1244 1110 (by omega))).trans w1237
      have G1256 := rc_G_t (rc_G_of (rc_F_t F1086 F1227)) F1248
      refine cr_177 (σ := (py_nu K V 1 999 (py_go σ))) (kc := 4) (by omega) hP1242 (by simp only [List.length_cons]; omega) R1247 (rc_T_G hT G1256) (fun h1257 s1258 A1259 L1260 hP1261 F1262 R1263 => ?_)
      have w1264 : s1258 1104 = (s 1104) := (F1262.1 1104 (Or.inr ⟨by decide, by decide⟩)).trans w1249
      have w1265 : s1258 1105 = (s 1105) := (F1262.1 1105 (Or.inr ⟨by decide, by decide⟩)).trans w1250
      have w1266 : s1258 1106 = (s 1106) := (F1262.1 1106 (Or.inr ⟨by decide, by decide⟩)).trans w1251
      have w1267 : s1258 1107 = (s 1107) := (F1262.1 1107 (Or.inr ⟨by decide, by decide⟩)).trans w1252
      have w1268 : s1258 1108 = r1229 := (F1262.1 1108 (Or.inr ⟨by decide, by decide⟩)).trans w1253
      have w1269 : s1258 1109 = (s 1109) := (F1262.1 1109 (Or.inr ⟨by decide, by decide⟩)).trans w1254
      have w1270 : s1258 1110 = (s 1110) := (F1262.1 1110 (Or.inr ⟨by decide, by decide⟩)).trans w1255
      have w1271 : A1259 17 = (A 17) := (F1262.2.1 17 (by decide)).trans w1238
      have w1272 : A1259 18 = (A 18) := (F1262.2.1 18 (by decide)).trans w1239
      have G1273 := rc_G_t G1256 (rc_G_of F1262)
      show bp_G E PO NN ((171, 125, _, [], 0, 0) :: gs, h1257, none)
      refine bp_rv bu_171_125 ?_
      have ee9 : rc_nm K V w.toInt σ = (py_mu K 4 (py_nu K V 1 999 (py_go σ))) := by
        unfold rc_nm
        first
          | (rw [if_pos (by omega)])
          | (rw [if_neg (by omega), if_pos (by omega)])
          | (rw [if_neg (by omega), if_neg (by omega)])
      refine kk _ _ _ _ hP1261 G1273 (by rw [ee9]; exact R1263) (fun q => ⟨w1271, w1272, w1264, ?_⟩)
      rw [ee9] at q
      have f1 := py_one_ok q
      have eg := (py_go_st f1.1).2
      have x0 := v1230 f1.1 f1.2
      rw [eg] at x0
      exact ⟨fun u => absurd u (by omega), fun _ => ⟨by rw [w1268]; exact x0, w1265, w1266, w1267, w1269, w1270⟩, fun u => absurd u (by omega), fun u => absurd u (by omega)⟩
  · replace k1099 : ¬ ((w).toInt ≠ (c1097).toInt) := k1099
    refine bp_ld (pc' := 11) bu_171_10 rfl rfl (fun _ _ _ => rfl) rfl rfl ?_
    refine bn_gr (pc' := 14) (t := 11) bu_171_11 rfl rfl (fun _ _ _ => rfl) hP1085 bq_o20 bq_r20_1 ?_
    refine bp_ld (pc' := 15) bu_171_14 rfl rfl (fun _ _ _ => rfl) rfl rfl ?_
    refine bp_c (pc' := 16) (n := 1) bu_171_15 rfl rfl (fun _ _ _ => rfl) (by decide) (fun c1274 e1275 => ?_)
    refine bp_c (pc' := 18) (n := 99) bu_171_16 rfl rfl (fun _ _ _ => rfl) (by decide) (fun c1276 e1277 => ?_)
    refine bn_cv (pc' := 21) (st := [.ref (E.1 + 11)]) (args := [.int c1276, .int c1274]) bu_171_18 rfl rfl rfl (by decide) hP1085 bq_o20 (by decide) (by omega) rfl (Nat.le_of_ble_eq_true rfl) (Nat.le_of_ble_eq_true rfl) ?_
    refine cr_166 (σ := (py_go σ)) hP1085 (by simp only [List.length_cons]; omega) R1087 (rc_T_F hT F1086) (fun h1278 s1279 A1280 L1281 r1285 hP1282 F1283 R1284 v1286 => ?_)
    rw [show (c1274 : Int32).toInt = 1 from e1275, show (c1276 : Int32).toInt = 99 from e1277] at R1284
    have w1287 : s1279 1104 = (s 1104) := (F1283.1 1104 (Or.inr ⟨by decide, by decide⟩)).trans w1088
    have w1288 : s1279 1105 = (s 1105) := (F1283.1 1105 (Or.inr ⟨by decide, by decide⟩)).trans w1089
    have w1289 : s1279 1106 = (s 1106) := (F1283.1 1106 (Or.inr ⟨by decide, by decide⟩)).trans w1090
    have w1290 : s1279 1107 = (s 1107) := (F1283.1 1107 (Or.inr ⟨by decide, by decide⟩)).trans w1091
    have w1291 : s1279 1108 = (s 1108) := (F1283.1 1108 (Or.inr ⟨by decide, by decide⟩)).trans w1092
    have w1292 : s1279 1109 = (s 1109) := (F1283.1 1109 (Or.inr ⟨by decide, by decide⟩)).trans w1093
    have w1293 : s1279 1110 = (s 1110) := (F1283.1 1110 (Or.inr ⟨by decide, by decide⟩)).trans w1094
    have w1294 : A1280 17 = (A 17) := (F1283.2.1 17 (by decide)).trans w1095
    have w1295 : A1280 18 = (A 18) := (F1283.2.1 18 (by decide)).trans w1096
    show bp_G E PO NN ((171, 21, _, [.int r1285, .ref (E.1 + 11)], 0, 0) :: gs, h1278, none)
    refine bn_pf (pc' := 24) (K := 1105) bu_171_21 rfl rfl (fun _ _ _ => rfl) hP1282 bq_o11 bq_i11_5 rfl rfl (fun h1296 s1297 hP1298 e1299 f1300 => ?_)
    refine bp_ld (pc' := 25) bu_171_24 rfl rfl (fun _ _ _ => rfl) rfl rfl ?_
    refine bn_gr (pc' := 28) (t := 11) bu_171_25 rfl rfl (fun _ _ _ => rfl) hP1298 bq_o20 bq_r20_1 ?_
    refine bp_ld (pc' := 29) bu_171_28 rfl rfl (fun _ _ _ => rfl) rfl rfl ?_
    refine bp_c (pc' := 30) (n := 0) bu_171_29 rfl rfl (fun _ _ _ => rfl) (by decide) (fun c1301 e1302 => ?_)
    refine bp_c (pc' := 33) (n := 999) bu_171_30 rfl rfl (fun _ _ _ => rfl) (by decide) (fun c1303 e1304 => ?_)
    refine bn_cv (pc' := 36) (st := [.ref (E.1 + 11)]) (args := [.int c1303, .int c1301]) bu_171_33 rfl rfl rfl (by decide) hP1298 bq_o20 (by decide) (by omega) rfl (Nat.le_of_ble_eq_true rfl) (Nat.le_of_ble_eq_true rfl) ?_
    have R1305 := rc_R_s (s1 := s1297) (fun j u => (f1300 j (by omega))) R1284
    have F1306 : rc_G s1279 A1280 L1281 s1297 A1280 L1281 := ⟨fun j u1 => (f1300 j (by omega)), fun _ _ => rfl, rfl, fun hq => by rw [(f1300 1204 (by omega)), (f1300 1104 (by omega))]; exact hq⟩
    have w1307 : s1297 1104 = (s 1104) := ((f1300 1104 (by omega))).trans w1287
    have w1308 : s1297 1105 = r1285 := e1299
    have w1309 : s1297 1106 = (s 1106) := ((f1300 1106 (by omega))).trans w1289
    have w1310 : s1297 1107 = (s 1107) := ((f1300 1107 (by omega))).trans w1290
    have w1311 : s1297 1108 = (s 1108) := ((f1300 1108 (by omega))).trans w1291
    have w1312 : s1297 1109 = (s 1109) := ((f1300 1109 (by omega))).trans w1292
    have w1313 : s1297 1110 = (s 1110) := ((f1300 1110 (by omega))).trans w1293
    have G1314 := rc_G_t (rc_G_of (rc_F_t F1086 F1283)) F1306
    refine cr_166 (σ := (py_nu K V 1 99 (py_go σ))) hP1298 (by simp only [List.length_cons]; omega) R1305 (rc_T_G hT G1314) (fun h1315 s1316 A1317 L1318 r1322 hP1319 F1320 R1321 v1323 => ?_)
    rw [show (c1301 : Int32).toInt = 0 from e1302, show (c1303 : Int32).toInt = 999 from e1304] at R1321
    have w1324 : s1316 1104 = (s 1104) := (F1320.1 1104 (Or.inr ⟨by decide, by decide⟩)).trans w1307
    have w1325 : s1316 1105 = r1285 := (F1320.1 1105 (Or.inr ⟨by decide, by decide⟩)).trans w1308
    have w1326 : s1316 1106 = (s 1106) := (F1320.1 1106 (Or.inr ⟨by decide, by decide⟩)).trans w1309
    have w1327 : s1316 1107 = (s 1107) := (F1320.1 1107 (Or.inr ⟨by decide, by decide⟩)).trans w1310
    have w1328 : s1316 1108 = (s 1108) := (F1320.1 1108 (Or.inr ⟨by decide, by decide⟩)).trans w1311
    have w1329 : s1316 1109 = (s 1109) := (F1320.1 1109 (Or.inr ⟨by decide, by decide⟩)).trans w1312
    have w1330 : s1316 1110 = (s 1110) := (F1320.1 1110 (Or.inr ⟨by decide, by decide⟩)).trans w1313
    have w1331 : A1317 17 = (A 17) := (F1320.2.1 17 (by decide)).trans w1294
    have w1332 : A1317 18 = (A 18) := (F1320.2.1 18 (by decide)).trans w1295
    have G1333 := rc_G_t G1314 (rc_G_of F1320)
    show bp_G E PO NN ((171, 36, _, [.int r1322, .ref (E.1 + 11)], 0, 0) :: gs, h1315, none)
    refine bn_pf (pc' := 39) (K := 1106) bu_171_36 rfl rfl (fun _ _ _ => rfl) hP1319 bq_o11 bq_i11_6 rfl rfl (fun h1334 s1335 hP1336 e1337 f1338 => ?_)
    refine bp_ld (pc' := 40) bu_171_39 rfl rfl (fun _ _ _ => rfl) rfl rfl ?_
    refine bn_gr (pc' := 43) (t := 11) bu_171_40 rfl rfl (fun _ _ _ => rfl) hP1336 bq_o20 bq_r20_1 ?_
    refine bp_ld (pc' := 44) bu_171_43 rfl rfl (fun _ _ _ => rfl) rfl rfl ?_
    refine bp_c (pc' := 45) (n := 0) bu_171_44 rfl rfl (fun _ _ _ => rfl) (by decide) (fun c1339 e1340 => ?_)
    refine bp_c (pc' := 47) (n := 99) bu_171_45 rfl rfl (fun _ _ _ => rfl) (by decide) (fun c1341 e1342 => ?_)
    refine bn_cv (pc' := 50) (st := [.ref (E.1 + 11)]) (args := [.int c1341, .int c1339]) bu_171_47 rfl rfl rfl (by decide) hP1336 bq_o20 (by decide) (by omega) rfl (Nat.le_of_ble_eq_true rfl) (Nat.le_of_ble_eq_true rfl) ?_
    have R1343 := rc_R_s (s1 := s1335) (fun j u => (f1338 j (by omega))) R1321
    have F1344 : rc_G s1316 A1317 L1318 s1335 A1317 L1318 := ⟨fun j u1 => (f1338 j (by omega)), fun _ _ => rfl, rfl, fun hq => by rw [(f1338 1204 (by omega)), (f1338 1104 (by omega))]; exact hq⟩
    have w1345 : s1335 1104 = (s 1104) := ((f1338 1104 (by omega))).trans w1324
    have w1346 : s1335 1105 = r1285 := ((f1338 1105 (by omega))).trans w1325
    have w1347 : s1335 1106 = r1322 := e1337
    have w1348 : s1335 1107 = (s 1107) := ((f1338 1107 (by omega))).trans w1327
    have w1349 : s1335 1108 = (s 1108) := ((f1338 1108 (by omega))).trans w1328
    have w1350 : s1335 1109 = (s 1109) := ((f1338 1109 (by omega))).trans w1329
    have w1351 : s1335 1110 = (s 1110) := ((f1338 1110 (by omega))).trans w1330
    have G1352 := rc_G_t G1333 F1344
    refine cr_166 (σ := (py_nu K V 0 999 (py_nu K V 1 99 (py_go σ)))) hP1336 (by simp only [List.length_cons]; omega) R1343 (rc_T_G hT G1352) (fun h1353 s1354 A1355 L1356 r1360 hP1357 F1358 R1359 v1361 => ?_)
    rw [show (c1339 : Int32).toInt = 0 from e1340, show (c1341 : Int32).toInt = 99 from e1342] at R1359
    have w1362 : s1354 1104 = (s 1104) := (F1358.1 1104 (Or.inr ⟨by decide, by decide⟩)).trans w1345
    have w1363 : s1354 1105 = r1285 := (F1358.1 1105 (Or.inr ⟨by decide, by decide⟩)).trans w1346
    have w1364 : s1354 1106 = r1322 := (F1358.1 1106 (Or.inr ⟨by decide, by decide⟩)).trans w1347
    have w1365 : s1354 1107 = (s 1107) := (F1358.1 1107 (Or.inr ⟨by decide, by decide⟩)).trans w1348
    have w1366 : s1354 1108 = (s 1108) := (F1358.1 1108 (Or.inr ⟨by decide, by decide⟩)).trans w1349
    have w1367 : s1354 1109 = (s 1109) := (F1358.1 1109 (Or.inr ⟨by decide, by decide⟩)).trans w1350
    have w1368 : s1354 1110 = (s 1110) := (F1358.1 1110 (Or.inr ⟨by decide, by decide⟩)).trans w1351
    have w1369 : A1355 17 = (A 17) := (F1358.2.1 17 (by decide)).trans w1331
    have w1370 : A1355 18 = (A 18) := (F1358.2.1 18 (by decide)).trans w1332
    have G1371 := rc_G_t G1352 (rc_G_of F1358)
    show bp_G E PO NN ((171, 50, _, [.int r1360, .ref (E.1 + 11)], 0, 0) :: gs, h1353, none)
    refine bn_pf (pc' := 53) (K := 1107) bu_171_50 rfl rfl (fun _ _ _ => rfl) hP1357 bq_o11 bq_i11_7 rfl rfl (fun h1372 s1373 hP1374 e1375 f1376 => ?_)
    refine bp_go (pc' := 119) bu_171_53 rfl ?_
    refine bp_ld (pc' := 120) bu_171_119 rfl rfl (fun _ _ _ => rfl) rfl rfl ?_
    refine bp_c (pc' := 122) (n := 59) bu_171_120 rfl rfl (fun _ _ _ => rfl) (by decide) (fun c1377 e1378 => ?_)
    refine bn_cv (pc' := 125) (st := []) (args := [.int c1377]) bu_171_122 rfl rfl rfl (by decide) hP1374 bq_o20 (by decide) (by omega) rfl (Nat.le_of_ble_eq_true rfl) (Nat.le_of_ble_eq_true rfl) ?_
    have R1379 := rc_R_s (s1 := s1373) (fun j u => (f1376 j (by omega))) R1359
    have F1380 : rc_G s1354 A1355 L1356 s1373 A1355 L1356 := ⟨fun j u1 => (f1376 j (by omega)), fun _ _ => rfl, rfl, fun hq => by rw [(f1376 1204 (by omega)), (f1376 1104 (by omega))]; exact hq⟩
    have w1381 : s1373 1104 = (s 1104) := ((f1376 1104 (by omega))).trans w1362
    have w1382 : s1373 1105 = r1285 := ((f1376 1105 (by omega))).trans w1363
    have w1383 : s1373 1106 = r1322 := ((f1376 1106 (by omega))).trans w1364
    have w1384 : s1373 1107 = r1360 := e1375
    have w1385 : s1373 1108 = (s 1108) := ((f1376 1108 (by omega))).trans w1366
    have w1386 : s1373 1109 = (s 1109) := ((f1376 1109 (by omega))).trans w1367
    have w1387 : s1373 1110 = (s 1110) := ((f1376 1110 (by omega))).trans w1368
    have G1388 := rc_G_t G1371 F1380
    refine cr_177 (σ := (py_nu K V 0 99 (py_nu K V 0 999 (py_nu K V 1 99 (py_go σ))))) (kc := 4) (by omega) hP1374 (by simp only [List.length_cons]; omega) R1379 (rc_T_G hT G1388) (fun h1389 s1390 A1391 L1392 hP1393 F1394 R1395 => ?_)
    have w1396 : s1390 1104 = (s 1104) := (F1394.1 1104 (Or.inr ⟨by decide, by decide⟩)).trans w1381
    have w1397 : s1390 1105 = r1285 := (F1394.1 1105 (Or.inr ⟨by decide, by decide⟩)).trans w1382
    have w1398 : s1390 1106 = r1322 := (F1394.1 1106 (Or.inr ⟨by decide, by decide⟩)).trans w1383
    have w1399 : s1390 1107 = r1360 := (F1394.1 1107 (Or.inr ⟨by decide, by decide⟩)).trans w1384
    have w1400 : s1390 1108 = (s 1108) := (F1394.1 1108 (Or.inr ⟨by decide, by decide⟩)).trans w1385
    have w1401 : s1390 1109 = (s 1109) := (F1394.1 1109 (Or.inr ⟨by decide, by decide⟩)).trans w1386
    have w1402 : s1390 1110 = (s 1110) := (F1394.1 1110 (Or.inr ⟨by decide, by decide⟩)).trans w1387
    have w1403 : A1391 17 = (A 17) := (F1394.2.1 17 (by decide)).trans w1369
    have w1404 : A1391 18 = (A 18) := (F1394.2.1 18 (by decide)).trans w1370
    have G1405 := rc_G_t G1388 (rc_G_of F1394)
    show bp_G E PO NN ((171, 125, _, [], 0, 0) :: gs, h1389, none)
    refine bp_rv bu_171_125 ?_
    have ee9 : rc_nm K V w.toInt σ = (py_mu K 4 (py_nu K V 0 99 (py_nu K V 0 999 (py_nu K V 1 99 (py_go σ))))) := by
      unfold rc_nm
      first
        | (rw [if_pos (by omega)])
        | (rw [if_neg (by omega), if_pos (by omega)])
        | (rw [if_neg (by omega), if_neg (by omega)])
    refine kk _ _ _ _ hP1393 G1405 (by rw [ee9]; exact R1395) (fun q => ⟨w1403, w1404, w1396, ?_⟩)
    rw [ee9] at q
    have f3 := py_three_ok q
    have eg := (py_go_st f3.1).2
    have x0 := v1286 f3.1 f3.2.1
    have x1 := v1323 f3.2.2.1.1 (by rw [f3.2.2.1.2.1]; exact f3.2.2.1.2.2)
    have x2 := v1361 f3.2.2.2.1 (by rw [f3.2.2.2.2.1]; exact f3.2.2.2.2.2)
    rw [f3.2.2.1.2.1] at x1
    rw [f3.2.2.2.2.1] at x2
    rw [eg] at x0 x1 x2
    exact ⟨fun _ => ⟨by rw [w1397]; exact x0, by rw [w1398]; exact x1, by rw [w1399]; exact x2, w1400, w1401, w1402⟩, fun u => absurd u (by omega), fun u => absurd u (by omega), fun u => absurd u (by omega)⟩
end CR
