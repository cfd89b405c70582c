/-! THE TABLES AGAINST THE WORDS: methods 44 to 56 -/
theorem mt_c44 : Cond.code ⟨"StrawWatchModel", "<init>", "()V"⟩ prog_11_method_2_code 1 none ∈ mt_W := List.mem_filter.mpr ⟨List.mem_append_right _ (show _ ∈ tables_1_1 ++ (tables_1_2 ++ (tables_1_3 ++ (tables_1_4 ++ (tables_1_5 ++ (tables_1_6 ++ (tables_1_7 ++ (tables_1_8))))))) from List.mem_append_right _ (List.mem_append_right _ (List.mem_append_right _ (List.mem_append_right _ (List.mem_append_left _ (List.mem_of_getElem? (i := 128) rfl)))))), rfl⟩
def mt_ckH (q : List (List mm_I) × Nat × mm_M) (d : rf_Y) (i2 i3 : Nat) : Bool := match q, d with
  | (_, nL, np, kd, _, rk, _, _), (y, _, ret) => rf_w lw_tbl i2 (.initialized y.cls) && (plainFor y && (decide (y.cls ≠ "java/lang/invoke/MethodHandle" ∧ y.cls ≠ "java/lang/invoke/VarHandle" ∧ (parseMethodDescriptor y.desc).map (fun d => d.parameters.length) = some np) && (rf_rk rk ret && (decide (nL ≤ 40) && (decide (kd = 2) && (rf_w lw_tbl i3 (.instanceMethod y) && (decide (y.name = "<init>") && decide (ret = none))))))))
theorem mt_ck_H {q : List (List mm_I) × Nat × mm_M} {d : rf_Y} {i2 i3 : Nat} (h : mt_ckH q d i2 i3 = true) (hc : Cond.code d.1 d.2.1 q.2.1 d.2.2 ∈ mt_W) (hp : mt_pc q.1 d) : mt_okM q d := by
  obtain ⟨cs, nL, np, kd, ci, rk, mc, ms⟩ := q
  obtain ⟨y, cc, ret⟩ := d
  simp only [mt_ckH, Bool.and_eq_true, decide_eq_true_eq] at h
  obtain ⟨h2, h3, h4, h5, h6, rfl, h7, h8, h9⟩ := h
  exact ⟨⟨hc, mt_w_in h2, h3, h4, h5, h6, fun e => absurd e (by decide), fun e => absurd e (by decide), fun _ => ⟨mt_w_in h7, h8, h9⟩⟩, hp⟩
theorem mt_ok44 : mt_okM mt_44 (⟨"StrawWatchModel", "<init>", "()V"⟩, prog_11_method_2_code, none) := mt_ck_H (i2 := 113) (i3 := 1188) (by decide +kernel) mt_c44 (mt_pS 9 (mt_pI (by decide +kernel)) (mt_pS 9 (mt_pI (by decide +kernel)) (mt_pS 9 (mt_pI (by decide +kernel)) (mt_pS 9 (mt_pI (by decide +kernel)) (mt_pS 9 (mt_pI (by decide +kernel)) (mt_pS 9 (mt_pI (by decide +kernel)) (mt_pI (by decide +kernel))))))))
theorem mt_ok45 : mt_okM mt_45 (⟨"StrawWatchModel", "is", "(I)Z"⟩, prog_11_method_14_code, (some .boolean)) := mt_ck_ok (i1 := 1478) (i2 := 113) (i3 := 1477) (i4 := 52) (by decide +kernel)
theorem mt_ok46 : mt_okM mt_46 (⟨"StrawWatchModel", "isAsked", "(II)Z"⟩, prog_11_method_76_code, (some .boolean)) := mt_ck_ok (i1 := 1679) (i2 := 113) (i3 := 1678) (i4 := 86) (by decide +kernel)
theorem mt_ok47 : mt_okM mt_47 (⟨"StrawWatchModel", "isCrew", "(I)Z"⟩, prog_11_method_62_code, (some .boolean)) := mt_ck_ok (i1 := 1609) (i2 := 113) (i3 := 1608) (i4 := 78) (by decide +kernel)
theorem mt_ok48 : mt_okM mt_48 (⟨"StrawWatchModel", "isDigit", "(I)Z"⟩, prog_11_method_7_code, (some .boolean)) := mt_ck_ok (i1 := 1470) (i2 := 113) (i3 := 1469) (i4 := 0) (by decide +kernel)
theorem mt_ok49 : mt_okM mt_49 (⟨"StrawWatchModel", "isDraw", "(I)Z"⟩, prog_11_method_69_code, (some .boolean)) := mt_ck_ok (i1 := 1684) (i2 := 113) (i3 := 1683) (i4 := 87) (by decide +kernel)
theorem mt_ok50 : mt_okM mt_50 (⟨"StrawWatchModel", "isLetter", "(I)Z"⟩, prog_11_method_8_code, (some .boolean)) := mt_ck_ok (i1 := 1467) (i2 := 113) (i3 := 1466) (i4 := 0) (by decide +kernel)
theorem mt_ok51 : mt_okM mt_51 (⟨"StrawWatchModel", "isLong", "(I)Z"⟩, prog_11_method_92_code, (some .boolean)) := mt_ck_ok (i1 := 1761) (i2 := 113) (i3 := 1760) (i4 := 0) (by decide +kernel)
theorem mt_ok52 : mt_okM mt_52 (⟨"StrawWatchModel", "isMan", "(I)Z"⟩, prog_11_method_33_code, (some .boolean)) := mt_ck_ok (i1 := 1542) (i2 := 113) (i3 := 1541) (i4 := 66) (by decide +kernel)
theorem mt_ok53 : mt_okM mt_53 (⟨"StrawWatchModel", "isSame", "(II)Z"⟩, prog_11_method_63_code, (some .boolean)) := mt_ck_ok (i1 := 1612) (i2 := 113) (i3 := 1611) (i4 := 0) (by decide +kernel)
theorem mt_ok54 : mt_okM mt_54 (⟨"StrawWatchModel", "isSo", "(II)Z"⟩, prog_11_method_108_code, (some .boolean)) := mt_ck_ok (i1 := 1829) (i2 := 113) (i3 := 1828) (i4 := 100) (by decide +kernel)
theorem mt_ok55 : mt_okM mt_55 (⟨"StrawWatchModel", "keeps", "()V"⟩, prog_11_method_60_code, none) := mt_ck_ok (i1 := 1601) (i2 := 113) (i3 := 1600) (i4 := 77) (by decide +kernel)
theorem mt_ok56 : mt_okM mt_56 (⟨"StrawWatchModel", "keepsRow", "()V"⟩, prog_11_method_37_code, none) := mt_ck_ok (i1 := 1217) (i2 := 113) (i3 := 1216) (i4 := 46) (by decide +kernel)
