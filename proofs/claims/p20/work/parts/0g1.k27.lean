/-! CONTRACTS, by program (wip/p3/emit.py) -/
section SFP
variable {E : mm_E} {ω : Nat → Value} {J : mm_H → Prop}
/-- X9_copies -/
def zb_m374 : sf_M := (1114112, 16333553616007998046963562849740359991808, zb_h75, zb_h75, [88, 105, 118, 119], [])
def zb_t374_0 : sf_T := (1114112, 16333553616007998046963562849740359991808, [], zb_h75, [], [(0, 0)])
def zb_l374 : List sf_T := [zb_t374_0]
noncomputable def zb_b374 : en_T := (fun _ => none)
theorem zb_e374_0 : sf_okb (sf_fin 133 zb_h75 []) zb_b374 17 2 0 133 1612 zb_l374 [] zb_t374_0 = true := by decide +kernel
theorem zb_i374 : (zb_m374.1, zb_m374.2.1, ([] : List Nat), zb_m374.2.2.1, [], [(0, 0)]) ∈ zb_l374 := List.mem_cons_self
theorem zb_k374 (hS : ∀ ρ, en_SA E ρ ω mt_SB) (hX : sf_JX J) (hM : sf_MnB E ω J) : sf_Kok E ω J 2 0 133 zb_m374 := sf_K_of hS sf_TS_n (sf_nL (by decide +kernel)) rfl zb_h75_n zb_h75_n (by decide +kernel) (by decide +kernel) (by decide +kernel) zb_i374 (sf_fc (sf_okb_t zb_h75_n zb_e374_0) sf_fn)
def zb_h85 : en_H := (((((((0, 0), 0), 0), ((0, 0), (0, 0))), ((((((0, (0, 0)), 0), 0), ((((0, 0), (0, (0, 0))), (((0, 0), 0), (0, (0, (0, 0))))), 0)), ((0, 0), 0)), (0, ((((0, 0), ((0, 0), ((0, 0), 0))), (((0, (0, 0)), ((0, 0), (0, 0))), (((0, 0), (0, 0)), ((0, 0), (0, 0))))), (((((0, 0), (0, 0)), ((0, 0), (0, 0))), (((0, 0), (0, 0)), ((0, 0), (0, 0)))), ((((0, 0), (0, 0)), ((0, 0), (0, (0, 0)))), ((((0, 0), (0, 0)), ((0, 0), 0)), (0, (0, (0, 0)))))))))), zb_r4), ((((((0, 0), 0), (0, (0, 0))), (0, 0)), zb_r22), ((((((((zb_r7, 0), 0), (0, 0)), (0, (0, zb_r5))), 0), (0, (((0, 0), (0, 0)), ((0, 0), (0, 0))))), zb_r1), (((zb_r2, zb_r6), zb_r6), (zb_r12, ((0, ((0, 0), (zb_r27, zb_r28))), (((zb_r29, 0), (0, 0)), ((0, 0), ((0, 0), (0, 0))))))))))
theorem zb_h85_n : sf_nlh zb_h85 136 = true := by decide +kernel
/-- X9_fillsFirst -/
def zb_m375 : sf_M := (2097152, 1422853192879425234015608139717629925292265360276298235107590062233449531231437824, zb_h85, zb_h85, [88, 97, 98, 105, 116, 117, 118, 119, 120, 124, 125, 126], [])
def zb_t375_0 : sf_T := (2097152, 1422853192879425234015608139717629925292265360276298235107590062233449531231437824, [], zb_h85, [(1000, 1)], [(0, 19)])
def zb_t375_1 : sf_T := (2097164, 9166661893742329624842813117257092636493575502212187267824770353587331498168013300730692608, [], zb_h85, [(1000, 1), (1000, 3)], [(0, 18), (1, 1), (0, 0)])
def zb_t375_2 : sf_T := (2097164, 9166662056896162408239812008945390282816986349434389824395986497991095762065735818722411520, [], zb_h85, [(1000, 1), (1000, 3)], [(0, 17), (1, 1), (0, 0)])
def zb_t375_3 : sf_T := (2097164, 9166662219575710794120763764178741174544811526089598523776738892089241761867046157708952576, [], zb_h85, [(1000, 1), (1000, 3)], [(0, 16), (1, 1), (0, 0)])
def zb_t375_4 : sf_T := (2097164, 9166662382255259180001715519412092066272636702744807223157491286187387761668356496695493632, [], zb_h85, [(1000, 1), (1000, 3)], [(0, 15), (1, 1), (0, 0)])
def zb_t375_5 : sf_T := (2097164, 9166662544934807565882667274645442958000461879400015922538243680285533761469666835682034688, [], zb_h85, [(1000, 1), (1000, 3)], [(0, 14), (1, 1), (0, 0)])
def zb_t375_6 : sf_T := (2097164, 9166662707614355951763619029878793849728287056055224621918996074383679761270977174668575744, [], zb_h85, [(1000, 1), (1000, 3)], [(0, 13), (1, 1), (0, 0)])
def zb_t375_7 : sf_T := (2097164, 9166662870293904305178755969809332685363020656559305592969731863392327405587773564903228416, [], zb_h85, [(1000, 1), (1000, 3)], [(0, 12), (1, 1), (0, 0)])
def zb_t375_8 : sf_T := (2097164, 9166662893533839788876034791985525669895567110367192550024125062549205405559389327615591424, [], zb_h85, [(1000, 1), (1000, 3)], [(0, 11), (1, 1), (0, 0)])
def zb_t375_9 : sf_T := (2097164, 9166662916773775272573313614161718654428113564175079507078518261706083405531005090327954432, [], zb_h85, [(1000, 1), (1000, 3)], [(0, 10), (1, 1), (0, 0)])
def zb_t375_10 : sf_T := (2097164, 9166662940013710756270592436337911638960660017982966464132911460862961405502620853040317440, [], zb_h85, [(1000, 1), (1000, 3)], [(0, 9), (1, 1), (0, 0)])
def zb_t375_11 : sf_T := (2097164, 9166662963253646239967871258514104623493206471790853421187304660019839405474236615752680448, [], zb_h85, [(1000, 1), (1000, 3)], [(0, 8), (1, 1), (0, 0)])
def zb_t375_12 : sf_T := (2097164, 9166662986493581723665150080690297608025752925598740378241697859176717405445852378465043456, [], zb_h85, [(1000, 1), (1000, 3)], [(0, 7), (1, 1), (0, 0)])
def zb_t375_13 : sf_T := (2097164, 9166663009733517202724455357823231727402143439956466231248945829035095640348251862784279552, [], zb_h85, [(1000, 1), (1000, 3)], [(0, 6), (1, 1), (0, 0)])
def zb_t375_14 : sf_T := (2097164, 9166663013053507986109780903848402153763935790500450082256716286057506783201339828886045696, [], zb_h85, [(1000, 1), (1000, 3)], [(0, 5), (1, 1), (0, 0)])
def zb_t375_15 : sf_T := (2097164, 9166663016373498769495106449873572580125728141044433933264486743079917926054427794987811840, [], zb_h85, [(1000, 1), (1000, 3)], [(0, 4), (1, 1), (0, 0)])
def zb_t375_16 : sf_T := (2097164, 9166663019693489552880431995898743006487520491588417784272257200102329068907515761089577984, [], zb_h85, [(1000, 1), (1000, 3)], [(0, 3), (1, 1), (0, 0)])
def zb_t375_17 : sf_T := (2097164, 9166663023013480336265757541923913432849312842132401635280027657124740211760603727191344128, [], zb_h85, [(1000, 1), (1000, 3)], [(0, 2), (1, 1), (0, 0)])
def zb_t375_18 : sf_T := (2097164, 9166663026333471119651083087949083859211105192676385486287798114147151354613691693293110272, [], zb_h85, [(1000, 1), (1000, 3)], [(0, 1), (1, 1), (0, 0)])
def zb_t375_19 : sf_T := (2097164, 237142463895511226534575304413982908192524949419314710436279506077627682899624960, [], zb_h85, [(1000, 1)], [(0, 0)])
def zb_l375 : List sf_T := [zb_t375_0, zb_t375_1, zb_t375_2, zb_t375_3, zb_t375_4, zb_t375_5, zb_t375_6, zb_t375_7, zb_t375_8, zb_t375_9, zb_t375_10, zb_t375_11, zb_t375_12, zb_t375_13, zb_t375_14, zb_t375_15, zb_t375_16, zb_t375_17, zb_t375_18, zb_t375_19]
noncomputable def zb_b375 : en_T := (sf_tc 1114112 (sf_call 133 [(2, 0, zb_m374)]) (sf_tc 2031616 (sf_call 133 [(3, 6, zb_m373)]) (sf_tc 7077888 (sf_call 133 [(1, 6, zb_m365)]) (sf_tc 2097164 (sf_spl 4 (1000, 3) [2147483991, 2147484334, 2147484677, 2147485020, 2147485363, 2147485706, 2147485755, 2147485804, 2147485853, 2147485902, 2147485951, 2147486000, 2147486007, 2147486014, 2147486021, 2147486028, 2147486035, 2147486042]) (fun _ => none)))))
theorem zb_e375_0 : sf_okb (sf_fin 133 zb_h85 []) zb_b375 32 4 7 133 36 zb_l375 [1] zb_t375_0 = true := by decide +kernel
theorem zb_e375_1 : sf_okb (sf_fin 133 zb_h85 []) zb_b375 32 4 7 133 352 zb_l375 [1, 2] zb_t375_1 = true := by decide +kernel
theorem zb_e375_2 : sf_okb (sf_fin 133 zb_h85 []) zb_b375 32 4 7 133 352 zb_l375 [2, 3] zb_t375_2 = true := by decide +kernel
theorem zb_e375_3 : sf_okb (sf_fin 133 zb_h85 []) zb_b375 32 4 7 133 352 zb_l375 [3, 4] zb_t375_3 = true := by decide +kernel
theorem zb_e375_4 : sf_okb (sf_fin 133 zb_h85 []) zb_b375 32 4 7 133 352 zb_l375 [4, 5] zb_t375_4 = true := by decide +kernel
theorem zb_e375_5 : sf_okb (sf_fin 133 zb_h85 []) zb_b375 32 4 7 133 352 zb_l375 [5, 6] zb_t375_5 = true := by decide +kernel
theorem zb_e375_6 : sf_okb (sf_fin 133 zb_h85 []) zb_b375 32 4 7 133 476 zb_l375 [6, 7] zb_t375_6 = true := by decide +kernel
theorem zb_e375_7 : sf_okb (sf_fin 133 zb_h85 []) zb_b375 32 4 7 133 600 zb_l375 [7, 8] zb_t375_7 = true := by decide +kernel
theorem zb_e375_8 : sf_okb (sf_fin 133 zb_h85 []) zb_b375 32 4 7 133 600 zb_l375 [8, 9] zb_t375_8 = true := by decide +kernel
theorem zb_e375_9 : sf_okb (sf_fin 133 zb_h85 []) zb_b375 32 4 7 133 600 zb_l375 [9, 10] zb_t375_9 = true := by decide +kernel
theorem zb_e375_10 : sf_okb (sf_fin 133 zb_h85 []) zb_b375 32 4 7 133 600 zb_l375 [10, 11] zb_t375_10 = true := by decide +kernel
theorem zb_e375_11 : sf_okb (sf_fin 133 zb_h85 []) zb_b375 32 4 7 133 600 zb_l375 [11, 12] zb_t375_11 = true := by decide +kernel
theorem zb_e375_12 : sf_okb (sf_fin 133 zb_h85 []) zb_b375 32 4 7 133 706 zb_l375 [12, 13] zb_t375_12 = true := by decide +kernel
theorem zb_e375_13 : sf_okb (sf_fin 133 zb_h85 []) zb_b375 32 4 7 133 812 zb_l375 [13, 14] zb_t375_13 = true := by decide +kernel
theorem zb_e375_14 : sf_okb (sf_fin 133 zb_h85 []) zb_b375 32 4 7 133 812 zb_l375 [14, 15] zb_t375_14 = true := by decide +kernel
theorem zb_e375_15 : sf_okb (sf_fin 133 zb_h85 []) zb_b375 32 4 7 133 812 zb_l375 [15, 16] zb_t375_15 = true := by decide +kernel
theorem zb_e375_16 : sf_okb (sf_fin 133 zb_h85 []) zb_b375 32 4 7 133 812 zb_l375 [16, 17] zb_t375_16 = true := by decide +kernel
theorem zb_e375_17 : sf_okb (sf_fin 133 zb_h85 []) zb_b375 32 4 7 133 812 zb_l375 [17, 18] zb_t375_17 = true := by decide +kernel
theorem zb_e375_18 : sf_okb (sf_fin 133 zb_h85 []) zb_b375 32 4 7 133 3874 zb_l375 [18, 19] zb_t375_18 = true := by decide +kernel
theorem zb_e375_19 : sf_okb (sf_fin 133 zb_h85 []) zb_b375 32 4 7 133 28 zb_l375 [] zb_t375_19 = true := by decide +kernel
theorem zb_i375 : (zb_m375.1, zb_m375.2.1, ([] : List Nat), zb_m375.2.2.1, [(1000, 1)], [(0, 19)]) ∈ zb_l375 := List.mem_cons_self
theorem zb_k375 (hS : ∀ ρ, en_SA E ρ ω mt_SB) (hX : sf_JX J) (hM : sf_MnB E ω J) : sf_Kok E ω J 4 7 133 zb_m375 := sf_K_of hS (sf_TS_k (q := 1114112) (nx := 133) (l := [(2, 0, zb_m374)]) hX (sf_fc ⟨(rfl : zb_m374.1 = 1114112), (zb_k374 hS hX hM)⟩ sf_fn) (sf_TS_k (q := 2031616) (nx := 133) (l := [(3, 6, zb_m373)]) hX (sf_fc ⟨(rfl : zb_m373.1 = 2031616), (zb_k373 hS hX hM)⟩ sf_fn) (sf_TS_k (q := 7077888) (nx := 133) (l := [(1, 6, zb_m365)]) hX (sf_fc ⟨(rfl : zb_m365.1 = 7077888), (zb_k365 hS hX hM)⟩ sf_fn) (sf_TS_s (sf_nL (by decide +kernel)) sf_TS_n)))) (sf_nL (by decide +kernel)) rfl zb_h85_n zb_h85_n (by decide +kernel) (by decide +kernel) (by decide +kernel) zb_i375 (sf_fc (sf_okb_t zb_h85_n zb_e375_0) (sf_fc (sf_okb_t zb_h85_n zb_e375_1) (sf_fc (sf_okb_t zb_h85_n zb_e375_2) (sf_fc (sf_okb_t zb_h85_n zb_e375_3) (sf_fc (sf_okb_t zb_h85_n zb_e375_4) (sf_fc (sf_okb_t zb_h85_n zb_e375_5) (sf_fc (sf_okb_t zb_h85_n zb_e375_6) (sf_fc (sf_okb_t zb_h85_n zb_e375_7) (sf_fc (sf_okb_t zb_h85_n zb_e375_8) (sf_fc (sf_okb_t zb_h85_n zb_e375_9) (sf_fc (sf_okb_t zb_h85_n zb_e375_10) (sf_fc (sf_okb_t zb_h85_n zb_e375_11) (sf_fc (sf_okb_t zb_h85_n zb_e375_12) (sf_fc (sf_okb_t zb_h85_n zb_e375_13) (sf_fc (sf_okb_t zb_h85_n zb_e375_14) (sf_fc (sf_okb_t zb_h85_n zb_e375_15) (sf_fc (sf_okb_t zb_h85_n zb_e375_16) (sf_fc (sf_okb_t zb_h85_n zb_e375_17) (sf_fc (sf_okb_t zb_h85_n zb_e375_18) (sf_fc (sf_okb_t zb_h85_n zb_e375_19) sf_fn))))))))))))))))))))
/-- X9_copies -/
def zb_m376 : sf_M := (1114112, 16333553616007998046963562849740359991808, zb_h75, zb_h75, [88, 105, 118, 119], [])
def zb_t376_0 : sf_T := (1114112, 16333553616007998046963562849740359991808, [], zb_h75, [], [(0, 0)])
def zb_l376 : List sf_T := [zb_t376_0]
noncomputable def zb_b376 : en_T := (fun _ => none)
theorem zb_e376_0 : sf_okb (sf_fin 133 zb_h75 []) zb_b376 17 2 0 133 1612 zb_l376 [] zb_t376_0 = true := by decide +kernel
theorem zb_i376 : (zb_m376.1, zb_m376.2.1, ([] : List Nat), zb_m376.2.2.1, [], [(0, 0)]) ∈ zb_l376 := List.mem_cons_self
theorem zb_k376 (hS : ∀ ρ, en_SA E ρ ω mt_SB) (hX : sf_JX J) (hM : sf_MnB E ω J) : sf_Kok E ω J 2 0 133 zb_m376 := sf_K_of hS sf_TS_n (sf_nL (by decide +kernel)) rfl zb_h75_n zb_h75_n (by decide +kernel) (by decide +kernel) (by decide +kernel) zb_i376 (sf_fc (sf_okb_t zb_h75_n zb_e376_0) sf_fn)
/-- X9_looks -/
def zb_m377 : sf_M := (3997696, 16333553616007998046963562849740359991808, zb_h70, zb_h70, [88, 116, 119], [])
def zb_t377_0 : sf_T := (3997696, 16333553616007998046963562849740359991808, [], zb_h70, [], [(0, 1)])
def zb_t377_1 : sf_T := (3997698, 105228117901436304798911701896198319814493576626688, [], zb_h70, [(1000, 1)], [(0, 0), (1, 0), (0, 0)])
def zb_l377 : List sf_T := [zb_t377_0, zb_t377_1]
noncomputable def zb_b377 : en_T := (fun _ => none)
theorem zb_e377_0 : sf_okb (sf_fin 133 zb_h70 []) zb_b377 61 2 0 133 24 zb_l377 [1] zb_t377_0 = true := by decide +kernel
theorem zb_e377_1 : sf_okb (sf_fin 133 zb_h70 []) zb_b377 61 2 0 133 74 zb_l377 [1] zb_t377_1 = true := by decide +kernel
theorem zb_i377 : (zb_m377.1, zb_m377.2.1, ([] : List Nat), zb_m377.2.2.1, [], [(0, 1)]) ∈ zb_l377 := List.mem_cons_self
theorem zb_k377 (hS : ∀ ρ, en_SA E ρ ω mt_SB) (hX : sf_JX J) (hM : sf_MnB E ω J) : sf_Kok E ω J 2 0 133 zb_m377 := sf_K_of hS sf_TS_n (sf_nL (by decide +kernel)) rfl zb_h70_n zb_h70_n (by decide +kernel) (by decide +kernel) (by decide +kernel) zb_i377 (sf_fc (sf_okb_t zb_h70_n zb_e377_0) (sf_fc (sf_okb_t zb_h70_n zb_e377_1) sf_fn))
/-- X9_dangerNow -/
def zb_m378 : sf_M := (1310720, 36893488525376225536, zb_h71, zb_h71, [88, 116, 117, 119], [83010348333840465929])
def zb_t378_0 : sf_T := (1310720, 36893488525376225536, [], zb_h71, [], [(0, 0)])
def zb_l378 : List sf_T := [zb_t378_0]
noncomputable def zb_b378 : en_T := (sf_tc 3997696 (sf_call 133 [(2, 0, zb_m377)]) (sf_tc 196608 (sf_call 133 [(6, 4, zb_m63)]) (fun _ => none)))
theorem zb_e378_0 : sf_okb (sf_fin 133 zb_h71 [83010348333840465929]) zb_b378 20 1 5 133 38 zb_l378 [] zb_t378_0 = true := by decide +kernel
theorem zb_i378 : (zb_m378.1, zb_m378.2.1, ([] : List Nat), zb_m378.2.2.1, [], [(0, 0)]) ∈ zb_l378 := List.mem_cons_self
theorem zb_k378 (hS : ∀ ρ, en_SA E ρ ω mt_SB) (hX : sf_JX J) (hM : sf_MnB E ω J) : sf_Kok E ω J 1 5 133 zb_m378 := sf_K_of hS (sf_TS_k (q := 3997696) (nx := 133) (l := [(2, 0, zb_m377)]) hX (sf_fc ⟨(rfl : zb_m377.1 = 3997696), (zb_k377 hS hX hM)⟩ sf_fn) (sf_TS_k (q := 196608) (nx := 133) (l := [(6, 4, zb_m63)]) hX (sf_fc ⟨(rfl : zb_m63.1 = 196608), (hM _ (List.mem_of_getElem? (i := 63) rfl))⟩ sf_fn) sf_TS_n)) (sf_nL (by decide +kernel)) rfl zb_h71_n zb_h71_n (by decide +kernel) (by decide +kernel) (by decide +kernel) zb_i378 (sf_fc (sf_okb_t zb_h71_n zb_e378_0) sf_fn)
/-- X9_windNow -/
def zb_m379 : sf_M := (7208960, 36893488525376225536, zb_h71, zb_h71, [88, 116, 117, 119], [83010348333840465929])
def zb_t379_0 : sf_T := (7208960, 36893488525376225536, [], zb_h71, [], [(0, 0)])
def zb_l379 : List sf_T := [zb_t379_0]
noncomputable def zb_b379 : en_T := (sf_tc 3997696 (sf_call 133 [(2, 0, zb_m377)]) (sf_tc 196608 (sf_call 133 [(6, 4, zb_m63)]) (fun _ => none)))
theorem zb_e379_0 : sf_okb (sf_fin 133 zb_h71 [83010348333840465929]) zb_b379 110 1 5 133 38 zb_l379 [] zb_t379_0 = true := by decide +kernel
theorem zb_i379 : (zb_m379.1, zb_m379.2.1, ([] : List Nat), zb_m379.2.2.1, [], [(0, 0)]) ∈ zb_l379 := List.mem_cons_self
theorem zb_k379 (hS : ∀ ρ, en_SA E ρ ω mt_SB) (hX : sf_JX J) (hM : sf_MnB E ω J) : sf_Kok E ω J 1 5 133 zb_m379 := sf_K_of hS (sf_TS_k (q := 3997696) (nx := 133) (l := [(2, 0, zb_m377)]) hX (sf_fc ⟨(rfl : zb_m377.1 = 3997696), (zb_k377 hS hX hM)⟩ sf_fn) (sf_TS_k (q := 196608) (nx := 133) (l := [(6, 4, zb_m63)]) hX (sf_fc ⟨(rfl : zb_m63.1 = 196608), (hM _ (List.mem_of_getElem? (i := 63) rfl))⟩ sf_fn) sf_TS_n)) (sf_nL (by decide +kernel)) rfl zb_h71_n zb_h71_n (by decide +kernel) (by decide +kernel) (by decide +kernel) zb_i379 (sf_fc (sf_okb_t zb_h71_n zb_e379_0) sf_fn)
/-- X9_weathers -/
def zb_m380 : sf_M := (7077888, 36893488525376225536, zb_h71, zb_h71, [88, 116, 117, 119], [])
def zb_t380_0 : sf_T := (7077888, 36893488525376225536, [], zb_h71, [], [(0, 0)])
def zb_l380 : List sf_T := [zb_t380_0]
noncomputable def zb_b380 : en_T := (sf_tc 7208960 (sf_call 133 [(1, 5, zb_m379)]) (sf_tc 1310720 (sf_call 133 [(1, 5, zb_m378)]) (fun _ => none)))
theorem zb_e380_0 : sf_okb (sf_fin 133 zb_h71 []) zb_b380 108 1 6 133 38 zb_l380 [] zb_t380_0 = true := by decide +kernel
theorem zb_i380 : (zb_m380.1, zb_m380.2.1, ([] : List Nat), zb_m380.2.2.1, [], [(0, 0)]) ∈ zb_l380 := List.mem_cons_self
theorem zb_k380 (hS : ∀ ρ, en_SA E ρ ω mt_SB) (hX : sf_JX J) (hM : sf_MnB E ω J) : sf_Kok E ω J 1 6 133 zb_m380 := sf_K_of hS (sf_TS_k (q := 7208960) (nx := 133) (l := [(1, 5, zb_m379)]) hX (sf_fc ⟨(rfl : zb_m379.1 = 7208960), (zb_k379 hS hX hM)⟩ sf_fn) (sf_TS_k (q := 1310720) (nx := 133) (l := [(1, 5, zb_m378)]) hX (sf_fc ⟨(rfl : zb_m378.1 = 1310720), (zb_k378 hS hX hM)⟩ sf_fn) sf_TS_n)) (sf_nL (by decide +kernel)) rfl zb_h71_n zb_h71_n (by decide +kernel) (by decide +kernel) (by decide +kernel) zb_i380 (sf_fc (sf_okb_t zb_h71_n zb_e380_0) sf_fn)
/-- X9_at -/
def zb_m381 : sf_M := (262144, 4820814133899404084098741977142177094732201209008097975075584, zb_h1, zb_h1, [], [83010348325250531333])
def zb_t381_0 : sf_T := (262144, 4820814133899404084098741977142177094732201209008097975075584, [], zb_h1, [(1000, 0)], [(0, 1)])
def zb_t381_1 : sf_T := (262156, 31057858561361006067830763032960584723499690914719538581878231086924544, [], zb_h1, [(1000, 0), (1000, 2)], [(0, 0)])
def zb_l381 : List sf_T := [zb_t381_0, zb_t381_1]
noncomputable def zb_b381 : en_T := (fun _ => none)
theorem zb_e381_0 : sf_okb (sf_fin 133 zb_h1 [83010348325250531333]) zb_b381 4 3 1 133 74 zb_l381 [1] zb_t381_0 = true := by decide +kernel
theorem zb_e381_1 : sf_okb (sf_fin 133 zb_h1 [83010348325250531333]) zb_b381 4 3 1 133 36 zb_l381 [] zb_t381_1 = true := by decide +kernel
theorem zb_i381 : (zb_m381.1, zb_m381.2.1, ([] : List Nat), zb_m381.2.2.1, [(1000, 0)], [(0, 1)]) ∈ zb_l381 := List.mem_cons_self
theorem zb_k381 (hS : ∀ ρ, en_SA E ρ ω mt_SB) (hX : sf_JX J) (hM : sf_MnB E ω J) : sf_Kok E ω J 3 1 133 zb_m381 := sf_K_of hS sf_TS_n (sf_nL (by decide +kernel)) rfl zb_h1_n zb_h1_n (by decide +kernel) (by decide +kernel) (by decide +kernel) zb_i381 (sf_fc (sf_okb_t zb_h1_n zb_e381_0) (sf_fc (sf_okb_t zb_h1_n zb_e381_1) sf_fn))
/-- X9_skillAt -/
def zb_m382 : sf_M := (5898240, 31057858561361006066813557893367387256691902665387575781551385216025344, zb_h72, zb_h72, [88, 98], [73786976299133173759])
def zb_t382_0 : sf_T := (5898240, 31057858561361006066813557893367387256691902665387575781551385216025344, [], zb_h72, [(1000, 1), (1000, 2)], [(0, 0)])
def zb_l382 : List sf_T := [zb_t382_0]
noncomputable def zb_b382 : en_T := (fun _ => none)
theorem zb_e382_0 : sf_okb (sf_fin 133 zb_h72 [73786976299133173759]) zb_b382 90 3 0 133 58 zb_l382 [] zb_t382_0 = true := by decide +kernel
theorem zb_i382 : (zb_m382.1, zb_m382.2.1, ([] : List Nat), zb_m382.2.2.1, [(1000, 1), (1000, 2)], [(0, 0)]) ∈ zb_l382 := List.mem_cons_self
theorem zb_k382 (hS : ∀ ρ, en_SA E ρ ω mt_SB) (hX : sf_JX J) (hM : sf_MnB E ω J) : sf_Kok E ω J 3 0 133 zb_m382 := sf_K_of hS sf_TS_n (sf_nL (by decide +kernel)) rfl zb_h72_n zb_h72_n (by decide +kernel) (by decide +kernel) (by decide +kernel) zb_i382 (sf_fc (sf_okb_t zb_h72_n zb_e382_0) sf_fn)
/-- X9_ordersOf -/
def zb_m383 : sf_M := (4587520, 4820814134004632201975677951514818796926343767777008297181952, zb_h73, zb_h73, [88, 98, 116, 117, 119], [83010348333840465923])
def zb_t383_0 : sf_T := (4587520, 4820814134004632201975677951514818796926343767777008297181952, [], zb_h73, [(1000, 1), (88, 51), (88, 52)], [(0, 1)])
def zb_t383_1 : sf_T := (4587571, 27606985390376131237988087698914973080737518814384213182516637433070336, [], zb_h73, [(1000, 1), (1000, 2), (88, 51), (88, 52)], [(0, 0)])
def zb_l383 : List sf_T := [zb_t383_0, zb_t383_1]
noncomputable def zb_b383 : en_T := (sf_tc 5898240 (sf_call 133 [(3, 0, zb_m382)]) (sf_tc 3997696 (sf_call 133 [(2, 0, zb_m377)]) (sf_tc 196608 (sf_call 133 [(6, 4, zb_m67)]) (fun _ => none))))
theorem zb_e383_0 : sf_okb (sf_fin 133 zb_h73 [83010348333840465923]) zb_b383 70 3 5 133 78 zb_l383 [1] zb_t383_0 = true := by decide +kernel
theorem zb_e383_1 : sf_okb (sf_fin 133 zb_h73 [83010348333840465923]) zb_b383 70 3 5 133 38 zb_l383 [] zb_t383_1 = true := by decide +kernel
theorem zb_i383 : (zb_m383.1, zb_m383.2.1, ([] : List Nat), zb_m383.2.2.1, [(1000, 1), (88, 51), (88, 52)], [(0, 1)]) ∈ zb_l383 := List.mem_cons_self
theorem zb_k383 (hS : ∀ ρ, en_SA E ρ ω mt_SB) (hX : sf_JX J) (hM : sf_MnB E ω J) : sf_Kok E ω J 3 5 133 zb_m383 := sf_K_of hS (sf_TS_k (q := 5898240) (nx := 133) (l := [(3, 0, zb_m382)]) hX (sf_fc ⟨(rfl : zb_m382.1 = 5898240), (zb_k382 hS hX hM)⟩ sf_fn) (sf_TS_k (q := 3997696) (nx := 133) (l := [(2, 0, zb_m377)]) hX (sf_fc ⟨(rfl : zb_m377.1 = 3997696), (zb_k377 hS hX hM)⟩ sf_fn) (sf_TS_k (q := 196608) (nx := 133) (l := [(6, 4, zb_m67)]) hX (sf_fc ⟨(rfl : zb_m67.1 = 196608), (hM _ (List.mem_of_getElem? (i := 67) rfl))⟩ sf_fn) sf_TS_n))) (sf_nL (by decide +kernel)) rfl zb_h73_n zb_h73_n (by decide +kernel) (by decide +kernel) (by decide +kernel) zb_i383 (sf_fc (sf_okb_t zb_h73_n zb_e383_0) (sf_fc (sf_okb_t zb_h73_n zb_e383_1) sf_fn))
/-- X9_at -/
def zb_m384 : sf_M := (262144, 4820814133899404084098741977139641793531744750205104568664832, zb_h1, zb_h1, [], [83010348325250531333])
def zb_t384_0 : sf_T := (262144, 4820814133899404084098741977139641793531744750205104568664832, [], zb_h1, [(1000, 0)], [(0, 1)])
def zb_t384_1 : sf_T := (262156, 31057858561361006067830763032960584723497155613519082123075237680513792, [], zb_h1, [(1000, 0), (1000, 2)], [(0, 0)])
def zb_l384 : List sf_T := [zb_t384_0, zb_t384_1]
noncomputable def zb_b384 : en_T := (fun _ => none)
theorem zb_e384_0 : sf_okb (sf_fin 133 zb_h1 [83010348325250531333]) zb_b384 4 3 1 133 110 zb_l384 [1] zb_t384_0 = true := by decide +kernel
theorem zb_e384_1 : sf_okb (sf_fin 133 zb_h1 [83010348325250531333]) zb_b384 4 3 1 133 36 zb_l384 [] zb_t384_1 = true := by decide +kernel
theorem zb_i384 : (zb_m384.1, zb_m384.2.1, ([] : List Nat), zb_m384.2.2.1, [(1000, 0)], [(0, 1)]) ∈ zb_l384 := List.mem_cons_self
theorem zb_k384 (hS : ∀ ρ, en_SA E ρ ω mt_SB) (hX : sf_JX J) (hM : sf_MnB E ω J) : sf_Kok E ω J 3 1 133 zb_m384 := sf_K_of hS sf_TS_n (sf_nL (by decide +kernel)) rfl zb_h1_n zb_h1_n (by decide +kernel) (by decide +kernel) (by decide +kernel) zb_i384 (sf_fc (sf_okb_t zb_h1_n zb_e384_0) (sf_fc (sf_okb_t zb_h1_n zb_e384_1) sf_fn))
/-- X9_fillsDoing -/
def zb_m385 : sf_M := (1966080, 36582990833331704133769688463878398985241663423791010922004235441607090117855687356087714591454335370296807506695615263104760996201528637261568, zb_h74, zb_h74, [88, 98, 116, 117, 119, 120], [])
def zb_t385_0 : sf_T := (1966080, 36582990833331704133769688463878398985241663423791010922004235441607090117855687356087714591454335370296807506695615263104760996201528637261568, [], zb_h74, [(1000, 1), (1000, 2), (1000, 3), (1000, 4), (1000, 5), (88, 51), (88, 52)], [(0, 1)])
def zb_t385_1 : sf_T := (1966088, 209496998917547409953475300355948448183151193670086816111875925103330289972534760558658065480983846666955816962371948440012616040572829811408636523579136, [], zb_h74, [(1000, 1), (1000, 2), (1000, 3), (1000, 4), (1000, 5), (1000, 6), (88, 51), (88, 52)], [(0, 0)])
def zb_l385 : List sf_T := [zb_t385_0, zb_t385_1]
noncomputable def zb_b385 : en_T := (sf_tc 5898240 (sf_call 133 [(3, 0, zb_m382)]) (sf_tc 3997696 (sf_call 133 [(2, 0, zb_m377)]) (sf_tc 196608 (sf_call 133 [(6, 4, zb_m63), (6, 4, zb_m64), (6, 4, zb_m65), (6, 4, zb_m66)]) (fun _ => none))))
theorem zb_e385_0 : sf_okb (sf_fin 133 zb_h74 []) zb_b385 30 7 5 133 30 zb_l385 [1] zb_t385_0 = true := by decide +kernel
theorem zb_e385_1 : sf_okb (sf_fin 133 zb_h74 []) zb_b385 30 7 5 133 214 zb_l385 [] zb_t385_1 = true := by decide +kernel
theorem zb_i385 : (zb_m385.1, zb_m385.2.1, ([] : List Nat), zb_m385.2.2.1, [(1000, 1), (1000, 2), (1000, 3), (1000, 4), (1000, 5), (88, 51), (88, 52)], [(0, 1)]) ∈ zb_l385 := List.mem_cons_self
theorem zb_k385 (hS : ∀ ρ, en_SA E ρ ω mt_SB) (hX : sf_JX J) (hM : sf_MnB E ω J) : sf_Kok E ω J 7 5 133 zb_m385 := sf_K_of hS (sf_TS_k (q := 5898240) (nx := 133) (l := [(3, 0, zb_m382)]) hX (sf_fc ⟨(rfl : zb_m382.1 = 5898240), (zb_k382 hS hX hM)⟩ sf_fn) (sf_TS_k (q := 3997696) (nx := 133) (l := [(2, 0, zb_m377)]) hX (sf_fc ⟨(rfl : zb_m377.1 = 3997696), (zb_k377 hS hX hM)⟩ sf_fn) (sf_TS_k (q := 196608) (nx := 133) (l := [(6, 4, zb_m63), (6, 4, zb_m64), (6, 4, zb_m65), (6, 4, zb_m66)]) hX (sf_fc ⟨(rfl : zb_m63.1 = 196608), (hM _ (List.mem_of_getElem? (i := 63) rfl))⟩ (sf_fc ⟨(rfl : zb_m64.1 = 196608), (hM _ (List.mem_of_getElem? (i := 64) rfl))⟩ (sf_fc ⟨(rfl : zb_m65.1 = 196608), (hM _ (List.mem_of_getElem? (i := 65) rfl))⟩ (sf_fc ⟨(rfl : zb_m66.1 = 196608), (hM _ (List.mem_of_getElem? (i := 66) rfl))⟩ sf_fn)))) sf_TS_n))) (sf_nL (by decide +kernel)) rfl zb_h74_n zb_h74_n (by decide +kernel) (by decide +kernel) (by decide +kernel) zb_i385 (sf_fc (sf_okb_t zb_h74_n zb_e385_0) (sf_fc (sf_okb_t zb_h74_n zb_e385_1) sf_fn))
/-- X9_at -/
def zb_m386 : sf_M := (262144, 4820814133899404084098741977140909444131972979606601271870208, zb_h1, zb_h1, [], [83010348325250531333])
def zb_t386_0 : sf_T := (262144, 4820814133899404084098741977140909444131972979606601271870208, [], zb_h1, [(1000, 0)], [(0, 1)])
def zb_t386_1 : sf_T := (262156, 31057858561361006067830763032960584723498423264119310352476734383719168, [], zb_h1, [(1000, 0), (1000, 2)], [(0, 0)])
def zb_l386 : List sf_T := [zb_t386_0, zb_t386_1]
noncomputable def zb_b386 : en_T := (fun _ => none)
theorem zb_e386_0 : sf_okb (sf_fin 133 zb_h1 [83010348325250531333]) zb_b386 4 3 1 133 92 zb_l386 [1] zb_t386_0 = true := by decide +kernel
theorem zb_e386_1 : sf_okb (sf_fin 133 zb_h1 [83010348325250531333]) zb_b386 4 3 1 133 36 zb_l386 [] zb_t386_1 = true := by decide +kernel
theorem zb_i386 : (zb_m386.1, zb_m386.2.1, ([] : List Nat), zb_m386.2.2.1, [(1000, 0)], [(0, 1)]) ∈ zb_l386 := List.mem_cons_self
theorem zb_k386 (hS : ∀ ρ, en_SA E ρ ω mt_SB) (hX : sf_JX J) (hM : sf_MnB E ω J) : sf_Kok E ω J 3 1 133 zb_m386 := sf_K_of hS sf_TS_n (sf_nL (by decide +kernel)) rfl zb_h1_n zb_h1_n (by decide +kernel) (by decide +kernel) (by decide +kernel) zb_i386 (sf_fc (sf_okb_t zb_h1_n zb_e386_0) (sf_fc (sf_okb_t zb_h1_n zb_e386_1) sf_fn))
/-- X9_at -/
def zb_m387 : sf_M := (262144, 4820814133899404084098741977143444745332429438409594678280960, zb_h1, zb_h1, [], [83010348325250531333])
def zb_t387_0 : sf_T := (262144, 4820814133899404084098741977143444745332429438409594678280960, [], zb_h1, [(1000, 0)], [(0, 1)])
def zb_t387_1 : sf_T := (262156, 31057858561361006067830763032960584723500958565319766811279727790129920, [], zb_h1, [(1000, 0), (1000, 2)], [(0, 0)])
def zb_l387 : List sf_T := [zb_t387_0, zb_t387_1]
noncomputable def zb_b387 : en_T := (fun _ => none)
theorem zb_e387_0 : sf_okb (sf_fin 133 zb_h1 [83010348325250531333]) zb_b387 4 3 1 133 56 zb_l387 [1] zb_t387_0 = true := by decide +kernel
theorem zb_e387_1 : sf_okb (sf_fin 133 zb_h1 [83010348325250531333]) zb_b387 4 3 1 133 36 zb_l387 [] zb_t387_1 = true := by decide +kernel
theorem zb_i387 : (zb_m387.1, zb_m387.2.1, ([] : List Nat), zb_m387.2.2.1, [(1000, 0)], [(0, 1)]) ∈ zb_l387 := List.mem_cons_self
theorem zb_k387 (hS : ∀ ρ, en_SA E ρ ω mt_SB) (hX : sf_JX J) (hM : sf_MnB E ω J) : sf_Kok E ω J 3 1 133 zb_m387 := sf_K_of hS sf_TS_n (sf_nL (by decide +kernel)) rfl zb_h1_n zb_h1_n (by decide +kernel) (by decide +kernel) (by decide +kernel) zb_i387 (sf_fc (sf_okb_t zb_h1_n zb_e387_0) (sf_fc (sf_okb_t zb_h1_n zb_e387_1) sf_fn))
/-- X9_fillsDraw -/
def zb_m388 : sf_M := (2031616, 31057858559754068022554567617836314203128233281242810191791013140366080, zb_h74, zb_h74, [88, 98, 116, 117, 119, 120], [])
def zb_t388_0 : sf_T := (2031616, 31057858559754068022554567617836314203128233281242810191791013140366080, [], zb_h74, [(1000, 1), (1000, 2)], [(0, 0)])
def zb_l388 : List sf_T := [zb_t388_0]
noncomputable def zb_b388 : en_T := (sf_tc 1966080 (sf_call 133 [(7, 5, zb_m385)]) (sf_tc 4587520 (sf_call 133 [(3, 5, zb_m383)]) (sf_tc 262144 (sf_call 133 [(3, 1, zb_m381), (3, 1, zb_m384), (3, 1, zb_m386), (3, 1, zb_m387)]) (fun _ => none))))
theorem zb_e388_0 : sf_okb (sf_fin 133 zb_h74 []) zb_b388 31 3 6 133 72 zb_l388 [] zb_t388_0 = true := by decide +kernel
theorem zb_i388 : (zb_m388.1, zb_m388.2.1, ([] : List Nat), zb_m388.2.2.1, [(1000, 1), (1000, 2)], [(0, 0)]) ∈ zb_l388 := List.mem_cons_self
theorem zb_k388 (hS : ∀ ρ, en_SA E ρ ω mt_SB) (hX : sf_JX J) (hM : sf_MnB E ω J) : sf_Kok E ω J 3 6 133 zb_m388 := sf_K_of hS (sf_TS_k (q := 1966080) (nx := 133) (l := [(7, 5, zb_m385)]) hX (sf_fc ⟨(rfl : zb_m385.1 = 1966080), (zb_k385 hS hX hM)⟩ sf_fn) (sf_TS_k (q := 4587520) (nx := 133) (l := [(3, 5, zb_m383)]) hX (sf_fc ⟨(rfl : zb_m383.1 = 4587520), (zb_k383 hS hX hM)⟩ sf_fn) (sf_TS_k (q := 262144) (nx := 133) (l := [(3, 1, zb_m381), (3, 1, zb_m384), (3, 1, zb_m386), (3, 1, zb_m387)]) hX (sf_fc ⟨(rfl : zb_m381.1 = 262144), (zb_k381 hS hX hM)⟩ (sf_fc ⟨(rfl : zb_m384.1 = 262144), (zb_k384 hS hX hM)⟩ (sf_fc ⟨(rfl : zb_m386.1 = 262144), (zb_k386 hS hX hM)⟩ (sf_fc ⟨(rfl : zb_m387.1 = 262144), (zb_k387 hS hX hM)⟩ sf_fn)))) sf_TS_n))) (sf_nL (by decide +kernel)) rfl zb_h74_n zb_h74_n (by decide +kernel) (by decide +kernel) (by decide +kernel) zb_i388 (sf_fc (sf_okb_t zb_h74_n zb_e388_0) sf_fn)
end SFP
