/-! CONTRACTS, by program (wip/p3/emit.py) -/
section SFP
variable {E : mm_E} {ω : Nat → Value} {J : mm_H → Prop}
def sa_h72 : en_H := (((((((0, 0), sa_r0), sa_r1), ((sa_r24, sa_r2), (sa_r3, sa_r25))), ((((((sa_r4, (0, 0)), 0), 0), ((((0, 0), (0, (0, 0))), (((0, 0), 0), (0, (0, (0, 0))))), 0)), ((0, 0), sa_r30)), (sa_r18, ((((0, 0), ((0, 0), ((0, 0), 0))), (((0, (0, 0)), ((0, 0), (0, 0))), (((0, 0), (0, 0)), ((0, 0), (0, 0))))), (((((0, 0), (0, 0)), ((0, 0), (0, 0))), (((0, 0), (0, 0)), ((0, 0), (0, 0)))), ((((0, 0), (0, 0)), ((0, 0), (0, (0, 0)))), ((((0, 0), (0, 0)), ((0, 0), 0)), (0, (0, (0, 0)))))))))), 0), ((((((0, 0), 0), (0, (0, 0))), (0, 0)), 0), ((((((((0, 0), 0), (0, 0)), (0, (0, 0))), 0), (0, (((0, 0), (0, 0)), ((0, 0), (0, 0))))), 0), (((0, 0), 0), (0, ((0, ((0, 0), (0, 0))), (((0, 0), (0, 0)), ((0, 0), ((0, 0), (0, 0))))))))))
theorem sa_h72_n : sf_nlh sa_h72 136 = true := by decide +kernel
/-- X5_keepWatch -/
def sa_m123 : sf_M := (12124160, 4820814133899404084112353271819925757139677903293617360864000, sa_h72, sa_h72, [2, 3, 4, 5, 6, 7, 8, 28, 29], [73786976299133173759])
def sa_t123_0 : sf_T := (12124160, 4820814133899404084112353271819925757139677903293617360864000, [], sa_h72, [(2, 4)], [(0, 2)])
def sa_t123_1 : sf_T := (12124203, 27606985388769193193623869305504241790830728156659930330531545370067712, [], sa_h72, [(1000, 2), (2, 4)], [(0, 1)])
def sa_t123_2 : sf_T := (12124320, 27606985388769193193623869305504241790830728156659930330531545370067712, [], sa_h72, [(1000, 2), (2, 4), (29, 11)], [(0, 0)])
def sa_l123 : List sf_T := [sa_t123_0, sa_t123_1, sa_t123_2]
noncomputable def sa_b123 : en_T := (sf_tc 13500416 (sf_call 133 [(3, 2, sa_m122)]) (sf_tc 12517376 (sf_call 133 [(1, 3, sa_m121)]) (sf_tc 18939904 (sf_call 133 [(2, 0, sa_m71)]) (sf_tc 9175040 (sf_call 133 [(3, 3, sa_m65)]) (sf_tc 9043968 (sf_call 133 [(3, 2, sa_m64)]) (sf_tc 17891328 (sf_call 133 [(3, 1, sa_m63), (3, 1, sa_m72)]) (fun _ => none)))))))
theorem sa_e123_0 : sf_okb (sf_fin 133 sa_h72 [73786976299133173759]) sa_b123 185 3 4 133 66 sa_l123 [1] sa_t123_0 = true := by decide +kernel
theorem sa_e123_1 : sf_okb (sf_fin 133 sa_h72 [73786976299133173759]) sa_b123 185 3 4 133 166 sa_l123 [2] sa_t123_1 = true := by decide +kernel
theorem sa_e123_2 : sf_okb (sf_fin 133 sa_h72 [73786976299133173759]) sa_b123 185 3 4 133 6678 sa_l123 [] sa_t123_2 = true := by decide +kernel
theorem sa_i123 : (sa_m123.1, sa_m123.2.1, ([] : List Nat), sa_m123.2.2.1, [(2, 4)], [(0, 2)]) ∈ sa_l123 := List.mem_cons_self
theorem sa_k123 (hS : ∀ ρ, en_SA E ρ ω mt_SB) (hX : sf_JX J) (hM : sf_MnA E ω J) : sf_Kok E ω J 3 4 133 sa_m123 := sf_K_of hS (sf_TS_k (q := 13500416) (nx := 133) (l := [(3, 2, sa_m122)]) hX (sf_fc ⟨(rfl : sa_m122.1 = 13500416), (sa_k122 hS hX hM)⟩ sf_fn) (sf_TS_k (q := 12517376) (nx := 133) (l := [(1, 3, sa_m121)]) hX (sf_fc ⟨(rfl : sa_m121.1 = 12517376), (sa_k121 hS hX hM)⟩ sf_fn) (sf_TS_k (q := 18939904) (nx := 133) (l := [(2, 0, sa_m71)]) hX (sf_fc ⟨(rfl : sa_m71.1 = 18939904), (sa_k71 hS hX hM)⟩ sf_fn) (sf_TS_k (q := 9175040) (nx := 133) (l := [(3, 3, sa_m65)]) hX (sf_fc ⟨(rfl : sa_m65.1 = 9175040), (sa_k65 hS hX hM)⟩ sf_fn) (sf_TS_k (q := 9043968) (nx := 133) (l := [(3, 2, sa_m64)]) hX (sf_fc ⟨(rfl : sa_m64.1 = 9043968), (sa_k64 hS hX hM)⟩ sf_fn) (sf_TS_k (q := 17891328) (nx := 133) (l := [(3, 1, sa_m63), (3, 1, sa_m72)]) hX (sf_fc ⟨(rfl : sa_m63.1 = 17891328), (sa_k63 hS hX hM)⟩ (sf_fc ⟨(rfl : sa_m72.1 = 17891328), (sa_k72 hS hX hM)⟩ sf_fn)) sf_TS_n)))))) (sf_nL (by decide +kernel)) rfl sa_h72_n sa_h72_n (by decide +kernel) (by decide +kernel) (by decide +kernel) sa_i123 (sf_fc (sf_okb_t sa_h72_n sa_e123_0) (sf_fc (sf_okb_t sa_h72_n sa_e123_1) (sf_fc (sf_okb_t sa_h72_n sa_e123_2) sf_fn)))
def sa_h73 : en_H := (((((((0, 0), sa_r0), sa_r1), ((sa_r24, sa_r2), (sa_r3, sa_r25))), ((((((sa_r4, (0, 0)), 0), 0), ((((0, 0), (0, (0, 0))), (((0, 0), 0), (0, (0, (0, 0))))), 0)), ((0, 0), sa_r30)), (sa_r18, ((((sa_r5, 0), ((0, 0), ((0, 0), 0))), (((0, (0, 0)), ((0, 0), (0, 0))), (((0, 0), (0, 0)), ((0, 0), (0, 0))))), (((((0, 0), (0, 0)), ((0, 0), (0, 0))), (((0, 0), (0, 0)), ((0, 0), (0, 0)))), ((((0, 0), (0, 0)), ((0, 0), (0, (0, 0)))), ((((0, 0), (0, 0)), ((0, 0), 0)), (0, (0, (0, 0)))))))))), 0), ((((((0, 0), 0), (0, (0, 0))), (0, 0)), 0), ((((((((0, 0), 0), (0, 0)), (0, (0, 0))), 0), (0, (((0, 0), (0, 0)), ((0, 0), (0, 0))))), 0), (((0, 0), 0), (0, ((0, ((0, 0), (0, 0))), (((0, 0), (0, 0)), ((0, 0), ((0, 0), (0, 0))))))))))
theorem sa_h73_n : sf_nlh sa_h73 136 = true := by decide +kernel
/-- X5_sailOn -/
def sa_m124 : sf_M := (12582912, 4820814133992940188890642022838420953201779111507793648026368, sa_h73, sa_h73, [2, 3, 4, 5, 6, 7, 8, 28, 29, 30], [83010348335987949567])
def sa_t124_0 : sf_T := (12582912, 4820814133992940188890642022838420953201779111507793648026368, [], sa_h73, [(1000, 1)], [(0, 1)])
def sa_t124_1 : sf_T := (12582914, 31057858562164475087434783341426487785945512854222638810045892060513024, [], sa_h73, [(1000, 1), (1000, 2)], [(0, 0), (1, 1), (0, 0)])
def sa_l124 : List sf_T := [sa_t124_0, sa_t124_1]
noncomputable def sa_b124 : en_T := (sf_tc 12124160 (sf_call 133 [(3, 4, sa_m123)]) (sf_tc 11730944 (sf_call 133 [(4, 2, sa_m120)]) (fun _ => none)))
theorem sa_e124_0 : sf_okb (sf_fin 133 sa_h73 [83010348335987949567]) sa_b124 192 3 5 133 24 sa_l124 [1] sa_t124_0 = true := by decide +kernel
theorem sa_e124_1 : sf_okb (sf_fin 133 sa_h73 [83010348335987949567]) sa_b124 192 3 5 133 58 sa_l124 [1] sa_t124_1 = true := by decide +kernel
theorem sa_i124 : (sa_m124.1, sa_m124.2.1, ([] : List Nat), sa_m124.2.2.1, [(1000, 1)], [(0, 1)]) ∈ sa_l124 := List.mem_cons_self
theorem sa_k124 (hS : ∀ ρ, en_SA E ρ ω mt_SB) (hX : sf_JX J) (hM : sf_MnA E ω J) : sf_Kok E ω J 3 5 133 sa_m124 := sf_K_of hS (sf_TS_k (q := 12124160) (nx := 133) (l := [(3, 4, sa_m123)]) hX (sf_fc ⟨(rfl : sa_m123.1 = 12124160), (sa_k123 hS hX hM)⟩ sf_fn) (sf_TS_k (q := 11730944) (nx := 133) (l := [(4, 2, sa_m120)]) hX (sf_fc ⟨(rfl : sa_m120.1 = 11730944), (sa_k120 hS hX hM)⟩ sf_fn) sf_TS_n)) (sf_nL (by decide +kernel)) rfl sa_h73_n sa_h73_n (by decide +kernel) (by decide +kernel) (by decide +kernel) sa_i124 (sf_fc (sf_okb_t sa_h73_n sa_e124_0) (sf_fc (sf_okb_t sa_h73_n sa_e124_1) sf_fn))
/-- X5_noteWeather -/
def sa_m125 : sf_M := (12320768, 36893488267678187776, sa_h70, sa_h70, [2, 3, 4, 5, 6, 7, 28, 29], [])
def sa_t125_0 : sf_T := (12320768, 36893488267678187776, [], sa_h70, [], [(0, 0)])
def sa_l125 : List sf_T := [sa_t125_0]
noncomputable def sa_b125 : en_T := (sf_tc 9175040 (sf_call 133 [(3, 3, sa_m65)]) (fun _ => none))
theorem sa_e125_0 : sf_okb (sf_fin 133 sa_h70 []) sa_b125 188 1 4 133 46 sa_l125 [] sa_t125_0 = true := by decide +kernel
theorem sa_i125 : (sa_m125.1, sa_m125.2.1, ([] : List Nat), sa_m125.2.2.1, [], [(0, 0)]) ∈ sa_l125 := List.mem_cons_self
theorem sa_k125 (hS : ∀ ρ, en_SA E ρ ω mt_SB) (hX : sf_JX J) (hM : sf_MnA E ω J) : sf_Kok E ω J 1 4 133 sa_m125 := sf_K_of hS (sf_TS_k (q := 9175040) (nx := 133) (l := [(3, 3, sa_m65)]) hX (sf_fc ⟨(rfl : sa_m65.1 = 9175040), (sa_k65 hS hX hM)⟩ sf_fn) sf_TS_n) (sf_nL (by decide +kernel)) rfl sa_h70_n sa_h70_n (by decide +kernel) (by decide +kernel) (by decide +kernel) sa_i125 (sf_fc (sf_okb_t sa_h70_n sa_e125_0) sf_fn)
/-- X5_measure -/
def sa_m126 : sf_M := (12255232, 93536104794622304634503194109064771063658949116416, sa_h70, sa_h70, [2, 3, 4, 5, 6, 7, 28, 29], [73786976299133173759])
def sa_t126_0 : sf_T := (12255232, 93536104794622304634503194109064771063658949116416, [], sa_h70, [(1000, 1)], [(0, 0)])
def sa_l126 : List sf_T := [sa_t126_0]
noncomputable def sa_b126 : en_T := (sf_tc 12320768 (sf_call 133 [(1, 4, sa_m125)]) (fun _ => none))
theorem sa_e126_0 : sf_okb (sf_fin 133 sa_h70 [73786976299133173759]) sa_b126 187 2 5 133 98 sa_l126 [] sa_t126_0 = true := by decide +kernel
theorem sa_i126 : (sa_m126.1, sa_m126.2.1, ([] : List Nat), sa_m126.2.2.1, [(1000, 1)], [(0, 0)]) ∈ sa_l126 := List.mem_cons_self
theorem sa_k126 (hS : ∀ ρ, en_SA E ρ ω mt_SB) (hX : sf_JX J) (hM : sf_MnA E ω J) : sf_Kok E ω J 2 5 133 sa_m126 := sf_K_of hS (sf_TS_k (q := 12320768) (nx := 133) (l := [(1, 4, sa_m125)]) hX (sf_fc ⟨(rfl : sa_m125.1 = 12320768), (sa_k125 hS hX hM)⟩ sf_fn) sf_TS_n) (sf_nL (by decide +kernel)) rfl sa_h70_n sa_h70_n (by decide +kernel) (by decide +kernel) (by decide +kernel) sa_i126 (sf_fc (sf_okb_t sa_h70_n sa_e126_0) sf_fn)
def sa_h74 : en_H := (((((((sa_r23, 0), sa_r0), sa_r1), ((sa_r24, sa_r2), (sa_r3, sa_r25))), ((((((sa_r4, (0, 0)), 0), 0), ((((0, 0), (0, (0, 0))), (((0, 0), 0), (0, (0, (0, 0))))), sa_r19)), ((sa_r18, 0), sa_r30)), (sa_r18, ((((sa_r5, 0), ((0, 0), ((0, 0), 0))), (((0, (0, 0)), ((0, 0), (0, 0))), (((0, 0), (0, 0)), ((0, 0), (0, 0))))), (((((0, 0), (0, 0)), ((0, 0), (0, 0))), (((0, 0), (0, 0)), ((0, 0), (0, 0)))), ((((0, 0), (0, 0)), ((0, 0), (0, (0, 0)))), ((((0, 0), (0, 0)), ((0, 0), 0)), (0, (0, (0, 0)))))))))), 0), ((((((0, 0), 0), (0, (0, 0))), (0, 0)), 0), ((((((((0, 0), 0), (0, 0)), (0, (0, 0))), 0), (0, (((0, 0), (0, 0)), ((0, 0), (0, 0))))), 0), (((0, 0), 0), (0, ((0, ((0, 0), (0, 0))), (((0, 0), (0, 0)), ((0, 0), ((0, 0), (0, 0))))))))))
theorem sa_h74_n : sf_nlh sa_h74 136 = true := by decide +kernel
/-- X8_then -/
def sa_m127 : sf_M := (17498112, 27606985388769193193717405410287975059719958368137445532464509689529088, sa_h74, sa_h74, [0, 2, 3, 4, 5, 6, 7, 8, 25, 26, 28, 29, 30], [73786976299133173759])
def sa_t127_0 : sf_T := (17498112, 27606985388769193193717405410287975059719958368137445532464509689529088, [], sa_h74, [(1000, 1), (1000, 2)], [(0, 0)])
def sa_l127 : List sf_T := [sa_t127_0]
noncomputable def sa_b127 : en_T := (sf_tc 12255232 (sf_call 133 [(2, 5, sa_m126)]) (sf_tc 12582912 (sf_call 133 [(3, 5, sa_m124)]) (fun _ => none)))
theorem sa_e127_0 : sf_okb (sf_fin 133 sa_h74 [73786976299133173759]) sa_b127 267 3 6 133 102 sa_l127 [] sa_t127_0 = true := by decide +kernel
theorem sa_i127 : (sa_m127.1, sa_m127.2.1, ([] : List Nat), sa_m127.2.2.1, [(1000, 1), (1000, 2)], [(0, 0)]) ∈ sa_l127 := List.mem_cons_self
theorem sa_k127 (hS : ∀ ρ, en_SA E ρ ω mt_SB) (hX : sf_JX J) (hM : sf_MnA E ω J) : sf_Kok E ω J 3 6 133 sa_m127 := sf_K_of hS (sf_TS_k (q := 12255232) (nx := 133) (l := [(2, 5, sa_m126)]) hX (sf_fc ⟨(rfl : sa_m126.1 = 12255232), (sa_k126 hS hX hM)⟩ sf_fn) (sf_TS_k (q := 12582912) (nx := 133) (l := [(3, 5, sa_m124)]) hX (sf_fc ⟨(rfl : sa_m124.1 = 12582912), (sa_k124 hS hX hM)⟩ sf_fn) sf_TS_n)) (sf_nL (by decide +kernel)) rfl sa_h74_n sa_h74_n (by decide +kernel) (by decide +kernel) (by decide +kernel) sa_i127 (sf_fc (sf_okb_t sa_h74_n sa_e127_0) sf_fn)
/-- X8_often -/
def sa_m128 : sf_M := (16252928, 123947994177030503561028935099714771701422639436685091480982474947235640806242719333720086755906376235446744392559373583872, sa_h74, sa_h74, [0, 2, 3, 4, 5, 6, 7, 8, 25, 26, 28, 29, 30], [73786976299133173759])
def sa_t128_0 : sf_T := (16252928, 123947994177030503561028935099714771701422639436685091480982474947235640806242719333720086755906376235446744392559373583872, [], sa_h74, [(1000, 1), (1000, 2), (1000, 3), (2, 4)], [(0, 1)])
def sa_t128_1 : sf_T := (16252976, 798528871927452680509609545163680029524501992573242224628688065627136382764590619780238528339214609840598797598171342481830239536640, [], sa_h74, [(1000, 1), (1000, 2), (1000, 3), (1000, 4), (1000, 5), (2, 4)], [(0, 0), (1, 4), (0, 0)])
def sa_l128 : List sf_T := [sa_t128_0, sa_t128_1]
noncomputable def sa_b128 : en_T := (sf_tc 12582912 (sf_call 133 [(3, 5, sa_m124)]) (fun _ => none))
theorem sa_e128_0 : sf_okb (sf_fin 133 sa_h74 [73786976299133173759]) sa_b128 248 6 6 133 180 sa_l128 [1] sa_t128_0 = true := by decide +kernel
theorem sa_e128_1 : sf_okb (sf_fin 133 sa_h74 [73786976299133173759]) sa_b128 248 6 6 133 74 sa_l128 [1] sa_t128_1 = true := by decide +kernel
theorem sa_i128 : (sa_m128.1, sa_m128.2.1, ([] : List Nat), sa_m128.2.2.1, [(1000, 1), (1000, 2), (1000, 3), (2, 4)], [(0, 1)]) ∈ sa_l128 := List.mem_cons_self
theorem sa_k128 (hS : ∀ ρ, en_SA E ρ ω mt_SB) (hX : sf_JX J) (hM : sf_MnA E ω J) : sf_Kok E ω J 6 6 133 sa_m128 := sf_K_of hS (sf_TS_k (q := 12582912) (nx := 133) (l := [(3, 5, sa_m124)]) hX (sf_fc ⟨(rfl : sa_m124.1 = 12582912), (sa_k124 hS hX hM)⟩ sf_fn) sf_TS_n) (sf_nL (by decide +kernel)) rfl sa_h74_n sa_h74_n (by decide +kernel) (by decide +kernel) (by decide +kernel) sa_i128 (sf_fc (sf_okb_t sa_h74_n sa_e128_0) (sf_fc (sf_okb_t sa_h74_n sa_e128_1) sf_fn))
def sa_h75 : en_H := (((((((sa_r23, 0), sa_r0), sa_r1), ((sa_r24, sa_r2), (sa_r3, sa_r25))), ((((((sa_r4, (0, 0)), 0), 0), ((((0, 0), (0, (0, 0))), (((0, 0), 0), (0, (0, (0, 0))))), 0)), ((0, 0), sa_r30)), (sa_r18, ((((sa_r5, 0), ((0, 0), ((0, 0), 0))), (((0, (0, 0)), ((0, 0), (0, 0))), (((0, 0), (0, 0)), ((0, 0), (0, 0))))), (((((0, 0), (0, 0)), ((0, 0), (0, 0))), (((0, 0), (0, 0)), ((0, 0), (0, 0)))), ((((0, 0), (0, 0)), ((0, 0), (0, (0, 0)))), ((((0, 0), (0, 0)), ((0, 0), 0)), (0, (0, (0, 0)))))))))), 0), ((((((0, 0), 0), (0, (0, 0))), (0, 0)), 0), ((((((((0, 0), 0), (0, 0)), (0, (0, 0))), 0), (0, (((0, 0), (0, 0)), ((0, 0), (0, 0))))), 0), (((0, 0), 0), (0, ((0, ((0, 0), (0, 0))), (((0, 0), (0, 0)), ((0, 0), ((0, 0), (0, 0))))))))))
theorem sa_h75_n : sf_nlh sa_h75 136 = true := by decide +kernel
/-- X8_endOfTrial -/
def sa_m129 : sf_M := (14942208, 1422853192879425234015608139717618233279169435311882902534235126048545373146842112, sa_h75, sa_h75, [0, 2, 3, 4, 5, 6, 7, 8, 28, 29, 30], [73786976299133173759])
def sa_t129_0 : sf_T := (14942208, 1422853192879425234015608139717618233279169435311882902534235126048545373146842112, [], sa_h75, [(1000, 1)], [(0, 2)])
def sa_t129_1 : sf_T := (14942230, 1422853192910483092572951800671071768444801206039402791707410465473184258280391680, [], sa_h75, [(1000, 1), (1000, 2)], [(0, 1)])
def sa_t129_2 : sf_T := (14942241, 8148143905812228742510459807105974853289949626788828865246166114294794396803305174680470528, [], sa_h75, [(1000, 1), (1000, 2), (1000, 3)], [(0, 0)])
def sa_l129 : List sf_T := [sa_t129_0, sa_t129_1, sa_t129_2]
noncomputable def sa_b129 : en_T := (sf_tc 12582912 (sf_call 133 [(3, 5, sa_m124)]) (fun _ => none))
theorem sa_e129_0 : sf_okb (sf_fin 133 sa_h75 [73786976299133173759]) sa_b129 228 4 6 133 48 sa_l129 [1] sa_t129_0 = true := by decide +kernel
theorem sa_e129_1 : sf_okb (sf_fin 133 sa_h75 [73786976299133173759]) sa_b129 228 4 6 133 32 sa_l129 [2] sa_t129_1 = true := by decide +kernel
theorem sa_e129_2 : sf_okb (sf_fin 133 sa_h75 [73786976299133173759]) sa_b129 228 4 6 133 42 sa_l129 [] sa_t129_2 = true := by decide +kernel
theorem sa_i129 : (sa_m129.1, sa_m129.2.1, ([] : List Nat), sa_m129.2.2.1, [(1000, 1)], [(0, 2)]) ∈ sa_l129 := List.mem_cons_self
theorem sa_k129 (hS : ∀ ρ, en_SA E ρ ω mt_SB) (hX : sf_JX J) (hM : sf_MnA E ω J) : sf_Kok E ω J 4 6 133 sa_m129 := sf_K_of hS (sf_TS_k (q := 12582912) (nx := 133) (l := [(3, 5, sa_m124)]) hX (sf_fc ⟨(rfl : sa_m124.1 = 12582912), (sa_k124 hS hX hM)⟩ sf_fn) sf_TS_n) (sf_nL (by decide +kernel)) rfl sa_h75_n sa_h75_n (by decide +kernel) (by decide +kernel) (by decide +kernel) sa_i129 (sf_fc (sf_okb_t sa_h75_n sa_e129_0) (sf_fc (sf_okb_t sa_h75_n sa_e129_1) (sf_fc (sf_okb_t sa_h75_n sa_e129_2) sf_fn)))
/-- X8_ends -/
def sa_m130 : sf_M := (15007744, 93536104794622304634503194109064771063538690032128, sa_h74, sa_h74, [0, 2, 3, 4, 5, 6, 7, 8, 25, 26, 28, 29, 30], [73786976299133173759])
def sa_t130_0 : sf_T := (15007744, 93536104794622304634503194109064771063538690032128, [], sa_h74, [(1000, 1)], [(0, 0)])
def sa_l130 : List sf_T := [sa_t130_0]
noncomputable def sa_b130 : en_T := (sf_tc 14942208 (sf_call 133 [(4, 6, sa_m129)]) (fun _ => none))
theorem sa_e130_0 : sf_okb (sf_fin 133 sa_h74 [73786976299133173759]) sa_b130 229 2 7 133 72 sa_l130 [] sa_t130_0 = true := by decide +kernel
theorem sa_i130 : (sa_m130.1, sa_m130.2.1, ([] : List Nat), sa_m130.2.2.1, [(1000, 1)], [(0, 0)]) ∈ sa_l130 := List.mem_cons_self
theorem sa_k130 (hS : ∀ ρ, en_SA E ρ ω mt_SB) (hX : sf_JX J) (hM : sf_MnA E ω J) : sf_Kok E ω J 2 7 133 sa_m130 := sf_K_of hS (sf_TS_k (q := 14942208) (nx := 133) (l := [(4, 6, sa_m129)]) hX (sf_fc ⟨(rfl : sa_m129.1 = 14942208), (sa_k129 hS hX hM)⟩ sf_fn) sf_TS_n) (sf_nL (by decide +kernel)) rfl sa_h74_n sa_h74_n (by decide +kernel) (by decide +kernel) (by decide +kernel) sa_i130 (sf_fc (sf_okb_t sa_h74_n sa_e130_0) sf_fn)
/-- X8_steady -/
def sa_m131 : sf_M := (17235968, 27606985388769193193717405410287975059719958368137445532464509689529088, sa_h74, sa_h74, [0, 2, 3, 4, 5, 6, 7, 8, 25, 26, 28, 29, 30], [73786976299133173759])
def sa_t131_0 : sf_T := (17235968, 27606985388769193193717405410287975059719958368137445532464509689529088, [], sa_h74, [(1000, 1), (1000, 2)], [(0, 0)])
def sa_l131 : List sf_T := [sa_t131_0]
noncomputable def sa_b131 : en_T := (sf_tc 14942208 (sf_call 133 [(4, 6, sa_m129)]) (fun _ => none))
theorem sa_e131_0 : sf_okb (sf_fin 133 sa_h74 [73786976299133173759]) sa_b131 263 3 7 133 130 sa_l131 [] sa_t131_0 = true := by decide +kernel
theorem sa_i131 : (sa_m131.1, sa_m131.2.1, ([] : List Nat), sa_m131.2.2.1, [(1000, 1), (1000, 2)], [(0, 0)]) ∈ sa_l131 := List.mem_cons_self
theorem sa_k131 (hS : ∀ ρ, en_SA E ρ ω mt_SB) (hX : sf_JX J) (hM : sf_MnA E ω J) : sf_Kok E ω J 3 7 133 sa_m131 := sf_K_of hS (sf_TS_k (q := 14942208) (nx := 133) (l := [(4, 6, sa_m129)]) hX (sf_fc ⟨(rfl : sa_m129.1 = 14942208), (sa_k129 hS hX hM)⟩ sf_fn) sf_TS_n) (sf_nL (by decide +kernel)) rfl sa_h74_n sa_h74_n (by decide +kernel) (by decide +kernel) (by decide +kernel) sa_i131 (sf_fc (sf_okb_t sa_h74_n sa_e131_0) sf_fn)
/-- X8_timesCaptain -/
def sa_m132 : sf_M := (17563648, 9166661893742329587104064093007093315822085798000026363721219467044944004041992938132079616, sa_h74, sa_h74, [0, 2, 3, 4, 5, 6, 7, 8, 25, 26, 28, 29, 30], [73786976299133173759])
def sa_t132_0 : sf_T := (17563648, 9166661893742329587104064093007093315822085798000026363721219467044944004041992938132079616, [], sa_h74, [(1000, 1), (1000, 2), (1000, 3)], [(0, 0)])
def sa_l132 : List sf_T := [sa_t132_0]
noncomputable def sa_b132 : en_T := (sf_tc 12582912 (sf_call 133 [(3, 5, sa_m124)]) (fun _ => none))
theorem sa_e132_0 : sf_okb (sf_fin 133 sa_h74 [73786976299133173759]) sa_b132 268 4 6 133 182 sa_l132 [] sa_t132_0 = true := by decide +kernel
theorem sa_i132 : (sa_m132.1, sa_m132.2.1, ([] : List Nat), sa_m132.2.2.1, [(1000, 1), (1000, 2), (1000, 3)], [(0, 0)]) ∈ sa_l132 := List.mem_cons_self
theorem sa_k132 (hS : ∀ ρ, en_SA E ρ ω mt_SB) (hX : sf_JX J) (hM : sf_MnA E ω J) : sf_Kok E ω J 4 6 133 sa_m132 := sf_K_of hS (sf_TS_k (q := 12582912) (nx := 133) (l := [(3, 5, sa_m124)]) hX (sf_fc ⟨(rfl : sa_m124.1 = 12582912), (sa_k124 hS hX hM)⟩ sf_fn) sf_TS_n) (sf_nL (by decide +kernel)) rfl sa_h74_n sa_h74_n (by decide +kernel) (by decide +kernel) (by decide +kernel) sa_i132 (sf_fc (sf_okb_t sa_h74_n sa_e132_0) sf_fn)
/-- X8_spared -/
def sa_m133 : sf_M := (17104896, 27606985388769193193717405410287975059719958368137445532464509689529088, sa_h74, sa_h74, [0, 2, 3, 4, 5, 6, 7, 8, 25, 26, 28, 29, 30], [73786976299133173759])
def sa_t133_0 : sf_T := (17104896, 27606985388769193193717405410287975059719958368137445532464509689529088, [], sa_h74, [(1000, 1), (1000, 2), (2, 4)], [(0, 0)])
def sa_l133 : List sf_T := [sa_t133_0]
noncomputable def sa_b133 : en_T := (sf_tc 17563648 (sf_call 133 [(4, 6, sa_m132)]) (fun _ => none))
theorem sa_e133_0 : sf_okb (sf_fin 133 sa_h74 [73786976299133173759]) sa_b133 261 3 7 133 110 sa_l133 [] sa_t133_0 = true := by decide +kernel
theorem sa_i133 : (sa_m133.1, sa_m133.2.1, ([] : List Nat), sa_m133.2.2.1, [(1000, 1), (1000, 2), (2, 4)], [(0, 0)]) ∈ sa_l133 := List.mem_cons_self
theorem sa_k133 (hS : ∀ ρ, en_SA E ρ ω mt_SB) (hX : sf_JX J) (hM : sf_MnA E ω J) : sf_Kok E ω J 3 7 133 sa_m133 := sf_K_of hS (sf_TS_k (q := 17563648) (nx := 133) (l := [(4, 6, sa_m132)]) hX (sf_fc ⟨(rfl : sa_m132.1 = 17563648), (sa_k132 hS hX hM)⟩ sf_fn) sf_TS_n) (sf_nL (by decide +kernel)) rfl sa_h74_n sa_h74_n (by decide +kernel) (by decide +kernel) (by decide +kernel) sa_i133 (sf_fc (sf_okb_t sa_h74_n sa_e133_0) sf_fn)
def sa_h76 : en_H := (((((((sa_r23, 0), sa_r0), 0), ((0, 0), (0, 0))), ((((((0, (0, 0)), 0), 0), ((((0, 0), (0, (0, 0))), (((0, 0), 0), (0, (0, (0, 0))))), sa_r19)), ((sa_r18, 0), 0)), (0, ((((0, 0), ((0, 0), ((0, 0), 0))), (((0, (0, 0)), ((0, 0), (0, 0))), (((0, 0), (0, 0)), ((0, 0), (0, 0))))), (((((0, 0), (0, 0)), ((0, 0), (0, 0))), (((0, 0), (0, 0)), ((0, 0), (0, 0)))), ((((0, 0), (0, 0)), ((0, 0), (0, (0, 0)))), ((((0, 0), (0, 0)), ((0, 0), 0)), (0, (0, (0, 0)))))))))), 0), ((((((0, 0), 0), (0, (0, 0))), (0, 0)), 0), ((((((((0, 0), 0), (0, 0)), (0, (0, 0))), 0), (0, (((0, 0), (0, 0)), ((0, 0), (0, 0))))), 0), (((0, 0), 0), (0, ((0, ((0, 0), (0, 0))), (((0, 0), (0, 0)), ((0, 0), ((0, 0), (0, 0))))))))))
theorem sa_h76_n : sf_nlh sa_h76 136 = true := by decide +kernel
/-- X8_broom -/
def sa_m134 : sf_M := (14680064, 36893488147419103488, sa_h76, sa_h76, [0, 2, 25, 26], [73786976299133173759])
def sa_t134_0 : sf_T := (14680064, 36893488147419103488, [], sa_h76, [(2, 4)], [(0, 0)])
def sa_l134 : List sf_T := [sa_t134_0]
noncomputable def sa_b134 : en_T := (fun _ => none)
theorem sa_e134_0 : sf_okb (sf_fin 133 sa_h76 [73786976299133173759]) sa_b134 224 1 0 133 54 sa_l134 [] sa_t134_0 = true := by decide +kernel
theorem sa_i134 : (sa_m134.1, sa_m134.2.1, ([] : List Nat), sa_m134.2.2.1, [(2, 4)], [(0, 0)]) ∈ sa_l134 := List.mem_cons_self
theorem sa_k134 (hS : ∀ ρ, en_SA E ρ ω mt_SB) (hX : sf_JX J) (hM : sf_MnA E ω J) : sf_Kok E ω J 1 0 133 sa_m134 := sf_K_of hS sf_TS_n (sf_nL (by decide +kernel)) rfl sa_h76_n sa_h76_n (by decide +kernel) (by decide +kernel) (by decide +kernel) sa_i134 (sf_fc (sf_okb_t sa_h76_n sa_e134_0) sf_fn)
/-- X5_setSeed -/
def sa_m135 : sf_M := (12910592, 93536104794622304634503194109064771063658949116416, sa_h68, sa_h68, [28], [])
def sa_t135_0 : sf_T := (12910592, 93536104794622304634503194109064771063658949116416, [], sa_h68, [(1000, 1)], [(0, 0)])
def sa_l135 : List sf_T := [sa_t135_0]
noncomputable def sa_b135 : en_T := (fun _ => none)
theorem sa_e135_0 : sf_okb (sf_fin 133 sa_h68 []) sa_b135 197 2 0 133 28 sa_l135 [] sa_t135_0 = true := by decide +kernel
theorem sa_i135 : (sa_m135.1, sa_m135.2.1, ([] : List Nat), sa_m135.2.2.1, [(1000, 1)], [(0, 0)]) ∈ sa_l135 := List.mem_cons_self
theorem sa_k135 (hS : ∀ ρ, en_SA E ρ ω mt_SB) (hX : sf_JX J) (hM : sf_MnA E ω J) : sf_Kok E ω J 2 0 133 sa_m135 := sf_K_of hS sf_TS_n (sf_nL (by decide +kernel)) rfl sa_h68_n sa_h68_n (by decide +kernel) (by decide +kernel) (by decide +kernel) sa_i135 (sf_fc (sf_okb_t sa_h68_n sa_e135_0) sf_fn)
/-- X8_voyagesWith -/
def sa_m136 : sf_M := (17694720, 123947994177030503561028935099714771701422639436685091480982474947235640712706614541820041064376593435495240085602467579392, sa_h74, sa_h74, [0, 2, 3, 4, 5, 6, 7, 8, 25, 26, 28, 29, 30], [73786976299133173759])
def sa_t136_0 : sf_T := (17694720, 123947994177030503561028935099714771701422639436685091480982474947235640712706614541820041064376593435495240085602467579392, [], sa_h74, [(1000, 2), (1000, 3)], [(0, 1)])
def sa_t136_1 : sf_T := (17694739, 798528871927452678778076069736188267266145738172400295369522471534794834020753042588070079581068949508649144093124560621588625491456, [], sa_h74, [(1000, 2), (1000, 3), (1000, 4), (1000, 5)], [(0, 0), (1, 3), (0, 0)])
def sa_l136 : List sf_T := [sa_t136_0, sa_t136_1]
noncomputable def sa_b136 : en_T := (sf_tc 12910592 (sf_call 133 [(2, 0, sa_m135)]) (sf_tc 12582912 (sf_call 133 [(3, 5, sa_m124)]) (fun _ => none)))
theorem sa_e136_0 : sf_okb (sf_fin 133 sa_h74 [73786976299133173759]) sa_b136 270 6 6 133 48 sa_l136 [1] sa_t136_0 = true := by decide +kernel
theorem sa_e136_1 : sf_okb (sf_fin 133 sa_h74 [73786976299133173759]) sa_b136 270 6 6 133 124 sa_l136 [1] sa_t136_1 = true := by decide +kernel
theorem sa_i136 : (sa_m136.1, sa_m136.2.1, ([] : List Nat), sa_m136.2.2.1, [(1000, 2), (1000, 3)], [(0, 1)]) ∈ sa_l136 := List.mem_cons_self
theorem sa_k136 (hS : ∀ ρ, en_SA E ρ ω mt_SB) (hX : sf_JX J) (hM : sf_MnA E ω J) : sf_Kok E ω J 6 6 133 sa_m136 := sf_K_of hS (sf_TS_k (q := 12910592) (nx := 133) (l := [(2, 0, sa_m135)]) hX (sf_fc ⟨(rfl : sa_m135.1 = 12910592), (sa_k135 hS hX hM)⟩ sf_fn) (sf_TS_k (q := 12582912) (nx := 133) (l := [(3, 5, sa_m124)]) hX (sf_fc ⟨(rfl : sa_m124.1 = 12582912), (sa_k124 hS hX hM)⟩ sf_fn) sf_TS_n)) (sf_nL (by decide +kernel)) rfl sa_h74_n sa_h74_n (by decide +kernel) (by decide +kernel) (by decide +kernel) sa_i136 (sf_fc (sf_okb_t sa_h74_n sa_e136_0) (sf_fc (sf_okb_t sa_h74_n sa_e136_1) sf_fn))
/-- X8_year -/
def sa_m137 : sf_M := (17956864, 27606985388769193193717405410287975059719958368137445532464509689529088, sa_h74, sa_h74, [0, 2, 3, 4, 5, 6, 7, 8, 25, 26, 28, 29, 30], [73786976299133173759])
def sa_t137_0 : sf_T := (17956864, 27606985388769193193717405410287975059719958368137445532464509689529088, [], sa_h74, [(1000, 1), (1000, 2)], [(0, 0)])
def sa_l137 : List sf_T := [sa_t137_0]
noncomputable def sa_b137 : en_T := (sf_tc 17694720 (sf_call 133 [(6, 6, sa_m136)]) (fun _ => none))
theorem sa_e137_0 : sf_okb (sf_fin 133 sa_h74 [73786976299133173759]) sa_b137 274 3 7 133 52 sa_l137 [] sa_t137_0 = true := by decide +kernel
theorem sa_i137 : (sa_m137.1, sa_m137.2.1, ([] : List Nat), sa_m137.2.2.1, [(1000, 1), (1000, 2)], [(0, 0)]) ∈ sa_l137 := List.mem_cons_self
theorem sa_k137 (hS : ∀ ρ, en_SA E ρ ω mt_SB) (hX : sf_JX J) (hM : sf_MnA E ω J) : sf_Kok E ω J 3 7 133 sa_m137 := sf_K_of hS (sf_TS_k (q := 17694720) (nx := 133) (l := [(6, 6, sa_m136)]) hX (sf_fc ⟨(rfl : sa_m136.1 = 17694720), (sa_k136 hS hX hM)⟩ sf_fn) sf_TS_n) (sf_nL (by decide +kernel)) rfl sa_h74_n sa_h74_n (by decide +kernel) (by decide +kernel) (by decide +kernel) sa_i137 (sf_fc (sf_okb_t sa_h74_n sa_e137_0) sf_fn)
/-- X8_voyagesWith -/
def sa_m138 : sf_M := (17694720, 123947994177030503561028935099714771701422639436685091480982474947235640712706614541820041068179545236179928290092577195520, sa_h74, sa_h74, [0, 2, 3, 4, 5, 6, 7, 8, 25, 26, 28, 29, 30], [73786976299133173759])
def sa_t138_0 : sf_T := (17694720, 123947994177030503561028935099714771701422639436685091480982474947235640712706614541820041068179545236179928290092577195520, [], sa_h74, [(1000, 2), (1000, 3)], [(0, 1)])
def sa_t138_1 : sf_T := (17694739, 798528871927452678778076069736188267266145738172400295369522471534794834020753042588070079581068949512452095893809248826078735107584, [], sa_h74, [(1000, 2), (1000, 3), (1000, 4), (1000, 5)], [(0, 0), (1, 3), (0, 0)])
def sa_l138 : List sf_T := [sa_t138_0, sa_t138_1]
noncomputable def sa_b138 : en_T := (sf_tc 12910592 (sf_call 133 [(2, 0, sa_m135)]) (sf_tc 12582912 (sf_call 133 [(3, 5, sa_m124)]) (fun _ => none)))
theorem sa_e138_0 : sf_okb (sf_fin 133 sa_h74 [73786976299133173759]) sa_b138 270 6 6 133 48 sa_l138 [1] sa_t138_0 = true := by decide +kernel
theorem sa_e138_1 : sf_okb (sf_fin 133 sa_h74 [73786976299133173759]) sa_b138 270 6 6 133 124 sa_l138 [1] sa_t138_1 = true := by decide +kernel
theorem sa_i138 : (sa_m138.1, sa_m138.2.1, ([] : List Nat), sa_m138.2.2.1, [(1000, 2), (1000, 3)], [(0, 1)]) ∈ sa_l138 := List.mem_cons_self
theorem sa_k138 (hS : ∀ ρ, en_SA E ρ ω mt_SB) (hX : sf_JX J) (hM : sf_MnA E ω J) : sf_Kok E ω J 6 6 133 sa_m138 := sf_K_of hS (sf_TS_k (q := 12910592) (nx := 133) (l := [(2, 0, sa_m135)]) hX (sf_fc ⟨(rfl : sa_m135.1 = 12910592), (sa_k135 hS hX hM)⟩ sf_fn) (sf_TS_k (q := 12582912) (nx := 133) (l := [(3, 5, sa_m124)]) hX (sf_fc ⟨(rfl : sa_m124.1 = 12582912), (sa_k124 hS hX hM)⟩ sf_fn) sf_TS_n)) (sf_nL (by decide +kernel)) rfl sa_h74_n sa_h74_n (by decide +kernel) (by decide +kernel) (by decide +kernel) sa_i138 (sf_fc (sf_okb_t sa_h74_n sa_e138_0) (sf_fc (sf_okb_t sa_h74_n sa_e138_1) sf_fn))
/-- X8_weds -/
def sa_m139 : sf_M := (17825792, 27606985388769193193717405410287975059719958368137445532464509689529088, sa_h74, sa_h74, [0, 2, 3, 4, 5, 6, 7, 8, 25, 26, 28, 29, 30], [73786976299133173759])
def sa_t139_0 : sf_T := (17825792, 27606985388769193193717405410287975059719958368137445532464509689529088, [], sa_h74, [(1000, 1), (1000, 2), (2, 4)], [(0, 0)])
def sa_l139 : List sf_T := [sa_t139_0]
noncomputable def sa_b139 : en_T := (sf_tc 17694720 (sf_call 133 [(6, 6, sa_m138)]) (fun _ => none))
theorem sa_e139_0 : sf_okb (sf_fin 133 sa_h74 [73786976299133173759]) sa_b139 272 3 7 133 80 sa_l139 [] sa_t139_0 = true := by decide +kernel
theorem sa_i139 : (sa_m139.1, sa_m139.2.1, ([] : List Nat), sa_m139.2.2.1, [(1000, 1), (1000, 2), (2, 4)], [(0, 0)]) ∈ sa_l139 := List.mem_cons_self
theorem sa_k139 (hS : ∀ ρ, en_SA E ρ ω mt_SB) (hX : sf_JX J) (hM : sf_MnA E ω J) : sf_Kok E ω J 3 7 133 sa_m139 := sf_K_of hS (sf_TS_k (q := 17694720) (nx := 133) (l := [(6, 6, sa_m138)]) hX (sf_fc ⟨(rfl : sa_m138.1 = 17694720), (sa_k138 hS hX hM)⟩ sf_fn) sf_TS_n) (sf_nL (by decide +kernel)) rfl sa_h74_n sa_h74_n (by decide +kernel) (by decide +kernel) (by decide +kernel) sa_i139 (sf_fc (sf_okb_t sa_h74_n sa_e139_0) sf_fn)
def sa_h77 : en_H := (((((((sa_r23, 0), sa_r0), 0), ((0, 0), (0, 0))), ((((((0, (0, 0)), 0), 0), ((((0, 0), (0, (0, 0))), (((0, 0), 0), (0, (0, (0, 0))))), 0)), ((0, 0), 0)), (0, ((((0, 0), ((0, 0), ((0, 0), 0))), (((0, (0, 0)), ((0, 0), (0, 0))), (((0, 0), (0, 0)), ((0, 0), (0, 0))))), (((((0, 0), (0, 0)), ((0, 0), (0, 0))), (((0, 0), (0, 0)), ((0, 0), (0, 0)))), ((((0, 0), (0, 0)), ((0, 0), (0, (0, 0)))), ((((0, 0), (0, 0)), ((0, 0), 0)), (sa_r21, (sa_r27, (0, 0)))))))))), 0), ((((((0, 0), 0), (0, (0, 0))), (0, 0)), 0), ((((((((0, 0), 0), (0, 0)), (0, (0, 0))), 0), (0, (((0, 0), (0, 0)), ((0, 0), (0, 0))))), 0), (((0, 0), 0), (0, ((0, ((0, 0), (0, 0))), (((0, 0), (0, 0)), ((0, 0), ((0, 0), (0, 0))))))))))
theorem sa_h77_n : sf_nlh sa_h77 136 = true := by decide +kernel
/-- X8_tell -/
def sa_m140 : sf_M := (17432576, 93536104794622304634503194109064771063538690032128, sa_h77, sa_h77, [0, 2, 84, 85], [83010348329545498633])
def sa_t140_0 : sf_T := (17432576, 93536104794622304634503194109064771063538690032128, [], sa_h77, [(1000, 1), (2, 4), (84, 3)], [(0, 0)])
def sa_l140 : List sf_T := [sa_t140_0]
noncomputable def sa_b140 : en_T := (fun _ => none)
theorem sa_e140_0 : sf_okb (sf_fin 133 sa_h77 [83010348329545498633]) sa_b140 266 2 1 133 130 sa_l140 [] sa_t140_0 = true := by decide +kernel
theorem sa_i140 : (sa_m140.1, sa_m140.2.1, ([] : List Nat), sa_m140.2.2.1, [(1000, 1), (2, 4), (84, 3)], [(0, 0)]) ∈ sa_l140 := List.mem_cons_self
theorem sa_k140 (hS : ∀ ρ, en_SA E ρ ω mt_SB) (hX : sf_JX J) (hM : sf_MnA E ω J) : sf_Kok E ω J 2 1 133 sa_m140 := sf_K_of hS sf_TS_n (sf_nL (by decide +kernel)) rfl sa_h77_n sa_h77_n (by decide +kernel) (by decide +kernel) (by decide +kernel) sa_i140 (sf_fc (sf_okb_t sa_h77_n sa_e140_0) sf_fn)
def sa_h78 : en_H := (((((((0, 0), 0), 0), ((0, 0), (0, 0))), ((((((0, (0, 0)), 0), 0), ((((0, 0), (0, (0, 0))), (((0, 0), 0), (0, (0, (0, 0))))), 0)), ((0, 0), 0)), (0, ((((0, 0), ((0, 0), ((0, 0), 0))), (((0, (0, 0)), ((0, 0), (0, 0))), (((0, 0), (0, 0)), ((0, 0), (0, 0))))), (((((0, 0), (0, 0)), ((0, 0), (0, 0))), (((0, 0), (0, 0)), ((0, 0), (0, 0)))), ((((0, 0), (0, 0)), ((0, 0), (0, (0, 0)))), ((((0, 0), (0, 0)), ((0, 0), 0)), (sa_r21, (sa_r27, (0, 0)))))))))), 0), ((((((0, 0), 0), (0, (0, 0))), (0, 0)), 0), ((((((((0, 0), 0), (0, 0)), (0, (0, 0))), 0), (0, (((0, 0), (0, 0)), ((0, 0), (0, 0))))), 0), (((0, 0), 0), (0, ((0, ((0, 0), (0, 0))), (((0, 0), (0, 0)), ((0, 0), ((0, 0), (0, 0))))))))))
theorem sa_h78_n : sf_nlh sa_h78 136 = true := by decide +kernel
/-- X2_wasTold -/
def sa_m141 : sf_M := (9961472, 1422853192907032219399556518777342698500566768348764439949170792469502570224681984, sa_h78, sa_h78, [84, 85], [83010348333840465921])
def sa_t141_0 : sf_T := (9961472, 1422853192907032219399556518777342698500566768348764439949170792469502570224681984, [], sa_h78, [(1000, 1), (1000, 2), (84, 3)], [(0, 1)])
def sa_t141_1 : sf_T := (9961474, 9166661893742329588097915566944934501212678950154822103909761291162924275341690013602546688, [], sa_h78, [(1000, 1), (1000, 2), (1000, 3), (84, 3)], [(0, 0), (1, 2), (0, 0)])
def sa_l141 : List sf_T := [sa_t141_0, sa_t141_1]
noncomputable def sa_b141 : en_T := (fun _ => none)
theorem sa_e141_0 : sf_okb (sf_fin 133 sa_h78 [83010348333840465921]) sa_b141 152 4 0 133 24 sa_l141 [1] sa_t141_0 = true := by decide +kernel
theorem sa_e141_1 : sf_okb (sf_fin 133 sa_h78 [83010348333840465921]) sa_b141 152 4 0 133 62 sa_l141 [1] sa_t141_1 = true := by decide +kernel
theorem sa_i141 : (sa_m141.1, sa_m141.2.1, ([] : List Nat), sa_m141.2.2.1, [(1000, 1), (1000, 2), (84, 3)], [(0, 1)]) ∈ sa_l141 := List.mem_cons_self
theorem sa_k141 (hS : ∀ ρ, en_SA E ρ ω mt_SB) (hX : sf_JX J) (hM : sf_MnA E ω J) : sf_Kok E ω J 4 0 133 sa_m141 := sf_K_of hS sf_TS_n (sf_nL (by decide +kernel)) rfl sa_h78_n sa_h78_n (by decide +kernel) (by decide +kernel) (by decide +kernel) sa_i141 (sf_fc (sf_okb_t sa_h78_n sa_e141_0) (sf_fc (sf_okb_t sa_h78_n sa_e141_1) sf_fn))
/-- X8_power -/
def sa_m142 : sf_M := (16515072, 1422853192879425234015608139717618233279169435311883219446885164659151669318124544, sa_h0, sa_h0, [], [73786976299133173759])
def sa_t142_0 : sf_T := (16515072, 1422853192879425234015608139717618233279169435311883219446885164659151669318124544, [], sa_h0, [(1000, 0), (1000, 1)], [(0, 1)])
def sa_t142_1 : sf_T := (16515076, 9166661893979471785641231778137268651921954753677562552873598304126395412291897775110489088, [], sa_h0, [(1000, 0), (1000, 1), (1000, 2), (1000, 3)], [(0, 0), (1, 3), (0, 0)])
def sa_l142 : List sf_T := [sa_t142_0, sa_t142_1]
noncomputable def sa_b142 : en_T := (fun _ => none)
theorem sa_e142_0 : sf_okb (sf_fin 133 sa_h0 [73786976299133173759]) sa_b142 252 4 0 133 28 sa_l142 [1] sa_t142_0 = true := by decide +kernel
theorem sa_e142_1 : sf_okb (sf_fin 133 sa_h0 [73786976299133173759]) sa_b142 252 4 0 133 42 sa_l142 [1] sa_t142_1 = true := by decide +kernel
theorem sa_i142 : (sa_m142.1, sa_m142.2.1, ([] : List Nat), sa_m142.2.2.1, [(1000, 0), (1000, 1)], [(0, 1)]) ∈ sa_l142 := List.mem_cons_self
theorem sa_k142 (hS : ∀ ρ, en_SA E ρ ω mt_SB) (hX : sf_JX J) (hM : sf_MnA E ω J) : sf_Kok E ω J 4 0 133 sa_m142 := sf_K_of hS sf_TS_n (sf_nL (by decide +kernel)) rfl sa_h0_n sa_h0_n (by decide +kernel) (by decide +kernel) (by decide +kernel) sa_i142 (sf_fc (sf_okb_t sa_h0_n sa_e142_0) (sf_fc (sf_okb_t sa_h0_n sa_e142_1) sf_fn))
/-- X8_cheats -/
def sa_m143 : sf_M := (14745600, 419952139265282678237318089334572759284465775777789344795699826900002519014460868258952978049827603712, sa_h77, sa_h77, [0, 2, 84, 85], [73786976299133173759])
def sa_t143_0 : sf_T := (14745600, 419952139265282678237318089334572759284465775777789344795699826900002519014460868258952978049827603712, [], sa_h77, [(1000, 1), (1000, 2), (1000, 3), (2, 4), (84, 3)], [(0, 1)])
def sa_t143_1 : sf_T := (14745663, 2404907604900389271721514980544511810775039081416352025733305845750980498235436726882636429784900641845109851392, [], sa_h77, [(1000, 1), (1000, 2), (1000, 3), (1000, 4), (2, 4), (84, 3)], [(0, 0)])
def sa_l143 : List sf_T := [sa_t143_0, sa_t143_1]
noncomputable def sa_b143 : en_T := (sf_tc 16515072 (sf_call 133 [(4, 0, sa_m142)]) (sf_tc 9961472 (sf_call 133 [(4, 0, sa_m141)]) (sf_tc 15269888 (sf_call 133 [(4, 1, sa_m87)]) (fun _ => none))))
theorem sa_e143_0 : sf_okb (sf_fin 133 sa_h77 [73786976299133173759]) sa_b143 225 5 2 133 128 sa_l143 [1] sa_t143_0 = true := by decide +kernel
theorem sa_e143_1 : sf_okb (sf_fin 133 sa_h77 [73786976299133173759]) sa_b143 225 5 2 133 46 sa_l143 [] sa_t143_1 = true := by decide +kernel
theorem sa_i143 : (sa_m143.1, sa_m143.2.1, ([] : List Nat), sa_m143.2.2.1, [(1000, 1), (1000, 2), (1000, 3), (2, 4), (84, 3)], [(0, 1)]) ∈ sa_l143 := List.mem_cons_self
theorem sa_k143 (hS : ∀ ρ, en_SA E ρ ω mt_SB) (hX : sf_JX J) (hM : sf_MnA E ω J) : sf_Kok E ω J 5 2 133 sa_m143 := sf_K_of hS (sf_TS_k (q := 16515072) (nx := 133) (l := [(4, 0, sa_m142)]) hX (sf_fc ⟨(rfl : sa_m142.1 = 16515072), (sa_k142 hS hX hM)⟩ sf_fn) (sf_TS_k (q := 9961472) (nx := 133) (l := [(4, 0, sa_m141)]) hX (sf_fc ⟨(rfl : sa_m141.1 = 9961472), (sa_k141 hS hX hM)⟩ sf_fn) (sf_TS_k (q := 15269888) (nx := 133) (l := [(4, 1, sa_m87)]) hX (sf_fc ⟨(rfl : sa_m87.1 = 15269888), (sa_k87 hS hX hM)⟩ sf_fn) sf_TS_n))) (sf_nL (by decide +kernel)) rfl sa_h77_n sa_h77_n (by decide +kernel) (by decide +kernel) (by decide +kernel) sa_i143 (sf_fc (sf_okb_t sa_h77_n sa_e143_0) (sf_fc (sf_okb_t sa_h77_n sa_e143_1) sf_fn))
/-- X8_surely -/
def sa_m144 : sf_M := (17301504, 36582990832533175261966183779440586522739966556411571993242772389594673799839527576339523021458017066489866476105216036045311730965074879186688, sa_h45, sa_h45, [0, 2], [83010348325250531338])
def sa_t144_0 : sf_T := (17301504, 36582990832533175261966183779440586522739966556411571993242772389594673799839527576339523021458017066489866476105216036045311730965074879186688, [], sa_h45, [(1000, 1), (2, 4)], [(0, 1)])
def sa_t144_1 : sf_T := (17301528, 36582990832533175261966183779440586522739966556411571993242772389594673830897386132879714957271790124231189922301741123486565805843761984440064, [], sa_h45, [(1000, 1), (1000, 2), (2, 4)], [(0, 0), (1, 1), (0, 0)])
def sa_l144 : List sf_T := [sa_t144_0, sa_t144_1]
noncomputable def sa_b144 : en_T := (sf_tc 16515072 (sf_call 133 [(4, 0, sa_m142)]) (fun _ => none))
theorem sa_e144_0 : sf_okb (sf_fin 133 sa_h45 [83010348325250531338]) sa_b144 264 7 1 133 54 sa_l144 [1] sa_t144_0 = true := by decide +kernel
theorem sa_e144_1 : sf_okb (sf_fin 133 sa_h45 [83010348325250531338]) sa_b144 264 7 1 133 92 sa_l144 [1] sa_t144_1 = true := by decide +kernel
theorem sa_i144 : (sa_m144.1, sa_m144.2.1, ([] : List Nat), sa_m144.2.2.1, [(1000, 1), (2, 4)], [(0, 1)]) ∈ sa_l144 := List.mem_cons_self
theorem sa_k144 (hS : ∀ ρ, en_SA E ρ ω mt_SB) (hX : sf_JX J) (hM : sf_MnA E ω J) : sf_Kok E ω J 7 1 133 sa_m144 := sf_K_of hS (sf_TS_k (q := 16515072) (nx := 133) (l := [(4, 0, sa_m142)]) hX (sf_fc ⟨(rfl : sa_m142.1 = 16515072), (sa_k142 hS hX hM)⟩ sf_fn) sf_TS_n) (sf_nL (by decide +kernel)) rfl sa_h45_n sa_h45_n (by decide +kernel) (by decide +kernel) (by decide +kernel) sa_i144 (sf_fc (sf_okb_t sa_h45_n sa_e144_0) (sf_fc (sf_okb_t sa_h45_n sa_e144_1) sf_fn))
def sa_h79 : en_H := (((((((sa_r23, 0), 0), 0), ((0, 0), (0, 0))), ((((((0, (0, 0)), 0), 0), ((((0, 0), (0, (0, 0))), (((0, 0), 0), (0, (0, (0, 0))))), 0)), ((0, 0), 0)), (0, ((((0, 0), ((0, 0), ((0, 0), 0))), (((0, (0, 0)), ((0, 0), (0, 0))), (((0, 0), (0, 0)), ((0, 0), (0, 0))))), (((((0, 0), (0, 0)), ((0, 0), (0, 0))), (((0, 0), (0, 0)), ((0, 0), (0, 0)))), ((((0, 0), (0, 0)), ((0, 0), (0, (0, 0)))), ((((0, 0), (0, 0)), ((0, 0), 0)), (sa_r21, (0, (sa_r31, sa_r31)))))))))), 0), ((((((0, 0), 0), (0, (0, 0))), (0, 0)), 0), ((((((((0, 0), 0), (0, 0)), (0, (0, 0))), 0), (0, (((0, 0), (0, 0)), ((0, 0), (0, 0))))), 0), (((0, 0), 0), (0, ((0, ((0, 0), (0, 0))), (((0, 0), (0, 0)), ((0, 0), ((0, 0), (0, 0))))))))))
theorem sa_h79_n : sf_nlh sa_h79 136 = true := by decide +kernel
/-- X8_log -/
def sa_m145 : sf_M := (15925248, 27606985388769193193717405410287975059719958368137445532464509689529088, sa_h79, sa_h79, [0, 84, 86, 87], [83010348329545498643])
def sa_t145_0 : sf_T := (15925248, 27606985388769193193717405410287975059719958368137445532464509689529088, [], sa_h79, [(1000, 1), (1000, 2), (84, 4)], [(0, 0)])
def sa_l145 : List sf_T := [sa_t145_0]
noncomputable def sa_b145 : en_T := (fun _ => none)
theorem sa_e145_0 : sf_okb (sf_fin 133 sa_h79 [83010348329545498643]) sa_b145 243 3 1 133 128 sa_l145 [] sa_t145_0 = true := by decide +kernel
theorem sa_i145 : (sa_m145.1, sa_m145.2.1, ([] : List Nat), sa_m145.2.2.1, [(1000, 1), (1000, 2), (84, 4)], [(0, 0)]) ∈ sa_l145 := List.mem_cons_self
theorem sa_k145 (hS : ∀ ρ, en_SA E ρ ω mt_SB) (hX : sf_JX J) (hM : sf_MnA E ω J) : sf_Kok E ω J 3 1 133 sa_m145 := sf_K_of hS sf_TS_n (sf_nL (by decide +kernel)) rfl sa_h79_n sa_h79_n (by decide +kernel) (by decide +kernel) (by decide +kernel) sa_i145 (sf_fc (sf_okb_t sa_h79_n sa_e145_0) sf_fn)
/-- J9_max_7cf53 -/
def sa_m146 : sf_M := (18939904, 93536104794622304634859720840342067094557923738112, sa_h0, sa_h0, [], [83010348331692982271])
def sa_t146_0 : sf_T := (18939904, 93536104794622304634859720840342067094557923738112, [], sa_h0, [(1000, 0), (1000, 1)], [(0, 0)])
def sa_l146 : List sf_T := [sa_t146_0]
noncomputable def sa_b146 : en_T := (fun _ => none)
theorem sa_e146_0 : sf_okb (sf_fin 133 sa_h0 [83010348331692982271]) sa_b146 289 2 0 133 36 sa_l146 [] sa_t146_0 = true := by decide +kernel
theorem sa_i146 : (sa_m146.1, sa_m146.2.1, ([] : List Nat), sa_m146.2.2.1, [(1000, 0), (1000, 1)], [(0, 0)]) ∈ sa_l146 := List.mem_cons_self
theorem sa_k146 (hS : ∀ ρ, en_SA E ρ ω mt_SB) (hX : sf_JX J) (hM : sf_MnA E ω J) : sf_Kok E ω J 2 0 133 sa_m146 := sf_K_of hS sf_TS_n (sf_nL (by decide +kernel)) rfl sa_h0_n sa_h0_n (by decide +kernel) (by decide +kernel) (by decide +kernel) sa_i146 (sf_fc (sf_okb_t sa_h0_n sa_e146_0) sf_fn)
/-- J9_max_7cf53 -/
def sa_m147 : sf_M := (18939904, 93536104794622304634503194109037100947423830737408, sa_h0, sa_h0, [], [83010348331692982271])
def sa_t147_0 : sf_T := (18939904, 93536104794622304634503194109037100947423830737408, [], sa_h0, [(1000, 1)], [(0, 0)])
def sa_l147 : List sf_T := [sa_t147_0]
noncomputable def sa_b147 : en_T := (fun _ => none)
theorem sa_e147_0 : sf_okb (sf_fin 133 sa_h0 [83010348331692982271]) sa_b147 289 2 0 133 36 sa_l147 [] sa_t147_0 = true := by decide +kernel
theorem sa_i147 : (sa_m147.1, sa_m147.2.1, ([] : List Nat), sa_m147.2.2.1, [(1000, 1)], [(0, 0)]) ∈ sa_l147 := List.mem_cons_self
theorem sa_k147 (hS : ∀ ρ, en_SA E ρ ω mt_SB) (hX : sf_JX J) (hM : sf_MnA E ω J) : sf_Kok E ω J 2 0 133 sa_m147 := sf_K_of hS sf_TS_n (sf_nL (by decide +kernel)) rfl sa_h0_n sa_h0_n (by decide +kernel) (by decide +kernel) (by decide +kernel) sa_i147 (sf_fc (sf_okb_t sa_h0_n sa_e147_0) sf_fn)
def sa_h80 : en_H := (((((((0, 0), 0), 0), ((0, 0), (0, 0))), ((((((0, (0, 0)), 0), 0), ((((0, 0), (0, (0, 0))), (((0, 0), 0), (0, (0, (0, 0))))), 0)), ((0, 0), 0)), (0, ((((0, 0), ((0, 0), ((0, 0), 0))), (((0, (0, 0)), ((0, 0), (0, 0))), (((0, 0), (0, 0)), ((0, 0), (0, 0))))), (((((0, 0), (0, 0)), ((0, 0), (0, 0))), (((0, 0), (0, 0)), ((0, 0), (0, 0)))), ((((0, 0), (0, 0)), ((0, 0), (0, (0, 0)))), ((((0, 0), (0, 0)), ((0, 0), 0)), (sa_r21, (0, (sa_r31, 0)))))))))), 0), ((((((0, 0), 0), (0, (0, 0))), (0, 0)), 0), ((((((((0, 0), 0), (0, 0)), (0, (0, 0))), 0), (0, (((0, 0), (0, 0)), ((0, 0), (0, 0))))), 0), (((0, 0), 0), (0, ((0, ((0, 0), (0, 0))), (((0, 0), (0, 0)), ((0, 0), ((0, 0), (0, 0))))))))))
theorem sa_h80_n : sf_nlh sa_h80 136 = true := by decide +kernel
/-- X2_lastWatch -/
def sa_m148 : sf_M := (9895936, 1422853192879425234015608139717618233279169435311882902534235126048545733924094976, sa_h80, sa_h80, [84, 86], [83010348331692982271])
def sa_t148_0 : sf_T := (9895936, 1422853192879425234015608139717618233279169435311882902534235126048545733924094976, [], sa_h80, [(1000, 1), (84, 4)], [(0, 1)])
def sa_t148_1 : sf_T := (9895940, 9166661893742329589205645855603213051051698275774742726935823118593749114451492358687032320, [], sa_h80, [(1000, 1), (1000, 2), (1000, 3), (84, 4)], [(0, 0), (1, 2), (0, 1)])
def sa_t148_2 : sf_T := (9895964, 9166661893742329589095217914054564030452753873991414411437821739533100073826768126857970688, [], sa_h80, [(1000, 1), (1000, 2), (1000, 3), (84, 4)], [(0, 0), (1, 2), (0, 0)])
def sa_l148 : List sf_T := [sa_t148_0, sa_t148_1, sa_t148_2]
noncomputable def sa_b148 : en_T := (sf_tc 18939904 (sf_call 133 [(2, 0, sa_m146), (2, 0, sa_m147)]) (fun _ => none))
theorem sa_e148_0 : sf_okb (sf_fin 133 sa_h80 [83010348331692982271]) sa_b148 151 4 1 133 28 sa_l148 [1] sa_t148_0 = true := by decide +kernel
theorem sa_e148_1 : sf_okb (sf_fin 133 sa_h80 [83010348331692982271]) sa_b148 151 4 1 133 56 sa_l148 [2] sa_t148_1 = true := by decide +kernel
theorem sa_e148_2 : sf_okb (sf_fin 133 sa_h80 [83010348331692982271]) sa_b148 151 4 1 133 24 sa_l148 [1] sa_t148_2 = true := by decide +kernel
theorem sa_i148 : (sa_m148.1, sa_m148.2.1, ([] : List Nat), sa_m148.2.2.1, [(1000, 1), (84, 4)], [(0, 1)]) ∈ sa_l148 := List.mem_cons_self
theorem sa_k148 (hS : ∀ ρ, en_SA E ρ ω mt_SB) (hX : sf_JX J) (hM : sf_MnA E ω J) : sf_Kok E ω J 4 1 133 sa_m148 := sf_K_of hS (sf_TS_k (q := 18939904) (nx := 133) (l := [(2, 0, sa_m146), (2, 0, sa_m147)]) hX (sf_fc ⟨(rfl : sa_m146.1 = 18939904), (sa_k146 hS hX hM)⟩ (sf_fc ⟨(rfl : sa_m147.1 = 18939904), (sa_k147 hS hX hM)⟩ sf_fn)) sf_TS_n) (sf_nL (by decide +kernel)) rfl sa_h80_n sa_h80_n (by decide +kernel) (by decide +kernel) (by decide +kernel) sa_i148 (sf_fc (sf_okb_t sa_h80_n sa_e148_0) (sf_fc (sf_okb_t sa_h80_n sa_e148_1) (sf_fc (sf_okb_t sa_h80_n sa_e148_2) sf_fn)))
/-- J9_abs_0f7a4 -/
def sa_m149 : sf_M := (18874368, 316912650075504094443590385920, sa_h0, sa_h0, [], [73786976299133173759])
def sa_t149_0 : sf_T := (18874368, 316912650075504094443590385920, [], sa_h0, [(1000, 0)], [(0, 0)])
def sa_l149 : List sf_T := [sa_t149_0]
noncomputable def sa_b149 : en_T := (fun _ => none)
theorem sa_e149_0 : sf_okb (sf_fin 133 sa_h0 [73786976299133173759]) sa_b149 288 1 0 133 36 sa_l149 [] sa_t149_0 = true := by decide +kernel
theorem sa_i149 : (sa_m149.1, sa_m149.2.1, ([] : List Nat), sa_m149.2.2.1, [(1000, 0)], [(0, 0)]) ∈ sa_l149 := List.mem_cons_self
theorem sa_k149 (hS : ∀ ρ, en_SA E ρ ω mt_SB) (hX : sf_JX J) (hM : sf_MnA E ω J) : sf_Kok E ω J 1 0 133 sa_m149 := sf_K_of hS sf_TS_n (sf_nL (by decide +kernel)) rfl sa_h0_n sa_h0_n (by decide +kernel) (by decide +kernel) (by decide +kernel) sa_i149 (sf_fc (sf_okb_t sa_h0_n sa_e149_0) sf_fn)
def sa_h81 : en_H := (((((((0, 0), 0), 0), ((0, 0), (0, 0))), ((((((0, (0, 0)), 0), 0), ((((0, 0), (0, (0, 0))), (((0, 0), 0), (0, (0, (0, 0))))), 0)), ((0, 0), 0)), (0, ((((0, 0), ((0, 0), ((0, 0), 0))), (((0, (0, 0)), ((0, 0), (0, 0))), (((0, 0), (0, 0)), ((0, 0), (0, 0))))), (((((0, 0), (0, 0)), ((0, 0), (0, 0))), (((0, 0), (0, 0)), ((0, 0), (0, 0)))), ((((0, 0), (0, 0)), ((0, 0), (0, (0, 0)))), ((((0, 0), (0, 0)), ((0, 0), 0)), (sa_r21, (0, (sa_r31, sa_r31)))))))))), 0), ((((((0, 0), 0), (0, (0, 0))), (0, 0)), 0), ((((((((0, 0), 0), (0, 0)), (0, (0, 0))), 0), (0, (((0, 0), (0, 0)), ((0, 0), (0, 0))))), 0), (((0, 0), 0), (0, ((0, ((0, 0), (0, 0))), (((0, 0), (0, 0)), ((0, 0), ((0, 0), (0, 0))))))))))
theorem sa_h81_n : sf_nlh sa_h81 136 = true := by decide +kernel
/-- X2_agrees -/
def sa_m150 : sf_M := (9633792, 419952139264264160249387988489975704125391262033363491246557490888801245177827034371354315371854169344, sa_h81, sa_h81, [84, 86, 87], [83010348333840465921])
def sa_t150_0 : sf_T := (9633792, 419952139264264160249387988489975704125391262033363491246557490888801245177827034371354315371854169344, [], sa_h81, [(1000, 1), (1000, 2), (1000, 3), (84, 4)], [(0, 1)])
def sa_t150_1 : sf_T := (9633795, 2705521055425447902381737685414084103152959809258619503951248103700673650968267894400499846330473337022838736128, [], sa_h81, [(1000, 1), (1000, 2), (1000, 3), (1000, 4), (84, 4)], [(0, 0), (1, 3), (0, 0)])
def sa_l150 : List sf_T := [sa_t150_0, sa_t150_1]
noncomputable def sa_b150 : en_T := (sf_tc 18874368 (sf_call 133 [(1, 0, sa_m149)]) (fun _ => none))
theorem sa_e150_0 : sf_okb (sf_fin 133 sa_h81 [83010348333840465921]) sa_b150 147 5 1 133 24 sa_l150 [1] sa_t150_0 = true := by decide +kernel
theorem sa_e150_1 : sf_okb (sf_fin 133 sa_h81 [83010348333840465921]) sa_b150 147 5 1 133 84 sa_l150 [1] sa_t150_1 = true := by decide +kernel
theorem sa_i150 : (sa_m150.1, sa_m150.2.1, ([] : List Nat), sa_m150.2.2.1, [(1000, 1), (1000, 2), (1000, 3), (84, 4)], [(0, 1)]) ∈ sa_l150 := List.mem_cons_self
theorem sa_k150 (hS : ∀ ρ, en_SA E ρ ω mt_SB) (hX : sf_JX J) (hM : sf_MnA E ω J) : sf_Kok E ω J 5 1 133 sa_m150 := sf_K_of hS (sf_TS_k (q := 18874368) (nx := 133) (l := [(1, 0, sa_m149)]) hX (sf_fc ⟨(rfl : sa_m149.1 = 18874368), (sa_k149 hS hX hM)⟩ sf_fn) sf_TS_n) (sf_nL (by decide +kernel)) rfl sa_h81_n sa_h81_n (by decide +kernel) (by decide +kernel) (by decide +kernel) sa_i150 (sf_fc (sf_okb_t sa_h81_n sa_e150_0) (sf_fc (sf_okb_t sa_h81_n sa_e150_1) sf_fn))
def sa_h82 : en_H := (((((((0, 0), 0), 0), ((0, 0), (0, 0))), ((((((0, (0, 0)), 0), 0), ((((0, 0), (0, (0, 0))), (((0, 0), 0), (0, (0, (0, 0))))), 0)), ((0, 0), 0)), (sa_r18, ((((0, 0), ((0, 0), ((0, 0), 0))), (((0, (0, 0)), ((0, 0), (0, 0))), (((0, 0), (0, 0)), ((0, 0), (0, 0))))), (((((0, 0), (0, 0)), ((0, 0), (0, 0))), (((0, 0), (0, 0)), ((0, 0), (0, 0)))), ((((0, 0), (0, 0)), ((0, 0), (0, (0, 0)))), ((((0, 0), (0, 0)), ((0, 0), 0)), (0, (0, (0, 0)))))))))), 0), ((((((0, 0), 0), (0, (0, 0))), (0, 0)), 0), ((((((((0, 0), 0), (0, 0)), (0, (0, 0))), 0), (0, (((0, 0), (0, 0)), ((0, 0), (0, 0))))), 0), (((0, 0), 0), (0, ((0, ((0, 0), (0, 0))), (((0, 0), (0, 0)), ((0, 0), ((0, 0), (0, 0))))))))))
theorem sa_h82_n : sf_nlh sa_h82 136 = true := by decide +kernel
/-- J7_fill_53178 -/
def sa_m151 : sf_M := (18808832, 1422853192879425234015608139717618233279169435311882902534235126048545497700893696, sa_h82, sa_h82, [29], [])
def sa_t151_0 : sf_T := (18808832, 1422853192879425234015608139717618233279169435311882902534235126048545497700893696, [], sa_h82, [(1000, 1)], [(0, 1)])
def sa_t151_1 : sf_T := (18808837, 237142201770635848602357939545388699727215342911569895564287977876464778589766656, [], sa_h82, [(1000, 1), (1000, 2)], [(0, 0), (1, 1), (0, 0)])
def sa_l151 : List sf_T := [sa_t151_0, sa_t151_1]
noncomputable def sa_b151 : en_T := (fun _ => none)
theorem sa_e151_0 : sf_okb (sf_fin 133 sa_h82 []) sa_b151 287 4 0 133 30 sa_l151 [1] sa_t151_0 = true := by decide +kernel
theorem sa_e151_1 : sf_okb (sf_fin 133 sa_h82 []) sa_b151 287 4 0 133 40 sa_l151 [1] sa_t151_1 = true := by decide +kernel
theorem sa_i151 : (sa_m151.1, sa_m151.2.1, ([] : List Nat), sa_m151.2.2.1, [(1000, 1)], [(0, 1)]) ∈ sa_l151 := List.mem_cons_self
theorem sa_k151 (hS : ∀ ρ, en_SA E ρ ω mt_SB) (hX : sf_JX J) (hM : sf_MnA E ω J) : sf_Kok E ω J 4 0 133 sa_m151 := sf_K_of hS sf_TS_n (sf_nL (by decide +kernel)) rfl sa_h82_n sa_h82_n (by decide +kernel) (by decide +kernel) (by decide +kernel) sa_i151 (sf_fc (sf_okb_t sa_h82_n sa_e151_0) (sf_fc (sf_okb_t sa_h82_n sa_e151_1) sf_fn))
def sa_h83 : en_H := (((((((0, 0), sa_r0), 0), ((0, 0), (0, 0))), ((((((0, (sa_r5, 0)), 0), 0), ((((0, 0), (0, (0, 0))), (((0, 0), 0), (0, (0, (0, 0))))), 0)), ((0, 0), sa_r30)), (sa_r18, ((((0, 0), ((0, 0), ((0, 0), 0))), (((0, (0, 0)), ((0, 0), (0, 0))), (((0, 0), (0, 0)), ((0, 0), (0, 0))))), (((((0, 0), (0, 0)), ((0, 0), (0, 0))), (((0, 0), (0, 0)), ((0, 0), (0, 0)))), ((((0, 0), (0, 0)), ((0, 0), (0, (0, 0)))), ((((0, 0), (0, 0)), ((0, 0), 0)), (0, (0, (0, 0)))))))))), 0), ((((((0, 0), 0), (0, (0, 0))), (0, 0)), 0), ((((((((0, 0), 0), (0, 0)), (0, (0, 0))), 0), (0, (((0, 0), (0, 0)), ((0, 0), (0, 0))))), 0), (((0, 0), 0), (0, ((0, ((0, 0), (0, 0))), (((0, 0), (0, 0)), ((0, 0), ((0, 0), (0, 0))))))))))
theorem sa_h83_n : sf_nlh sa_h83 136 = true := by decide +kernel
/-- X5_setOut -/
def sa_m152 : sf_M := (12713984, 4820814133992940188890642022838420953201779111507793648026368, sa_h83, sa_h83, [2, 9, 28, 29], [])
def sa_t152_0 : sf_T := (12713984, 4820814133992940188890642022838420953201779111507793648026368, [], sa_h83, [(1000, 1), (2, 4)], [(0, 2)])
def sa_t152_1 : sf_T := (12714062, 31057858561361006067176010299439062475075648138838379578314089297871616, [], sa_h83, [(1000, 1), (1000, 2), (2, 4)], [(0, 1), (1, 1), (0, 0)])
def sa_t152_2 : sf_T := (12714086, 31057858561361006067924299137752484769195934773189116484377926759875328, [], sa_h83, [(1000, 1), (1000, 2), (2, 4)], [(0, 0), (1, 1), (0, 0)])
def sa_l152 : List sf_T := [sa_t152_0, sa_t152_1, sa_t152_2]
noncomputable def sa_b152 : en_T := (sf_tc 18808832 (sf_call 133 [(4, 0, sa_m151)]) (fun _ => none))
theorem sa_e152_0 : sf_okb (sf_fin 133 sa_h83 []) sa_b152 194 3 1 133 108 sa_l152 [1] sa_t152_0 = true := by decide +kernel
theorem sa_e152_1 : sf_okb (sf_fin 133 sa_h83 []) sa_b152 194 3 1 133 48 sa_l152 [1, 2] sa_t152_1 = true := by decide +kernel
theorem sa_e152_2 : sf_okb (sf_fin 133 sa_h83 []) sa_b152 194 3 1 133 184 sa_l152 [2] sa_t152_2 = true := by decide +kernel
theorem sa_i152 : (sa_m152.1, sa_m152.2.1, ([] : List Nat), sa_m152.2.2.1, [(1000, 1), (2, 4)], [(0, 2)]) ∈ sa_l152 := List.mem_cons_self
theorem sa_k152 (hS : ∀ ρ, en_SA E ρ ω mt_SB) (hX : sf_JX J) (hM : sf_MnA E ω J) : sf_Kok E ω J 3 1 133 sa_m152 := sf_K_of hS (sf_TS_k (q := 18808832) (nx := 133) (l := [(4, 0, sa_m151)]) hX (sf_fc ⟨(rfl : sa_m151.1 = 18808832), (sa_k151 hS hX hM)⟩ sf_fn) sf_TS_n) (sf_nL (by decide +kernel)) rfl sa_h83_n sa_h83_n (by decide +kernel) (by decide +kernel) (by decide +kernel) sa_i152 (sf_fc (sf_okb_t sa_h83_n sa_e152_0) (sf_fc (sf_okb_t sa_h83_n sa_e152_1) (sf_fc (sf_okb_t sa_h83_n sa_e152_2) sf_fn)))
def sa_h84 : en_H := (((((((sa_r23, 0), sa_r0), sa_r1), ((sa_r24, sa_r2), (sa_r3, sa_r25))), ((((((sa_r4, (sa_r5, 0)), 0), 0), ((((0, 0), (0, (0, 0))), (((0, 0), 0), (0, (0, (0, 0))))), 0)), ((0, 0), sa_r30)), (sa_r18, ((((sa_r5, 0), ((0, 0), ((0, 0), 0))), (((0, (0, 0)), ((0, 0), (0, 0))), (((0, 0), (0, 0)), ((0, 0), (0, 0))))), (((((0, 0), (0, 0)), ((0, 0), (0, 0))), (((0, 0), (0, 0)), ((0, 0), (0, 0)))), ((((0, 0), (0, 0)), ((0, 0), (0, (0, 0)))), ((((0, 0), (0, 0)), ((0, 0), 0)), (sa_r21, (0, (sa_r31, sa_r31)))))))))), 0), ((((((0, 0), 0), (0, (0, 0))), (0, 0)), 0), ((((((((0, 0), 0), (0, 0)), (0, (0, 0))), 0), (0, (((0, 0), (0, 0)), ((0, 0), (0, 0))))), 0), (((0, 0), 0), (0, ((0, ((0, 0), (0, 0))), (((0, 0), (0, 0)), ((0, 0), ((0, 0), (0, 0))))))))))
theorem sa_h84_n : sf_nlh sa_h84 136 = true := by decide +kernel
/-- X8_fitsLog -/
def sa_m153 : sf_M := (15138816, 419952139256116016344998612940375727410858238980744613388213463229594481855239650440024194094676837632, sa_h84, sa_h84, [0, 2, 3, 4, 5, 6, 7, 8, 9, 28, 29, 30, 84, 86, 87], [83010348333840465921])
def sa_t153_0 : sf_T := (15138816, 419952139256116016344998612940375727410858238980744613388213463229594481855239650440024194094676837632, [], sa_h84, [(1000, 1), (1000, 2)], [(0, 2)])
def sa_t153_1 : sf_T := (15138833, 419952139265282678237080947135593879833141004359293639772823465156928851652198606757139571185163437312, [], sa_h84, [(1000, 1), (1000, 2), (1000, 3)], [(0, 1)])
def sa_t153_2 : sf_T := (15138836, 2705521055425447903719051803877199934390678356562921319926941518471793805653703635651345551361007472092456682752, [], sa_h84, [(1000, 1), (1000, 2), (1000, 3), (1000, 4)], [(0, 0), (1, 3), (0, 0)])
def sa_l153 : List sf_T := [sa_t153_0, sa_t153_1, sa_t153_2]
noncomputable def sa_b153 : en_T := (sf_tc 12713984 (sf_call 133 [(3, 1, sa_m152)]) (sf_tc 9633792 (sf_call 133 [(5, 1, sa_m150)]) (sf_tc 9895936 (sf_call 133 [(4, 1, sa_m148)]) (sf_tc 12582912 (sf_call 133 [(3, 5, sa_m124)]) (fun _ => none)))))
theorem sa_e153_0 : sf_okb (sf_fin 133 sa_h84 [83010348333840465921]) sa_b153 231 5 6 133 38 sa_l153 [1] sa_t153_0 = true := by decide +kernel
theorem sa_e153_1 : sf_okb (sf_fin 133 sa_h84 [83010348333840465921]) sa_b153 231 5 6 133 24 sa_l153 [2] sa_t153_1 = true := by decide +kernel
theorem sa_e153_2 : sf_okb (sf_fin 133 sa_h84 [83010348333840465921]) sa_b153 231 5 6 133 96 sa_l153 [2] sa_t153_2 = true := by decide +kernel
theorem sa_i153 : (sa_m153.1, sa_m153.2.1, ([] : List Nat), sa_m153.2.2.1, [(1000, 1), (1000, 2)], [(0, 2)]) ∈ sa_l153 := List.mem_cons_self
theorem sa_k153 (hS : ∀ ρ, en_SA E ρ ω mt_SB) (hX : sf_JX J) (hM : sf_MnA E ω J) : sf_Kok E ω J 5 6 133 sa_m153 := sf_K_of hS (sf_TS_k (q := 12713984) (nx := 133) (l := [(3, 1, sa_m152)]) hX (sf_fc ⟨(rfl : sa_m152.1 = 12713984), (sa_k152 hS hX hM)⟩ sf_fn) (sf_TS_k (q := 9633792) (nx := 133) (l := [(5, 1, sa_m150)]) hX (sf_fc ⟨(rfl : sa_m150.1 = 9633792), (sa_k150 hS hX hM)⟩ sf_fn) (sf_TS_k (q := 9895936) (nx := 133) (l := [(4, 1, sa_m148)]) hX (sf_fc ⟨(rfl : sa_m148.1 = 9895936), (sa_k148 hS hX hM)⟩ sf_fn) (sf_TS_k (q := 12582912) (nx := 133) (l := [(3, 5, sa_m124)]) hX (sf_fc ⟨(rfl : sa_m124.1 = 12582912), (sa_k124 hS hX hM)⟩ sf_fn) sf_TS_n)))) (sf_nL (by decide +kernel)) rfl sa_h84_n sa_h84_n (by decide +kernel) (by decide +kernel) (by decide +kernel) sa_i153 (sf_fc (sf_okb_t sa_h84_n sa_e153_0) (sf_fc (sf_okb_t sa_h84_n sa_e153_1) (sf_fc (sf_okb_t sa_h84_n sa_e153_2) sf_fn)))
/-- J9_min_7cf53 -/
def sa_m154 : sf_M := (19005440, 93536104794622304634503194109037100947853327467008, sa_h0, sa_h0, [], [73786976296985690211])
def sa_t154_0 : sf_T := (19005440, 93536104794622304634503194109037100947853327467008, [], sa_h0, [(1000, 1)], [(0, 0)])
def sa_l154 : List sf_T := [sa_t154_0]
noncomputable def sa_b154 : en_T := (fun _ => none)
theorem sa_e154_0 : sf_okb (sf_fin 133 sa_h0 [73786976296985690211]) sa_b154 290 2 0 133 36 sa_l154 [] sa_t154_0 = true := by decide +kernel
theorem sa_i154 : (sa_m154.1, sa_m154.2.1, ([] : List Nat), sa_m154.2.2.1, [(1000, 1)], [(0, 0)]) ∈ sa_l154 := List.mem_cons_self
theorem sa_k154 (hS : ∀ ρ, en_SA E ρ ω mt_SB) (hX : sf_JX J) (hM : sf_MnA E ω J) : sf_Kok E ω J 2 0 133 sa_m154 := sf_K_of hS sf_TS_n (sf_nL (by decide +kernel)) rfl sa_h0_n sa_h0_n (by decide +kernel) (by decide +kernel) (by decide +kernel) sa_i154 (sf_fc (sf_okb_t sa_h0_n sa_e154_0) sf_fn)
/-- X8_began -/
def sa_m155 : sf_M := (14548992, 123947994177030503561028935099706623557518250061135491504267941924183021928384375306060879992583788851515414271642973505024, sa_h84, sa_h84, [0, 2, 3, 4, 5, 6, 7, 8, 9, 28, 29, 30, 84, 86, 87], [73786976299133173759])
def sa_t155_0 : sf_T := (14548992, 123947994177030503561028935099706623557518250061135491504267941924183021928384375306060879992583788851515414271642973505024, [], sa_h84, [(1000, 1), (1000, 2), (84, 4)], [(0, 2)])
def sa_t155_1 : sf_T := (14549030, 123947994179435411165439380212229057040379515738343585642497747692614992983697974042340662797695135052173620192004787930624, [], sa_h84, [(1000, 1), (1000, 2), (1000, 4), (84, 4)], [(0, 1)])
def sa_t155_2 : sf_T := (14549033, 798528871927452679547646503259447947361035922790897105781503670596525010886465362730258138211006257623916482606017163891390250223104, [], sa_h84, [(1000, 1), (1000, 2), (1000, 3), (1000, 4), (1000, 5), (84, 4)], [(0, 0), (1, 4), (0, 0)])
def sa_l155 : List sf_T := [sa_t155_0, sa_t155_1, sa_t155_2]
noncomputable def sa_b155 : en_T := (sf_tc 19005440 (sf_call 133 [(2, 0, sa_m154)]) (sf_tc 15138816 (sf_call 133 [(5, 6, sa_m153)]) (fun _ => none)))
theorem sa_e155_0 : sf_okb (sf_fin 133 sa_h84 [73786976299133173759]) sa_b155 222 6 7 133 68 sa_l155 [1] sa_t155_0 = true := by decide +kernel
theorem sa_e155_1 : sf_okb (sf_fin 133 sa_h84 [73786976299133173759]) sa_b155 222 6 7 133 24 sa_l155 [2] sa_t155_1 = true := by decide +kernel
theorem sa_e155_2 : sf_okb (sf_fin 133 sa_h84 [73786976299133173759]) sa_b155 222 6 7 133 72 sa_l155 [2] sa_t155_2 = true := by decide +kernel
theorem sa_i155 : (sa_m155.1, sa_m155.2.1, ([] : List Nat), sa_m155.2.2.1, [(1000, 1), (1000, 2), (84, 4)], [(0, 2)]) ∈ sa_l155 := List.mem_cons_self
theorem sa_k155 (hS : ∀ ρ, en_SA E ρ ω mt_SB) (hX : sf_JX J) (hM : sf_MnA E ω J) : sf_Kok E ω J 6 7 133 sa_m155 := sf_K_of hS (sf_TS_k (q := 19005440) (nx := 133) (l := [(2, 0, sa_m154)]) hX (sf_fc ⟨(rfl : sa_m154.1 = 19005440), (sa_k154 hS hX hM)⟩ sf_fn) (sf_TS_k (q := 15138816) (nx := 133) (l := [(5, 6, sa_m153)]) hX (sf_fc ⟨(rfl : sa_m153.1 = 15138816), (sa_k153 hS hX hM)⟩ sf_fn) sf_TS_n)) (sf_nL (by decide +kernel)) rfl sa_h84_n sa_h84_n (by decide +kernel) (by decide +kernel) (by decide +kernel) sa_i155 (sf_fc (sf_okb_t sa_h84_n sa_e155_0) (sf_fc (sf_okb_t sa_h84_n sa_e155_1) (sf_fc (sf_okb_t sa_h84_n sa_e155_2) sf_fn)))
def sa_h85 : en_H := (((((((sa_r23, 0), 0), 0), ((0, 0), (0, 0))), ((((((0, (0, 0)), 0), 0), ((((0, 0), (0, (0, 0))), (((0, 0), 0), (0, (0, (0, 0))))), 0)), ((0, 0), 0)), (0, ((((0, 0), ((0, 0), ((0, 0), 0))), (((0, (0, 0)), ((0, 0), (0, 0))), (((0, 0), (0, 0)), ((0, 0), (0, 0))))), (((((0, 0), (0, 0)), ((0, 0), (0, 0))), (((0, 0), (0, 0)), ((0, 0), (0, 0)))), ((((0, 0), (0, 0)), ((0, 0), (0, (0, 0)))), ((((0, 0), (0, 0)), ((0, 0), 0)), (sa_r21, (0, (0, 0)))))))))), 0), ((((((0, 0), 0), (0, (0, 0))), (0, 0)), 0), ((((((((0, 0), 0), (0, 0)), (0, (0, 0))), 0), (0, (((0, 0), (0, 0)), ((0, 0), (0, 0))))), 0), (((0, 0), 0), (0, ((0, ((0, 0), (0, 0))), (((0, 0), (0, 0)), ((0, 0), ((0, 0), (0, 0))))))))))
theorem sa_h85_n : sf_nlh sa_h85 136 = true := by decide +kernel
/-- X8_forget -/
def sa_m156 : sf_M := (15204352, 16333553616007998046963562849362402869760, sa_h85, sa_h85, [0, 84], [83010348333840465950])
def sa_t156_0 : sf_T := (15204352, 16333553616007998046963562849362402869760, [], sa_h85, [(84, 3), (84, 4)], [(0, 1)])
def sa_t156_1 : sf_T := (15204368, 105228117890547269084062333670163149807729804050944, [], sa_h85, [(1000, 1), (84, 3), (84, 4)], [(0, 0)])
def sa_l156 : List sf_T := [sa_t156_0, sa_t156_1]
noncomputable def sa_b156 : en_T := (fun _ => none)
theorem sa_e156_0 : sf_okb (sf_fin 133 sa_h85 [83010348333840465950]) sa_b156 232 2 1 133 36 sa_l156 [1] sa_t156_0 = true := by decide +kernel
theorem sa_e156_1 : sf_okb (sf_fin 133 sa_h85 [83010348333840465950]) sa_b156 232 2 1 133 52 sa_l156 [] sa_t156_1 = true := by decide +kernel
theorem sa_i156 : (sa_m156.1, sa_m156.2.1, ([] : List Nat), sa_m156.2.2.1, [(84, 3), (84, 4)], [(0, 1)]) ∈ sa_l156 := List.mem_cons_self
theorem sa_k156 (hS : ∀ ρ, en_SA E ρ ω mt_SB) (hX : sf_JX J) (hM : sf_MnA E ω J) : sf_Kok E ω J 2 1 133 sa_m156 := sf_K_of hS sf_TS_n (sf_nL (by decide +kernel)) rfl sa_h85_n sa_h85_n (by decide +kernel) (by decide +kernel) (by decide +kernel) sa_i156 (sf_fc (sf_okb_t sa_h85_n sa_e156_0) (sf_fc (sf_okb_t sa_h85_n sa_e156_1) sf_fn))
def sa_h86 : en_H := (((((((sa_r23, 0), 0), 0), ((0, 0), (0, 0))), ((((((0, (0, 0)), 0), 0), ((((0, 0), (0, (0, 0))), (((0, 0), 0), (0, (0, (0, 0))))), sa_r19)), ((sa_r18, 0), 0)), (0, ((((0, 0), ((0, 0), ((0, 0), 0))), (((sa_r10, (0, 0)), ((0, 0), (0, 0))), (((0, 0), (0, 0)), ((0, 0), (0, 0))))), (((((0, 0), (0, 0)), ((0, 0), (0, 0))), (((0, 0), (0, 0)), ((0, 0), (0, 0)))), ((((0, 0), (0, 0)), ((0, 0), (0, (0, 0)))), ((((0, 0), (sa_r32, sa_r18)), ((sa_r18, sa_r18), sa_r11)), (0, (0, (0, 0)))))))))), 0), ((((((0, 0), 0), (0, (0, 0))), (0, 0)), 0), ((((((((0, 0), 0), (0, 0)), (0, (0, 0))), 0), (0, (((0, 0), (0, 0)), ((0, 0), (0, 0))))), 0), (((0, 0), 0), (0, ((0, ((0, 0), (0, 0))), (((0, 0), (0, 0)), ((0, 0), ((0, 0), (0, 0))))))))))
theorem sa_h86_n : sf_nlh sa_h86 136 = true := by decide +kernel
/-- X8_hold -/
def sa_m157 : sf_M := (15466496, 93536104794622304634503194109064771063538690032128, sa_h86, sa_h86, [0, 25, 26, 37, 79, 80, 81, 82, 83], [83010348333840465921])
def sa_t157_0 : sf_T := (15466496, 93536104794622304634503194109064771063538690032128, [], sa_h86, [(1000, 1)], [(0, 0)])
def sa_l157 : List sf_T := [sa_t157_0]
noncomputable def sa_b157 : en_T := (fun _ => none)
theorem sa_e157_0 : sf_okb (sf_fin 133 sa_h86 [83010348333840465921]) sa_b157 236 2 2 133 148 sa_l157 [] sa_t157_0 = true := by decide +kernel
theorem sa_i157 : (sa_m157.1, sa_m157.2.1, ([] : List Nat), sa_m157.2.2.1, [(1000, 1)], [(0, 0)]) ∈ sa_l157 := List.mem_cons_self
theorem sa_k157 (hS : ∀ ρ, en_SA E ρ ω mt_SB) (hX : sf_JX J) (hM : sf_MnA E ω J) : sf_Kok E ω J 2 2 133 sa_m157 := sf_K_of hS sf_TS_n (sf_nL (by decide +kernel)) rfl sa_h86_n sa_h86_n (by decide +kernel) (by decide +kernel) (by decide +kernel) sa_i157 (sf_fc (sf_okb_t sa_h86_n sa_e157_0) sf_fn)
/-- X8_restore -/
def sa_m158 : sf_M := (16646144, 93536104794622304634503194109064771063538690032128, sa_h86, sa_h86, [0, 25, 26, 37, 79, 80, 81, 82, 83], [83010348333840465921])
def sa_t158_0 : sf_T := (16646144, 93536104794622304634503194109064771063538690032128, [], sa_h86, [(1000, 1)], [(0, 0)])
def sa_l158 : List sf_T := [sa_t158_0]
noncomputable def sa_b158 : en_T := (fun _ => none)
theorem sa_e158_0 : sf_okb (sf_fin 133 sa_h86 [83010348333840465921]) sa_b158 254 2 2 133 178 sa_l158 [] sa_t158_0 = true := by decide +kernel
theorem sa_i158 : (sa_m158.1, sa_m158.2.1, ([] : List Nat), sa_m158.2.2.1, [(1000, 1)], [(0, 0)]) ∈ sa_l158 := List.mem_cons_self
theorem sa_k158 (hS : ∀ ρ, en_SA E ρ ω mt_SB) (hX : sf_JX J) (hM : sf_MnA E ω J) : sf_Kok E ω J 2 2 133 sa_m158 := sf_K_of hS sf_TS_n (sf_nL (by decide +kernel)) rfl sa_h86_n sa_h86_n (by decide +kernel) (by decide +kernel) (by decide +kernel) sa_i158 (sf_fc (sf_okb_t sa_h86_n sa_e158_0) sf_fn)
end SFP
