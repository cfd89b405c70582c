/-! CONTRACTS, by program (wip/p3/emit.py) -/
section SFP
variable {E : mm_E} {ω : Nat → Value} {J : mm_H → Prop}
def zb_h17 : en_H := (((((((0, 0), 0), 0), ((0, 0), (0, 0))), ((((((0, (0, 0)), 0), 0), ((((0, 0), (0, (0, 0))), (((0, 0), 0), (0, (0, (0, 0))))), 0)), ((0, 0), 0)), (0, ((((0, 0), ((0, 0), ((0, 0), 0))), (((0, (0, 0)), ((0, 0), (0, 0))), (((0, 0), (0, 0)), ((0, 0), (0, 0))))), (((((0, 0), (0, 0)), ((0, 0), (0, 0))), (((0, 0), (0, 0)), ((0, 0), (0, 0)))), ((((0, 0), (0, 0)), ((0, 0), (0, (0, 0)))), ((((0, 0), (0, 0)), ((0, 0), 0)), (0, (0, (0, 0)))))))))), zb_r0), ((((((0, 0), 0), (0, (0, 0))), (0, 0)), zb_r8), ((((((((0, 0), 0), (0, 0)), (0, (0, zb_r5))), 0), (0, (((0, 0), (0, 0)), ((0, 0), (0, 0))))), 0), (((0, zb_r6), zb_r6), (0, ((zb_r9, ((0, 0), (0, 0))), (((0, 0), (0, 0)), ((0, 0), ((0, 0), (0, 0))))))))))
theorem zb_h17_n : sf_nlh zb_h17 136 = true := by decide +kernel
/-- X9_hide -/
def zb_m101 : sf_M := (2621440, 31057858561361006066053577041968929033895218187312274219218590802903808, zb_h17, zb_h17, [88, 97, 105, 118, 119, 121], [83010348333840465921])
def zb_t101_0 : sf_T := (2621440, 31057858561361006066053577041968929033895218187312274219218590802903808, [], zb_h17, [(1000, 1), (1000, 2), (88, 18)], [(0, 0)])
def zb_l101 : List sf_T := [zb_t101_0]
noncomputable def zb_b101 : en_T := (sf_tc 3604480 (sf_call 133 [(2, 1, zb_m100)]) (sf_tc 1114112 (sf_call 133 [(2, 0, zb_m89)]) (fun _ => none)))
theorem zb_e101_0 : sf_okb (sf_fin 133 zb_h17 [83010348333840465921]) zb_b101 40 3 2 133 644 zb_l101 [] zb_t101_0 = true := by decide +kernel
theorem zb_i101 : (zb_m101.1, zb_m101.2.1, ([] : List Nat), zb_m101.2.2.1, [(1000, 1), (1000, 2), (88, 18)], [(0, 0)]) ∈ zb_l101 := List.mem_cons_self
theorem zb_k101 (hS : ∀ ρ, en_SA E ρ ω mt_SB) (hX : sf_JX J) (hM : sf_MnB E ω J) : sf_Kok E ω J 3 2 133 zb_m101 := sf_K_of hS (sf_TS_k (q := 3604480) (nx := 133) (l := [(2, 1, zb_m100)]) hX (sf_fc ⟨(rfl : zb_m100.1 = 3604480), (zb_k100 hS hX hM)⟩ sf_fn) (sf_TS_k (q := 1114112) (nx := 133) (l := [(2, 0, zb_m89)]) hX (sf_fc ⟨(rfl : zb_m89.1 = 1114112), (zb_k89 hS hX hM)⟩ sf_fn) sf_TS_n)) (sf_nL (by decide +kernel)) rfl zb_h17_n zb_h17_n (by decide +kernel) (by decide +kernel) (by decide +kernel) zb_i101 (sf_fc (sf_okb_t zb_h17_n zb_e101_0) sf_fn)
/-- X9_weathers -/
def zb_m102 : sf_M := (7077888, 36893488525376225536, zb_h11, zb_h11, [88, 116, 117, 119], [])
def zb_t102_0 : sf_T := (7077888, 36893488525376225536, [], zb_h11, [], [(0, 0)])
def zb_l102 : List sf_T := [zb_t102_0]
noncomputable def zb_b102 : en_T := (sf_tc 1310720 (sf_call 133 [(1, 5, zb_m96)]) (sf_tc 7208960 (sf_call 133 [(1, 5, zb_m95)]) (fun _ => none)))
theorem zb_e102_0 : sf_okb (sf_fin 133 zb_h11 []) zb_b102 108 1 6 133 38 zb_l102 [] zb_t102_0 = true := by decide +kernel
theorem zb_i102 : (zb_m102.1, zb_m102.2.1, ([] : List Nat), zb_m102.2.2.1, [], [(0, 0)]) ∈ zb_l102 := List.mem_cons_self
theorem zb_k102 (hS : ∀ ρ, en_SA E ρ ω mt_SB) (hX : sf_JX J) (hM : sf_MnB E ω J) : sf_Kok E ω J 1 6 133 zb_m102 := sf_K_of hS (sf_TS_k (q := 1310720) (nx := 133) (l := [(1, 5, zb_m96)]) hX (sf_fc ⟨(rfl : zb_m96.1 = 1310720), (zb_k96 hS hX hM)⟩ sf_fn) (sf_TS_k (q := 7208960) (nx := 133) (l := [(1, 5, zb_m95)]) hX (sf_fc ⟨(rfl : zb_m95.1 = 7208960), (zb_k95 hS hX hM)⟩ sf_fn) sf_TS_n)) (sf_nL (by decide +kernel)) rfl zb_h11_n zb_h11_n (by decide +kernel) (by decide +kernel) (by decide +kernel) zb_i102 (sf_fc (sf_okb_t zb_h11_n zb_e102_0) sf_fn)
def zb_h18 : en_H := (((((((0, 0), 0), 0), ((0, 0), (0, 0))), ((((((0, (0, 0)), 0), 0), ((((0, 0), (0, (0, 0))), (((0, 0), 0), (0, (0, (0, 0))))), 0)), ((0, 0), 0)), (0, ((((0, 0), ((0, 0), ((0, 0), 0))), (((0, (0, 0)), ((0, 0), (0, 0))), (((0, 0), (0, 0)), ((0, 0), (0, 0))))), (((((0, 0), (0, 0)), ((0, 0), (0, 0))), (((0, 0), (0, 0)), ((0, 0), (0, 0)))), ((((0, 0), (0, 0)), ((0, 0), (0, (0, 0)))), ((((0, 0), (0, 0)), ((0, 0), 0)), (0, (0, (0, 0)))))))))), zb_r0), ((((((0, 0), 0), (0, (0, 0))), (0, 0)), 0), ((((((((zb_r7, 0), 0), (0, 0)), (0, (0, 0))), 0), (0, (((0, 0), (0, 0)), ((0, 0), (0, 0))))), zb_r1), (((zb_r2, 0), zb_r6), (zb_r12, ((0, ((0, 0), (0, 0))), (((0, 0), (0, 0)), ((0, 0), ((0, 0), (0, 0))))))))))
theorem zb_h18_n : sf_nlh zb_h18 136 = true := by decide +kernel
/-- X9_fillsDoing -/
def zb_m103 : sf_M := (1966080, 36582990833331704133769688463878398985241663423791010922004235441607090117855687356087714591454335370296807506695615263104760996201528637261568, zb_h18, zb_h18, [88, 98, 116, 117, 119, 120], [])
def zb_t103_0 : sf_T := (1966080, 36582990833331704133769688463878398985241663423791010922004235441607090117855687356087714591454335370296807506695615263104760996201528637261568, [], zb_h18, [(1000, 1), (1000, 2), (1000, 3), (1000, 4), (1000, 5), (88, 51), (88, 52)], [(0, 1)])
def zb_t103_1 : sf_T := (1966088, 209496998917547409953475300355948448183151193670086816111875925103330289972534760558658065480983846666955816962371948440012616040572829811408636523579136, [], zb_h18, [(1000, 1), (1000, 2), (1000, 3), (1000, 4), (1000, 5), (1000, 6), (88, 51), (88, 52)], [(0, 0)])
def zb_l103 : List sf_T := [zb_t103_0, zb_t103_1]
noncomputable def zb_b103 : en_T := (sf_tc 3997696 (sf_call 133 [(2, 0, zb_m94)]) (sf_tc 5898240 (sf_call 133 [(3, 0, zb_m90)]) (sf_tc 196608 (sf_call 133 [(6, 4, zb_m0), (6, 4, zb_m1), (6, 4, zb_m2), (6, 4, zb_m3)]) (fun _ => none))))
theorem zb_e103_0 : sf_okb (sf_fin 133 zb_h18 []) zb_b103 30 7 5 133 30 zb_l103 [1] zb_t103_0 = true := by decide +kernel
theorem zb_e103_1 : sf_okb (sf_fin 133 zb_h18 []) zb_b103 30 7 5 133 214 zb_l103 [] zb_t103_1 = true := by decide +kernel
theorem zb_i103 : (zb_m103.1, zb_m103.2.1, ([] : List Nat), zb_m103.2.2.1, [(1000, 1), (1000, 2), (1000, 3), (1000, 4), (1000, 5), (88, 51), (88, 52)], [(0, 1)]) ∈ zb_l103 := List.mem_cons_self
theorem zb_k103 (hS : ∀ ρ, en_SA E ρ ω mt_SB) (hX : sf_JX J) (hM : sf_MnB E ω J) : sf_Kok E ω J 7 5 133 zb_m103 := sf_K_of hS (sf_TS_k (q := 3997696) (nx := 133) (l := [(2, 0, zb_m94)]) hX (sf_fc ⟨(rfl : zb_m94.1 = 3997696), (zb_k94 hS hX hM)⟩ sf_fn) (sf_TS_k (q := 5898240) (nx := 133) (l := [(3, 0, zb_m90)]) hX (sf_fc ⟨(rfl : zb_m90.1 = 5898240), (zb_k90 hS hX hM)⟩ sf_fn) (sf_TS_k (q := 196608) (nx := 133) (l := [(6, 4, zb_m0), (6, 4, zb_m1), (6, 4, zb_m2), (6, 4, zb_m3)]) hX (sf_fc ⟨(rfl : zb_m0.1 = 196608), (hM _ (List.mem_of_getElem? (i := 0) rfl))⟩ (sf_fc ⟨(rfl : zb_m1.1 = 196608), (hM _ (List.mem_of_getElem? (i := 1) rfl))⟩ (sf_fc ⟨(rfl : zb_m2.1 = 196608), (hM _ (List.mem_of_getElem? (i := 2) rfl))⟩ (sf_fc ⟨(rfl : zb_m3.1 = 196608), (hM _ (List.mem_of_getElem? (i := 3) rfl))⟩ sf_fn)))) sf_TS_n))) (sf_nL (by decide +kernel)) rfl zb_h18_n zb_h18_n (by decide +kernel) (by decide +kernel) (by decide +kernel) zb_i103 (sf_fc (sf_okb_t zb_h18_n zb_e103_0) (sf_fc (sf_okb_t zb_h18_n zb_e103_1) sf_fn))
/-- X9_held -/
def zb_m104 : sf_M := (2555904, 93536104794622304634820106759103381669834861314560, zb_h1, zb_h1, [], [73786976299133173759])
def zb_t104_0 : sf_T := (2555904, 93536104794622304634820106759103381669834861314560, [], zb_h1, [(1000, 0), (1000, 1)], [(0, 0)])
def zb_l104 : List sf_T := [zb_t104_0]
noncomputable def zb_b104 : en_T := (fun _ => none)
theorem zb_e104_0 : sf_okb (sf_fin 133 zb_h1 [73786976299133173759]) zb_b104 39 2 0 133 46 zb_l104 [] zb_t104_0 = true := by decide +kernel
theorem zb_i104 : (zb_m104.1, zb_m104.2.1, ([] : List Nat), zb_m104.2.2.1, [(1000, 0), (1000, 1)], [(0, 0)]) ∈ zb_l104 := List.mem_cons_self
theorem zb_k104 (hS : ∀ ρ, en_SA E ρ ω mt_SB) (hX : sf_JX J) (hM : sf_MnB E ω J) : sf_Kok E ω J 2 0 133 zb_m104 := sf_K_of hS sf_TS_n (sf_nL (by decide +kernel)) rfl zb_h1_n zb_h1_n (by decide +kernel) (by decide +kernel) (by decide +kernel) zb_i104 (sf_fc (sf_okb_t zb_h1_n zb_e104_0) sf_fn)
def zb_h19 : en_H := (((((((0, 0), 0), 0), ((0, 0), (0, 0))), ((((((0, (0, 0)), 0), 0), ((((0, 0), (0, (0, 0))), (((0, 0), 0), (0, (0, (0, 0))))), 0)), ((0, 0), 0)), (0, ((((0, 0), ((0, 0), ((0, 0), 0))), (((0, (0, 0)), ((0, 0), (0, 0))), (((0, 0), (0, 0)), ((0, 0), (0, 0))))), (((((0, 0), (0, 0)), ((0, 0), (0, 0))), (((0, 0), (0, 0)), ((0, 0), (0, 0)))), ((((0, 0), (0, 0)), ((0, 0), (0, (0, 0)))), ((((0, 0), (0, 0)), ((0, 0), 0)), (0, (0, (0, 0)))))))))), zb_r0), ((((((0, 0), 0), (0, (0, 0))), (0, 0)), 0), ((((((((zb_r7, 0), 0), (0, 0)), (0, (0, 0))), 0), (0, (((0, 0), (0, 0)), ((0, 0), (0, 0))))), zb_r1), (((zb_r2, 0), zb_r6), (0, ((0, ((0, 0), (0, 0))), (((0, 0), (0, 0)), ((0, 0), ((0, 0), (0, 0))))))))))
theorem zb_h19_n : sf_nlh zb_h19 136 = true := by decide +kernel
/-- X9_ordersOf -/
def zb_m105 : sf_M := (4587520, 4820814134004632201975677951514818796926343767777008297181952, zb_h19, zb_h19, [88, 98, 116, 117, 119], [83010348333840465923])
def zb_t105_0 : sf_T := (4587520, 4820814134004632201975677951514818796926343767777008297181952, [], zb_h19, [(1000, 1), (88, 51), (88, 52)], [(0, 1)])
def zb_t105_1 : sf_T := (4587571, 27606985390376131237988087698914973080737518814384213182516637433070336, [], zb_h19, [(1000, 1), (1000, 2), (88, 51), (88, 52)], [(0, 0)])
def zb_l105 : List sf_T := [zb_t105_0, zb_t105_1]
noncomputable def zb_b105 : en_T := (sf_tc 3997696 (sf_call 133 [(2, 0, zb_m94)]) (sf_tc 5898240 (sf_call 133 [(3, 0, zb_m90)]) (sf_tc 196608 (sf_call 133 [(6, 4, zb_m4)]) (fun _ => none))))
theorem zb_e105_0 : sf_okb (sf_fin 133 zb_h19 [83010348333840465923]) zb_b105 70 3 5 133 78 zb_l105 [1] zb_t105_0 = true := by decide +kernel
theorem zb_e105_1 : sf_okb (sf_fin 133 zb_h19 [83010348333840465923]) zb_b105 70 3 5 133 38 zb_l105 [] zb_t105_1 = true := by decide +kernel
theorem zb_i105 : (zb_m105.1, zb_m105.2.1, ([] : List Nat), zb_m105.2.2.1, [(1000, 1), (88, 51), (88, 52)], [(0, 1)]) ∈ zb_l105 := List.mem_cons_self
theorem zb_k105 (hS : ∀ ρ, en_SA E ρ ω mt_SB) (hX : sf_JX J) (hM : sf_MnB E ω J) : sf_Kok E ω J 3 5 133 zb_m105 := sf_K_of hS (sf_TS_k (q := 3997696) (nx := 133) (l := [(2, 0, zb_m94)]) hX (sf_fc ⟨(rfl : zb_m94.1 = 3997696), (zb_k94 hS hX hM)⟩ sf_fn) (sf_TS_k (q := 5898240) (nx := 133) (l := [(3, 0, zb_m90)]) hX (sf_fc ⟨(rfl : zb_m90.1 = 5898240), (zb_k90 hS hX hM)⟩ sf_fn) (sf_TS_k (q := 196608) (nx := 133) (l := [(6, 4, zb_m4)]) hX (sf_fc ⟨(rfl : zb_m4.1 = 196608), (hM _ (List.mem_of_getElem? (i := 4) rfl))⟩ sf_fn) sf_TS_n))) (sf_nL (by decide +kernel)) rfl zb_h19_n zb_h19_n (by decide +kernel) (by decide +kernel) (by decide +kernel) zb_i105 (sf_fc (sf_okb_t zb_h19_n zb_e105_0) (sf_fc (sf_okb_t zb_h19_n zb_e105_1) sf_fn))
def zb_h20 : en_H := (((((((0, 0), 0), 0), ((0, 0), (0, 0))), ((((((0, (0, 0)), 0), 0), ((((0, 0), (0, (0, 0))), (((0, 0), 0), (0, (0, (0, 0))))), 0)), ((0, 0), 0)), (0, ((((0, 0), ((0, 0), ((0, 0), 0))), (((0, (0, 0)), ((0, 0), (0, 0))), (((0, 0), (0, 0)), ((0, 0), (0, 0))))), (((((0, 0), (0, 0)), ((0, 0), (0, 0))), (((0, 0), (0, 0)), ((0, 0), (0, 0)))), ((((0, 0), (0, 0)), ((0, 0), (0, (0, 0)))), ((((0, 0), (0, 0)), ((0, 0), 0)), (0, (0, (0, 0)))))))))), zb_r0), ((((((0, 0), 0), (0, (0, 0))), (0, 0)), 0), ((((((((zb_r7, 0), 0), (0, 0)), (zb_r5, (0, 0))), 0), (0, (((0, 0), (0, 0)), ((0, 0), (0, 0))))), zb_r1), (((zb_r2, 0), zb_r6), (zb_r12, ((0, ((0, 0), (0, 0))), (((0, 0), (0, 0)), ((0, 0), ((0, 0), (0, 0))))))))))
theorem zb_h20_n : sf_nlh zb_h20 136 = true := by decide +kernel
/-- X9_sails -/
def zb_m106 : sf_M := (5570560, 4820814133899404084112353271819925757139677903293875058901760, zb_h20, zb_h20, [88, 98, 103, 116, 117, 119, 120], [83010348333840465923])
def zb_t106_0 : sf_T := (5570560, 4820814133899404084112353271819925757139677903293875058901760, [], zb_h20, [(88, 50), (88, 18)], [(0, 8)])
def zb_t106_1 : sf_T := (5570564, 4820814133899404084112353271819925757139677903293875058901760, [], zb_h20, [(88, 50), (88, 18)], [(0, 7)])
def zb_t106_2 : sf_T := (5570747, 4820814134004632201986566987253753526556715296411831473537792, [], zb_h20, [(1000, 1), (88, 50), (88, 18), (119, 18)], [(0, 5)])
def zb_t106_3 : sf_T := (5570590, 4820814134004632201986566987253753526556715296411831473537792, [], zb_h20, [(1000, 1), (88, 50), (88, 18)], [(0, 6)])
def zb_t106_4 : sf_T := (5570778, 803469022234723255661528315220417068725102452859093192278784, [], zb_h20, [(1000, 1), (88, 50), (88, 18), (119, 18), (119, 19), (119, 20), (119, 21)], [(0, 4)])
def zb_t106_5 : sf_T := (5570778, 803469022608867674818239462280560385900470905891011923280640, [], zb_h20, [(1000, 1), (88, 50), (88, 18), (119, 18), (119, 19), (119, 20), (119, 21)], [(0, 3)])
def zb_t106_6 : sf_T := (5570778, 803469022983012093974950609340703703075839358922930654282496, [], zb_h20, [(1000, 1), (88, 50), (88, 18), (119, 18), (119, 19), (119, 20), (119, 21)], [(0, 2)])
def zb_t106_7 : sf_T := (5570778, 803469023357156513131661756400847020251207811954849385284352, [], zb_h20, [(1000, 1), (88, 50), (88, 18), (119, 18), (119, 19), (119, 20), (119, 21)], [(0, 1)])
def zb_t106_8 : sf_T := (5570778, 803469023731300932288372903460990337426576264986768116286208, [], zb_h20, [(1000, 1), (88, 50), (88, 18), (119, 18), (119, 19), (119, 20), (119, 21)], [(0, 0)])
def zb_l106 : List sf_T := [zb_t106_0, zb_t106_1, zb_t106_2, zb_t106_3, zb_t106_4, zb_t106_5, zb_t106_6, zb_t106_7, zb_t106_8]
noncomputable def zb_b106 : en_T := (sf_tc 4587520 (sf_call 133 [(3, 5, zb_m105)]) (sf_tc 2555904 (sf_call 133 [(2, 0, zb_m104)]) (sf_tc 1966080 (sf_call 133 [(7, 5, zb_m103)]) (sf_tc 7077888 (sf_call 133 [(1, 6, zb_m102)]) (fun _ => none)))))
theorem zb_e106_0 : sf_okb (sf_fin 133 zb_h20 [83010348333840465923]) zb_b106 85 3 7 133 24 zb_l106 [1] zb_t106_0 = true := by decide +kernel
theorem zb_e106_1 : sf_okb (sf_fin 133 zb_h20 [83010348333840465923]) zb_b106 85 3 7 133 394 zb_l106 [2, 3] zb_t106_1 = true := by decide +kernel
theorem zb_e106_2 : sf_okb (sf_fin 133 zb_h20 [83010348333840465923]) zb_b106 85 3 7 133 126 zb_l106 [4] zb_t106_2 = true := by decide +kernel
theorem zb_e106_3 : sf_okb (sf_fin 133 zb_h20 [83010348333840465923]) zb_b106 85 3 7 133 366 zb_l106 [2] zb_t106_3 = true := by decide +kernel
theorem zb_e106_4 : sf_okb (sf_fin 133 zb_h20 [83010348333840465923]) zb_b106 85 3 7 133 2890 zb_l106 [5] zb_t106_4 = true := by decide +kernel
theorem zb_e106_5 : sf_okb (sf_fin 133 zb_h20 [83010348333840465923]) zb_b106 85 3 7 133 2890 zb_l106 [6] zb_t106_5 = true := by decide +kernel
theorem zb_e106_6 : sf_okb (sf_fin 133 zb_h20 [83010348333840465923]) zb_b106 85 3 7 133 2890 zb_l106 [7] zb_t106_6 = true := by decide +kernel
theorem zb_e106_7 : sf_okb (sf_fin 133 zb_h20 [83010348333840465923]) zb_b106 85 3 7 133 2890 zb_l106 [8] zb_t106_7 = true := by decide +kernel
theorem zb_e106_8 : sf_okb (sf_fin 133 zb_h20 [83010348333840465923]) zb_b106 85 3 7 133 1120 zb_l106 [] zb_t106_8 = true := by decide +kernel
theorem zb_i106 : (zb_m106.1, zb_m106.2.1, ([] : List Nat), zb_m106.2.2.1, [(88, 50), (88, 18)], [(0, 8)]) ∈ zb_l106 := List.mem_cons_self
theorem zb_k106 (hS : ∀ ρ, en_SA E ρ ω mt_SB) (hX : sf_JX J) (hM : sf_MnB E ω J) : sf_Kok E ω J 3 7 133 zb_m106 := sf_K_of hS (sf_TS_k (q := 4587520) (nx := 133) (l := [(3, 5, zb_m105)]) hX (sf_fc ⟨(rfl : zb_m105.1 = 4587520), (zb_k105 hS hX hM)⟩ sf_fn) (sf_TS_k (q := 2555904) (nx := 133) (l := [(2, 0, zb_m104)]) hX (sf_fc ⟨(rfl : zb_m104.1 = 2555904), (zb_k104 hS hX hM)⟩ sf_fn) (sf_TS_k (q := 1966080) (nx := 133) (l := [(7, 5, zb_m103)]) hX (sf_fc ⟨(rfl : zb_m103.1 = 1966080), (zb_k103 hS hX hM)⟩ sf_fn) (sf_TS_k (q := 7077888) (nx := 133) (l := [(1, 6, zb_m102)]) hX (sf_fc ⟨(rfl : zb_m102.1 = 7077888), (zb_k102 hS hX hM)⟩ sf_fn) sf_TS_n)))) (sf_nL (by decide +kernel)) rfl zb_h20_n zb_h20_n (by decide +kernel) (by decide +kernel) (by decide +kernel) zb_i106 (sf_fc (sf_okb_t zb_h20_n zb_e106_0) (sf_fc (sf_okb_t zb_h20_n zb_e106_1) (sf_fc (sf_okb_t zb_h20_n zb_e106_2) (sf_fc (sf_okb_t zb_h20_n zb_e106_3) (sf_fc (sf_okb_t zb_h20_n zb_e106_4) (sf_fc (sf_okb_t zb_h20_n zb_e106_5) (sf_fc (sf_okb_t zb_h20_n zb_e106_6) (sf_fc (sf_okb_t zb_h20_n zb_e106_7) (sf_fc (sf_okb_t zb_h20_n zb_e106_8) sf_fn)))))))))
def zb_h21 : en_H := (((((((0, 0), 0), 0), ((0, 0), (0, 0))), ((((((0, (0, 0)), 0), 0), ((((0, 0), (0, (0, 0))), (((0, 0), 0), (0, (0, (0, 0))))), 0)), ((0, 0), 0)), (0, ((((0, 0), ((0, 0), ((0, 0), 0))), (((0, (0, 0)), ((0, 0), (0, 0))), (((0, 0), (0, 0)), ((0, 0), (0, 0))))), (((((0, 0), (0, 0)), ((0, 0), (0, 0))), (((0, 0), (0, 0)), ((0, 0), (0, 0)))), ((((0, 0), (0, 0)), ((0, 0), (0, (0, 0)))), ((((0, 0), (0, 0)), ((0, 0), 0)), (0, (0, (0, 0)))))))))), zb_r0), ((((((0, 0), 0), (0, (0, 0))), (0, 0)), zb_r8), ((((((((zb_r7, 0), 0), (0, 0)), (zb_r5, (0, zb_r5))), 0), (0, (((0, 0), (0, 0)), ((0, 0), (0, 0))))), zb_r1), (((zb_r2, zb_r6), zb_r6), (zb_r12, ((zb_r9, ((0, 0), (0, 0))), (((0, 0), (0, 0)), ((0, 0), ((0, 0), (0, 0))))))))))
theorem zb_h21_n : sf_nlh zb_h21 136 = true := by decide +kernel
/-- X9_stand -/
def zb_m107 : sf_M := (6094848, 123947994179435411165509372232171004003729833158125554352241188605378281592034582817776258829357003488435284308987343799808, zb_h21, zb_h21, [88, 97, 98, 103, 105, 116, 117, 118, 119, 120, 121], [83010348325250531331])
def zb_t107_0 : sf_T := (6094848, 123947994179435411165509372232171004003729833158125554352241188605378281592034582817776258829357003488435284308987343799808, [], zb_h21, [(1000, 1), (1000, 2), (1000, 3), (1000, 4), (88, 18)], [(0, 1)])
def zb_t107_1 : sf_T := (6095029, 798528871927452678614842966062865786525531665082141616500484825727961397121265337640829549575742911369042284590265647308470038300160, [], zb_h21, [(1000, 1), (1000, 2), (1000, 3), (1000, 4), (1000, 5), (88, 18)], [(0, 0)])
def zb_l107 : List sf_T := [zb_t107_0, zb_t107_1]
noncomputable def zb_b107 : en_T := (sf_tc 5570560 (sf_call 133 [(3, 7, zb_m106)]) (sf_tc 3604480 (sf_call 133 [(2, 1, zb_m100)]) (sf_tc 1114112 (sf_call 133 [(2, 0, zb_m89)]) (fun _ => none))))
theorem zb_e107_0 : sf_okb (sf_fin 133 zb_h21 [83010348325250531331]) zb_b107 93 6 8 133 5156 zb_l107 [1] zb_t107_0 = true := by decide +kernel
theorem zb_e107_1 : sf_okb (sf_fin 133 zb_h21 [83010348325250531331]) zb_b107 93 6 8 133 28 zb_l107 [] zb_t107_1 = true := by decide +kernel
theorem zb_i107 : (zb_m107.1, zb_m107.2.1, ([] : List Nat), zb_m107.2.2.1, [(1000, 1), (1000, 2), (1000, 3), (1000, 4), (88, 18)], [(0, 1)]) ∈ zb_l107 := List.mem_cons_self
theorem zb_k107 (hS : ∀ ρ, en_SA E ρ ω mt_SB) (hX : sf_JX J) (hM : sf_MnB E ω J) : sf_Kok E ω J 6 8 133 zb_m107 := sf_K_of hS (sf_TS_k (q := 5570560) (nx := 133) (l := [(3, 7, zb_m106)]) hX (sf_fc ⟨(rfl : zb_m106.1 = 5570560), (zb_k106 hS hX hM)⟩ sf_fn) (sf_TS_k (q := 3604480) (nx := 133) (l := [(2, 1, zb_m100)]) hX (sf_fc ⟨(rfl : zb_m100.1 = 3604480), (zb_k100 hS hX hM)⟩ sf_fn) (sf_TS_k (q := 1114112) (nx := 133) (l := [(2, 0, zb_m89)]) hX (sf_fc ⟨(rfl : zb_m89.1 = 1114112), (zb_k89 hS hX hM)⟩ sf_fn) sf_TS_n))) (sf_nL (by decide +kernel)) rfl zb_h21_n zb_h21_n (by decide +kernel) (by decide +kernel) (by decide +kernel) zb_i107 (sf_fc (sf_okb_t zb_h21_n zb_e107_0) (sf_fc (sf_okb_t zb_h21_n zb_e107_1) sf_fn))
/-- X9_mixed -/
def zb_m108 : sf_M := (4259840, 4820814133992940188890642022838737865851817722113969560224512, zb_h1, zb_h1, [], [73786976299133173759])
def zb_t108_0 : sf_T := (4259840, 4820814133992940188890642022838737865851817722113969560224512, [], zb_h1, [(1000, 0), (1000, 1)], [(0, 1)])
def zb_t108_1 : sf_T := (4259852, 27606985388769193193717405410287975059720275280787484143070805860811520, [], zb_h1, [(1000, 0), (1000, 1), (1000, 2)], [(0, 0)])
def zb_l108 : List sf_T := [zb_t108_0, zb_t108_1]
noncomputable def zb_b108 : en_T := (fun _ => none)
theorem zb_e108_0 : sf_okb (sf_fin 133 zb_h1 [73786976299133173759]) zb_b108 65 3 0 133 36 zb_l108 [1] zb_t108_0 = true := by decide +kernel
theorem zb_e108_1 : sf_okb (sf_fin 133 zb_h1 [73786976299133173759]) zb_b108 65 3 0 133 32 zb_l108 [] zb_t108_1 = true := by decide +kernel
theorem zb_i108 : (zb_m108.1, zb_m108.2.1, ([] : List Nat), zb_m108.2.2.1, [(1000, 0), (1000, 1)], [(0, 1)]) ∈ zb_l108 := List.mem_cons_self
theorem zb_k108 (hS : ∀ ρ, en_SA E ρ ω mt_SB) (hX : sf_JX J) (hM : sf_MnB E ω J) : sf_Kok E ω J 3 0 133 zb_m108 := sf_K_of hS sf_TS_n (sf_nL (by decide +kernel)) rfl zb_h1_n zb_h1_n (by decide +kernel) (by decide +kernel) (by decide +kernel) zb_i108 (sf_fc (sf_okb_t zb_h1_n zb_e108_0) (sf_fc (sf_okb_t zb_h1_n zb_e108_1) sf_fn))
def zb_h22 : en_H := (((((((0, 0), 0), 0), ((0, 0), (0, 0))), ((((((0, (0, 0)), 0), 0), ((((0, 0), (0, (0, 0))), (((0, 0), 0), (0, (0, (0, 0))))), 0)), ((0, 0), 0)), (0, ((((0, 0), ((0, 0), ((0, 0), 0))), (((0, (0, 0)), ((0, 0), (0, 0))), (((0, 0), (0, 0)), ((0, 0), (0, 0))))), (((((0, 0), (0, 0)), ((0, 0), (0, 0))), (((0, 0), (0, 0)), ((0, 0), (0, 0)))), ((((0, 0), (0, 0)), ((0, 0), (0, (0, 0)))), ((((0, 0), (0, 0)), ((0, 0), 0)), (0, (0, (0, 0)))))))))), zb_r3), ((((((0, 0), 0), (0, (0, 0))), (0, 0)), 0), ((((((((0, 0), 0), (0, 0)), (0, (0, 0))), 0), (0, (((0, 0), (0, 0)), ((0, 0), (0, 0))))), 0), (((0, 0), 0), (0, ((0, ((0, 0), (0, 0))), (((0, 0), (0, 0)), ((0, 0), ((0, 0), (0, 0))))))))))
theorem zb_h22_n : sf_nlh zb_h22 136 = true := by decide +kernel
/-- X9_lotOf -/
def zb_m109 : sf_M := (4063232, 803469022597175661722314497865227812545534720987231795806976, zb_h22, zb_h22, [88], [2147483648])
def zb_t109_0 : sf_T := (4063232, 803469022597175661722314497865227812545534720987231795806976, [], zb_h22, [(1000, 1)], [(0, 0)])
def zb_l109 : List sf_T := [zb_t109_0]
noncomputable def zb_b109 : en_T := (sf_tc 4259840 (sf_call 133 [(3, 0, zb_m108)]) (fun _ => none))
theorem zb_e109_0 : sf_okb (sf_fin 133 zb_h22 [2147483648]) zb_b109 62 3 1 133 42 zb_l109 [] zb_t109_0 = true := by decide +kernel
theorem zb_i109 : (zb_m109.1, zb_m109.2.1, ([] : List Nat), zb_m109.2.2.1, [(1000, 1)], [(0, 0)]) ∈ zb_l109 := List.mem_cons_self
theorem zb_k109 (hS : ∀ ρ, en_SA E ρ ω mt_SB) (hX : sf_JX J) (hM : sf_MnB E ω J) : sf_Kok E ω J 3 1 133 zb_m109 := sf_K_of hS (sf_TS_k (q := 4259840) (nx := 133) (l := [(3, 0, zb_m108)]) hX (sf_fc ⟨(rfl : zb_m108.1 = 4259840), (zb_k108 hS hX hM)⟩ sf_fn) sf_TS_n) (sf_nL (by decide +kernel)) rfl zb_h22_n zb_h22_n (by decide +kernel) (by decide +kernel) (by decide +kernel) zb_i109 (sf_fc (sf_okb_t zb_h22_n zb_e109_0) sf_fn)
def zb_h23 : en_H := (((((((0, 0), 0), 0), ((0, 0), (0, 0))), ((((((0, (0, 0)), 0), 0), ((((0, 0), (0, (0, 0))), (((0, 0), 0), (0, (0, (0, 0))))), 0)), ((0, 0), 0)), (0, ((((0, 0), ((0, 0), ((0, 0), 0))), (((0, (0, 0)), ((0, 0), (0, 0))), (((0, 0), (0, 0)), ((0, 0), (0, 0))))), (((((0, 0), (0, 0)), ((0, 0), (0, 0))), (((0, 0), (0, 0)), ((0, 0), (0, 0)))), ((((0, 0), (0, 0)), ((0, 0), (0, (0, 0)))), ((((0, 0), (0, 0)), ((0, 0), 0)), (0, (0, (0, 0)))))))))), zb_r3), ((((((0, 0), 0), (0, (0, 0))), (0, 0)), zb_r13), ((((((((0, 0), 0), (0, 0)), (0, (0, 0))), 0), (0, (((0, 0), (0, 0)), ((0, 0), (0, 0))))), 0), (((0, 0), zb_r6), (0, ((0, ((0, 0), (0, 0))), (((0, 0), (0, 0)), ((0, 0), ((0, 0), (0, 0))))))))))
theorem zb_h23_n : sf_nlh zb_h23 136 = true := by decide +kernel
/-- X9_draws -/
def zb_m110 : sf_M := (1376256, 123947994177030503561028935099706623557518250061135463897282557975803962110383049130439092092551177853747785101008342877696, zb_h23, zb_h23, [88, 97, 119], [])
def zb_t110_0 : sf_T := (1376256, 123947994177030503561028935099706623557518250061135463897282557975803962110383049130439092092551177853747785101008342877696, [], zb_h23, [], [(0, 2)])
def zb_t110_1 : sf_T := (1376363, 123947994177030503560678974983643563922753408661661637684116613383837180409436626929579451405937858784192660378093910754816, [], zb_h23, [], [(0, 1)])
def zb_t110_2 : sf_T := (1376436, 20657999024695268717317345399217151376217803556100310009904804550960083696430775487074181660039444459007813242912159827456, [], zb_h23, [], [(0, 0)])
def zb_l110 : List sf_T := [zb_t110_0, zb_t110_1, zb_t110_2]
noncomputable def zb_b110 : en_T := (sf_tc 4063232 (sf_call 133 [(3, 1, zb_m109)]) (sf_tc 1376363 (sf_spl 6 (1000, 4) [2147483649, 2147483650, 2147483651, 2147483652, 2147483653]) (fun _ => none)))
theorem zb_e110_0 : sf_okb (sf_fin 133 zb_h23 []) zb_b110 21 6 2 133 150 zb_l110 [1] zb_t110_0 = true := by decide +kernel
theorem zb_e110_1 : sf_okb (sf_fin 133 zb_h23 []) zb_b110 21 6 2 133 182 zb_l110 [2] zb_t110_1 = true := by decide +kernel
theorem zb_e110_2 : sf_okb (sf_fin 133 zb_h23 []) zb_b110 21 6 2 133 108 zb_l110 [] zb_t110_2 = true := by decide +kernel
theorem zb_i110 : (zb_m110.1, zb_m110.2.1, ([] : List Nat), zb_m110.2.2.1, [], [(0, 2)]) ∈ zb_l110 := List.mem_cons_self
theorem zb_k110 (hS : ∀ ρ, en_SA E ρ ω mt_SB) (hX : sf_JX J) (hM : sf_MnB E ω J) : sf_Kok E ω J 6 2 133 zb_m110 := sf_K_of hS (sf_TS_k (q := 4063232) (nx := 133) (l := [(3, 1, zb_m109)]) hX (sf_fc ⟨(rfl : zb_m109.1 = 4063232), (zb_k109 hS hX hM)⟩ sf_fn) (sf_TS_s (sf_nL (by decide +kernel)) sf_TS_n)) (sf_nL (by decide +kernel)) rfl zb_h23_n zb_h23_n (by decide +kernel) (by decide +kernel) (by decide +kernel) zb_i110 (sf_fc (sf_okb_t zb_h23_n zb_e110_0) (sf_fc (sf_okb_t zb_h23_n zb_e110_1) (sf_fc (sf_okb_t zb_h23_n zb_e110_2) sf_fn)))
/-- X9_mixed -/
def zb_m111 : sf_M := (4259840, 4820814133992940188890642022838737865851817722113969560224512, zb_h1, zb_h1, [], [73786976299133173759])
def zb_t111_0 : sf_T := (4259840, 4820814133992940188890642022838737865851817722113969560224512, [], zb_h1, [(1000, 0), (1000, 1)], [(0, 1)])
def zb_t111_1 : sf_T := (4259852, 27606985388769193193717405410287975059720275280787484143070805860811520, [], zb_h1, [(1000, 0), (1000, 1), (1000, 2)], [(0, 0)])
def zb_l111 : List sf_T := [zb_t111_0, zb_t111_1]
noncomputable def zb_b111 : en_T := (fun _ => none)
theorem zb_e111_0 : sf_okb (sf_fin 133 zb_h1 [73786976299133173759]) zb_b111 65 3 0 133 36 zb_l111 [1] zb_t111_0 = true := by decide +kernel
theorem zb_e111_1 : sf_okb (sf_fin 133 zb_h1 [73786976299133173759]) zb_b111 65 3 0 133 32 zb_l111 [] zb_t111_1 = true := by decide +kernel
theorem zb_i111 : (zb_m111.1, zb_m111.2.1, ([] : List Nat), zb_m111.2.2.1, [(1000, 0), (1000, 1)], [(0, 1)]) ∈ zb_l111 := List.mem_cons_self
theorem zb_k111 (hS : ∀ ρ, en_SA E ρ ω mt_SB) (hX : sf_JX J) (hM : sf_MnB E ω J) : sf_Kok E ω J 3 0 133 zb_m111 := sf_K_of hS sf_TS_n (sf_nL (by decide +kernel)) rfl zb_h1_n zb_h1_n (by decide +kernel) (by decide +kernel) (by decide +kernel) zb_i111 (sf_fc (sf_okb_t zb_h1_n zb_e111_0) (sf_fc (sf_okb_t zb_h1_n zb_e111_1) sf_fn))
/-- X9_lotOf -/
def zb_m112 : sf_M := (4063232, 803469024093753338349159086105801081247008533114906719814400, zb_h22, zb_h22, [88], [83010348333840465924])
def zb_t112_0 : sf_T := (4063232, 803469024093753338349159086105801081247008533114906719814400, [], zb_h22, [(1000, 1)], [(0, 0)])
def zb_l112 : List sf_T := [zb_t112_0]
noncomputable def zb_b112 : en_T := (sf_tc 4259840 (sf_call 133 [(3, 0, zb_m111)]) (fun _ => none))
theorem zb_e112_0 : sf_okb (sf_fin 133 zb_h22 [83010348333840465924]) zb_b112 62 3 1 133 42 zb_l112 [] zb_t112_0 = true := by decide +kernel
theorem zb_i112 : (zb_m112.1, zb_m112.2.1, ([] : List Nat), zb_m112.2.2.1, [(1000, 1)], [(0, 0)]) ∈ zb_l112 := List.mem_cons_self
theorem zb_k112 (hS : ∀ ρ, en_SA E ρ ω mt_SB) (hX : sf_JX J) (hM : sf_MnB E ω J) : sf_Kok E ω J 3 1 133 zb_m112 := sf_K_of hS (sf_TS_k (q := 4259840) (nx := 133) (l := [(3, 0, zb_m111)]) hX (sf_fc ⟨(rfl : zb_m111.1 = 4259840), (zb_k111 hS hX hM)⟩ sf_fn) sf_TS_n) (sf_nL (by decide +kernel)) rfl zb_h22_n zb_h22_n (by decide +kernel) (by decide +kernel) (by decide +kernel) zb_i112 (sf_fc (sf_okb_t zb_h22_n zb_e112_0) sf_fn)
/-- X9_lotOf -/
def zb_m113 : sf_M := (4063232, 803469023345464500035736791985514446896271627051069257810688, zb_h22, zb_h22, [88], [83010348333840465922])
def zb_t113_0 : sf_T := (4063232, 803469023345464500035736791985514446896271627051069257810688, [], zb_h22, [(1000, 1)], [(0, 0)])
def zb_l113 : List sf_T := [zb_t113_0]
noncomputable def zb_b113 : en_T := (sf_tc 4259840 (sf_call 133 [(3, 0, zb_m111)]) (fun _ => none))
theorem zb_e113_0 : sf_okb (sf_fin 133 zb_h22 [83010348333840465922]) zb_b113 62 3 1 133 42 zb_l113 [] zb_t113_0 = true := by decide +kernel
theorem zb_i113 : (zb_m113.1, zb_m113.2.1, ([] : List Nat), zb_m113.2.2.1, [(1000, 1)], [(0, 0)]) ∈ zb_l113 := List.mem_cons_self
theorem zb_k113 (hS : ∀ ρ, en_SA E ρ ω mt_SB) (hX : sf_JX J) (hM : sf_MnB E ω J) : sf_Kok E ω J 3 1 133 zb_m113 := sf_K_of hS (sf_TS_k (q := 4259840) (nx := 133) (l := [(3, 0, zb_m111)]) hX (sf_fc ⟨(rfl : zb_m111.1 = 4259840), (zb_k111 hS hX hM)⟩ sf_fn) sf_TS_n) (sf_nL (by decide +kernel)) rfl zb_h22_n zb_h22_n (by decide +kernel) (by decide +kernel) (by decide +kernel) zb_i113 (sf_fc (sf_okb_t zb_h22_n zb_e113_0) sf_fn)
/-- X9_lotOf -/
def zb_m114 : sf_M := (4063232, 803469023719608919192447939045657764071640080082987988812544, zb_h22, zb_h22, [88], [83010348333840465923])
def zb_t114_0 : sf_T := (4063232, 803469023719608919192447939045657764071640080082987988812544, [], zb_h22, [(1000, 1)], [(0, 0)])
def zb_l114 : List sf_T := [zb_t114_0]
noncomputable def zb_b114 : en_T := (sf_tc 4259840 (sf_call 133 [(3, 0, zb_m111)]) (fun _ => none))
theorem zb_e114_0 : sf_okb (sf_fin 133 zb_h22 [83010348333840465923]) zb_b114 62 3 1 133 42 zb_l114 [] zb_t114_0 = true := by decide +kernel
theorem zb_i114 : (zb_m114.1, zb_m114.2.1, ([] : List Nat), zb_m114.2.2.1, [(1000, 1)], [(0, 0)]) ∈ zb_l114 := List.mem_cons_self
theorem zb_k114 (hS : ∀ ρ, en_SA E ρ ω mt_SB) (hX : sf_JX J) (hM : sf_MnB E ω J) : sf_Kok E ω J 3 1 133 zb_m114 := sf_K_of hS (sf_TS_k (q := 4259840) (nx := 133) (l := [(3, 0, zb_m111)]) hX (sf_fc ⟨(rfl : zb_m111.1 = 4259840), (zb_k111 hS hX hM)⟩ sf_fn) sf_TS_n) (sf_nL (by decide +kernel)) rfl zb_h22_n zb_h22_n (by decide +kernel) (by decide +kernel) (by decide +kernel) zb_i114 (sf_fc (sf_okb_t zb_h22_n zb_e114_0) sf_fn)
/-- X9_lotOf -/
def zb_m115 : sf_M := (4063232, 803469024467897757505870233165944398422376986146825450816256, zb_h22, zb_h22, [88], [83010348333840465925])
def zb_t115_0 : sf_T := (4063232, 803469024467897757505870233165944398422376986146825450816256, [], zb_h22, [(1000, 1)], [(0, 0)])
def zb_l115 : List sf_T := [zb_t115_0]
noncomputable def zb_b115 : en_T := (sf_tc 4259840 (sf_call 133 [(3, 0, zb_m111)]) (fun _ => none))
theorem zb_e115_0 : sf_okb (sf_fin 133 zb_h22 [83010348333840465925]) zb_b115 62 3 1 133 42 zb_l115 [] zb_t115_0 = true := by decide +kernel
theorem zb_i115 : (zb_m115.1, zb_m115.2.1, ([] : List Nat), zb_m115.2.2.1, [(1000, 1)], [(0, 0)]) ∈ zb_l115 := List.mem_cons_self
theorem zb_k115 (hS : ∀ ρ, en_SA E ρ ω mt_SB) (hX : sf_JX J) (hM : sf_MnB E ω J) : sf_Kok E ω J 3 1 133 zb_m115 := sf_K_of hS (sf_TS_k (q := 4259840) (nx := 133) (l := [(3, 0, zb_m111)]) hX (sf_fc ⟨(rfl : zb_m111.1 = 4259840), (zb_k111 hS hX hM)⟩ sf_fn) sf_TS_n) (sf_nL (by decide +kernel)) rfl zb_h22_n zb_h22_n (by decide +kernel) (by decide +kernel) (by decide +kernel) zb_i115 (sf_fc (sf_okb_t zb_h22_n zb_e115_0) sf_fn)
end SFP
