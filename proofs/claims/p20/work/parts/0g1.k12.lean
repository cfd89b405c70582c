/-! CONTRACTS, by program (wip/p3/emit.py) -/
section SFP
variable {E : mm_E} {ω : Nat → Value} {J : mm_H → Prop}
def zb_h70 : en_H := (((((((0, 0), 0), 0), ((0, 0), (0, 0))), ((((((0, (0, 0)), 0), 0), ((((0, 0), (0, (0, 0))), (((0, 0), 0), (0, (0, (0, 0))))), 0)), ((0, 0), 0)), (0, ((((0, 0), ((0, 0), ((0, 0), 0))), (((0, (0, 0)), ((0, 0), (0, 0))), (((0, 0), (0, 0)), ((0, 0), (0, 0))))), (((((0, 0), (0, 0)), ((0, 0), (0, 0))), (((0, 0), (0, 0)), ((0, 0), (0, 0)))), ((((0, 0), (0, 0)), ((0, 0), (0, (0, 0)))), ((((0, 0), (0, 0)), ((0, 0), 0)), (0, (0, (0, 0)))))))))), zb_r4), ((((((0, 0), 0), (0, (0, 0))), (0, 0)), 0), ((((((((0, 0), 0), (0, 0)), (0, (0, 0))), 0), (0, (((0, 0), (0, 0)), ((0, 0), (0, 0))))), zb_r1), (((0, 0), zb_r6), (0, ((0, ((0, 0), (0, 0))), (((0, 0), (0, 0)), ((0, 0), ((0, 0), (0, 0))))))))))
theorem zb_h70_n : sf_nlh zb_h70 136 = true := by decide +kernel
/-- X9_looks -/
def zb_m236 : sf_M := (3997696, 16333553616007998046963562849740359991808, zb_h70, zb_h70, [88, 116, 119], [])
def zb_t236_0 : sf_T := (3997696, 16333553616007998046963562849740359991808, [], zb_h70, [], [(0, 1)])
def zb_t236_1 : sf_T := (3997698, 105228117901436304798911701896198319814493576626688, [], zb_h70, [(1000, 1)], [(0, 0), (1, 0), (0, 0)])
def zb_l236 : List sf_T := [zb_t236_0, zb_t236_1]
noncomputable def zb_b236 : en_T := (fun _ => none)
theorem zb_e236_0 : sf_okb (sf_fin 133 zb_h70 []) zb_b236 61 2 0 133 24 zb_l236 [1] zb_t236_0 = true := by decide +kernel
theorem zb_e236_1 : sf_okb (sf_fin 133 zb_h70 []) zb_b236 61 2 0 133 74 zb_l236 [1] zb_t236_1 = true := by decide +kernel
theorem zb_i236 : (zb_m236.1, zb_m236.2.1, ([] : List Nat), zb_m236.2.2.1, [], [(0, 1)]) ∈ zb_l236 := List.mem_cons_self
theorem zb_k236 (hS : ∀ ρ, en_SA E ρ ω mt_SB) (hX : sf_JX J) (hM : sf_MnB E ω J) : sf_Kok E ω J 2 0 133 zb_m236 := sf_K_of hS sf_TS_n (sf_nL (by decide +kernel)) rfl zb_h70_n zb_h70_n (by decide +kernel) (by decide +kernel) (by decide +kernel) zb_i236 (sf_fc (sf_okb_t zb_h70_n zb_e236_0) (sf_fc (sf_okb_t zb_h70_n zb_e236_1) sf_fn))
def zb_h71 : en_H := (((((((0, 0), 0), 0), ((0, 0), (0, 0))), ((((((0, (0, 0)), 0), 0), ((((0, 0), (0, (0, 0))), (((0, 0), 0), (0, (0, (0, 0))))), 0)), ((0, 0), 0)), (0, ((((0, 0), ((0, 0), ((0, 0), 0))), (((0, (0, 0)), ((0, 0), (0, 0))), (((0, 0), (0, 0)), ((0, 0), (0, 0))))), (((((0, 0), (0, 0)), ((0, 0), (0, 0))), (((0, 0), (0, 0)), ((0, 0), (0, 0)))), ((((0, 0), (0, 0)), ((0, 0), (0, (0, 0)))), ((((0, 0), (0, 0)), ((0, 0), 0)), (0, (0, (0, 0)))))))))), zb_r4), ((((((0, 0), 0), (0, (0, 0))), (0, 0)), 0), ((((((((0, 0), 0), (0, 0)), (0, (0, 0))), 0), (0, (((0, 0), (0, 0)), ((0, 0), (0, 0))))), zb_r1), (((zb_r2, 0), zb_r6), (0, ((0, ((0, 0), (0, 0))), (((0, 0), (0, 0)), ((0, 0), ((0, 0), (0, 0))))))))))
theorem zb_h71_n : sf_nlh zb_h71 136 = true := by decide +kernel
/-- X9_windNow -/
def zb_m237 : sf_M := (7208960, 36893488525376225536, zb_h71, zb_h71, [88, 116, 117, 119], [83010348333840465929])
def zb_t237_0 : sf_T := (7208960, 36893488525376225536, [], zb_h71, [], [(0, 0)])
def zb_l237 : List sf_T := [zb_t237_0]
noncomputable def zb_b237 : en_T := (sf_tc 3997696 (sf_call 133 [(2, 0, zb_m236)]) (sf_tc 196608 (sf_call 133 [(6, 4, zb_m83)]) (fun _ => none)))
theorem zb_e237_0 : sf_okb (sf_fin 133 zb_h71 [83010348333840465929]) zb_b237 110 1 5 133 38 zb_l237 [] zb_t237_0 = true := by decide +kernel
theorem zb_i237 : (zb_m237.1, zb_m237.2.1, ([] : List Nat), zb_m237.2.2.1, [], [(0, 0)]) ∈ zb_l237 := List.mem_cons_self
theorem zb_k237 (hS : ∀ ρ, en_SA E ρ ω mt_SB) (hX : sf_JX J) (hM : sf_MnB E ω J) : sf_Kok E ω J 1 5 133 zb_m237 := sf_K_of hS (sf_TS_k (q := 3997696) (nx := 133) (l := [(2, 0, zb_m236)]) hX (sf_fc ⟨(rfl : zb_m236.1 = 3997696), (zb_k236 hS hX hM)⟩ sf_fn) (sf_TS_k (q := 196608) (nx := 133) (l := [(6, 4, zb_m83)]) hX (sf_fc ⟨(rfl : zb_m83.1 = 196608), (hM _ (List.mem_of_getElem? (i := 83) rfl))⟩ sf_fn) sf_TS_n)) (sf_nL (by decide +kernel)) rfl zb_h71_n zb_h71_n (by decide +kernel) (by decide +kernel) (by decide +kernel) zb_i237 (sf_fc (sf_okb_t zb_h71_n zb_e237_0) sf_fn)
/-- X9_dangerNow -/
def zb_m238 : sf_M := (1310720, 36893488525376225536, zb_h71, zb_h71, [88, 116, 117, 119], [83010348333840465929])
def zb_t238_0 : sf_T := (1310720, 36893488525376225536, [], zb_h71, [], [(0, 0)])
def zb_l238 : List sf_T := [zb_t238_0]
noncomputable def zb_b238 : en_T := (sf_tc 3997696 (sf_call 133 [(2, 0, zb_m236)]) (sf_tc 196608 (sf_call 133 [(6, 4, zb_m83)]) (fun _ => none)))
theorem zb_e238_0 : sf_okb (sf_fin 133 zb_h71 [83010348333840465929]) zb_b238 20 1 5 133 38 zb_l238 [] zb_t238_0 = true := by decide +kernel
theorem zb_i238 : (zb_m238.1, zb_m238.2.1, ([] : List Nat), zb_m238.2.2.1, [], [(0, 0)]) ∈ zb_l238 := List.mem_cons_self
theorem zb_k238 (hS : ∀ ρ, en_SA E ρ ω mt_SB) (hX : sf_JX J) (hM : sf_MnB E ω J) : sf_Kok E ω J 1 5 133 zb_m238 := sf_K_of hS (sf_TS_k (q := 3997696) (nx := 133) (l := [(2, 0, zb_m236)]) hX (sf_fc ⟨(rfl : zb_m236.1 = 3997696), (zb_k236 hS hX hM)⟩ sf_fn) (sf_TS_k (q := 196608) (nx := 133) (l := [(6, 4, zb_m83)]) hX (sf_fc ⟨(rfl : zb_m83.1 = 196608), (hM _ (List.mem_of_getElem? (i := 83) rfl))⟩ sf_fn) sf_TS_n)) (sf_nL (by decide +kernel)) rfl zb_h71_n zb_h71_n (by decide +kernel) (by decide +kernel) (by decide +kernel) zb_i238 (sf_fc (sf_okb_t zb_h71_n zb_e238_0) sf_fn)
/-- X9_weathers -/
def zb_m239 : sf_M := (7077888, 36893488525376225536, zb_h71, zb_h71, [88, 116, 117, 119], [])
def zb_t239_0 : sf_T := (7077888, 36893488525376225536, [], zb_h71, [], [(0, 0)])
def zb_l239 : List sf_T := [zb_t239_0]
noncomputable def zb_b239 : en_T := (sf_tc 1310720 (sf_call 133 [(1, 5, zb_m238)]) (sf_tc 7208960 (sf_call 133 [(1, 5, zb_m237)]) (fun _ => none)))
theorem zb_e239_0 : sf_okb (sf_fin 133 zb_h71 []) zb_b239 108 1 6 133 38 zb_l239 [] zb_t239_0 = true := by decide +kernel
theorem zb_i239 : (zb_m239.1, zb_m239.2.1, ([] : List Nat), zb_m239.2.2.1, [], [(0, 0)]) ∈ zb_l239 := List.mem_cons_self
theorem zb_k239 (hS : ∀ ρ, en_SA E ρ ω mt_SB) (hX : sf_JX J) (hM : sf_MnB E ω J) : sf_Kok E ω J 1 6 133 zb_m239 := sf_K_of hS (sf_TS_k (q := 1310720) (nx := 133) (l := [(1, 5, zb_m238)]) hX (sf_fc ⟨(rfl : zb_m238.1 = 1310720), (zb_k238 hS hX hM)⟩ sf_fn) (sf_TS_k (q := 7208960) (nx := 133) (l := [(1, 5, zb_m237)]) hX (sf_fc ⟨(rfl : zb_m237.1 = 7208960), (zb_k237 hS hX hM)⟩ sf_fn) sf_TS_n)) (sf_nL (by decide +kernel)) rfl zb_h71_n zb_h71_n (by decide +kernel) (by decide +kernel) (by decide +kernel) zb_i239 (sf_fc (sf_okb_t zb_h71_n zb_e239_0) sf_fn)
/-- X9_at -/
def zb_m240 : sf_M := (262144, 4820814133899404084098741977142177094732201209008097975075584, zb_h1, zb_h1, [], [83010348325250531333])
def zb_t240_0 : sf_T := (262144, 4820814133899404084098741977142177094732201209008097975075584, [], zb_h1, [(1000, 0)], [(0, 1)])
def zb_t240_1 : sf_T := (262156, 31057858561361006067830763032960584723499690914719538581878231086924544, [], zb_h1, [(1000, 0), (1000, 2)], [(0, 0)])
def zb_l240 : List sf_T := [zb_t240_0, zb_t240_1]
noncomputable def zb_b240 : en_T := (fun _ => none)
theorem zb_e240_0 : sf_okb (sf_fin 133 zb_h1 [83010348325250531333]) zb_b240 4 3 1 133 74 zb_l240 [1] zb_t240_0 = true := by decide +kernel
theorem zb_e240_1 : sf_okb (sf_fin 133 zb_h1 [83010348325250531333]) zb_b240 4 3 1 133 36 zb_l240 [] zb_t240_1 = true := by decide +kernel
theorem zb_i240 : (zb_m240.1, zb_m240.2.1, ([] : List Nat), zb_m240.2.2.1, [(1000, 0)], [(0, 1)]) ∈ zb_l240 := List.mem_cons_self
theorem zb_k240 (hS : ∀ ρ, en_SA E ρ ω mt_SB) (hX : sf_JX J) (hM : sf_MnB E ω J) : sf_Kok E ω J 3 1 133 zb_m240 := sf_K_of hS sf_TS_n (sf_nL (by decide +kernel)) rfl zb_h1_n zb_h1_n (by decide +kernel) (by decide +kernel) (by decide +kernel) zb_i240 (sf_fc (sf_okb_t zb_h1_n zb_e240_0) (sf_fc (sf_okb_t zb_h1_n zb_e240_1) sf_fn))
/-- X9_at -/
def zb_m241 : sf_M := (262144, 4820814133899404084098741977143444745332429438409594678280960, zb_h1, zb_h1, [], [83010348325250531333])
def zb_t241_0 : sf_T := (262144, 4820814133899404084098741977143444745332429438409594678280960, [], zb_h1, [(1000, 0)], [(0, 1)])
def zb_t241_1 : sf_T := (262156, 31057858561361006067830763032960584723500958565319766811279727790129920, [], zb_h1, [(1000, 0), (1000, 2)], [(0, 0)])
def zb_l241 : List sf_T := [zb_t241_0, zb_t241_1]
noncomputable def zb_b241 : en_T := (fun _ => none)
theorem zb_e241_0 : sf_okb (sf_fin 133 zb_h1 [83010348325250531333]) zb_b241 4 3 1 133 56 zb_l241 [1] zb_t241_0 = true := by decide +kernel
theorem zb_e241_1 : sf_okb (sf_fin 133 zb_h1 [83010348325250531333]) zb_b241 4 3 1 133 36 zb_l241 [] zb_t241_1 = true := by decide +kernel
theorem zb_i241 : (zb_m241.1, zb_m241.2.1, ([] : List Nat), zb_m241.2.2.1, [(1000, 0)], [(0, 1)]) ∈ zb_l241 := List.mem_cons_self
theorem zb_k241 (hS : ∀ ρ, en_SA E ρ ω mt_SB) (hX : sf_JX J) (hM : sf_MnB E ω J) : sf_Kok E ω J 3 1 133 zb_m241 := sf_K_of hS sf_TS_n (sf_nL (by decide +kernel)) rfl zb_h1_n zb_h1_n (by decide +kernel) (by decide +kernel) (by decide +kernel) zb_i241 (sf_fc (sf_okb_t zb_h1_n zb_e241_0) (sf_fc (sf_okb_t zb_h1_n zb_e241_1) sf_fn))
/-- X9_at -/
def zb_m242 : sf_M := (262144, 4820814133899404084098741977140909444131972979606601271870208, zb_h1, zb_h1, [], [83010348325250531333])
def zb_t242_0 : sf_T := (262144, 4820814133899404084098741977140909444131972979606601271870208, [], zb_h1, [(1000, 0)], [(0, 1)])
def zb_t242_1 : sf_T := (262156, 31057858561361006067830763032960584723498423264119310352476734383719168, [], zb_h1, [(1000, 0), (1000, 2)], [(0, 0)])
def zb_l242 : List sf_T := [zb_t242_0, zb_t242_1]
noncomputable def zb_b242 : en_T := (fun _ => none)
theorem zb_e242_0 : sf_okb (sf_fin 133 zb_h1 [83010348325250531333]) zb_b242 4 3 1 133 92 zb_l242 [1] zb_t242_0 = true := by decide +kernel
theorem zb_e242_1 : sf_okb (sf_fin 133 zb_h1 [83010348325250531333]) zb_b242 4 3 1 133 36 zb_l242 [] zb_t242_1 = true := by decide +kernel
theorem zb_i242 : (zb_m242.1, zb_m242.2.1, ([] : List Nat), zb_m242.2.2.1, [(1000, 0)], [(0, 1)]) ∈ zb_l242 := List.mem_cons_self
theorem zb_k242 (hS : ∀ ρ, en_SA E ρ ω mt_SB) (hX : sf_JX J) (hM : sf_MnB E ω J) : sf_Kok E ω J 3 1 133 zb_m242 := sf_K_of hS sf_TS_n (sf_nL (by decide +kernel)) rfl zb_h1_n zb_h1_n (by decide +kernel) (by decide +kernel) (by decide +kernel) zb_i242 (sf_fc (sf_okb_t zb_h1_n zb_e242_0) (sf_fc (sf_okb_t zb_h1_n zb_e242_1) sf_fn))
def zb_h72 : en_H := (((((((0, 0), 0), 0), ((0, 0), (0, 0))), ((((((0, (0, 0)), 0), 0), ((((0, 0), (0, (0, 0))), (((0, 0), 0), (0, (0, (0, 0))))), 0)), ((0, 0), 0)), (0, ((((0, 0), ((0, 0), ((0, 0), 0))), (((0, (0, 0)), ((0, 0), (0, 0))), (((0, 0), (0, 0)), ((0, 0), (0, 0))))), (((((0, 0), (0, 0)), ((0, 0), (0, 0))), (((0, 0), (0, 0)), ((0, 0), (0, 0)))), ((((0, 0), (0, 0)), ((0, 0), (0, (0, 0)))), ((((0, 0), (0, 0)), ((0, 0), 0)), (0, (0, (0, 0)))))))))), zb_r4), ((((((0, 0), 0), (0, (0, 0))), (0, 0)), 0), ((((((((zb_r7, 0), 0), (0, 0)), (0, (0, 0))), 0), (0, (((0, 0), (0, 0)), ((0, 0), (0, 0))))), 0), (((0, 0), 0), (0, ((0, ((0, 0), (0, 0))), (((0, 0), (0, 0)), ((0, 0), ((0, 0), (0, 0))))))))))
theorem zb_h72_n : sf_nlh zb_h72 136 = true := by decide +kernel
/-- X9_skillAt -/
def zb_m243 : sf_M := (5898240, 31057858561361006066813557893367387256691902665387575781551385216025344, zb_h72, zb_h72, [88, 98], [73786976299133173759])
def zb_t243_0 : sf_T := (5898240, 31057858561361006066813557893367387256691902665387575781551385216025344, [], zb_h72, [(1000, 1), (1000, 2)], [(0, 0)])
def zb_l243 : List sf_T := [zb_t243_0]
noncomputable def zb_b243 : en_T := (fun _ => none)
theorem zb_e243_0 : sf_okb (sf_fin 133 zb_h72 [73786976299133173759]) zb_b243 90 3 0 133 58 zb_l243 [] zb_t243_0 = true := by decide +kernel
theorem zb_i243 : (zb_m243.1, zb_m243.2.1, ([] : List Nat), zb_m243.2.2.1, [(1000, 1), (1000, 2)], [(0, 0)]) ∈ zb_l243 := List.mem_cons_self
theorem zb_k243 (hS : ∀ ρ, en_SA E ρ ω mt_SB) (hX : sf_JX J) (hM : sf_MnB E ω J) : sf_Kok E ω J 3 0 133 zb_m243 := sf_K_of hS sf_TS_n (sf_nL (by decide +kernel)) rfl zb_h72_n zb_h72_n (by decide +kernel) (by decide +kernel) (by decide +kernel) zb_i243 (sf_fc (sf_okb_t zb_h72_n zb_e243_0) sf_fn)
def zb_h73 : en_H := (((((((0, 0), 0), 0), ((0, 0), (0, 0))), ((((((0, (0, 0)), 0), 0), ((((0, 0), (0, (0, 0))), (((0, 0), 0), (0, (0, (0, 0))))), 0)), ((0, 0), 0)), (0, ((((0, 0), ((0, 0), ((0, 0), 0))), (((0, (0, 0)), ((0, 0), (0, 0))), (((0, 0), (0, 0)), ((0, 0), (0, 0))))), (((((0, 0), (0, 0)), ((0, 0), (0, 0))), (((0, 0), (0, 0)), ((0, 0), (0, 0)))), ((((0, 0), (0, 0)), ((0, 0), (0, (0, 0)))), ((((0, 0), (0, 0)), ((0, 0), 0)), (0, (0, (0, 0)))))))))), zb_r4), ((((((0, 0), 0), (0, (0, 0))), (0, 0)), 0), ((((((((zb_r7, 0), 0), (0, 0)), (0, (0, 0))), 0), (0, (((0, 0), (0, 0)), ((0, 0), (0, 0))))), zb_r1), (((zb_r2, 0), zb_r6), (0, ((0, ((0, 0), (0, 0))), (((0, 0), (0, 0)), ((0, 0), ((0, 0), (0, 0))))))))))
theorem zb_h73_n : sf_nlh zb_h73 136 = true := by decide +kernel
/-- X9_ordersOf -/
def zb_m244 : sf_M := (4587520, 4820814134004632201975677951514818796926343767777008297181952, zb_h73, zb_h73, [88, 98, 116, 117, 119], [83010348333840465923])
def zb_t244_0 : sf_T := (4587520, 4820814134004632201975677951514818796926343767777008297181952, [], zb_h73, [(1000, 1), (88, 51), (88, 52)], [(0, 1)])
def zb_t244_1 : sf_T := (4587571, 27606985390376131237988087698914973080737518814384213182516637433070336, [], zb_h73, [(1000, 1), (1000, 2), (88, 51), (88, 52)], [(0, 0)])
def zb_l244 : List sf_T := [zb_t244_0, zb_t244_1]
noncomputable def zb_b244 : en_T := (sf_tc 5898240 (sf_call 133 [(3, 0, zb_m243)]) (sf_tc 3997696 (sf_call 133 [(2, 0, zb_m236)]) (sf_tc 196608 (sf_call 133 [(6, 4, zb_m87)]) (fun _ => none))))
theorem zb_e244_0 : sf_okb (sf_fin 133 zb_h73 [83010348333840465923]) zb_b244 70 3 5 133 78 zb_l244 [1] zb_t244_0 = true := by decide +kernel
theorem zb_e244_1 : sf_okb (sf_fin 133 zb_h73 [83010348333840465923]) zb_b244 70 3 5 133 38 zb_l244 [] zb_t244_1 = true := by decide +kernel
theorem zb_i244 : (zb_m244.1, zb_m244.2.1, ([] : List Nat), zb_m244.2.2.1, [(1000, 1), (88, 51), (88, 52)], [(0, 1)]) ∈ zb_l244 := List.mem_cons_self
theorem zb_k244 (hS : ∀ ρ, en_SA E ρ ω mt_SB) (hX : sf_JX J) (hM : sf_MnB E ω J) : sf_Kok E ω J 3 5 133 zb_m244 := sf_K_of hS (sf_TS_k (q := 5898240) (nx := 133) (l := [(3, 0, zb_m243)]) hX (sf_fc ⟨(rfl : zb_m243.1 = 5898240), (zb_k243 hS hX hM)⟩ sf_fn) (sf_TS_k (q := 3997696) (nx := 133) (l := [(2, 0, zb_m236)]) hX (sf_fc ⟨(rfl : zb_m236.1 = 3997696), (zb_k236 hS hX hM)⟩ sf_fn) (sf_TS_k (q := 196608) (nx := 133) (l := [(6, 4, zb_m87)]) hX (sf_fc ⟨(rfl : zb_m87.1 = 196608), (hM _ (List.mem_of_getElem? (i := 87) rfl))⟩ sf_fn) sf_TS_n))) (sf_nL (by decide +kernel)) rfl zb_h73_n zb_h73_n (by decide +kernel) (by decide +kernel) (by decide +kernel) zb_i244 (sf_fc (sf_okb_t zb_h73_n zb_e244_0) (sf_fc (sf_okb_t zb_h73_n zb_e244_1) sf_fn))
/-- X9_at -/
def zb_m245 : sf_M := (262144, 4820814133899404084098741977139641793531744750205104568664832, zb_h1, zb_h1, [], [83010348325250531333])
def zb_t245_0 : sf_T := (262144, 4820814133899404084098741977139641793531744750205104568664832, [], zb_h1, [(1000, 0)], [(0, 1)])
def zb_t245_1 : sf_T := (262156, 31057858561361006067830763032960584723497155613519082123075237680513792, [], zb_h1, [(1000, 0), (1000, 2)], [(0, 0)])
def zb_l245 : List sf_T := [zb_t245_0, zb_t245_1]
noncomputable def zb_b245 : en_T := (fun _ => none)
theorem zb_e245_0 : sf_okb (sf_fin 133 zb_h1 [83010348325250531333]) zb_b245 4 3 1 133 110 zb_l245 [1] zb_t245_0 = true := by decide +kernel
theorem zb_e245_1 : sf_okb (sf_fin 133 zb_h1 [83010348325250531333]) zb_b245 4 3 1 133 36 zb_l245 [] zb_t245_1 = true := by decide +kernel
theorem zb_i245 : (zb_m245.1, zb_m245.2.1, ([] : List Nat), zb_m245.2.2.1, [(1000, 0)], [(0, 1)]) ∈ zb_l245 := List.mem_cons_self
theorem zb_k245 (hS : ∀ ρ, en_SA E ρ ω mt_SB) (hX : sf_JX J) (hM : sf_MnB E ω J) : sf_Kok E ω J 3 1 133 zb_m245 := sf_K_of hS sf_TS_n (sf_nL (by decide +kernel)) rfl zb_h1_n zb_h1_n (by decide +kernel) (by decide +kernel) (by decide +kernel) zb_i245 (sf_fc (sf_okb_t zb_h1_n zb_e245_0) (sf_fc (sf_okb_t zb_h1_n zb_e245_1) sf_fn))
def zb_h74 : en_H := (((((((0, 0), 0), 0), ((0, 0), (0, 0))), ((((((0, (0, 0)), 0), 0), ((((0, 0), (0, (0, 0))), (((0, 0), 0), (0, (0, (0, 0))))), 0)), ((0, 0), 0)), (0, ((((0, 0), ((0, 0), ((0, 0), 0))), (((0, (0, 0)), ((0, 0), (0, 0))), (((0, 0), (0, 0)), ((0, 0), (0, 0))))), (((((0, 0), (0, 0)), ((0, 0), (0, 0))), (((0, 0), (0, 0)), ((0, 0), (0, 0)))), ((((0, 0), (0, 0)), ((0, 0), (0, (0, 0)))), ((((0, 0), (0, 0)), ((0, 0), 0)), (0, (0, (0, 0)))))))))), zb_r4), ((((((0, 0), 0), (0, (0, 0))), (0, 0)), 0), ((((((((zb_r7, 0), 0), (0, 0)), (0, (0, 0))), 0), (0, (((0, 0), (0, 0)), ((0, 0), (0, 0))))), zb_r1), (((zb_r2, 0), zb_r6), (zb_r12, ((0, ((0, 0), (0, 0))), (((0, 0), (0, 0)), ((0, 0), ((0, 0), (0, 0))))))))))
theorem zb_h74_n : sf_nlh zb_h74 136 = true := by decide +kernel
/-- X9_fillsDoing -/
def zb_m246 : sf_M := (1966080, 36582990833331704133769688463878398985241663423791010922004235441607090117855687356087714591454335370296807506695615263104760996201528637261568, zb_h74, zb_h74, [88, 98, 116, 117, 119, 120], [])
def zb_t246_0 : sf_T := (1966080, 36582990833331704133769688463878398985241663423791010922004235441607090117855687356087714591454335370296807506695615263104760996201528637261568, [], zb_h74, [(1000, 1), (1000, 2), (1000, 3), (1000, 4), (1000, 5), (88, 51), (88, 52)], [(0, 1)])
def zb_t246_1 : sf_T := (1966088, 209496998917547409953475300355948448183151193670086816111875925103330289972534760558658065480983846666955816962371948440012616040572829811408636523579136, [], zb_h74, [(1000, 1), (1000, 2), (1000, 3), (1000, 4), (1000, 5), (1000, 6), (88, 51), (88, 52)], [(0, 0)])
def zb_l246 : List sf_T := [zb_t246_0, zb_t246_1]
noncomputable def zb_b246 : en_T := (sf_tc 5898240 (sf_call 133 [(3, 0, zb_m243)]) (sf_tc 3997696 (sf_call 133 [(2, 0, zb_m236)]) (sf_tc 196608 (sf_call 133 [(6, 4, zb_m83), (6, 4, zb_m84), (6, 4, zb_m85), (6, 4, zb_m86)]) (fun _ => none))))
theorem zb_e246_0 : sf_okb (sf_fin 133 zb_h74 []) zb_b246 30 7 5 133 30 zb_l246 [1] zb_t246_0 = true := by decide +kernel
theorem zb_e246_1 : sf_okb (sf_fin 133 zb_h74 []) zb_b246 30 7 5 133 214 zb_l246 [] zb_t246_1 = true := by decide +kernel
theorem zb_i246 : (zb_m246.1, zb_m246.2.1, ([] : List Nat), zb_m246.2.2.1, [(1000, 1), (1000, 2), (1000, 3), (1000, 4), (1000, 5), (88, 51), (88, 52)], [(0, 1)]) ∈ zb_l246 := List.mem_cons_self
theorem zb_k246 (hS : ∀ ρ, en_SA E ρ ω mt_SB) (hX : sf_JX J) (hM : sf_MnB E ω J) : sf_Kok E ω J 7 5 133 zb_m246 := sf_K_of hS (sf_TS_k (q := 5898240) (nx := 133) (l := [(3, 0, zb_m243)]) hX (sf_fc ⟨(rfl : zb_m243.1 = 5898240), (zb_k243 hS hX hM)⟩ sf_fn) (sf_TS_k (q := 3997696) (nx := 133) (l := [(2, 0, zb_m236)]) hX (sf_fc ⟨(rfl : zb_m236.1 = 3997696), (zb_k236 hS hX hM)⟩ sf_fn) (sf_TS_k (q := 196608) (nx := 133) (l := [(6, 4, zb_m83), (6, 4, zb_m84), (6, 4, zb_m85), (6, 4, zb_m86)]) hX (sf_fc ⟨(rfl : zb_m83.1 = 196608), (hM _ (List.mem_of_getElem? (i := 83) rfl))⟩ (sf_fc ⟨(rfl : zb_m84.1 = 196608), (hM _ (List.mem_of_getElem? (i := 84) rfl))⟩ (sf_fc ⟨(rfl : zb_m85.1 = 196608), (hM _ (List.mem_of_getElem? (i := 85) rfl))⟩ (sf_fc ⟨(rfl : zb_m86.1 = 196608), (hM _ (List.mem_of_getElem? (i := 86) rfl))⟩ sf_fn)))) sf_TS_n))) (sf_nL (by decide +kernel)) rfl zb_h74_n zb_h74_n (by decide +kernel) (by decide +kernel) (by decide +kernel) zb_i246 (sf_fc (sf_okb_t zb_h74_n zb_e246_0) (sf_fc (sf_okb_t zb_h74_n zb_e246_1) sf_fn))
/-- X9_fillsDraw -/
def zb_m247 : sf_M := (2031616, 31057858559754068022554567617836314203128233281242810191791013140366080, zb_h74, zb_h74, [88, 98, 116, 117, 119, 120], [])
def zb_t247_0 : sf_T := (2031616, 31057858559754068022554567617836314203128233281242810191791013140366080, [], zb_h74, [(1000, 1), (1000, 2)], [(0, 0)])
def zb_l247 : List sf_T := [zb_t247_0]
noncomputable def zb_b247 : en_T := (sf_tc 1966080 (sf_call 133 [(7, 5, zb_m246)]) (sf_tc 4587520 (sf_call 133 [(3, 5, zb_m244)]) (sf_tc 262144 (sf_call 133 [(3, 1, zb_m240), (3, 1, zb_m241), (3, 1, zb_m242), (3, 1, zb_m245)]) (fun _ => none))))
theorem zb_e247_0 : sf_okb (sf_fin 133 zb_h74 []) zb_b247 31 3 6 133 72 zb_l247 [] zb_t247_0 = true := by decide +kernel
theorem zb_i247 : (zb_m247.1, zb_m247.2.1, ([] : List Nat), zb_m247.2.2.1, [(1000, 1), (1000, 2)], [(0, 0)]) ∈ zb_l247 := List.mem_cons_self
theorem zb_k247 (hS : ∀ ρ, en_SA E ρ ω mt_SB) (hX : sf_JX J) (hM : sf_MnB E ω J) : sf_Kok E ω J 3 6 133 zb_m247 := sf_K_of hS (sf_TS_k (q := 1966080) (nx := 133) (l := [(7, 5, zb_m246)]) hX (sf_fc ⟨(rfl : zb_m246.1 = 1966080), (zb_k246 hS hX hM)⟩ sf_fn) (sf_TS_k (q := 4587520) (nx := 133) (l := [(3, 5, zb_m244)]) hX (sf_fc ⟨(rfl : zb_m244.1 = 4587520), (zb_k244 hS hX hM)⟩ sf_fn) (sf_TS_k (q := 262144) (nx := 133) (l := [(3, 1, zb_m240), (3, 1, zb_m241), (3, 1, zb_m242), (3, 1, zb_m245)]) hX (sf_fc ⟨(rfl : zb_m240.1 = 262144), (zb_k240 hS hX hM)⟩ (sf_fc ⟨(rfl : zb_m241.1 = 262144), (zb_k241 hS hX hM)⟩ (sf_fc ⟨(rfl : zb_m242.1 = 262144), (zb_k242 hS hX hM)⟩ (sf_fc ⟨(rfl : zb_m245.1 = 262144), (zb_k245 hS hX hM)⟩ sf_fn)))) sf_TS_n))) (sf_nL (by decide +kernel)) rfl zb_h74_n zb_h74_n (by decide +kernel) (by decide +kernel) (by decide +kernel) zb_i247 (sf_fc (sf_okb_t zb_h74_n zb_e247_0) sf_fn)
def zb_h75 : en_H := (((((((0, 0), 0), 0), ((0, 0), (0, 0))), ((((((0, (0, 0)), 0), 0), ((((0, 0), (0, (0, 0))), (((0, 0), 0), (0, (0, (0, 0))))), 0)), ((0, 0), 0)), (0, ((((0, 0), ((0, 0), ((0, 0), 0))), (((0, (0, 0)), ((0, 0), (0, 0))), (((0, 0), (0, 0)), ((0, 0), (0, 0))))), (((((0, 0), (0, 0)), ((0, 0), (0, 0))), (((0, 0), (0, 0)), ((0, 0), (0, 0)))), ((((0, 0), (0, 0)), ((0, 0), (0, (0, 0)))), ((((0, 0), (0, 0)), ((0, 0), 0)), (0, (0, (0, 0)))))))))), zb_r4), ((((((0, 0), 0), (0, (0, 0))), (0, 0)), 0), ((((((((0, 0), 0), (0, 0)), (0, (0, zb_r5))), 0), (0, (((0, 0), (0, 0)), ((0, 0), (0, 0))))), 0), (((0, zb_r6), zb_r6), (0, ((0, ((0, 0), (0, 0))), (((0, 0), (0, 0)), ((0, 0), ((0, 0), (0, 0))))))))))
theorem zb_h75_n : sf_nlh zb_h75 136 = true := by decide +kernel
/-- X9_copies -/
def zb_m248 : sf_M := (1114112, 16333553616007998046963562849740359991808, zb_h75, zb_h75, [88, 105, 118, 119], [])
def zb_t248_0 : sf_T := (1114112, 16333553616007998046963562849740359991808, [], zb_h75, [], [(0, 0)])
def zb_l248 : List sf_T := [zb_t248_0]
noncomputable def zb_b248 : en_T := (fun _ => none)
theorem zb_e248_0 : sf_okb (sf_fin 133 zb_h75 []) zb_b248 17 2 0 133 1612 zb_l248 [] zb_t248_0 = true := by decide +kernel
theorem zb_i248 : (zb_m248.1, zb_m248.2.1, ([] : List Nat), zb_m248.2.2.1, [], [(0, 0)]) ∈ zb_l248 := List.mem_cons_self
theorem zb_k248 (hS : ∀ ρ, en_SA E ρ ω mt_SB) (hX : sf_JX J) (hM : sf_MnB E ω J) : sf_Kok E ω J 2 0 133 zb_m248 := sf_K_of hS sf_TS_n (sf_nL (by decide +kernel)) rfl zb_h75_n zb_h75_n (by decide +kernel) (by decide +kernel) (by decide +kernel) zb_i248 (sf_fc (sf_okb_t zb_h75_n zb_e248_0) sf_fn)
end SFP
