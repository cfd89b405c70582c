/-! CONTRACTS, by program (wip/p3/emit.py) -/
section SFP
variable {E : mm_E} {ω : Nat → Value} {J : mm_H → Prop}
def sb_h70 : en_H := (((((((0, 0), 0), 0), ((0, 0), (0, 0))), ((((((0, (0, 0)), 0), 0), ((((0, 0), (0, (0, 0))), (((0, 0), 0), (0, (0, (0, 0))))), 0)), ((0, 0), 0)), (0, ((((0, 0), ((0, 0), ((0, 0), 0))), (((0, (0, 0)), ((0, 0), (0, 0))), (((0, 0), (0, 0)), ((0, 0), (0, 0))))), (((((0, 0), (0, 0)), ((0, 0), (0, 0))), (((0, 0), (0, 0)), ((0, 0), (0, 0)))), ((((0, 0), (0, 0)), ((0, 0), (0, (0, 0)))), ((((0, 0), (0, 0)), ((0, 0), 0)), (0, (0, (0, 0)))))))))), sb_r4), ((((((0, 0), 0), (0, (0, 0))), (0, 0)), 0), ((((((((0, 0), 0), (0, 0)), (0, (0, 0))), 0), (0, (((0, 0), (0, 0)), ((0, 0), (0, 0))))), sb_r1), (((0, 0), sb_r6), (0, ((0, ((0, 0), (0, 0))), (((0, 0), (0, 0)), ((0, 0), ((0, 0), (0, 0))))))))))
theorem sb_h70_n : sf_nlh sb_h70 136 = true := by decide +kernel
/-- X9_looks -/
def sb_m236 : sf_M := (3997696, 16333553616007998046963562849740359991808, sb_h70, sb_h70, [88, 116, 119], [])
def sb_t236_0 : sf_T := (3997696, 16333553616007998046963562849740359991808, [], sb_h70, [], [(0, 1)])
def sb_t236_1 : sf_T := (3997698, 105228117901436304798911701896198319814493576626688, [], sb_h70, [(1000, 1)], [(0, 0), (1, 0), (0, 0)])
def sb_l236 : List sf_T := [sb_t236_0, sb_t236_1]
noncomputable def sb_b236 : en_T := (fun _ => none)
theorem sb_e236_0 : sf_okb (sf_fin 133 sb_h70 []) sb_b236 61 2 0 133 24 sb_l236 [1] sb_t236_0 = true := by decide +kernel
theorem sb_e236_1 : sf_okb (sf_fin 133 sb_h70 []) sb_b236 61 2 0 133 74 sb_l236 [1] sb_t236_1 = true := by decide +kernel
theorem sb_i236 : (sb_m236.1, sb_m236.2.1, ([] : List Nat), sb_m236.2.2.1, [], [(0, 1)]) ∈ sb_l236 := List.mem_cons_self
theorem sb_k236 (hS : ∀ ρ, en_SA E ρ ω mt_SB) (hX : sf_JX J) (hM : sf_MnB E ω J) : sf_Kok E ω J 2 0 133 sb_m236 := sf_K_of hS sf_TS_n (sf_nL (by decide +kernel)) rfl sb_h70_n sb_h70_n (by decide +kernel) (by decide +kernel) (by decide +kernel) sb_i236 (sf_fc (sf_okb_t sb_h70_n sb_e236_0) (sf_fc (sf_okb_t sb_h70_n sb_e236_1) sf_fn))
def sb_h71 : en_H := (((((((0, 0), 0), 0), ((0, 0), (0, 0))), ((((((0, (0, 0)), 0), 0), ((((0, 0), (0, (0, 0))), (((0, 0), 0), (0, (0, (0, 0))))), 0)), ((0, 0), 0)), (0, ((((0, 0), ((0, 0), ((0, 0), 0))), (((0, (0, 0)), ((0, 0), (0, 0))), (((0, 0), (0, 0)), ((0, 0), (0, 0))))), (((((0, 0), (0, 0)), ((0, 0), (0, 0))), (((0, 0), (0, 0)), ((0, 0), (0, 0)))), ((((0, 0), (0, 0)), ((0, 0), (0, (0, 0)))), ((((0, 0), (0, 0)), ((0, 0), 0)), (0, (0, (0, 0)))))))))), sb_r4), ((((((0, 0), 0), (0, (0, 0))), (0, 0)), 0), ((((((((0, 0), 0), (0, 0)), (0, (0, 0))), 0), (0, (((0, 0), (0, 0)), ((0, 0), (0, 0))))), sb_r1), (((sb_r2, 0), sb_r6), (0, ((0, ((0, 0), (0, 0))), (((0, 0), (0, 0)), ((0, 0), ((0, 0), (0, 0))))))))))
theorem sb_h71_n : sf_nlh sb_h71 136 = true := by decide +kernel
/-- X9_windNow -/
def sb_m237 : sf_M := (7208960, 36893488525376225536, sb_h71, sb_h71, [88, 116, 117, 119], [83010348333840465929])
def sb_t237_0 : sf_T := (7208960, 36893488525376225536, [], sb_h71, [], [(0, 0)])
def sb_l237 : List sf_T := [sb_t237_0]
noncomputable def sb_b237 : en_T := (sf_tc 3997696 (sf_call 133 [(2, 0, sb_m236)]) (sf_tc 196608 (sf_call 133 [(6, 4, sb_m83)]) (fun _ => none)))
theorem sb_e237_0 : sf_okb (sf_fin 133 sb_h71 [83010348333840465929]) sb_b237 110 1 5 133 38 sb_l237 [] sb_t237_0 = true := by decide +kernel
theorem sb_i237 : (sb_m237.1, sb_m237.2.1, ([] : List Nat), sb_m237.2.2.1, [], [(0, 0)]) ∈ sb_l237 := List.mem_cons_self
theorem sb_k237 (hS : ∀ ρ, en_SA E ρ ω mt_SB) (hX : sf_JX J) (hM : sf_MnB E ω J) : sf_Kok E ω J 1 5 133 sb_m237 := sf_K_of hS (sf_TS_k (q := 3997696) (nx := 133) (l := [(2, 0, sb_m236)]) hX (sf_fc ⟨(rfl : sb_m236.1 = 3997696), (sb_k236 hS hX hM)⟩ sf_fn) (sf_TS_k (q := 196608) (nx := 133) (l := [(6, 4, sb_m83)]) hX (sf_fc ⟨(rfl : sb_m83.1 = 196608), (hM _ (List.mem_of_getElem? (i := 83) rfl))⟩ sf_fn) sf_TS_n)) (sf_nL (by decide +kernel)) rfl sb_h71_n sb_h71_n (by decide +kernel) (by decide +kernel) (by decide +kernel) sb_i237 (sf_fc (sf_okb_t sb_h71_n sb_e237_0) sf_fn)
/-- X9_dangerNow -/
def sb_m238 : sf_M := (1310720, 36893488525376225536, sb_h71, sb_h71, [88, 116, 117, 119], [83010348333840465929])
def sb_t238_0 : sf_T := (1310720, 36893488525376225536, [], sb_h71, [], [(0, 0)])
def sb_l238 : List sf_T := [sb_t238_0]
noncomputable def sb_b238 : en_T := (sf_tc 3997696 (sf_call 133 [(2, 0, sb_m236)]) (sf_tc 196608 (sf_call 133 [(6, 4, sb_m83)]) (fun _ => none)))
theorem sb_e238_0 : sf_okb (sf_fin 133 sb_h71 [83010348333840465929]) sb_b238 20 1 5 133 38 sb_l238 [] sb_t238_0 = true := by decide +kernel
theorem sb_i238 : (sb_m238.1, sb_m238.2.1, ([] : List Nat), sb_m238.2.2.1, [], [(0, 0)]) ∈ sb_l238 := List.mem_cons_self
theorem sb_k238 (hS : ∀ ρ, en_SA E ρ ω mt_SB) (hX : sf_JX J) (hM : sf_MnB E ω J) : sf_Kok E ω J 1 5 133 sb_m238 := sf_K_of hS (sf_TS_k (q := 3997696) (nx := 133) (l := [(2, 0, sb_m236)]) hX (sf_fc ⟨(rfl : sb_m236.1 = 3997696), (sb_k236 hS hX hM)⟩ sf_fn) (sf_TS_k (q := 196608) (nx := 133) (l := [(6, 4, sb_m83)]) hX (sf_fc ⟨(rfl : sb_m83.1 = 196608), (hM _ (List.mem_of_getElem? (i := 83) rfl))⟩ sf_fn) sf_TS_n)) (sf_nL (by decide +kernel)) rfl sb_h71_n sb_h71_n (by decide +kernel) (by decide +kernel) (by decide +kernel) sb_i238 (sf_fc (sf_okb_t sb_h71_n sb_e238_0) sf_fn)
/-- X9_weathers -/
def sb_m239 : sf_M := (7077888, 36893488525376225536, sb_h71, sb_h71, [88, 116, 117, 119], [])
def sb_t239_0 : sf_T := (7077888, 36893488525376225536, [], sb_h71, [], [(0, 0)])
def sb_l239 : List sf_T := [sb_t239_0]
noncomputable def sb_b239 : en_T := (sf_tc 1310720 (sf_call 133 [(1, 5, sb_m238)]) (sf_tc 7208960 (sf_call 133 [(1, 5, sb_m237)]) (fun _ => none)))
theorem sb_e239_0 : sf_okb (sf_fin 133 sb_h71 []) sb_b239 108 1 6 133 38 sb_l239 [] sb_t239_0 = true := by decide +kernel
theorem sb_i239 : (sb_m239.1, sb_m239.2.1, ([] : List Nat), sb_m239.2.2.1, [], [(0, 0)]) ∈ sb_l239 := List.mem_cons_self
theorem sb_k239 (hS : ∀ ρ, en_SA E ρ ω mt_SB) (hX : sf_JX J) (hM : sf_MnB E ω J) : sf_Kok E ω J 1 6 133 sb_m239 := sf_K_of hS (sf_TS_k (q := 1310720) (nx := 133) (l := [(1, 5, sb_m238)]) hX (sf_fc ⟨(rfl : sb_m238.1 = 1310720), (sb_k238 hS hX hM)⟩ sf_fn) (sf_TS_k (q := 7208960) (nx := 133) (l := [(1, 5, sb_m237)]) hX (sf_fc ⟨(rfl : sb_m237.1 = 7208960), (sb_k237 hS hX hM)⟩ sf_fn) sf_TS_n)) (sf_nL (by decide +kernel)) rfl sb_h71_n sb_h71_n (by decide +kernel) (by decide +kernel) (by decide +kernel) sb_i239 (sf_fc (sf_okb_t sb_h71_n sb_e239_0) sf_fn)
/-- X9_at -/
def sb_m240 : sf_M := (262144, 4820814133899404084098741977142177094732201209008097975075584, sb_h1, sb_h1, [], [83010348325250531333])
def sb_t240_0 : sf_T := (262144, 4820814133899404084098741977142177094732201209008097975075584, [], sb_h1, [(1000, 0)], [(0, 1)])
def sb_t240_1 : sf_T := (262156, 31057858561361006067830763032960584723499690914719538581878231086924544, [], sb_h1, [(1000, 0), (1000, 2)], [(0, 0)])
def sb_l240 : List sf_T := [sb_t240_0, sb_t240_1]
noncomputable def sb_b240 : en_T := (fun _ => none)
theorem sb_e240_0 : sf_okb (sf_fin 133 sb_h1 [83010348325250531333]) sb_b240 4 3 1 133 74 sb_l240 [1] sb_t240_0 = true := by decide +kernel
theorem sb_e240_1 : sf_okb (sf_fin 133 sb_h1 [83010348325250531333]) sb_b240 4 3 1 133 36 sb_l240 [] sb_t240_1 = true := by decide +kernel
theorem sb_i240 : (sb_m240.1, sb_m240.2.1, ([] : List Nat), sb_m240.2.2.1, [(1000, 0)], [(0, 1)]) ∈ sb_l240 := List.mem_cons_self
theorem sb_k240 (hS : ∀ ρ, en_SA E ρ ω mt_SB) (hX : sf_JX J) (hM : sf_MnB E ω J) : sf_Kok E ω J 3 1 133 sb_m240 := sf_K_of hS sf_TS_n (sf_nL (by decide +kernel)) rfl sb_h1_n sb_h1_n (by decide +kernel) (by decide +kernel) (by decide +kernel) sb_i240 (sf_fc (sf_okb_t sb_h1_n sb_e240_0) (sf_fc (sf_okb_t sb_h1_n sb_e240_1) sf_fn))
/-- X9_at -/
def sb_m241 : sf_M := (262144, 4820814133899404084098741977143444745332429438409594678280960, sb_h1, sb_h1, [], [83010348325250531333])
def sb_t241_0 : sf_T := (262144, 4820814133899404084098741977143444745332429438409594678280960, [], sb_h1, [(1000, 0)], [(0, 1)])
def sb_t241_1 : sf_T := (262156, 31057858561361006067830763032960584723500958565319766811279727790129920, [], sb_h1, [(1000, 0), (1000, 2)], [(0, 0)])
def sb_l241 : List sf_T := [sb_t241_0, sb_t241_1]
noncomputable def sb_b241 : en_T := (fun _ => none)
theorem sb_e241_0 : sf_okb (sf_fin 133 sb_h1 [83010348325250531333]) sb_b241 4 3 1 133 56 sb_l241 [1] sb_t241_0 = true := by decide +kernel
theorem sb_e241_1 : sf_okb (sf_fin 133 sb_h1 [83010348325250531333]) sb_b241 4 3 1 133 36 sb_l241 [] sb_t241_1 = true := by decide +kernel
theorem sb_i241 : (sb_m241.1, sb_m241.2.1, ([] : List Nat), sb_m241.2.2.1, [(1000, 0)], [(0, 1)]) ∈ sb_l241 := List.mem_cons_self
theorem sb_k241 (hS : ∀ ρ, en_SA E ρ ω mt_SB) (hX : sf_JX J) (hM : sf_MnB E ω J) : sf_Kok E ω J 3 1 133 sb_m241 := sf_K_of hS sf_TS_n (sf_nL (by decide +kernel)) rfl sb_h1_n sb_h1_n (by decide +kernel) (by decide +kernel) (by decide +kernel) sb_i241 (sf_fc (sf_okb_t sb_h1_n sb_e241_0) (sf_fc (sf_okb_t sb_h1_n sb_e241_1) sf_fn))
/-- X9_at -/
def sb_m242 : sf_M := (262144, 4820814133899404084098741977140909444131972979606601271870208, sb_h1, sb_h1, [], [83010348325250531333])
def sb_t242_0 : sf_T := (262144, 4820814133899404084098741977140909444131972979606601271870208, [], sb_h1, [(1000, 0)], [(0, 1)])
def sb_t242_1 : sf_T := (262156, 31057858561361006067830763032960584723498423264119310352476734383719168, [], sb_h1, [(1000, 0), (1000, 2)], [(0, 0)])
def sb_l242 : List sf_T := [sb_t242_0, sb_t242_1]
noncomputable def sb_b242 : en_T := (fun _ => none)
theorem sb_e242_0 : sf_okb (sf_fin 133 sb_h1 [83010348325250531333]) sb_b242 4 3 1 133 92 sb_l242 [1] sb_t242_0 = true := by decide +kernel
theorem sb_e242_1 : sf_okb (sf_fin 133 sb_h1 [83010348325250531333]) sb_b242 4 3 1 133 36 sb_l242 [] sb_t242_1 = true := by decide +kernel
theorem sb_i242 : (sb_m242.1, sb_m242.2.1, ([] : List Nat), sb_m242.2.2.1, [(1000, 0)], [(0, 1)]) ∈ sb_l242 := List.mem_cons_self
theorem sb_k242 (hS : ∀ ρ, en_SA E ρ ω mt_SB) (hX : sf_JX J) (hM : sf_MnB E ω J) : sf_Kok E ω J 3 1 133 sb_m242 := sf_K_of hS sf_TS_n (sf_nL (by decide +kernel)) rfl sb_h1_n sb_h1_n (by decide +kernel) (by decide +kernel) (by decide +kernel) sb_i242 (sf_fc (sf_okb_t sb_h1_n sb_e242_0) (sf_fc (sf_okb_t sb_h1_n sb_e242_1) sf_fn))
def sb_h72 : en_H := (((((((0, 0), 0), 0), ((0, 0), (0, 0))), ((((((0, (0, 0)), 0), 0), ((((0, 0), (0, (0, 0))), (((0, 0), 0), (0, (0, (0, 0))))), 0)), ((0, 0), 0)), (0, ((((0, 0), ((0, 0), ((0, 0), 0))), (((0, (0, 0)), ((0, 0), (0, 0))), (((0, 0), (0, 0)), ((0, 0), (0, 0))))), (((((0, 0), (0, 0)), ((0, 0), (0, 0))), (((0, 0), (0, 0)), ((0, 0), (0, 0)))), ((((0, 0), (0, 0)), ((0, 0), (0, (0, 0)))), ((((0, 0), (0, 0)), ((0, 0), 0)), (0, (0, (0, 0)))))))))), sb_r4), ((((((0, 0), 0), (0, (0, 0))), (0, 0)), 0), ((((((((sb_r7, 0), 0), (0, 0)), (0, (0, 0))), 0), (0, (((0, 0), (0, 0)), ((0, 0), (0, 0))))), 0), (((0, 0), 0), (0, ((0, ((0, 0), (0, 0))), (((0, 0), (0, 0)), ((0, 0), ((0, 0), (0, 0))))))))))
theorem sb_h72_n : sf_nlh sb_h72 136 = true := by decide +kernel
/-- X9_skillAt -/
def sb_m243 : sf_M := (5898240, 31057858561361006066813557893367387256691902665387575781551385216025344, sb_h72, sb_h72, [88, 98], [73786976299133173759])
def sb_t243_0 : sf_T := (5898240, 31057858561361006066813557893367387256691902665387575781551385216025344, [], sb_h72, [(1000, 1), (1000, 2)], [(0, 0)])
def sb_l243 : List sf_T := [sb_t243_0]
noncomputable def sb_b243 : en_T := (fun _ => none)
theorem sb_e243_0 : sf_okb (sf_fin 133 sb_h72 [73786976299133173759]) sb_b243 90 3 0 133 58 sb_l243 [] sb_t243_0 = true := by decide +kernel
theorem sb_i243 : (sb_m243.1, sb_m243.2.1, ([] : List Nat), sb_m243.2.2.1, [(1000, 1), (1000, 2)], [(0, 0)]) ∈ sb_l243 := List.mem_cons_self
theorem sb_k243 (hS : ∀ ρ, en_SA E ρ ω mt_SB) (hX : sf_JX J) (hM : sf_MnB E ω J) : sf_Kok E ω J 3 0 133 sb_m243 := sf_K_of hS sf_TS_n (sf_nL (by decide +kernel)) rfl sb_h72_n sb_h72_n (by decide +kernel) (by decide +kernel) (by decide +kernel) sb_i243 (sf_fc (sf_okb_t sb_h72_n sb_e243_0) sf_fn)
def sb_h73 : en_H := (((((((0, 0), 0), 0), ((0, 0), (0, 0))), ((((((0, (0, 0)), 0), 0), ((((0, 0), (0, (0, 0))), (((0, 0), 0), (0, (0, (0, 0))))), 0)), ((0, 0), 0)), (0, ((((0, 0), ((0, 0), ((0, 0), 0))), (((0, (0, 0)), ((0, 0), (0, 0))), (((0, 0), (0, 0)), ((0, 0), (0, 0))))), (((((0, 0), (0, 0)), ((0, 0), (0, 0))), (((0, 0), (0, 0)), ((0, 0), (0, 0)))), ((((0, 0), (0, 0)), ((0, 0), (0, (0, 0)))), ((((0, 0), (0, 0)), ((0, 0), 0)), (0, (0, (0, 0)))))))))), sb_r4), ((((((0, 0), 0), (0, (0, 0))), (0, 0)), 0), ((((((((sb_r7, 0), 0), (0, 0)), (0, (0, 0))), 0), (0, (((0, 0), (0, 0)), ((0, 0), (0, 0))))), sb_r1), (((sb_r2, 0), sb_r6), (0, ((0, ((0, 0), (0, 0))), (((0, 0), (0, 0)), ((0, 0), ((0, 0), (0, 0))))))))))
theorem sb_h73_n : sf_nlh sb_h73 136 = true := by decide +kernel
/-- X9_ordersOf -/
def sb_m244 : sf_M := (4587520, 4820814134004632201975677951514818796926343767777008297181952, sb_h73, sb_h73, [88, 98, 116, 117, 119], [83010348333840465923])
def sb_t244_0 : sf_T := (4587520, 4820814134004632201975677951514818796926343767777008297181952, [], sb_h73, [(1000, 1), (88, 51), (88, 52)], [(0, 1)])
def sb_t244_1 : sf_T := (4587571, 27606985390376131237988087698914973080737518814384213182516637433070336, [], sb_h73, [(1000, 1), (1000, 2), (88, 51), (88, 52)], [(0, 0)])
def sb_l244 : List sf_T := [sb_t244_0, sb_t244_1]
noncomputable def sb_b244 : en_T := (sf_tc 5898240 (sf_call 133 [(3, 0, sb_m243)]) (sf_tc 3997696 (sf_call 133 [(2, 0, sb_m236)]) (sf_tc 196608 (sf_call 133 [(6, 4, sb_m87)]) (fun _ => none))))
theorem sb_e244_0 : sf_okb (sf_fin 133 sb_h73 [83010348333840465923]) sb_b244 70 3 5 133 78 sb_l244 [1] sb_t244_0 = true := by decide +kernel
theorem sb_e244_1 : sf_okb (sf_fin 133 sb_h73 [83010348333840465923]) sb_b244 70 3 5 133 38 sb_l244 [] sb_t244_1 = true := by decide +kernel
theorem sb_i244 : (sb_m244.1, sb_m244.2.1, ([] : List Nat), sb_m244.2.2.1, [(1000, 1), (88, 51), (88, 52)], [(0, 1)]) ∈ sb_l244 := List.mem_cons_self
theorem sb_k244 (hS : ∀ ρ, en_SA E ρ ω mt_SB) (hX : sf_JX J) (hM : sf_MnB E ω J) : sf_Kok E ω J 3 5 133 sb_m244 := sf_K_of hS (sf_TS_k (q := 5898240) (nx := 133) (l := [(3, 0, sb_m243)]) hX (sf_fc ⟨(rfl : sb_m243.1 = 5898240), (sb_k243 hS hX hM)⟩ sf_fn) (sf_TS_k (q := 3997696) (nx := 133) (l := [(2, 0, sb_m236)]) hX (sf_fc ⟨(rfl : sb_m236.1 = 3997696), (sb_k236 hS hX hM)⟩ sf_fn) (sf_TS_k (q := 196608) (nx := 133) (l := [(6, 4, sb_m87)]) hX (sf_fc ⟨(rfl : sb_m87.1 = 196608), (hM _ (List.mem_of_getElem? (i := 87) rfl))⟩ sf_fn) sf_TS_n))) (sf_nL (by decide +kernel)) rfl sb_h73_n sb_h73_n (by decide +kernel) (by decide +kernel) (by decide +kernel) sb_i244 (sf_fc (sf_okb_t sb_h73_n sb_e244_0) (sf_fc (sf_okb_t sb_h73_n sb_e244_1) sf_fn))
/-- X9_at -/
def sb_m245 : sf_M := (262144, 4820814133899404084098741977139641793531744750205104568664832, sb_h1, sb_h1, [], [83010348325250531333])
def sb_t245_0 : sf_T := (262144, 4820814133899404084098741977139641793531744750205104568664832, [], sb_h1, [(1000, 0)], [(0, 1)])
def sb_t245_1 : sf_T := (262156, 31057858561361006067830763032960584723497155613519082123075237680513792, [], sb_h1, [(1000, 0), (1000, 2)], [(0, 0)])
def sb_l245 : List sf_T := [sb_t245_0, sb_t245_1]
noncomputable def sb_b245 : en_T := (fun _ => none)
theorem sb_e245_0 : sf_okb (sf_fin 133 sb_h1 [83010348325250531333]) sb_b245 4 3 1 133 110 sb_l245 [1] sb_t245_0 = true := by decide +kernel
theorem sb_e245_1 : sf_okb (sf_fin 133 sb_h1 [83010348325250531333]) sb_b245 4 3 1 133 36 sb_l245 [] sb_t245_1 = true := by decide +kernel
theorem sb_i245 : (sb_m245.1, sb_m245.2.1, ([] : List Nat), sb_m245.2.2.1, [(1000, 0)], [(0, 1)]) ∈ sb_l245 := List.mem_cons_self
theorem sb_k245 (hS : ∀ ρ, en_SA E ρ ω mt_SB) (hX : sf_JX J) (hM : sf_MnB E ω J) : sf_Kok E ω J 3 1 133 sb_m245 := sf_K_of hS sf_TS_n (sf_nL (by decide +kernel)) rfl sb_h1_n sb_h1_n (by decide +kernel) (by decide +kernel) (by decide +kernel) sb_i245 (sf_fc (sf_okb_t sb_h1_n sb_e245_0) (sf_fc (sf_okb_t sb_h1_n sb_e245_1) sf_fn))
def sb_h74 : en_H := (((((((0, 0), 0), 0), ((0, 0), (0, 0))), ((((((0, (0, 0)), 0), 0), ((((0, 0), (0, (0, 0))), (((0, 0), 0), (0, (0, (0, 0))))), 0)), ((0, 0), 0)), (0, ((((0, 0), ((0, 0), ((0, 0), 0))), (((0, (0, 0)), ((0, 0), (0, 0))), (((0, 0), (0, 0)), ((0, 0), (0, 0))))), (((((0, 0), (0, 0)), ((0, 0), (0, 0))), (((0, 0), (0, 0)), ((0, 0), (0, 0)))), ((((0, 0), (0, 0)), ((0, 0), (0, (0, 0)))), ((((0, 0), (0, 0)), ((0, 0), 0)), (0, (0, (0, 0)))))))))), sb_r4), ((((((0, 0), 0), (0, (0, 0))), (0, 0)), 0), ((((((((sb_r7, 0), 0), (0, 0)), (0, (0, 0))), 0), (0, (((0, 0), (0, 0)), ((0, 0), (0, 0))))), sb_r1), (((sb_r2, 0), sb_r6), (sb_r12, ((0, ((0, 0), (0, 0))), (((0, 0), (0, 0)), ((0, 0), ((0, 0), (0, 0))))))))))
theorem sb_h74_n : sf_nlh sb_h74 136 = true := by decide +kernel
/-- X9_fillsDoing -/
def sb_m246 : sf_M := (1966080, 36582990833331704133769688463878398985241663423791010922004235441607090117855687356087714591454335370296807506695615263104760996201528637261568, sb_h74, sb_h74, [88, 98, 116, 117, 119, 120], [])
def sb_t246_0 : sf_T := (1966080, 36582990833331704133769688463878398985241663423791010922004235441607090117855687356087714591454335370296807506695615263104760996201528637261568, [], sb_h74, [(1000, 1), (1000, 2), (1000, 3), (1000, 4), (1000, 5), (88, 51), (88, 52)], [(0, 1)])
def sb_t246_1 : sf_T := (1966088, 209496998917547409953475300355948448183151193670086816111875925103330289972534760558658065480983846666955816962371948440012616040572829811408636523579136, [], sb_h74, [(1000, 1), (1000, 2), (1000, 3), (1000, 4), (1000, 5), (1000, 6), (88, 51), (88, 52)], [(0, 0)])
def sb_l246 : List sf_T := [sb_t246_0, sb_t246_1]
noncomputable def sb_b246 : en_T := (sf_tc 5898240 (sf_call 133 [(3, 0, sb_m243)]) (sf_tc 3997696 (sf_call 133 [(2, 0, sb_m236)]) (sf_tc 196608 (sf_call 133 [(6, 4, sb_m83), (6, 4, sb_m84), (6, 4, sb_m85), (6, 4, sb_m86)]) (fun _ => none))))
theorem sb_e246_0 : sf_okb (sf_fin 133 sb_h74 []) sb_b246 30 7 5 133 30 sb_l246 [1] sb_t246_0 = true := by decide +kernel
theorem sb_e246_1 : sf_okb (sf_fin 133 sb_h74 []) sb_b246 30 7 5 133 214 sb_l246 [] sb_t246_1 = true := by decide +kernel
theorem sb_i246 : (sb_m246.1, sb_m246.2.1, ([] : List Nat), sb_m246.2.2.1, [(1000, 1), (1000, 2), (1000, 3), (1000, 4), (1000, 5), (88, 51), (88, 52)], [(0, 1)]) ∈ sb_l246 := List.mem_cons_self
theorem sb_k246 (hS : ∀ ρ, en_SA E ρ ω mt_SB) (hX : sf_JX J) (hM : sf_MnB E ω J) : sf_Kok E ω J 7 5 133 sb_m246 := sf_K_of hS (sf_TS_k (q := 5898240) (nx := 133) (l := [(3, 0, sb_m243)]) hX (sf_fc ⟨(rfl : sb_m243.1 = 5898240), (sb_k243 hS hX hM)⟩ sf_fn) (sf_TS_k (q := 3997696) (nx := 133) (l := [(2, 0, sb_m236)]) hX (sf_fc ⟨(rfl : sb_m236.1 = 3997696), (sb_k236 hS hX hM)⟩ sf_fn) (sf_TS_k (q := 196608) (nx := 133) (l := [(6, 4, sb_m83), (6, 4, sb_m84), (6, 4, sb_m85), (6, 4, sb_m86)]) hX (sf_fc ⟨(rfl : sb_m83.1 = 196608), (hM _ (List.mem_of_getElem? (i := 83) rfl))⟩ (sf_fc ⟨(rfl : sb_m84.1 = 196608), (hM _ (List.mem_of_getElem? (i := 84) rfl))⟩ (sf_fc ⟨(rfl : sb_m85.1 = 196608), (hM _ (List.mem_of_getElem? (i := 85) rfl))⟩ (sf_fc ⟨(rfl : sb_m86.1 = 196608), (hM _ (List.mem_of_getElem? (i := 86) rfl))⟩ sf_fn)))) sf_TS_n))) (sf_nL (by decide +kernel)) rfl sb_h74_n sb_h74_n (by decide +kernel) (by decide +kernel) (by decide +kernel) sb_i246 (sf_fc (sf_okb_t sb_h74_n sb_e246_0) (sf_fc (sf_okb_t sb_h74_n sb_e246_1) sf_fn))
/-- X9_fillsDraw -/
def sb_m247 : sf_M := (2031616, 31057858559754068022554567617836314203128233281242810191791013140366080, sb_h74, sb_h74, [88, 98, 116, 117, 119, 120], [])
def sb_t247_0 : sf_T := (2031616, 31057858559754068022554567617836314203128233281242810191791013140366080, [], sb_h74, [(1000, 1), (1000, 2)], [(0, 0)])
def sb_l247 : List sf_T := [sb_t247_0]
noncomputable def sb_b247 : en_T := (sf_tc 1966080 (sf_call 133 [(7, 5, sb_m246)]) (sf_tc 4587520 (sf_call 133 [(3, 5, sb_m244)]) (sf_tc 262144 (sf_call 133 [(3, 1, sb_m240), (3, 1, sb_m241), (3, 1, sb_m242), (3, 1, sb_m245)]) (fun _ => none))))
theorem sb_e247_0 : sf_okb (sf_fin 133 sb_h74 []) sb_b247 31 3 6 133 72 sb_l247 [] sb_t247_0 = true := by decide +kernel
theorem sb_i247 : (sb_m247.1, sb_m247.2.1, ([] : List Nat), sb_m247.2.2.1, [(1000, 1), (1000, 2)], [(0, 0)]) ∈ sb_l247 := List.mem_cons_self
theorem sb_k247 (hS : ∀ ρ, en_SA E ρ ω mt_SB) (hX : sf_JX J) (hM : sf_MnB E ω J) : sf_Kok E ω J 3 6 133 sb_m247 := sf_K_of hS (sf_TS_k (q := 1966080) (nx := 133) (l := [(7, 5, sb_m246)]) hX (sf_fc ⟨(rfl : sb_m246.1 = 1966080), (sb_k246 hS hX hM)⟩ sf_fn) (sf_TS_k (q := 4587520) (nx := 133) (l := [(3, 5, sb_m244)]) hX (sf_fc ⟨(rfl : sb_m244.1 = 4587520), (sb_k244 hS hX hM)⟩ sf_fn) (sf_TS_k (q := 262144) (nx := 133) (l := [(3, 1, sb_m240), (3, 1, sb_m241), (3, 1, sb_m242), (3, 1, sb_m245)]) hX (sf_fc ⟨(rfl : sb_m240.1 = 262144), (sb_k240 hS hX hM)⟩ (sf_fc ⟨(rfl : sb_m241.1 = 262144), (sb_k241 hS hX hM)⟩ (sf_fc ⟨(rfl : sb_m242.1 = 262144), (sb_k242 hS hX hM)⟩ (sf_fc ⟨(rfl : sb_m245.1 = 262144), (sb_k245 hS hX hM)⟩ sf_fn)))) sf_TS_n))) (sf_nL (by decide +kernel)) rfl sb_h74_n sb_h74_n (by decide +kernel) (by decide +kernel) (by decide +kernel) sb_i247 (sf_fc (sf_okb_t sb_h74_n sb_e247_0) sf_fn)
def sb_h75 : en_H := (((((((0, 0), 0), 0), ((0, 0), (0, 0))), ((((((0, (0, 0)), 0), 0), ((((0, 0), (0, (0, 0))), (((0, 0), 0), (0, (0, (0, 0))))), 0)), ((0, 0), 0)), (0, ((((0, 0), ((0, 0), ((0, 0), 0))), (((0, (0, 0)), ((0, 0), (0, 0))), (((0, 0), (0, 0)), ((0, 0), (0, 0))))), (((((0, 0), (0, 0)), ((0, 0), (0, 0))), (((0, 0), (0, 0)), ((0, 0), (0, 0)))), ((((0, 0), (0, 0)), ((0, 0), (0, (0, 0)))), ((((0, 0), (0, 0)), ((0, 0), 0)), (0, (0, (0, 0)))))))))), sb_r4), ((((((0, 0), 0), (0, (0, 0))), (0, 0)), 0), ((((((((0, 0), 0), (0, 0)), (0, (0, sb_r5))), 0), (0, (((0, 0), (0, 0)), ((0, 0), (0, 0))))), 0), (((0, sb_r6), sb_r6), (0, ((0, ((0, 0), (0, 0))), (((0, 0), (0, 0)), ((0, 0), ((0, 0), (0, 0))))))))))
theorem sb_h75_n : sf_nlh sb_h75 136 = true := by decide +kernel
/-- X9_copies -/
def sb_m248 : sf_M := (1114112, 16333553616007998046963562849740359991808, sb_h75, sb_h75, [88, 105, 118, 119], [])
def sb_t248_0 : sf_T := (1114112, 16333553616007998046963562849740359991808, [], sb_h75, [], [(0, 0)])
def sb_l248 : List sf_T := [sb_t248_0]
noncomputable def sb_b248 : en_T := (fun _ => none)
theorem sb_e248_0 : sf_okb (sf_fin 133 sb_h75 []) sb_b248 17 2 0 133 1612 sb_l248 [] sb_t248_0 = true := by decide +kernel
theorem sb_i248 : (sb_m248.1, sb_m248.2.1, ([] : List Nat), sb_m248.2.2.1, [], [(0, 0)]) ∈ sb_l248 := List.mem_cons_self
theorem sb_k248 (hS : ∀ ρ, en_SA E ρ ω mt_SB) (hX : sf_JX J) (hM : sf_MnB E ω J) : sf_Kok E ω J 2 0 133 sb_m248 := sf_K_of hS sf_TS_n (sf_nL (by decide +kernel)) rfl sb_h75_n sb_h75_n (by decide +kernel) (by decide +kernel) (by decide +kernel) sb_i248 (sf_fc (sf_okb_t sb_h75_n sb_e248_0) sf_fn)
end SFP
