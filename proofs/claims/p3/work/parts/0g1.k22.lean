/-! CONTRACTS, by program (wip/p3/emit.py) -/
section SFP
variable {E : mm_E} {ω : Nat → Value} {J : mm_H → Prop}
/-- X9_copies -/
def sb_m320 : sf_M := (1114112, 16333553616007998046963562849740359991808, sb_h75, sb_h75, [88, 105, 118, 119], [])
def sb_t320_0 : sf_T := (1114112, 16333553616007998046963562849740359991808, [], sb_h75, [], [(0, 0)])
def sb_l320 : List sf_T := [sb_t320_0]
noncomputable def sb_b320 : en_T := (fun _ => none)
theorem sb_e320_0 : sf_okb (sf_fin 133 sb_h75 []) sb_b320 17 2 0 133 1612 sb_l320 [] sb_t320_0 = true := by decide +kernel
theorem sb_i320 : (sb_m320.1, sb_m320.2.1, ([] : List Nat), sb_m320.2.2.1, [], [(0, 0)]) ∈ sb_l320 := List.mem_cons_self
theorem sb_k320 (hS : ∀ ρ, en_SA E ρ ω mt_SB) (hX : sf_JX J) (hM : sf_MnB E ω J) : sf_Kok E ω J 2 0 133 sb_m320 := sf_K_of hS sf_TS_n (sf_nL (by decide +kernel)) rfl sb_h75_n sb_h75_n (by decide +kernel) (by decide +kernel) (by decide +kernel) sb_i320 (sf_fc (sf_okb_t sb_h75_n sb_e320_0) sf_fn)
/-- X9_looks -/
def sb_m321 : sf_M := (3997696, 16333553616007998046963562849740359991808, sb_h70, sb_h70, [88, 116, 119], [])
def sb_t321_0 : sf_T := (3997696, 16333553616007998046963562849740359991808, [], sb_h70, [], [(0, 1)])
def sb_t321_1 : sf_T := (3997698, 105228117901436304798911701896198319814493576626688, [], sb_h70, [(1000, 1)], [(0, 0), (1, 0), (0, 0)])
def sb_l321 : List sf_T := [sb_t321_0, sb_t321_1]
noncomputable def sb_b321 : en_T := (fun _ => none)
theorem sb_e321_0 : sf_okb (sf_fin 133 sb_h70 []) sb_b321 61 2 0 133 24 sb_l321 [1] sb_t321_0 = true := by decide +kernel
theorem sb_e321_1 : sf_okb (sf_fin 133 sb_h70 []) sb_b321 61 2 0 133 74 sb_l321 [1] sb_t321_1 = true := by decide +kernel
theorem sb_i321 : (sb_m321.1, sb_m321.2.1, ([] : List Nat), sb_m321.2.2.1, [], [(0, 1)]) ∈ sb_l321 := List.mem_cons_self
theorem sb_k321 (hS : ∀ ρ, en_SA E ρ ω mt_SB) (hX : sf_JX J) (hM : sf_MnB E ω J) : sf_Kok E ω J 2 0 133 sb_m321 := sf_K_of hS sf_TS_n (sf_nL (by decide +kernel)) rfl sb_h70_n sb_h70_n (by decide +kernel) (by decide +kernel) (by decide +kernel) sb_i321 (sf_fc (sf_okb_t sb_h70_n sb_e321_0) (sf_fc (sf_okb_t sb_h70_n sb_e321_1) sf_fn))
/-- X9_windNow -/
def sb_m322 : sf_M := (7208960, 36893488525376225536, sb_h71, sb_h71, [88, 116, 117, 119], [83010348333840465929])
def sb_t322_0 : sf_T := (7208960, 36893488525376225536, [], sb_h71, [], [(0, 0)])
def sb_l322 : List sf_T := [sb_t322_0]
noncomputable def sb_b322 : en_T := (sf_tc 3997696 (sf_call 133 [(2, 0, sb_m321)]) (sf_tc 196608 (sf_call 133 [(6, 4, sb_m78)]) (fun _ => none)))
theorem sb_e322_0 : sf_okb (sf_fin 133 sb_h71 [83010348333840465929]) sb_b322 110 1 5 133 38 sb_l322 [] sb_t322_0 = true := by decide +kernel
theorem sb_i322 : (sb_m322.1, sb_m322.2.1, ([] : List Nat), sb_m322.2.2.1, [], [(0, 0)]) ∈ sb_l322 := List.mem_cons_self
theorem sb_k322 (hS : ∀ ρ, en_SA E ρ ω mt_SB) (hX : sf_JX J) (hM : sf_MnB E ω J) : sf_Kok E ω J 1 5 133 sb_m322 := sf_K_of hS (sf_TS_k (q := 3997696) (nx := 133) (l := [(2, 0, sb_m321)]) hX (sf_fc ⟨(rfl : sb_m321.1 = 3997696), (sb_k321 hS hX hM)⟩ sf_fn) (sf_TS_k (q := 196608) (nx := 133) (l := [(6, 4, sb_m78)]) hX (sf_fc ⟨(rfl : sb_m78.1 = 196608), (hM _ (List.mem_of_getElem? (i := 78) rfl))⟩ sf_fn) sf_TS_n)) (sf_nL (by decide +kernel)) rfl sb_h71_n sb_h71_n (by decide +kernel) (by decide +kernel) (by decide +kernel) sb_i322 (sf_fc (sf_okb_t sb_h71_n sb_e322_0) sf_fn)
/-- X9_dangerNow -/
def sb_m323 : sf_M := (1310720, 36893488525376225536, sb_h71, sb_h71, [88, 116, 117, 119], [83010348333840465929])
def sb_t323_0 : sf_T := (1310720, 36893488525376225536, [], sb_h71, [], [(0, 0)])
def sb_l323 : List sf_T := [sb_t323_0]
noncomputable def sb_b323 : en_T := (sf_tc 3997696 (sf_call 133 [(2, 0, sb_m321)]) (sf_tc 196608 (sf_call 133 [(6, 4, sb_m78)]) (fun _ => none)))
theorem sb_e323_0 : sf_okb (sf_fin 133 sb_h71 [83010348333840465929]) sb_b323 20 1 5 133 38 sb_l323 [] sb_t323_0 = true := by decide +kernel
theorem sb_i323 : (sb_m323.1, sb_m323.2.1, ([] : List Nat), sb_m323.2.2.1, [], [(0, 0)]) ∈ sb_l323 := List.mem_cons_self
theorem sb_k323 (hS : ∀ ρ, en_SA E ρ ω mt_SB) (hX : sf_JX J) (hM : sf_MnB E ω J) : sf_Kok E ω J 1 5 133 sb_m323 := sf_K_of hS (sf_TS_k (q := 3997696) (nx := 133) (l := [(2, 0, sb_m321)]) hX (sf_fc ⟨(rfl : sb_m321.1 = 3997696), (sb_k321 hS hX hM)⟩ sf_fn) (sf_TS_k (q := 196608) (nx := 133) (l := [(6, 4, sb_m78)]) hX (sf_fc ⟨(rfl : sb_m78.1 = 196608), (hM _ (List.mem_of_getElem? (i := 78) rfl))⟩ sf_fn) sf_TS_n)) (sf_nL (by decide +kernel)) rfl sb_h71_n sb_h71_n (by decide +kernel) (by decide +kernel) (by decide +kernel) sb_i323 (sf_fc (sf_okb_t sb_h71_n sb_e323_0) sf_fn)
/-- X9_weathers -/
def sb_m324 : sf_M := (7077888, 36893488525376225536, sb_h71, sb_h71, [88, 116, 117, 119], [])
def sb_t324_0 : sf_T := (7077888, 36893488525376225536, [], sb_h71, [], [(0, 0)])
def sb_l324 : List sf_T := [sb_t324_0]
noncomputable def sb_b324 : en_T := (sf_tc 1310720 (sf_call 133 [(1, 5, sb_m323)]) (sf_tc 7208960 (sf_call 133 [(1, 5, sb_m322)]) (fun _ => none)))
theorem sb_e324_0 : sf_okb (sf_fin 133 sb_h71 []) sb_b324 108 1 6 133 38 sb_l324 [] sb_t324_0 = true := by decide +kernel
theorem sb_i324 : (sb_m324.1, sb_m324.2.1, ([] : List Nat), sb_m324.2.2.1, [], [(0, 0)]) ∈ sb_l324 := List.mem_cons_self
theorem sb_k324 (hS : ∀ ρ, en_SA E ρ ω mt_SB) (hX : sf_JX J) (hM : sf_MnB E ω J) : sf_Kok E ω J 1 6 133 sb_m324 := sf_K_of hS (sf_TS_k (q := 1310720) (nx := 133) (l := [(1, 5, sb_m323)]) hX (sf_fc ⟨(rfl : sb_m323.1 = 1310720), (sb_k323 hS hX hM)⟩ sf_fn) (sf_TS_k (q := 7208960) (nx := 133) (l := [(1, 5, sb_m322)]) hX (sf_fc ⟨(rfl : sb_m322.1 = 7208960), (sb_k322 hS hX hM)⟩ sf_fn) sf_TS_n)) (sf_nL (by decide +kernel)) rfl sb_h71_n sb_h71_n (by decide +kernel) (by decide +kernel) (by decide +kernel) sb_i324 (sf_fc (sf_okb_t sb_h71_n sb_e324_0) sf_fn)
/-- X9_at -/
def sb_m325 : sf_M := (262144, 4820814133899404084098741977139641793531744750205104568664832, sb_h1, sb_h1, [], [83010348325250531333])
def sb_t325_0 : sf_T := (262144, 4820814133899404084098741977139641793531744750205104568664832, [], sb_h1, [(1000, 0)], [(0, 1)])
def sb_t325_1 : sf_T := (262156, 31057858561361006067830763032960584723497155613519082123075237680513792, [], sb_h1, [(1000, 0), (1000, 2)], [(0, 0)])
def sb_l325 : List sf_T := [sb_t325_0, sb_t325_1]
noncomputable def sb_b325 : en_T := (fun _ => none)
theorem sb_e325_0 : sf_okb (sf_fin 133 sb_h1 [83010348325250531333]) sb_b325 4 3 1 133 110 sb_l325 [1] sb_t325_0 = true := by decide +kernel
theorem sb_e325_1 : sf_okb (sf_fin 133 sb_h1 [83010348325250531333]) sb_b325 4 3 1 133 36 sb_l325 [] sb_t325_1 = true := by decide +kernel
theorem sb_i325 : (sb_m325.1, sb_m325.2.1, ([] : List Nat), sb_m325.2.2.1, [(1000, 0)], [(0, 1)]) ∈ sb_l325 := List.mem_cons_self
theorem sb_k325 (hS : ∀ ρ, en_SA E ρ ω mt_SB) (hX : sf_JX J) (hM : sf_MnB E ω J) : sf_Kok E ω J 3 1 133 sb_m325 := sf_K_of hS sf_TS_n (sf_nL (by decide +kernel)) rfl sb_h1_n sb_h1_n (by decide +kernel) (by decide +kernel) (by decide +kernel) sb_i325 (sf_fc (sf_okb_t sb_h1_n sb_e325_0) (sf_fc (sf_okb_t sb_h1_n sb_e325_1) sf_fn))
/-- X9_skillAt -/
def sb_m326 : sf_M := (5898240, 31057858561361006066813557893367387256691902665387575781551385216025344, sb_h72, sb_h72, [88, 98], [73786976299133173759])
def sb_t326_0 : sf_T := (5898240, 31057858561361006066813557893367387256691902665387575781551385216025344, [], sb_h72, [(1000, 1), (1000, 2)], [(0, 0)])
def sb_l326 : List sf_T := [sb_t326_0]
noncomputable def sb_b326 : en_T := (fun _ => none)
theorem sb_e326_0 : sf_okb (sf_fin 133 sb_h72 [73786976299133173759]) sb_b326 90 3 0 133 58 sb_l326 [] sb_t326_0 = true := by decide +kernel
theorem sb_i326 : (sb_m326.1, sb_m326.2.1, ([] : List Nat), sb_m326.2.2.1, [(1000, 1), (1000, 2)], [(0, 0)]) ∈ sb_l326 := List.mem_cons_self
theorem sb_k326 (hS : ∀ ρ, en_SA E ρ ω mt_SB) (hX : sf_JX J) (hM : sf_MnB E ω J) : sf_Kok E ω J 3 0 133 sb_m326 := sf_K_of hS sf_TS_n (sf_nL (by decide +kernel)) rfl sb_h72_n sb_h72_n (by decide +kernel) (by decide +kernel) (by decide +kernel) sb_i326 (sf_fc (sf_okb_t sb_h72_n sb_e326_0) sf_fn)
/-- X9_fillsDoing -/
def sb_m327 : sf_M := (1966080, 36582990833331704133769688463878398985241663423791010922004235441607090117855687356087714591454335370296807506695615263104760996201528637261568, sb_h74, sb_h74, [88, 98, 116, 117, 119, 120], [])
def sb_t327_0 : sf_T := (1966080, 36582990833331704133769688463878398985241663423791010922004235441607090117855687356087714591454335370296807506695615263104760996201528637261568, [], sb_h74, [(1000, 1), (1000, 2), (1000, 3), (1000, 4), (1000, 5), (88, 51), (88, 52)], [(0, 1)])
def sb_t327_1 : sf_T := (1966088, 209496998917547409953475300355948448183151193670086816111875925103330289972534760558658065480983846666955816962371948440012616040572829811408636523579136, [], sb_h74, [(1000, 1), (1000, 2), (1000, 3), (1000, 4), (1000, 5), (1000, 6), (88, 51), (88, 52)], [(0, 0)])
def sb_l327 : List sf_T := [sb_t327_0, sb_t327_1]
noncomputable def sb_b327 : en_T := (sf_tc 5898240 (sf_call 133 [(3, 0, sb_m326)]) (sf_tc 3997696 (sf_call 133 [(2, 0, sb_m321)]) (sf_tc 196608 (sf_call 133 [(6, 4, sb_m78), (6, 4, sb_m79), (6, 4, sb_m80), (6, 4, sb_m81)]) (fun _ => none))))
theorem sb_e327_0 : sf_okb (sf_fin 133 sb_h74 []) sb_b327 30 7 5 133 30 sb_l327 [1] sb_t327_0 = true := by decide +kernel
theorem sb_e327_1 : sf_okb (sf_fin 133 sb_h74 []) sb_b327 30 7 5 133 214 sb_l327 [] sb_t327_1 = true := by decide +kernel
theorem sb_i327 : (sb_m327.1, sb_m327.2.1, ([] : List Nat), sb_m327.2.2.1, [(1000, 1), (1000, 2), (1000, 3), (1000, 4), (1000, 5), (88, 51), (88, 52)], [(0, 1)]) ∈ sb_l327 := List.mem_cons_self
theorem sb_k327 (hS : ∀ ρ, en_SA E ρ ω mt_SB) (hX : sf_JX J) (hM : sf_MnB E ω J) : sf_Kok E ω J 7 5 133 sb_m327 := sf_K_of hS (sf_TS_k (q := 5898240) (nx := 133) (l := [(3, 0, sb_m326)]) hX (sf_fc ⟨(rfl : sb_m326.1 = 5898240), (sb_k326 hS hX hM)⟩ sf_fn) (sf_TS_k (q := 3997696) (nx := 133) (l := [(2, 0, sb_m321)]) hX (sf_fc ⟨(rfl : sb_m321.1 = 3997696), (sb_k321 hS hX hM)⟩ sf_fn) (sf_TS_k (q := 196608) (nx := 133) (l := [(6, 4, sb_m78), (6, 4, sb_m79), (6, 4, sb_m80), (6, 4, sb_m81)]) hX (sf_fc ⟨(rfl : sb_m78.1 = 196608), (hM _ (List.mem_of_getElem? (i := 78) rfl))⟩ (sf_fc ⟨(rfl : sb_m79.1 = 196608), (hM _ (List.mem_of_getElem? (i := 79) rfl))⟩ (sf_fc ⟨(rfl : sb_m80.1 = 196608), (hM _ (List.mem_of_getElem? (i := 80) rfl))⟩ (sf_fc ⟨(rfl : sb_m81.1 = 196608), (hM _ (List.mem_of_getElem? (i := 81) rfl))⟩ sf_fn)))) sf_TS_n))) (sf_nL (by decide +kernel)) rfl sb_h74_n sb_h74_n (by decide +kernel) (by decide +kernel) (by decide +kernel) sb_i327 (sf_fc (sf_okb_t sb_h74_n sb_e327_0) (sf_fc (sf_okb_t sb_h74_n sb_e327_1) sf_fn))
/-- X9_at -/
def sb_m328 : sf_M := (262144, 4820814133899404084098741977143444745332429438409594678280960, sb_h1, sb_h1, [], [83010348325250531333])
def sb_t328_0 : sf_T := (262144, 4820814133899404084098741977143444745332429438409594678280960, [], sb_h1, [(1000, 0)], [(0, 1)])
def sb_t328_1 : sf_T := (262156, 31057858561361006067830763032960584723500958565319766811279727790129920, [], sb_h1, [(1000, 0), (1000, 2)], [(0, 0)])
def sb_l328 : List sf_T := [sb_t328_0, sb_t328_1]
noncomputable def sb_b328 : en_T := (fun _ => none)
theorem sb_e328_0 : sf_okb (sf_fin 133 sb_h1 [83010348325250531333]) sb_b328 4 3 1 133 56 sb_l328 [1] sb_t328_0 = true := by decide +kernel
theorem sb_e328_1 : sf_okb (sf_fin 133 sb_h1 [83010348325250531333]) sb_b328 4 3 1 133 36 sb_l328 [] sb_t328_1 = true := by decide +kernel
theorem sb_i328 : (sb_m328.1, sb_m328.2.1, ([] : List Nat), sb_m328.2.2.1, [(1000, 0)], [(0, 1)]) ∈ sb_l328 := List.mem_cons_self
theorem sb_k328 (hS : ∀ ρ, en_SA E ρ ω mt_SB) (hX : sf_JX J) (hM : sf_MnB E ω J) : sf_Kok E ω J 3 1 133 sb_m328 := sf_K_of hS sf_TS_n (sf_nL (by decide +kernel)) rfl sb_h1_n sb_h1_n (by decide +kernel) (by decide +kernel) (by decide +kernel) sb_i328 (sf_fc (sf_okb_t sb_h1_n sb_e328_0) (sf_fc (sf_okb_t sb_h1_n sb_e328_1) sf_fn))
/-- X9_at -/
def sb_m329 : sf_M := (262144, 4820814133899404084098741977142177094732201209008097975075584, sb_h1, sb_h1, [], [83010348325250531333])
def sb_t329_0 : sf_T := (262144, 4820814133899404084098741977142177094732201209008097975075584, [], sb_h1, [(1000, 0)], [(0, 1)])
def sb_t329_1 : sf_T := (262156, 31057858561361006067830763032960584723499690914719538581878231086924544, [], sb_h1, [(1000, 0), (1000, 2)], [(0, 0)])
def sb_l329 : List sf_T := [sb_t329_0, sb_t329_1]
noncomputable def sb_b329 : en_T := (fun _ => none)
theorem sb_e329_0 : sf_okb (sf_fin 133 sb_h1 [83010348325250531333]) sb_b329 4 3 1 133 74 sb_l329 [1] sb_t329_0 = true := by decide +kernel
theorem sb_e329_1 : sf_okb (sf_fin 133 sb_h1 [83010348325250531333]) sb_b329 4 3 1 133 36 sb_l329 [] sb_t329_1 = true := by decide +kernel
theorem sb_i329 : (sb_m329.1, sb_m329.2.1, ([] : List Nat), sb_m329.2.2.1, [(1000, 0)], [(0, 1)]) ∈ sb_l329 := List.mem_cons_self
theorem sb_k329 (hS : ∀ ρ, en_SA E ρ ω mt_SB) (hX : sf_JX J) (hM : sf_MnB E ω J) : sf_Kok E ω J 3 1 133 sb_m329 := sf_K_of hS sf_TS_n (sf_nL (by decide +kernel)) rfl sb_h1_n sb_h1_n (by decide +kernel) (by decide +kernel) (by decide +kernel) sb_i329 (sf_fc (sf_okb_t sb_h1_n sb_e329_0) (sf_fc (sf_okb_t sb_h1_n sb_e329_1) sf_fn))
/-- X9_at -/
def sb_m330 : sf_M := (262144, 4820814133899404084098741977140909444131972979606601271870208, sb_h1, sb_h1, [], [83010348325250531333])
def sb_t330_0 : sf_T := (262144, 4820814133899404084098741977140909444131972979606601271870208, [], sb_h1, [(1000, 0)], [(0, 1)])
def sb_t330_1 : sf_T := (262156, 31057858561361006067830763032960584723498423264119310352476734383719168, [], sb_h1, [(1000, 0), (1000, 2)], [(0, 0)])
def sb_l330 : List sf_T := [sb_t330_0, sb_t330_1]
noncomputable def sb_b330 : en_T := (fun _ => none)
theorem sb_e330_0 : sf_okb (sf_fin 133 sb_h1 [83010348325250531333]) sb_b330 4 3 1 133 92 sb_l330 [1] sb_t330_0 = true := by decide +kernel
theorem sb_e330_1 : sf_okb (sf_fin 133 sb_h1 [83010348325250531333]) sb_b330 4 3 1 133 36 sb_l330 [] sb_t330_1 = true := by decide +kernel
theorem sb_i330 : (sb_m330.1, sb_m330.2.1, ([] : List Nat), sb_m330.2.2.1, [(1000, 0)], [(0, 1)]) ∈ sb_l330 := List.mem_cons_self
theorem sb_k330 (hS : ∀ ρ, en_SA E ρ ω mt_SB) (hX : sf_JX J) (hM : sf_MnB E ω J) : sf_Kok E ω J 3 1 133 sb_m330 := sf_K_of hS sf_TS_n (sf_nL (by decide +kernel)) rfl sb_h1_n sb_h1_n (by decide +kernel) (by decide +kernel) (by decide +kernel) sb_i330 (sf_fc (sf_okb_t sb_h1_n sb_e330_0) (sf_fc (sf_okb_t sb_h1_n sb_e330_1) sf_fn))
/-- X9_ordersOf -/
def sb_m331 : sf_M := (4587520, 4820814134004632201975677951514818796926343767777008297181952, sb_h73, sb_h73, [88, 98, 116, 117, 119], [83010348333840465923])
def sb_t331_0 : sf_T := (4587520, 4820814134004632201975677951514818796926343767777008297181952, [], sb_h73, [(1000, 1), (88, 51), (88, 52)], [(0, 1)])
def sb_t331_1 : sf_T := (4587571, 27606985390376131237988087698914973080737518814384213182516637433070336, [], sb_h73, [(1000, 1), (1000, 2), (88, 51), (88, 52)], [(0, 0)])
def sb_l331 : List sf_T := [sb_t331_0, sb_t331_1]
noncomputable def sb_b331 : en_T := (sf_tc 5898240 (sf_call 133 [(3, 0, sb_m326)]) (sf_tc 3997696 (sf_call 133 [(2, 0, sb_m321)]) (sf_tc 196608 (sf_call 133 [(6, 4, sb_m82)]) (fun _ => none))))
theorem sb_e331_0 : sf_okb (sf_fin 133 sb_h73 [83010348333840465923]) sb_b331 70 3 5 133 78 sb_l331 [1] sb_t331_0 = true := by decide +kernel
theorem sb_e331_1 : sf_okb (sf_fin 133 sb_h73 [83010348333840465923]) sb_b331 70 3 5 133 38 sb_l331 [] sb_t331_1 = true := by decide +kernel
theorem sb_i331 : (sb_m331.1, sb_m331.2.1, ([] : List Nat), sb_m331.2.2.1, [(1000, 1), (88, 51), (88, 52)], [(0, 1)]) ∈ sb_l331 := List.mem_cons_self
theorem sb_k331 (hS : ∀ ρ, en_SA E ρ ω mt_SB) (hX : sf_JX J) (hM : sf_MnB E ω J) : sf_Kok E ω J 3 5 133 sb_m331 := sf_K_of hS (sf_TS_k (q := 5898240) (nx := 133) (l := [(3, 0, sb_m326)]) hX (sf_fc ⟨(rfl : sb_m326.1 = 5898240), (sb_k326 hS hX hM)⟩ sf_fn) (sf_TS_k (q := 3997696) (nx := 133) (l := [(2, 0, sb_m321)]) hX (sf_fc ⟨(rfl : sb_m321.1 = 3997696), (sb_k321 hS hX hM)⟩ sf_fn) (sf_TS_k (q := 196608) (nx := 133) (l := [(6, 4, sb_m82)]) hX (sf_fc ⟨(rfl : sb_m82.1 = 196608), (hM _ (List.mem_of_getElem? (i := 82) rfl))⟩ sf_fn) sf_TS_n))) (sf_nL (by decide +kernel)) rfl sb_h73_n sb_h73_n (by decide +kernel) (by decide +kernel) (by decide +kernel) sb_i331 (sf_fc (sf_okb_t sb_h73_n sb_e331_0) (sf_fc (sf_okb_t sb_h73_n sb_e331_1) sf_fn))
/-- X9_fillsDraw -/
def sb_m332 : sf_M := (2031616, 31057858559754068022554567617836314203128233281242810191791013140366080, sb_h74, sb_h74, [88, 98, 116, 117, 119, 120], [])
def sb_t332_0 : sf_T := (2031616, 31057858559754068022554567617836314203128233281242810191791013140366080, [], sb_h74, [(1000, 1), (1000, 2)], [(0, 0)])
def sb_l332 : List sf_T := [sb_t332_0]
noncomputable def sb_b332 : en_T := (sf_tc 4587520 (sf_call 133 [(3, 5, sb_m331)]) (sf_tc 1966080 (sf_call 133 [(7, 5, sb_m327)]) (sf_tc 262144 (sf_call 133 [(3, 1, sb_m325), (3, 1, sb_m328), (3, 1, sb_m329), (3, 1, sb_m330)]) (fun _ => none))))
theorem sb_e332_0 : sf_okb (sf_fin 133 sb_h74 []) sb_b332 31 3 6 133 72 sb_l332 [] sb_t332_0 = true := by decide +kernel
theorem sb_i332 : (sb_m332.1, sb_m332.2.1, ([] : List Nat), sb_m332.2.2.1, [(1000, 1), (1000, 2)], [(0, 0)]) ∈ sb_l332 := List.mem_cons_self
theorem sb_k332 (hS : ∀ ρ, en_SA E ρ ω mt_SB) (hX : sf_JX J) (hM : sf_MnB E ω J) : sf_Kok E ω J 3 6 133 sb_m332 := sf_K_of hS (sf_TS_k (q := 4587520) (nx := 133) (l := [(3, 5, sb_m331)]) hX (sf_fc ⟨(rfl : sb_m331.1 = 4587520), (sb_k331 hS hX hM)⟩ sf_fn) (sf_TS_k (q := 1966080) (nx := 133) (l := [(7, 5, sb_m327)]) hX (sf_fc ⟨(rfl : sb_m327.1 = 1966080), (sb_k327 hS hX hM)⟩ sf_fn) (sf_TS_k (q := 262144) (nx := 133) (l := [(3, 1, sb_m325), (3, 1, sb_m328), (3, 1, sb_m329), (3, 1, sb_m330)]) hX (sf_fc ⟨(rfl : sb_m325.1 = 262144), (sb_k325 hS hX hM)⟩ (sf_fc ⟨(rfl : sb_m328.1 = 262144), (sb_k328 hS hX hM)⟩ (sf_fc ⟨(rfl : sb_m329.1 = 262144), (sb_k329 hS hX hM)⟩ (sf_fc ⟨(rfl : sb_m330.1 = 262144), (sb_k330 hS hX hM)⟩ sf_fn)))) sf_TS_n))) (sf_nL (by decide +kernel)) rfl sb_h74_n sb_h74_n (by decide +kernel) (by decide +kernel) (by decide +kernel) sb_i332 (sf_fc (sf_okb_t sb_h74_n sb_e332_0) sf_fn)
end SFP
