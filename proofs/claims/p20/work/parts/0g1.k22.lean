/-! CONTRACTS, by program (wip/p3/emit.py) -/
section SFP
variable {E : mm_E} {ω : Nat → Value} {J : mm_H → Prop}
/-- X9_copies -/
def zb_m320 : sf_M := (1114112, 16333553616007998046963562849740359991808, zb_h75, zb_h75, [88, 105, 118, 119], [])
def zb_t320_0 : sf_T := (1114112, 16333553616007998046963562849740359991808, [], zb_h75, [], [(0, 0)])
def zb_l320 : List sf_T := [zb_t320_0]
noncomputable def zb_b320 : en_T := (fun _ => none)
theorem zb_e320_0 : sf_okb (sf_fin 133 zb_h75 []) zb_b320 17 2 0 133 1612 zb_l320 [] zb_t320_0 = true := by decide +kernel
theorem zb_i320 : (zb_m320.1, zb_m320.2.1, ([] : List Nat), zb_m320.2.2.1, [], [(0, 0)]) ∈ zb_l320 := List.mem_cons_self
theorem zb_k320 (hS : ∀ ρ, en_SA E ρ ω mt_SB) (hX : sf_JX J) (hM : sf_MnB E ω J) : sf_Kok E ω J 2 0 133 zb_m320 := sf_K_of hS sf_TS_n (sf_nL (by decide +kernel)) rfl zb_h75_n zb_h75_n (by decide +kernel) (by decide +kernel) (by decide +kernel) zb_i320 (sf_fc (sf_okb_t zb_h75_n zb_e320_0) sf_fn)
/-- X9_looks -/
def zb_m321 : sf_M := (3997696, 16333553616007998046963562849740359991808, zb_h70, zb_h70, [88, 116, 119], [])
def zb_t321_0 : sf_T := (3997696, 16333553616007998046963562849740359991808, [], zb_h70, [], [(0, 1)])
def zb_t321_1 : sf_T := (3997698, 105228117901436304798911701896198319814493576626688, [], zb_h70, [(1000, 1)], [(0, 0), (1, 0), (0, 0)])
def zb_l321 : List sf_T := [zb_t321_0, zb_t321_1]
noncomputable def zb_b321 : en_T := (fun _ => none)
theorem zb_e321_0 : sf_okb (sf_fin 133 zb_h70 []) zb_b321 61 2 0 133 24 zb_l321 [1] zb_t321_0 = true := by decide +kernel
theorem zb_e321_1 : sf_okb (sf_fin 133 zb_h70 []) zb_b321 61 2 0 133 74 zb_l321 [1] zb_t321_1 = true := by decide +kernel
theorem zb_i321 : (zb_m321.1, zb_m321.2.1, ([] : List Nat), zb_m321.2.2.1, [], [(0, 1)]) ∈ zb_l321 := List.mem_cons_self
theorem zb_k321 (hS : ∀ ρ, en_SA E ρ ω mt_SB) (hX : sf_JX J) (hM : sf_MnB E ω J) : sf_Kok E ω J 2 0 133 zb_m321 := sf_K_of hS sf_TS_n (sf_nL (by decide +kernel)) rfl zb_h70_n zb_h70_n (by decide +kernel) (by decide +kernel) (by decide +kernel) zb_i321 (sf_fc (sf_okb_t zb_h70_n zb_e321_0) (sf_fc (sf_okb_t zb_h70_n zb_e321_1) sf_fn))
/-- X9_windNow -/
def zb_m322 : sf_M := (7208960, 36893488525376225536, zb_h71, zb_h71, [88, 116, 117, 119], [83010348333840465929])
def zb_t322_0 : sf_T := (7208960, 36893488525376225536, [], zb_h71, [], [(0, 0)])
def zb_l322 : List sf_T := [zb_t322_0]
noncomputable def zb_b322 : en_T := (sf_tc 3997696 (sf_call 133 [(2, 0, zb_m321)]) (sf_tc 196608 (sf_call 133 [(6, 4, zb_m78)]) (fun _ => none)))
theorem zb_e322_0 : sf_okb (sf_fin 133 zb_h71 [83010348333840465929]) zb_b322 110 1 5 133 38 zb_l322 [] zb_t322_0 = true := by decide +kernel
theorem zb_i322 : (zb_m322.1, zb_m322.2.1, ([] : List Nat), zb_m322.2.2.1, [], [(0, 0)]) ∈ zb_l322 := List.mem_cons_self
theorem zb_k322 (hS : ∀ ρ, en_SA E ρ ω mt_SB) (hX : sf_JX J) (hM : sf_MnB E ω J) : sf_Kok E ω J 1 5 133 zb_m322 := sf_K_of hS (sf_TS_k (q := 3997696) (nx := 133) (l := [(2, 0, zb_m321)]) hX (sf_fc ⟨(rfl : zb_m321.1 = 3997696), (zb_k321 hS hX hM)⟩ sf_fn) (sf_TS_k (q := 196608) (nx := 133) (l := [(6, 4, zb_m78)]) hX (sf_fc ⟨(rfl : zb_m78.1 = 196608), (hM _ (List.mem_of_getElem? (i := 78) rfl))⟩ sf_fn) sf_TS_n)) (sf_nL (by decide +kernel)) rfl zb_h71_n zb_h71_n (by decide +kernel) (by decide +kernel) (by decide +kernel) zb_i322 (sf_fc (sf_okb_t zb_h71_n zb_e322_0) sf_fn)
/-- X9_dangerNow -/
def zb_m323 : sf_M := (1310720, 36893488525376225536, zb_h71, zb_h71, [88, 116, 117, 119], [83010348333840465929])
def zb_t323_0 : sf_T := (1310720, 36893488525376225536, [], zb_h71, [], [(0, 0)])
def zb_l323 : List sf_T := [zb_t323_0]
noncomputable def zb_b323 : en_T := (sf_tc 3997696 (sf_call 133 [(2, 0, zb_m321)]) (sf_tc 196608 (sf_call 133 [(6, 4, zb_m78)]) (fun _ => none)))
theorem zb_e323_0 : sf_okb (sf_fin 133 zb_h71 [83010348333840465929]) zb_b323 20 1 5 133 38 zb_l323 [] zb_t323_0 = true := by decide +kernel
theorem zb_i323 : (zb_m323.1, zb_m323.2.1, ([] : List Nat), zb_m323.2.2.1, [], [(0, 0)]) ∈ zb_l323 := List.mem_cons_self
theorem zb_k323 (hS : ∀ ρ, en_SA E ρ ω mt_SB) (hX : sf_JX J) (hM : sf_MnB E ω J) : sf_Kok E ω J 1 5 133 zb_m323 := sf_K_of hS (sf_TS_k (q := 3997696) (nx := 133) (l := [(2, 0, zb_m321)]) hX (sf_fc ⟨(rfl : zb_m321.1 = 3997696), (zb_k321 hS hX hM)⟩ sf_fn) (sf_TS_k (q := 196608) (nx := 133) (l := [(6, 4, zb_m78)]) hX (sf_fc ⟨(rfl : zb_m78.1 = 196608), (hM _ (List.mem_of_getElem? (i := 78) rfl))⟩ sf_fn) sf_TS_n)) (sf_nL (by decide +kernel)) rfl zb_h71_n zb_h71_n (by decide +kernel) (by decide +kernel) (by decide +kernel) zb_i323 (sf_fc (sf_okb_t zb_h71_n zb_e323_0) sf_fn)
/-- X9_weathers -/
def zb_m324 : sf_M := (7077888, 36893488525376225536, zb_h71, zb_h71, [88, 116, 117, 119], [])
def zb_t324_0 : sf_T := (7077888, 36893488525376225536, [], zb_h71, [], [(0, 0)])
def zb_l324 : List sf_T := [zb_t324_0]
noncomputable def zb_b324 : en_T := (sf_tc 1310720 (sf_call 133 [(1, 5, zb_m323)]) (sf_tc 7208960 (sf_call 133 [(1, 5, zb_m322)]) (fun _ => none)))
theorem zb_e324_0 : sf_okb (sf_fin 133 zb_h71 []) zb_b324 108 1 6 133 38 zb_l324 [] zb_t324_0 = true := by decide +kernel
theorem zb_i324 : (zb_m324.1, zb_m324.2.1, ([] : List Nat), zb_m324.2.2.1, [], [(0, 0)]) ∈ zb_l324 := List.mem_cons_self
theorem zb_k324 (hS : ∀ ρ, en_SA E ρ ω mt_SB) (hX : sf_JX J) (hM : sf_MnB E ω J) : sf_Kok E ω J 1 6 133 zb_m324 := sf_K_of hS (sf_TS_k (q := 1310720) (nx := 133) (l := [(1, 5, zb_m323)]) hX (sf_fc ⟨(rfl : zb_m323.1 = 1310720), (zb_k323 hS hX hM)⟩ sf_fn) (sf_TS_k (q := 7208960) (nx := 133) (l := [(1, 5, zb_m322)]) hX (sf_fc ⟨(rfl : zb_m322.1 = 7208960), (zb_k322 hS hX hM)⟩ sf_fn) sf_TS_n)) (sf_nL (by decide +kernel)) rfl zb_h71_n zb_h71_n (by decide +kernel) (by decide +kernel) (by decide +kernel) zb_i324 (sf_fc (sf_okb_t zb_h71_n zb_e324_0) sf_fn)
/-- X9_at -/
def zb_m325 : sf_M := (262144, 4820814133899404084098741977139641793531744750205104568664832, zb_h1, zb_h1, [], [83010348325250531333])
def zb_t325_0 : sf_T := (262144, 4820814133899404084098741977139641793531744750205104568664832, [], zb_h1, [(1000, 0)], [(0, 1)])
def zb_t325_1 : sf_T := (262156, 31057858561361006067830763032960584723497155613519082123075237680513792, [], zb_h1, [(1000, 0), (1000, 2)], [(0, 0)])
def zb_l325 : List sf_T := [zb_t325_0, zb_t325_1]
noncomputable def zb_b325 : en_T := (fun _ => none)
theorem zb_e325_0 : sf_okb (sf_fin 133 zb_h1 [83010348325250531333]) zb_b325 4 3 1 133 110 zb_l325 [1] zb_t325_0 = true := by decide +kernel
theorem zb_e325_1 : sf_okb (sf_fin 133 zb_h1 [83010348325250531333]) zb_b325 4 3 1 133 36 zb_l325 [] zb_t325_1 = true := by decide +kernel
theorem zb_i325 : (zb_m325.1, zb_m325.2.1, ([] : List Nat), zb_m325.2.2.1, [(1000, 0)], [(0, 1)]) ∈ zb_l325 := List.mem_cons_self
theorem zb_k325 (hS : ∀ ρ, en_SA E ρ ω mt_SB) (hX : sf_JX J) (hM : sf_MnB E ω J) : sf_Kok E ω J 3 1 133 zb_m325 := sf_K_of hS sf_TS_n (sf_nL (by decide +kernel)) rfl zb_h1_n zb_h1_n (by decide +kernel) (by decide +kernel) (by decide +kernel) zb_i325 (sf_fc (sf_okb_t zb_h1_n zb_e325_0) (sf_fc (sf_okb_t zb_h1_n zb_e325_1) sf_fn))
/-- X9_skillAt -/
def zb_m326 : sf_M := (5898240, 31057858561361006066813557893367387256691902665387575781551385216025344, zb_h72, zb_h72, [88, 98], [73786976299133173759])
def zb_t326_0 : sf_T := (5898240, 31057858561361006066813557893367387256691902665387575781551385216025344, [], zb_h72, [(1000, 1), (1000, 2)], [(0, 0)])
def zb_l326 : List sf_T := [zb_t326_0]
noncomputable def zb_b326 : en_T := (fun _ => none)
theorem zb_e326_0 : sf_okb (sf_fin 133 zb_h72 [73786976299133173759]) zb_b326 90 3 0 133 58 zb_l326 [] zb_t326_0 = true := by decide +kernel
theorem zb_i326 : (zb_m326.1, zb_m326.2.1, ([] : List Nat), zb_m326.2.2.1, [(1000, 1), (1000, 2)], [(0, 0)]) ∈ zb_l326 := List.mem_cons_self
theorem zb_k326 (hS : ∀ ρ, en_SA E ρ ω mt_SB) (hX : sf_JX J) (hM : sf_MnB E ω J) : sf_Kok E ω J 3 0 133 zb_m326 := sf_K_of hS sf_TS_n (sf_nL (by decide +kernel)) rfl zb_h72_n zb_h72_n (by decide +kernel) (by decide +kernel) (by decide +kernel) zb_i326 (sf_fc (sf_okb_t zb_h72_n zb_e326_0) sf_fn)
/-- X9_fillsDoing -/
def zb_m327 : sf_M := (1966080, 36582990833331704133769688463878398985241663423791010922004235441607090117855687356087714591454335370296807506695615263104760996201528637261568, zb_h74, zb_h74, [88, 98, 116, 117, 119, 120], [])
def zb_t327_0 : sf_T := (1966080, 36582990833331704133769688463878398985241663423791010922004235441607090117855687356087714591454335370296807506695615263104760996201528637261568, [], zb_h74, [(1000, 1), (1000, 2), (1000, 3), (1000, 4), (1000, 5), (88, 51), (88, 52)], [(0, 1)])
def zb_t327_1 : sf_T := (1966088, 209496998917547409953475300355948448183151193670086816111875925103330289972534760558658065480983846666955816962371948440012616040572829811408636523579136, [], zb_h74, [(1000, 1), (1000, 2), (1000, 3), (1000, 4), (1000, 5), (1000, 6), (88, 51), (88, 52)], [(0, 0)])
def zb_l327 : List sf_T := [zb_t327_0, zb_t327_1]
noncomputable def zb_b327 : en_T := (sf_tc 5898240 (sf_call 133 [(3, 0, zb_m326)]) (sf_tc 3997696 (sf_call 133 [(2, 0, zb_m321)]) (sf_tc 196608 (sf_call 133 [(6, 4, zb_m78), (6, 4, zb_m79), (6, 4, zb_m80), (6, 4, zb_m81)]) (fun _ => none))))
theorem zb_e327_0 : sf_okb (sf_fin 133 zb_h74 []) zb_b327 30 7 5 133 30 zb_l327 [1] zb_t327_0 = true := by decide +kernel
theorem zb_e327_1 : sf_okb (sf_fin 133 zb_h74 []) zb_b327 30 7 5 133 214 zb_l327 [] zb_t327_1 = true := by decide +kernel
theorem zb_i327 : (zb_m327.1, zb_m327.2.1, ([] : List Nat), zb_m327.2.2.1, [(1000, 1), (1000, 2), (1000, 3), (1000, 4), (1000, 5), (88, 51), (88, 52)], [(0, 1)]) ∈ zb_l327 := List.mem_cons_self
theorem zb_k327 (hS : ∀ ρ, en_SA E ρ ω mt_SB) (hX : sf_JX J) (hM : sf_MnB E ω J) : sf_Kok E ω J 7 5 133 zb_m327 := sf_K_of hS (sf_TS_k (q := 5898240) (nx := 133) (l := [(3, 0, zb_m326)]) hX (sf_fc ⟨(rfl : zb_m326.1 = 5898240), (zb_k326 hS hX hM)⟩ sf_fn) (sf_TS_k (q := 3997696) (nx := 133) (l := [(2, 0, zb_m321)]) hX (sf_fc ⟨(rfl : zb_m321.1 = 3997696), (zb_k321 hS hX hM)⟩ sf_fn) (sf_TS_k (q := 196608) (nx := 133) (l := [(6, 4, zb_m78), (6, 4, zb_m79), (6, 4, zb_m80), (6, 4, zb_m81)]) hX (sf_fc ⟨(rfl : zb_m78.1 = 196608), (hM _ (List.mem_of_getElem? (i := 78) rfl))⟩ (sf_fc ⟨(rfl : zb_m79.1 = 196608), (hM _ (List.mem_of_getElem? (i := 79) rfl))⟩ (sf_fc ⟨(rfl : zb_m80.1 = 196608), (hM _ (List.mem_of_getElem? (i := 80) rfl))⟩ (sf_fc ⟨(rfl : zb_m81.1 = 196608), (hM _ (List.mem_of_getElem? (i := 81) rfl))⟩ sf_fn)))) sf_TS_n))) (sf_nL (by decide +kernel)) rfl zb_h74_n zb_h74_n (by decide +kernel) (by decide +kernel) (by decide +kernel) zb_i327 (sf_fc (sf_okb_t zb_h74_n zb_e327_0) (sf_fc (sf_okb_t zb_h74_n zb_e327_1) sf_fn))
/-- X9_at -/
def zb_m328 : sf_M := (262144, 4820814133899404084098741977143444745332429438409594678280960, zb_h1, zb_h1, [], [83010348325250531333])
def zb_t328_0 : sf_T := (262144, 4820814133899404084098741977143444745332429438409594678280960, [], zb_h1, [(1000, 0)], [(0, 1)])
def zb_t328_1 : sf_T := (262156, 31057858561361006067830763032960584723500958565319766811279727790129920, [], zb_h1, [(1000, 0), (1000, 2)], [(0, 0)])
def zb_l328 : List sf_T := [zb_t328_0, zb_t328_1]
noncomputable def zb_b328 : en_T := (fun _ => none)
theorem zb_e328_0 : sf_okb (sf_fin 133 zb_h1 [83010348325250531333]) zb_b328 4 3 1 133 56 zb_l328 [1] zb_t328_0 = true := by decide +kernel
theorem zb_e328_1 : sf_okb (sf_fin 133 zb_h1 [83010348325250531333]) zb_b328 4 3 1 133 36 zb_l328 [] zb_t328_1 = true := by decide +kernel
theorem zb_i328 : (zb_m328.1, zb_m328.2.1, ([] : List Nat), zb_m328.2.2.1, [(1000, 0)], [(0, 1)]) ∈ zb_l328 := List.mem_cons_self
theorem zb_k328 (hS : ∀ ρ, en_SA E ρ ω mt_SB) (hX : sf_JX J) (hM : sf_MnB E ω J) : sf_Kok E ω J 3 1 133 zb_m328 := sf_K_of hS sf_TS_n (sf_nL (by decide +kernel)) rfl zb_h1_n zb_h1_n (by decide +kernel) (by decide +kernel) (by decide +kernel) zb_i328 (sf_fc (sf_okb_t zb_h1_n zb_e328_0) (sf_fc (sf_okb_t zb_h1_n zb_e328_1) sf_fn))
/-- X9_at -/
def zb_m329 : sf_M := (262144, 4820814133899404084098741977142177094732201209008097975075584, zb_h1, zb_h1, [], [83010348325250531333])
def zb_t329_0 : sf_T := (262144, 4820814133899404084098741977142177094732201209008097975075584, [], zb_h1, [(1000, 0)], [(0, 1)])
def zb_t329_1 : sf_T := (262156, 31057858561361006067830763032960584723499690914719538581878231086924544, [], zb_h1, [(1000, 0), (1000, 2)], [(0, 0)])
def zb_l329 : List sf_T := [zb_t329_0, zb_t329_1]
noncomputable def zb_b329 : en_T := (fun _ => none)
theorem zb_e329_0 : sf_okb (sf_fin 133 zb_h1 [83010348325250531333]) zb_b329 4 3 1 133 74 zb_l329 [1] zb_t329_0 = true := by decide +kernel
theorem zb_e329_1 : sf_okb (sf_fin 133 zb_h1 [83010348325250531333]) zb_b329 4 3 1 133 36 zb_l329 [] zb_t329_1 = true := by decide +kernel
theorem zb_i329 : (zb_m329.1, zb_m329.2.1, ([] : List Nat), zb_m329.2.2.1, [(1000, 0)], [(0, 1)]) ∈ zb_l329 := List.mem_cons_self
theorem zb_k329 (hS : ∀ ρ, en_SA E ρ ω mt_SB) (hX : sf_JX J) (hM : sf_MnB E ω J) : sf_Kok E ω J 3 1 133 zb_m329 := sf_K_of hS sf_TS_n (sf_nL (by decide +kernel)) rfl zb_h1_n zb_h1_n (by decide +kernel) (by decide +kernel) (by decide +kernel) zb_i329 (sf_fc (sf_okb_t zb_h1_n zb_e329_0) (sf_fc (sf_okb_t zb_h1_n zb_e329_1) sf_fn))
/-- X9_at -/
def zb_m330 : sf_M := (262144, 4820814133899404084098741977140909444131972979606601271870208, zb_h1, zb_h1, [], [83010348325250531333])
def zb_t330_0 : sf_T := (262144, 4820814133899404084098741977140909444131972979606601271870208, [], zb_h1, [(1000, 0)], [(0, 1)])
def zb_t330_1 : sf_T := (262156, 31057858561361006067830763032960584723498423264119310352476734383719168, [], zb_h1, [(1000, 0), (1000, 2)], [(0, 0)])
def zb_l330 : List sf_T := [zb_t330_0, zb_t330_1]
noncomputable def zb_b330 : en_T := (fun _ => none)
theorem zb_e330_0 : sf_okb (sf_fin 133 zb_h1 [83010348325250531333]) zb_b330 4 3 1 133 92 zb_l330 [1] zb_t330_0 = true := by decide +kernel
theorem zb_e330_1 : sf_okb (sf_fin 133 zb_h1 [83010348325250531333]) zb_b330 4 3 1 133 36 zb_l330 [] zb_t330_1 = true := by decide +kernel
theorem zb_i330 : (zb_m330.1, zb_m330.2.1, ([] : List Nat), zb_m330.2.2.1, [(1000, 0)], [(0, 1)]) ∈ zb_l330 := List.mem_cons_self
theorem zb_k330 (hS : ∀ ρ, en_SA E ρ ω mt_SB) (hX : sf_JX J) (hM : sf_MnB E ω J) : sf_Kok E ω J 3 1 133 zb_m330 := sf_K_of hS sf_TS_n (sf_nL (by decide +kernel)) rfl zb_h1_n zb_h1_n (by decide +kernel) (by decide +kernel) (by decide +kernel) zb_i330 (sf_fc (sf_okb_t zb_h1_n zb_e330_0) (sf_fc (sf_okb_t zb_h1_n zb_e330_1) sf_fn))
/-- X9_ordersOf -/
def zb_m331 : sf_M := (4587520, 4820814134004632201975677951514818796926343767777008297181952, zb_h73, zb_h73, [88, 98, 116, 117, 119], [83010348333840465923])
def zb_t331_0 : sf_T := (4587520, 4820814134004632201975677951514818796926343767777008297181952, [], zb_h73, [(1000, 1), (88, 51), (88, 52)], [(0, 1)])
def zb_t331_1 : sf_T := (4587571, 27606985390376131237988087698914973080737518814384213182516637433070336, [], zb_h73, [(1000, 1), (1000, 2), (88, 51), (88, 52)], [(0, 0)])
def zb_l331 : List sf_T := [zb_t331_0, zb_t331_1]
noncomputable def zb_b331 : en_T := (sf_tc 5898240 (sf_call 133 [(3, 0, zb_m326)]) (sf_tc 3997696 (sf_call 133 [(2, 0, zb_m321)]) (sf_tc 196608 (sf_call 133 [(6, 4, zb_m82)]) (fun _ => none))))
theorem zb_e331_0 : sf_okb (sf_fin 133 zb_h73 [83010348333840465923]) zb_b331 70 3 5 133 78 zb_l331 [1] zb_t331_0 = true := by decide +kernel
theorem zb_e331_1 : sf_okb (sf_fin 133 zb_h73 [83010348333840465923]) zb_b331 70 3 5 133 38 zb_l331 [] zb_t331_1 = true := by decide +kernel
theorem zb_i331 : (zb_m331.1, zb_m331.2.1, ([] : List Nat), zb_m331.2.2.1, [(1000, 1), (88, 51), (88, 52)], [(0, 1)]) ∈ zb_l331 := List.mem_cons_self
theorem zb_k331 (hS : ∀ ρ, en_SA E ρ ω mt_SB) (hX : sf_JX J) (hM : sf_MnB E ω J) : sf_Kok E ω J 3 5 133 zb_m331 := sf_K_of hS (sf_TS_k (q := 5898240) (nx := 133) (l := [(3, 0, zb_m326)]) hX (sf_fc ⟨(rfl : zb_m326.1 = 5898240), (zb_k326 hS hX hM)⟩ sf_fn) (sf_TS_k (q := 3997696) (nx := 133) (l := [(2, 0, zb_m321)]) hX (sf_fc ⟨(rfl : zb_m321.1 = 3997696), (zb_k321 hS hX hM)⟩ sf_fn) (sf_TS_k (q := 196608) (nx := 133) (l := [(6, 4, zb_m82)]) hX (sf_fc ⟨(rfl : zb_m82.1 = 196608), (hM _ (List.mem_of_getElem? (i := 82) rfl))⟩ sf_fn) sf_TS_n))) (sf_nL (by decide +kernel)) rfl zb_h73_n zb_h73_n (by decide +kernel) (by decide +kernel) (by decide +kernel) zb_i331 (sf_fc (sf_okb_t zb_h73_n zb_e331_0) (sf_fc (sf_okb_t zb_h73_n zb_e331_1) sf_fn))
/-- X9_fillsDraw -/
def zb_m332 : sf_M := (2031616, 31057858559754068022554567617836314203128233281242810191791013140366080, zb_h74, zb_h74, [88, 98, 116, 117, 119, 120], [])
def zb_t332_0 : sf_T := (2031616, 31057858559754068022554567617836314203128233281242810191791013140366080, [], zb_h74, [(1000, 1), (1000, 2)], [(0, 0)])
def zb_l332 : List sf_T := [zb_t332_0]
noncomputable def zb_b332 : en_T := (sf_tc 4587520 (sf_call 133 [(3, 5, zb_m331)]) (sf_tc 1966080 (sf_call 133 [(7, 5, zb_m327)]) (sf_tc 262144 (sf_call 133 [(3, 1, zb_m325), (3, 1, zb_m328), (3, 1, zb_m329), (3, 1, zb_m330)]) (fun _ => none))))
theorem zb_e332_0 : sf_okb (sf_fin 133 zb_h74 []) zb_b332 31 3 6 133 72 zb_l332 [] zb_t332_0 = true := by decide +kernel
theorem zb_i332 : (zb_m332.1, zb_m332.2.1, ([] : List Nat), zb_m332.2.2.1, [(1000, 1), (1000, 2)], [(0, 0)]) ∈ zb_l332 := List.mem_cons_self
theorem zb_k332 (hS : ∀ ρ, en_SA E ρ ω mt_SB) (hX : sf_JX J) (hM : sf_MnB E ω J) : sf_Kok E ω J 3 6 133 zb_m332 := sf_K_of hS (sf_TS_k (q := 4587520) (nx := 133) (l := [(3, 5, zb_m331)]) hX (sf_fc ⟨(rfl : zb_m331.1 = 4587520), (zb_k331 hS hX hM)⟩ sf_fn) (sf_TS_k (q := 1966080) (nx := 133) (l := [(7, 5, zb_m327)]) hX (sf_fc ⟨(rfl : zb_m327.1 = 1966080), (zb_k327 hS hX hM)⟩ sf_fn) (sf_TS_k (q := 262144) (nx := 133) (l := [(3, 1, zb_m325), (3, 1, zb_m328), (3, 1, zb_m329), (3, 1, zb_m330)]) hX (sf_fc ⟨(rfl : zb_m325.1 = 262144), (zb_k325 hS hX hM)⟩ (sf_fc ⟨(rfl : zb_m328.1 = 262144), (zb_k328 hS hX hM)⟩ (sf_fc ⟨(rfl : zb_m329.1 = 262144), (zb_k329 hS hX hM)⟩ (sf_fc ⟨(rfl : zb_m330.1 = 262144), (zb_k330 hS hX hM)⟩ sf_fn)))) sf_TS_n))) (sf_nL (by decide +kernel)) rfl zb_h74_n zb_h74_n (by decide +kernel) (by decide +kernel) (by decide +kernel) zb_i332 (sf_fc (sf_okb_t zb_h74_n zb_e332_0) sf_fn)
end SFP
