/-! CONTRACTS, by program (wip/p3/emit.py) -/
section SFP
variable {E : mm_E} {ω : Nat → Value} {J : mm_H → Prop}
/-- X9_looks -/
def sb_m334 : sf_M := (3997696, 16333553616007998046963562849740359991808, sb_h70, sb_h70, [88, 116, 119], [])
def sb_t334_0 : sf_T := (3997696, 16333553616007998046963562849740359991808, [], sb_h70, [], [(0, 1)])
def sb_t334_1 : sf_T := (3997698, 105228117901436304798911701896198319814493576626688, [], sb_h70, [(1000, 1)], [(0, 0), (1, 0), (0, 0)])
def sb_l334 : List sf_T := [sb_t334_0, sb_t334_1]
noncomputable def sb_b334 : en_T := (fun _ => none)
theorem sb_e334_0 : sf_okb (sf_fin 133 sb_h70 []) sb_b334 61 2 0 133 24 sb_l334 [1] sb_t334_0 = true := by decide +kernel
theorem sb_e334_1 : sf_okb (sf_fin 133 sb_h70 []) sb_b334 61 2 0 133 74 sb_l334 [1] sb_t334_1 = true := by decide +kernel
theorem sb_i334 : (sb_m334.1, sb_m334.2.1, ([] : List Nat), sb_m334.2.2.1, [], [(0, 1)]) ∈ sb_l334 := List.mem_cons_self
theorem sb_k334 (hS : ∀ ρ, en_SA E ρ ω mt_SB) (hX : sf_JX J) (hM : sf_MnB E ω J) : sf_Kok E ω J 2 0 133 sb_m334 := sf_K_of hS sf_TS_n (sf_nL (by decide +kernel)) rfl sb_h70_n sb_h70_n (by decide +kernel) (by decide +kernel) (by decide +kernel) sb_i334 (sf_fc (sf_okb_t sb_h70_n sb_e334_0) (sf_fc (sf_okb_t sb_h70_n sb_e334_1) sf_fn))
/-- X9_windNow -/
def sb_m335 : sf_M := (7208960, 36893488525376225536, sb_h71, sb_h71, [88, 116, 117, 119], [83010348333840465929])
def sb_t335_0 : sf_T := (7208960, 36893488525376225536, [], sb_h71, [], [(0, 0)])
def sb_l335 : List sf_T := [sb_t335_0]
noncomputable def sb_b335 : en_T := (sf_tc 3997696 (sf_call 133 [(2, 0, sb_m334)]) (sf_tc 196608 (sf_call 133 [(6, 4, sb_m68)]) (fun _ => none)))
theorem sb_e335_0 : sf_okb (sf_fin 133 sb_h71 [83010348333840465929]) sb_b335 110 1 5 133 38 sb_l335 [] sb_t335_0 = true := by decide +kernel
theorem sb_i335 : (sb_m335.1, sb_m335.2.1, ([] : List Nat), sb_m335.2.2.1, [], [(0, 0)]) ∈ sb_l335 := List.mem_cons_self
theorem sb_k335 (hS : ∀ ρ, en_SA E ρ ω mt_SB) (hX : sf_JX J) (hM : sf_MnB E ω J) : sf_Kok E ω J 1 5 133 sb_m335 := sf_K_of hS (sf_TS_k (q := 3997696) (nx := 133) (l := [(2, 0, sb_m334)]) hX (sf_fc ⟨(rfl : sb_m334.1 = 3997696), (sb_k334 hS hX hM)⟩ sf_fn) (sf_TS_k (q := 196608) (nx := 133) (l := [(6, 4, sb_m68)]) hX (sf_fc ⟨(rfl : sb_m68.1 = 196608), (hM _ (List.mem_of_getElem? (i := 68) rfl))⟩ sf_fn) sf_TS_n)) (sf_nL (by decide +kernel)) rfl sb_h71_n sb_h71_n (by decide +kernel) (by decide +kernel) (by decide +kernel) sb_i335 (sf_fc (sf_okb_t sb_h71_n sb_e335_0) sf_fn)
/-- X9_dangerNow -/
def sb_m336 : sf_M := (1310720, 36893488525376225536, sb_h71, sb_h71, [88, 116, 117, 119], [83010348333840465929])
def sb_t336_0 : sf_T := (1310720, 36893488525376225536, [], sb_h71, [], [(0, 0)])
def sb_l336 : List sf_T := [sb_t336_0]
noncomputable def sb_b336 : en_T := (sf_tc 3997696 (sf_call 133 [(2, 0, sb_m334)]) (sf_tc 196608 (sf_call 133 [(6, 4, sb_m68)]) (fun _ => none)))
theorem sb_e336_0 : sf_okb (sf_fin 133 sb_h71 [83010348333840465929]) sb_b336 20 1 5 133 38 sb_l336 [] sb_t336_0 = true := by decide +kernel
theorem sb_i336 : (sb_m336.1, sb_m336.2.1, ([] : List Nat), sb_m336.2.2.1, [], [(0, 0)]) ∈ sb_l336 := List.mem_cons_self
theorem sb_k336 (hS : ∀ ρ, en_SA E ρ ω mt_SB) (hX : sf_JX J) (hM : sf_MnB E ω J) : sf_Kok E ω J 1 5 133 sb_m336 := sf_K_of hS (sf_TS_k (q := 3997696) (nx := 133) (l := [(2, 0, sb_m334)]) hX (sf_fc ⟨(rfl : sb_m334.1 = 3997696), (sb_k334 hS hX hM)⟩ sf_fn) (sf_TS_k (q := 196608) (nx := 133) (l := [(6, 4, sb_m68)]) hX (sf_fc ⟨(rfl : sb_m68.1 = 196608), (hM _ (List.mem_of_getElem? (i := 68) rfl))⟩ sf_fn) sf_TS_n)) (sf_nL (by decide +kernel)) rfl sb_h71_n sb_h71_n (by decide +kernel) (by decide +kernel) (by decide +kernel) sb_i336 (sf_fc (sf_okb_t sb_h71_n sb_e336_0) sf_fn)
/-- X9_weathers -/
def sb_m337 : sf_M := (7077888, 36893488525376225536, sb_h71, sb_h71, [88, 116, 117, 119], [])
def sb_t337_0 : sf_T := (7077888, 36893488525376225536, [], sb_h71, [], [(0, 0)])
def sb_l337 : List sf_T := [sb_t337_0]
noncomputable def sb_b337 : en_T := (sf_tc 1310720 (sf_call 133 [(1, 5, sb_m336)]) (sf_tc 7208960 (sf_call 133 [(1, 5, sb_m335)]) (fun _ => none)))
theorem sb_e337_0 : sf_okb (sf_fin 133 sb_h71 []) sb_b337 108 1 6 133 38 sb_l337 [] sb_t337_0 = true := by decide +kernel
theorem sb_i337 : (sb_m337.1, sb_m337.2.1, ([] : List Nat), sb_m337.2.2.1, [], [(0, 0)]) ∈ sb_l337 := List.mem_cons_self
theorem sb_k337 (hS : ∀ ρ, en_SA E ρ ω mt_SB) (hX : sf_JX J) (hM : sf_MnB E ω J) : sf_Kok E ω J 1 6 133 sb_m337 := sf_K_of hS (sf_TS_k (q := 1310720) (nx := 133) (l := [(1, 5, sb_m336)]) hX (sf_fc ⟨(rfl : sb_m336.1 = 1310720), (sb_k336 hS hX hM)⟩ sf_fn) (sf_TS_k (q := 7208960) (nx := 133) (l := [(1, 5, sb_m335)]) hX (sf_fc ⟨(rfl : sb_m335.1 = 7208960), (sb_k335 hS hX hM)⟩ sf_fn) sf_TS_n)) (sf_nL (by decide +kernel)) rfl sb_h71_n sb_h71_n (by decide +kernel) (by decide +kernel) (by decide +kernel) sb_i337 (sf_fc (sf_okb_t sb_h71_n sb_e337_0) sf_fn)
/-- X9_skillAt -/
def sb_m338 : sf_M := (5898240, 31057858561361006066813557893367387256691902665387575781551385216025344, sb_h72, sb_h72, [88, 98], [73786976299133173759])
def sb_t338_0 : sf_T := (5898240, 31057858561361006066813557893367387256691902665387575781551385216025344, [], sb_h72, [(1000, 1), (1000, 2)], [(0, 0)])
def sb_l338 : List sf_T := [sb_t338_0]
noncomputable def sb_b338 : en_T := (fun _ => none)
theorem sb_e338_0 : sf_okb (sf_fin 133 sb_h72 [73786976299133173759]) sb_b338 90 3 0 133 58 sb_l338 [] sb_t338_0 = true := by decide +kernel
theorem sb_i338 : (sb_m338.1, sb_m338.2.1, ([] : List Nat), sb_m338.2.2.1, [(1000, 1), (1000, 2)], [(0, 0)]) ∈ sb_l338 := List.mem_cons_self
theorem sb_k338 (hS : ∀ ρ, en_SA E ρ ω mt_SB) (hX : sf_JX J) (hM : sf_MnB E ω J) : sf_Kok E ω J 3 0 133 sb_m338 := sf_K_of hS sf_TS_n (sf_nL (by decide +kernel)) rfl sb_h72_n sb_h72_n (by decide +kernel) (by decide +kernel) (by decide +kernel) sb_i338 (sf_fc (sf_okb_t sb_h72_n sb_e338_0) sf_fn)
/-- X9_fillsDoing -/
def sb_m339 : sf_M := (1966080, 36582990833331704133769688463878398985241663423791010922004235441607090117855687356087714591454335370296807506695615263104760996201528637261568, sb_h74, sb_h74, [88, 98, 116, 117, 119, 120], [])
def sb_t339_0 : sf_T := (1966080, 36582990833331704133769688463878398985241663423791010922004235441607090117855687356087714591454335370296807506695615263104760996201528637261568, [], sb_h74, [(1000, 1), (1000, 2), (1000, 3), (1000, 4), (1000, 5), (88, 51), (88, 52)], [(0, 1)])
def sb_t339_1 : sf_T := (1966088, 209496998917547409953475300355948448183151193670086816111875925103330289972534760558658065480983846666955816962371948440012616040572829811408636523579136, [], sb_h74, [(1000, 1), (1000, 2), (1000, 3), (1000, 4), (1000, 5), (1000, 6), (88, 51), (88, 52)], [(0, 0)])
def sb_l339 : List sf_T := [sb_t339_0, sb_t339_1]
noncomputable def sb_b339 : en_T := (sf_tc 5898240 (sf_call 133 [(3, 0, sb_m338)]) (sf_tc 3997696 (sf_call 133 [(2, 0, sb_m334)]) (sf_tc 196608 (sf_call 133 [(6, 4, sb_m68), (6, 4, sb_m69), (6, 4, sb_m70), (6, 4, sb_m71)]) (fun _ => none))))
theorem sb_e339_0 : sf_okb (sf_fin 133 sb_h74 []) sb_b339 30 7 5 133 30 sb_l339 [1] sb_t339_0 = true := by decide +kernel
theorem sb_e339_1 : sf_okb (sf_fin 133 sb_h74 []) sb_b339 30 7 5 133 214 sb_l339 [] sb_t339_1 = true := by decide +kernel
theorem sb_i339 : (sb_m339.1, sb_m339.2.1, ([] : List Nat), sb_m339.2.2.1, [(1000, 1), (1000, 2), (1000, 3), (1000, 4), (1000, 5), (88, 51), (88, 52)], [(0, 1)]) ∈ sb_l339 := List.mem_cons_self
theorem sb_k339 (hS : ∀ ρ, en_SA E ρ ω mt_SB) (hX : sf_JX J) (hM : sf_MnB E ω J) : sf_Kok E ω J 7 5 133 sb_m339 := sf_K_of hS (sf_TS_k (q := 5898240) (nx := 133) (l := [(3, 0, sb_m338)]) hX (sf_fc ⟨(rfl : sb_m338.1 = 5898240), (sb_k338 hS hX hM)⟩ sf_fn) (sf_TS_k (q := 3997696) (nx := 133) (l := [(2, 0, sb_m334)]) hX (sf_fc ⟨(rfl : sb_m334.1 = 3997696), (sb_k334 hS hX hM)⟩ sf_fn) (sf_TS_k (q := 196608) (nx := 133) (l := [(6, 4, sb_m68), (6, 4, sb_m69), (6, 4, sb_m70), (6, 4, sb_m71)]) hX (sf_fc ⟨(rfl : sb_m68.1 = 196608), (hM _ (List.mem_of_getElem? (i := 68) rfl))⟩ (sf_fc ⟨(rfl : sb_m69.1 = 196608), (hM _ (List.mem_of_getElem? (i := 69) rfl))⟩ (sf_fc ⟨(rfl : sb_m70.1 = 196608), (hM _ (List.mem_of_getElem? (i := 70) rfl))⟩ (sf_fc ⟨(rfl : sb_m71.1 = 196608), (hM _ (List.mem_of_getElem? (i := 71) rfl))⟩ sf_fn)))) sf_TS_n))) (sf_nL (by decide +kernel)) rfl sb_h74_n sb_h74_n (by decide +kernel) (by decide +kernel) (by decide +kernel) sb_i339 (sf_fc (sf_okb_t sb_h74_n sb_e339_0) (sf_fc (sf_okb_t sb_h74_n sb_e339_1) sf_fn))
/-- X9_ordersOf -/
def sb_m340 : sf_M := (4587520, 4820814134004632201975677951514818796926343767777008297181952, sb_h73, sb_h73, [88, 98, 116, 117, 119], [83010348333840465923])
def sb_t340_0 : sf_T := (4587520, 4820814134004632201975677951514818796926343767777008297181952, [], sb_h73, [(1000, 1), (88, 51), (88, 52)], [(0, 1)])
def sb_t340_1 : sf_T := (4587571, 27606985390376131237988087698914973080737518814384213182516637433070336, [], sb_h73, [(1000, 1), (1000, 2), (88, 51), (88, 52)], [(0, 0)])
def sb_l340 : List sf_T := [sb_t340_0, sb_t340_1]
noncomputable def sb_b340 : en_T := (sf_tc 5898240 (sf_call 133 [(3, 0, sb_m338)]) (sf_tc 3997696 (sf_call 133 [(2, 0, sb_m334)]) (sf_tc 196608 (sf_call 133 [(6, 4, sb_m72)]) (fun _ => none))))
theorem sb_e340_0 : sf_okb (sf_fin 133 sb_h73 [83010348333840465923]) sb_b340 70 3 5 133 78 sb_l340 [1] sb_t340_0 = true := by decide +kernel
theorem sb_e340_1 : sf_okb (sf_fin 133 sb_h73 [83010348333840465923]) sb_b340 70 3 5 133 38 sb_l340 [] sb_t340_1 = true := by decide +kernel
theorem sb_i340 : (sb_m340.1, sb_m340.2.1, ([] : List Nat), sb_m340.2.2.1, [(1000, 1), (88, 51), (88, 52)], [(0, 1)]) ∈ sb_l340 := List.mem_cons_self
theorem sb_k340 (hS : ∀ ρ, en_SA E ρ ω mt_SB) (hX : sf_JX J) (hM : sf_MnB E ω J) : sf_Kok E ω J 3 5 133 sb_m340 := sf_K_of hS (sf_TS_k (q := 5898240) (nx := 133) (l := [(3, 0, sb_m338)]) hX (sf_fc ⟨(rfl : sb_m338.1 = 5898240), (sb_k338 hS hX hM)⟩ sf_fn) (sf_TS_k (q := 3997696) (nx := 133) (l := [(2, 0, sb_m334)]) hX (sf_fc ⟨(rfl : sb_m334.1 = 3997696), (sb_k334 hS hX hM)⟩ sf_fn) (sf_TS_k (q := 196608) (nx := 133) (l := [(6, 4, sb_m72)]) hX (sf_fc ⟨(rfl : sb_m72.1 = 196608), (hM _ (List.mem_of_getElem? (i := 72) rfl))⟩ sf_fn) sf_TS_n))) (sf_nL (by decide +kernel)) rfl sb_h73_n sb_h73_n (by decide +kernel) (by decide +kernel) (by decide +kernel) sb_i340 (sf_fc (sf_okb_t sb_h73_n sb_e340_0) (sf_fc (sf_okb_t sb_h73_n sb_e340_1) sf_fn))
/-- X9_at -/
def sb_m341 : sf_M := (262144, 4820814133899404084098741977139641793531744750205104568664832, sb_h1, sb_h1, [], [83010348325250531333])
def sb_t341_0 : sf_T := (262144, 4820814133899404084098741977139641793531744750205104568664832, [], sb_h1, [(1000, 0)], [(0, 1)])
def sb_t341_1 : sf_T := (262156, 31057858561361006067830763032960584723497155613519082123075237680513792, [], sb_h1, [(1000, 0), (1000, 2)], [(0, 0)])
def sb_l341 : List sf_T := [sb_t341_0, sb_t341_1]
noncomputable def sb_b341 : en_T := (fun _ => none)
theorem sb_e341_0 : sf_okb (sf_fin 133 sb_h1 [83010348325250531333]) sb_b341 4 3 1 133 110 sb_l341 [1] sb_t341_0 = true := by decide +kernel
theorem sb_e341_1 : sf_okb (sf_fin 133 sb_h1 [83010348325250531333]) sb_b341 4 3 1 133 36 sb_l341 [] sb_t341_1 = true := by decide +kernel
theorem sb_i341 : (sb_m341.1, sb_m341.2.1, ([] : List Nat), sb_m341.2.2.1, [(1000, 0)], [(0, 1)]) ∈ sb_l341 := List.mem_cons_self
theorem sb_k341 (hS : ∀ ρ, en_SA E ρ ω mt_SB) (hX : sf_JX J) (hM : sf_MnB E ω J) : sf_Kok E ω J 3 1 133 sb_m341 := sf_K_of hS sf_TS_n (sf_nL (by decide +kernel)) rfl sb_h1_n sb_h1_n (by decide +kernel) (by decide +kernel) (by decide +kernel) sb_i341 (sf_fc (sf_okb_t sb_h1_n sb_e341_0) (sf_fc (sf_okb_t sb_h1_n sb_e341_1) sf_fn))
/-- X9_at -/
def sb_m342 : sf_M := (262144, 4820814133899404084098741977142177094732201209008097975075584, sb_h1, sb_h1, [], [83010348325250531333])
def sb_t342_0 : sf_T := (262144, 4820814133899404084098741977142177094732201209008097975075584, [], sb_h1, [(1000, 0)], [(0, 1)])
def sb_t342_1 : sf_T := (262156, 31057858561361006067830763032960584723499690914719538581878231086924544, [], sb_h1, [(1000, 0), (1000, 2)], [(0, 0)])
def sb_l342 : List sf_T := [sb_t342_0, sb_t342_1]
noncomputable def sb_b342 : en_T := (fun _ => none)
theorem sb_e342_0 : sf_okb (sf_fin 133 sb_h1 [83010348325250531333]) sb_b342 4 3 1 133 74 sb_l342 [1] sb_t342_0 = true := by decide +kernel
theorem sb_e342_1 : sf_okb (sf_fin 133 sb_h1 [83010348325250531333]) sb_b342 4 3 1 133 36 sb_l342 [] sb_t342_1 = true := by decide +kernel
theorem sb_i342 : (sb_m342.1, sb_m342.2.1, ([] : List Nat), sb_m342.2.2.1, [(1000, 0)], [(0, 1)]) ∈ sb_l342 := List.mem_cons_self
theorem sb_k342 (hS : ∀ ρ, en_SA E ρ ω mt_SB) (hX : sf_JX J) (hM : sf_MnB E ω J) : sf_Kok E ω J 3 1 133 sb_m342 := sf_K_of hS sf_TS_n (sf_nL (by decide +kernel)) rfl sb_h1_n sb_h1_n (by decide +kernel) (by decide +kernel) (by decide +kernel) sb_i342 (sf_fc (sf_okb_t sb_h1_n sb_e342_0) (sf_fc (sf_okb_t sb_h1_n sb_e342_1) sf_fn))
/-- X9_at -/
def sb_m343 : sf_M := (262144, 4820814133899404084098741977143444745332429438409594678280960, sb_h1, sb_h1, [], [83010348325250531333])
def sb_t343_0 : sf_T := (262144, 4820814133899404084098741977143444745332429438409594678280960, [], sb_h1, [(1000, 0)], [(0, 1)])
def sb_t343_1 : sf_T := (262156, 31057858561361006067830763032960584723500958565319766811279727790129920, [], sb_h1, [(1000, 0), (1000, 2)], [(0, 0)])
def sb_l343 : List sf_T := [sb_t343_0, sb_t343_1]
noncomputable def sb_b343 : en_T := (fun _ => none)
theorem sb_e343_0 : sf_okb (sf_fin 133 sb_h1 [83010348325250531333]) sb_b343 4 3 1 133 56 sb_l343 [1] sb_t343_0 = true := by decide +kernel
theorem sb_e343_1 : sf_okb (sf_fin 133 sb_h1 [83010348325250531333]) sb_b343 4 3 1 133 36 sb_l343 [] sb_t343_1 = true := by decide +kernel
theorem sb_i343 : (sb_m343.1, sb_m343.2.1, ([] : List Nat), sb_m343.2.2.1, [(1000, 0)], [(0, 1)]) ∈ sb_l343 := List.mem_cons_self
theorem sb_k343 (hS : ∀ ρ, en_SA E ρ ω mt_SB) (hX : sf_JX J) (hM : sf_MnB E ω J) : sf_Kok E ω J 3 1 133 sb_m343 := sf_K_of hS sf_TS_n (sf_nL (by decide +kernel)) rfl sb_h1_n sb_h1_n (by decide +kernel) (by decide +kernel) (by decide +kernel) sb_i343 (sf_fc (sf_okb_t sb_h1_n sb_e343_0) (sf_fc (sf_okb_t sb_h1_n sb_e343_1) sf_fn))
/-- X9_at -/
def sb_m344 : sf_M := (262144, 4820814133899404084098741977140909444131972979606601271870208, sb_h1, sb_h1, [], [83010348325250531333])
def sb_t344_0 : sf_T := (262144, 4820814133899404084098741977140909444131972979606601271870208, [], sb_h1, [(1000, 0)], [(0, 1)])
def sb_t344_1 : sf_T := (262156, 31057858561361006067830763032960584723498423264119310352476734383719168, [], sb_h1, [(1000, 0), (1000, 2)], [(0, 0)])
def sb_l344 : List sf_T := [sb_t344_0, sb_t344_1]
noncomputable def sb_b344 : en_T := (fun _ => none)
theorem sb_e344_0 : sf_okb (sf_fin 133 sb_h1 [83010348325250531333]) sb_b344 4 3 1 133 92 sb_l344 [1] sb_t344_0 = true := by decide +kernel
theorem sb_e344_1 : sf_okb (sf_fin 133 sb_h1 [83010348325250531333]) sb_b344 4 3 1 133 36 sb_l344 [] sb_t344_1 = true := by decide +kernel
theorem sb_i344 : (sb_m344.1, sb_m344.2.1, ([] : List Nat), sb_m344.2.2.1, [(1000, 0)], [(0, 1)]) ∈ sb_l344 := List.mem_cons_self
theorem sb_k344 (hS : ∀ ρ, en_SA E ρ ω mt_SB) (hX : sf_JX J) (hM : sf_MnB E ω J) : sf_Kok E ω J 3 1 133 sb_m344 := sf_K_of hS sf_TS_n (sf_nL (by decide +kernel)) rfl sb_h1_n sb_h1_n (by decide +kernel) (by decide +kernel) (by decide +kernel) sb_i344 (sf_fc (sf_okb_t sb_h1_n sb_e344_0) (sf_fc (sf_okb_t sb_h1_n sb_e344_1) sf_fn))
/-- X9_fillsDraw -/
def sb_m345 : sf_M := (2031616, 31057858559754068022554567617836314203128233281242810191791013140366080, sb_h74, sb_h74, [88, 98, 116, 117, 119, 120], [])
def sb_t345_0 : sf_T := (2031616, 31057858559754068022554567617836314203128233281242810191791013140366080, [], sb_h74, [(1000, 1), (1000, 2)], [(0, 0)])
def sb_l345 : List sf_T := [sb_t345_0]
noncomputable def sb_b345 : en_T := (sf_tc 262144 (sf_call 133 [(3, 1, sb_m341), (3, 1, sb_m342), (3, 1, sb_m343), (3, 1, sb_m344)]) (sf_tc 4587520 (sf_call 133 [(3, 5, sb_m340)]) (sf_tc 1966080 (sf_call 133 [(7, 5, sb_m339)]) (fun _ => none))))
theorem sb_e345_0 : sf_okb (sf_fin 133 sb_h74 []) sb_b345 31 3 6 133 72 sb_l345 [] sb_t345_0 = true := by decide +kernel
theorem sb_i345 : (sb_m345.1, sb_m345.2.1, ([] : List Nat), sb_m345.2.2.1, [(1000, 1), (1000, 2)], [(0, 0)]) ∈ sb_l345 := List.mem_cons_self
theorem sb_k345 (hS : ∀ ρ, en_SA E ρ ω mt_SB) (hX : sf_JX J) (hM : sf_MnB E ω J) : sf_Kok E ω J 3 6 133 sb_m345 := sf_K_of hS (sf_TS_k (q := 262144) (nx := 133) (l := [(3, 1, sb_m341), (3, 1, sb_m342), (3, 1, sb_m343), (3, 1, sb_m344)]) hX (sf_fc ⟨(rfl : sb_m341.1 = 262144), (sb_k341 hS hX hM)⟩ (sf_fc ⟨(rfl : sb_m342.1 = 262144), (sb_k342 hS hX hM)⟩ (sf_fc ⟨(rfl : sb_m343.1 = 262144), (sb_k343 hS hX hM)⟩ (sf_fc ⟨(rfl : sb_m344.1 = 262144), (sb_k344 hS hX hM)⟩ sf_fn)))) (sf_TS_k (q := 4587520) (nx := 133) (l := [(3, 5, sb_m340)]) hX (sf_fc ⟨(rfl : sb_m340.1 = 4587520), (sb_k340 hS hX hM)⟩ sf_fn) (sf_TS_k (q := 1966080) (nx := 133) (l := [(7, 5, sb_m339)]) hX (sf_fc ⟨(rfl : sb_m339.1 = 1966080), (sb_k339 hS hX hM)⟩ sf_fn) sf_TS_n))) (sf_nL (by decide +kernel)) rfl sb_h74_n sb_h74_n (by decide +kernel) (by decide +kernel) (by decide +kernel) sb_i345 (sf_fc (sf_okb_t sb_h74_n sb_e345_0) sf_fn)
/-- X9_copies -/
def sb_m346 : sf_M := (1114112, 16333553616007998046963562849740359991808, sb_h75, sb_h75, [88, 105, 118, 119], [])
def sb_t346_0 : sf_T := (1114112, 16333553616007998046963562849740359991808, [], sb_h75, [], [(0, 0)])
def sb_l346 : List sf_T := [sb_t346_0]
noncomputable def sb_b346 : en_T := (fun _ => none)
theorem sb_e346_0 : sf_okb (sf_fin 133 sb_h75 []) sb_b346 17 2 0 133 1612 sb_l346 [] sb_t346_0 = true := by decide +kernel
theorem sb_i346 : (sb_m346.1, sb_m346.2.1, ([] : List Nat), sb_m346.2.2.1, [], [(0, 0)]) ∈ sb_l346 := List.mem_cons_self
theorem sb_k346 (hS : ∀ ρ, en_SA E ρ ω mt_SB) (hX : sf_JX J) (hM : sf_MnB E ω J) : sf_Kok E ω J 2 0 133 sb_m346 := sf_K_of hS sf_TS_n (sf_nL (by decide +kernel)) rfl sb_h75_n sb_h75_n (by decide +kernel) (by decide +kernel) (by decide +kernel) sb_i346 (sf_fc (sf_okb_t sb_h75_n sb_e346_0) sf_fn)
end SFP
