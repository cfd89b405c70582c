/-! CONTRACTS, by program (wip/p3/emit.py) -/
section SFP
variable {E : mm_E} {ω : Nat → Value} {J : mm_H → Prop}
/-- X9_looks -/
def zb_m334 : sf_M := (3997696, 16333553616007998046963562849740359991808, zb_h70, zb_h70, [88, 116, 119], [])
def zb_t334_0 : sf_T := (3997696, 16333553616007998046963562849740359991808, [], zb_h70, [], [(0, 1)])
def zb_t334_1 : sf_T := (3997698, 105228117901436304798911701896198319814493576626688, [], zb_h70, [(1000, 1)], [(0, 0), (1, 0), (0, 0)])
def zb_l334 : List sf_T := [zb_t334_0, zb_t334_1]
noncomputable def zb_b334 : en_T := (fun _ => none)
theorem zb_e334_0 : sf_okb (sf_fin 133 zb_h70 []) zb_b334 61 2 0 133 24 zb_l334 [1] zb_t334_0 = true := by decide +kernel
theorem zb_e334_1 : sf_okb (sf_fin 133 zb_h70 []) zb_b334 61 2 0 133 74 zb_l334 [1] zb_t334_1 = true := by decide +kernel
theorem zb_i334 : (zb_m334.1, zb_m334.2.1, ([] : List Nat), zb_m334.2.2.1, [], [(0, 1)]) ∈ zb_l334 := List.mem_cons_self
theorem zb_k334 (hS : ∀ ρ, en_SA E ρ ω mt_SB) (hX : sf_JX J) (hM : sf_MnB E ω J) : sf_Kok E ω J 2 0 133 zb_m334 := sf_K_of hS sf_TS_n (sf_nL (by decide +kernel)) rfl zb_h70_n zb_h70_n (by decide +kernel) (by decide +kernel) (by decide +kernel) zb_i334 (sf_fc (sf_okb_t zb_h70_n zb_e334_0) (sf_fc (sf_okb_t zb_h70_n zb_e334_1) sf_fn))
/-- X9_windNow -/
def zb_m335 : sf_M := (7208960, 36893488525376225536, zb_h71, zb_h71, [88, 116, 117, 119], [83010348333840465929])
def zb_t335_0 : sf_T := (7208960, 36893488525376225536, [], zb_h71, [], [(0, 0)])
def zb_l335 : List sf_T := [zb_t335_0]
noncomputable def zb_b335 : en_T := (sf_tc 3997696 (sf_call 133 [(2, 0, zb_m334)]) (sf_tc 196608 (sf_call 133 [(6, 4, zb_m68)]) (fun _ => none)))
theorem zb_e335_0 : sf_okb (sf_fin 133 zb_h71 [83010348333840465929]) zb_b335 110 1 5 133 38 zb_l335 [] zb_t335_0 = true := by decide +kernel
theorem zb_i335 : (zb_m335.1, zb_m335.2.1, ([] : List Nat), zb_m335.2.2.1, [], [(0, 0)]) ∈ zb_l335 := List.mem_cons_self
theorem zb_k335 (hS : ∀ ρ, en_SA E ρ ω mt_SB) (hX : sf_JX J) (hM : sf_MnB E ω J) : sf_Kok E ω J 1 5 133 zb_m335 := sf_K_of hS (sf_TS_k (q := 3997696) (nx := 133) (l := [(2, 0, zb_m334)]) hX (sf_fc ⟨(rfl : zb_m334.1 = 3997696), (zb_k334 hS hX hM)⟩ sf_fn) (sf_TS_k (q := 196608) (nx := 133) (l := [(6, 4, zb_m68)]) hX (sf_fc ⟨(rfl : zb_m68.1 = 196608), (hM _ (List.mem_of_getElem? (i := 68) rfl))⟩ sf_fn) sf_TS_n)) (sf_nL (by decide +kernel)) rfl zb_h71_n zb_h71_n (by decide +kernel) (by decide +kernel) (by decide +kernel) zb_i335 (sf_fc (sf_okb_t zb_h71_n zb_e335_0) sf_fn)
/-- X9_dangerNow -/
def zb_m336 : sf_M := (1310720, 36893488525376225536, zb_h71, zb_h71, [88, 116, 117, 119], [83010348333840465929])
def zb_t336_0 : sf_T := (1310720, 36893488525376225536, [], zb_h71, [], [(0, 0)])
def zb_l336 : List sf_T := [zb_t336_0]
noncomputable def zb_b336 : en_T := (sf_tc 3997696 (sf_call 133 [(2, 0, zb_m334)]) (sf_tc 196608 (sf_call 133 [(6, 4, zb_m68)]) (fun _ => none)))
theorem zb_e336_0 : sf_okb (sf_fin 133 zb_h71 [83010348333840465929]) zb_b336 20 1 5 133 38 zb_l336 [] zb_t336_0 = true := by decide +kernel
theorem zb_i336 : (zb_m336.1, zb_m336.2.1, ([] : List Nat), zb_m336.2.2.1, [], [(0, 0)]) ∈ zb_l336 := List.mem_cons_self
theorem zb_k336 (hS : ∀ ρ, en_SA E ρ ω mt_SB) (hX : sf_JX J) (hM : sf_MnB E ω J) : sf_Kok E ω J 1 5 133 zb_m336 := sf_K_of hS (sf_TS_k (q := 3997696) (nx := 133) (l := [(2, 0, zb_m334)]) hX (sf_fc ⟨(rfl : zb_m334.1 = 3997696), (zb_k334 hS hX hM)⟩ sf_fn) (sf_TS_k (q := 196608) (nx := 133) (l := [(6, 4, zb_m68)]) hX (sf_fc ⟨(rfl : zb_m68.1 = 196608), (hM _ (List.mem_of_getElem? (i := 68) rfl))⟩ sf_fn) sf_TS_n)) (sf_nL (by decide +kernel)) rfl zb_h71_n zb_h71_n (by decide +kernel) (by decide +kernel) (by decide +kernel) zb_i336 (sf_fc (sf_okb_t zb_h71_n zb_e336_0) sf_fn)
/-- X9_weathers -/
def zb_m337 : sf_M := (7077888, 36893488525376225536, zb_h71, zb_h71, [88, 116, 117, 119], [])
def zb_t337_0 : sf_T := (7077888, 36893488525376225536, [], zb_h71, [], [(0, 0)])
def zb_l337 : List sf_T := [zb_t337_0]
noncomputable def zb_b337 : en_T := (sf_tc 1310720 (sf_call 133 [(1, 5, zb_m336)]) (sf_tc 7208960 (sf_call 133 [(1, 5, zb_m335)]) (fun _ => none)))
theorem zb_e337_0 : sf_okb (sf_fin 133 zb_h71 []) zb_b337 108 1 6 133 38 zb_l337 [] zb_t337_0 = true := by decide +kernel
theorem zb_i337 : (zb_m337.1, zb_m337.2.1, ([] : List Nat), zb_m337.2.2.1, [], [(0, 0)]) ∈ zb_l337 := List.mem_cons_self
theorem zb_k337 (hS : ∀ ρ, en_SA E ρ ω mt_SB) (hX : sf_JX J) (hM : sf_MnB E ω J) : sf_Kok E ω J 1 6 133 zb_m337 := sf_K_of hS (sf_TS_k (q := 1310720) (nx := 133) (l := [(1, 5, zb_m336)]) hX (sf_fc ⟨(rfl : zb_m336.1 = 1310720), (zb_k336 hS hX hM)⟩ sf_fn) (sf_TS_k (q := 7208960) (nx := 133) (l := [(1, 5, zb_m335)]) hX (sf_fc ⟨(rfl : zb_m335.1 = 7208960), (zb_k335 hS hX hM)⟩ sf_fn) sf_TS_n)) (sf_nL (by decide +kernel)) rfl zb_h71_n zb_h71_n (by decide +kernel) (by decide +kernel) (by decide +kernel) zb_i337 (sf_fc (sf_okb_t zb_h71_n zb_e337_0) sf_fn)
/-- X9_skillAt -/
def zb_m338 : sf_M := (5898240, 31057858561361006066813557893367387256691902665387575781551385216025344, zb_h72, zb_h72, [88, 98], [73786976299133173759])
def zb_t338_0 : sf_T := (5898240, 31057858561361006066813557893367387256691902665387575781551385216025344, [], zb_h72, [(1000, 1), (1000, 2)], [(0, 0)])
def zb_l338 : List sf_T := [zb_t338_0]
noncomputable def zb_b338 : en_T := (fun _ => none)
theorem zb_e338_0 : sf_okb (sf_fin 133 zb_h72 [73786976299133173759]) zb_b338 90 3 0 133 58 zb_l338 [] zb_t338_0 = true := by decide +kernel
theorem zb_i338 : (zb_m338.1, zb_m338.2.1, ([] : List Nat), zb_m338.2.2.1, [(1000, 1), (1000, 2)], [(0, 0)]) ∈ zb_l338 := List.mem_cons_self
theorem zb_k338 (hS : ∀ ρ, en_SA E ρ ω mt_SB) (hX : sf_JX J) (hM : sf_MnB E ω J) : sf_Kok E ω J 3 0 133 zb_m338 := sf_K_of hS sf_TS_n (sf_nL (by decide +kernel)) rfl zb_h72_n zb_h72_n (by decide +kernel) (by decide +kernel) (by decide +kernel) zb_i338 (sf_fc (sf_okb_t zb_h72_n zb_e338_0) sf_fn)
/-- X9_fillsDoing -/
def zb_m339 : sf_M := (1966080, 36582990833331704133769688463878398985241663423791010922004235441607090117855687356087714591454335370296807506695615263104760996201528637261568, zb_h74, zb_h74, [88, 98, 116, 117, 119, 120], [])
def zb_t339_0 : sf_T := (1966080, 36582990833331704133769688463878398985241663423791010922004235441607090117855687356087714591454335370296807506695615263104760996201528637261568, [], zb_h74, [(1000, 1), (1000, 2), (1000, 3), (1000, 4), (1000, 5), (88, 51), (88, 52)], [(0, 1)])
def zb_t339_1 : sf_T := (1966088, 209496998917547409953475300355948448183151193670086816111875925103330289972534760558658065480983846666955816962371948440012616040572829811408636523579136, [], zb_h74, [(1000, 1), (1000, 2), (1000, 3), (1000, 4), (1000, 5), (1000, 6), (88, 51), (88, 52)], [(0, 0)])
def zb_l339 : List sf_T := [zb_t339_0, zb_t339_1]
noncomputable def zb_b339 : en_T := (sf_tc 5898240 (sf_call 133 [(3, 0, zb_m338)]) (sf_tc 3997696 (sf_call 133 [(2, 0, zb_m334)]) (sf_tc 196608 (sf_call 133 [(6, 4, zb_m68), (6, 4, zb_m69), (6, 4, zb_m70), (6, 4, zb_m71)]) (fun _ => none))))
theorem zb_e339_0 : sf_okb (sf_fin 133 zb_h74 []) zb_b339 30 7 5 133 30 zb_l339 [1] zb_t339_0 = true := by decide +kernel
theorem zb_e339_1 : sf_okb (sf_fin 133 zb_h74 []) zb_b339 30 7 5 133 214 zb_l339 [] zb_t339_1 = true := by decide +kernel
theorem zb_i339 : (zb_m339.1, zb_m339.2.1, ([] : List Nat), zb_m339.2.2.1, [(1000, 1), (1000, 2), (1000, 3), (1000, 4), (1000, 5), (88, 51), (88, 52)], [(0, 1)]) ∈ zb_l339 := List.mem_cons_self
theorem zb_k339 (hS : ∀ ρ, en_SA E ρ ω mt_SB) (hX : sf_JX J) (hM : sf_MnB E ω J) : sf_Kok E ω J 7 5 133 zb_m339 := sf_K_of hS (sf_TS_k (q := 5898240) (nx := 133) (l := [(3, 0, zb_m338)]) hX (sf_fc ⟨(rfl : zb_m338.1 = 5898240), (zb_k338 hS hX hM)⟩ sf_fn) (sf_TS_k (q := 3997696) (nx := 133) (l := [(2, 0, zb_m334)]) hX (sf_fc ⟨(rfl : zb_m334.1 = 3997696), (zb_k334 hS hX hM)⟩ sf_fn) (sf_TS_k (q := 196608) (nx := 133) (l := [(6, 4, zb_m68), (6, 4, zb_m69), (6, 4, zb_m70), (6, 4, zb_m71)]) hX (sf_fc ⟨(rfl : zb_m68.1 = 196608), (hM _ (List.mem_of_getElem? (i := 68) rfl))⟩ (sf_fc ⟨(rfl : zb_m69.1 = 196608), (hM _ (List.mem_of_getElem? (i := 69) rfl))⟩ (sf_fc ⟨(rfl : zb_m70.1 = 196608), (hM _ (List.mem_of_getElem? (i := 70) rfl))⟩ (sf_fc ⟨(rfl : zb_m71.1 = 196608), (hM _ (List.mem_of_getElem? (i := 71) rfl))⟩ sf_fn)))) sf_TS_n))) (sf_nL (by decide +kernel)) rfl zb_h74_n zb_h74_n (by decide +kernel) (by decide +kernel) (by decide +kernel) zb_i339 (sf_fc (sf_okb_t zb_h74_n zb_e339_0) (sf_fc (sf_okb_t zb_h74_n zb_e339_1) sf_fn))
/-- X9_ordersOf -/
def zb_m340 : sf_M := (4587520, 4820814134004632201975677951514818796926343767777008297181952, zb_h73, zb_h73, [88, 98, 116, 117, 119], [83010348333840465923])
def zb_t340_0 : sf_T := (4587520, 4820814134004632201975677951514818796926343767777008297181952, [], zb_h73, [(1000, 1), (88, 51), (88, 52)], [(0, 1)])
def zb_t340_1 : sf_T := (4587571, 27606985390376131237988087698914973080737518814384213182516637433070336, [], zb_h73, [(1000, 1), (1000, 2), (88, 51), (88, 52)], [(0, 0)])
def zb_l340 : List sf_T := [zb_t340_0, zb_t340_1]
noncomputable def zb_b340 : en_T := (sf_tc 5898240 (sf_call 133 [(3, 0, zb_m338)]) (sf_tc 3997696 (sf_call 133 [(2, 0, zb_m334)]) (sf_tc 196608 (sf_call 133 [(6, 4, zb_m72)]) (fun _ => none))))
theorem zb_e340_0 : sf_okb (sf_fin 133 zb_h73 [83010348333840465923]) zb_b340 70 3 5 133 78 zb_l340 [1] zb_t340_0 = true := by decide +kernel
theorem zb_e340_1 : sf_okb (sf_fin 133 zb_h73 [83010348333840465923]) zb_b340 70 3 5 133 38 zb_l340 [] zb_t340_1 = true := by decide +kernel
theorem zb_i340 : (zb_m340.1, zb_m340.2.1, ([] : List Nat), zb_m340.2.2.1, [(1000, 1), (88, 51), (88, 52)], [(0, 1)]) ∈ zb_l340 := List.mem_cons_self
theorem zb_k340 (hS : ∀ ρ, en_SA E ρ ω mt_SB) (hX : sf_JX J) (hM : sf_MnB E ω J) : sf_Kok E ω J 3 5 133 zb_m340 := sf_K_of hS (sf_TS_k (q := 5898240) (nx := 133) (l := [(3, 0, zb_m338)]) hX (sf_fc ⟨(rfl : zb_m338.1 = 5898240), (zb_k338 hS hX hM)⟩ sf_fn) (sf_TS_k (q := 3997696) (nx := 133) (l := [(2, 0, zb_m334)]) hX (sf_fc ⟨(rfl : zb_m334.1 = 3997696), (zb_k334 hS hX hM)⟩ sf_fn) (sf_TS_k (q := 196608) (nx := 133) (l := [(6, 4, zb_m72)]) hX (sf_fc ⟨(rfl : zb_m72.1 = 196608), (hM _ (List.mem_of_getElem? (i := 72) rfl))⟩ sf_fn) sf_TS_n))) (sf_nL (by decide +kernel)) rfl zb_h73_n zb_h73_n (by decide +kernel) (by decide +kernel) (by decide +kernel) zb_i340 (sf_fc (sf_okb_t zb_h73_n zb_e340_0) (sf_fc (sf_okb_t zb_h73_n zb_e340_1) sf_fn))
/-- X9_at -/
def zb_m341 : sf_M := (262144, 4820814133899404084098741977139641793531744750205104568664832, zb_h1, zb_h1, [], [83010348325250531333])
def zb_t341_0 : sf_T := (262144, 4820814133899404084098741977139641793531744750205104568664832, [], zb_h1, [(1000, 0)], [(0, 1)])
def zb_t341_1 : sf_T := (262156, 31057858561361006067830763032960584723497155613519082123075237680513792, [], zb_h1, [(1000, 0), (1000, 2)], [(0, 0)])
def zb_l341 : List sf_T := [zb_t341_0, zb_t341_1]
noncomputable def zb_b341 : en_T := (fun _ => none)
theorem zb_e341_0 : sf_okb (sf_fin 133 zb_h1 [83010348325250531333]) zb_b341 4 3 1 133 110 zb_l341 [1] zb_t341_0 = true := by decide +kernel
theorem zb_e341_1 : sf_okb (sf_fin 133 zb_h1 [83010348325250531333]) zb_b341 4 3 1 133 36 zb_l341 [] zb_t341_1 = true := by decide +kernel
theorem zb_i341 : (zb_m341.1, zb_m341.2.1, ([] : List Nat), zb_m341.2.2.1, [(1000, 0)], [(0, 1)]) ∈ zb_l341 := List.mem_cons_self
theorem zb_k341 (hS : ∀ ρ, en_SA E ρ ω mt_SB) (hX : sf_JX J) (hM : sf_MnB E ω J) : sf_Kok E ω J 3 1 133 zb_m341 := sf_K_of hS sf_TS_n (sf_nL (by decide +kernel)) rfl zb_h1_n zb_h1_n (by decide +kernel) (by decide +kernel) (by decide +kernel) zb_i341 (sf_fc (sf_okb_t zb_h1_n zb_e341_0) (sf_fc (sf_okb_t zb_h1_n zb_e341_1) sf_fn))
/-- X9_at -/
def zb_m342 : sf_M := (262144, 4820814133899404084098741977142177094732201209008097975075584, zb_h1, zb_h1, [], [83010348325250531333])
def zb_t342_0 : sf_T := (262144, 4820814133899404084098741977142177094732201209008097975075584, [], zb_h1, [(1000, 0)], [(0, 1)])
def zb_t342_1 : sf_T := (262156, 31057858561361006067830763032960584723499690914719538581878231086924544, [], zb_h1, [(1000, 0), (1000, 2)], [(0, 0)])
def zb_l342 : List sf_T := [zb_t342_0, zb_t342_1]
noncomputable def zb_b342 : en_T := (fun _ => none)
theorem zb_e342_0 : sf_okb (sf_fin 133 zb_h1 [83010348325250531333]) zb_b342 4 3 1 133 74 zb_l342 [1] zb_t342_0 = true := by decide +kernel
theorem zb_e342_1 : sf_okb (sf_fin 133 zb_h1 [83010348325250531333]) zb_b342 4 3 1 133 36 zb_l342 [] zb_t342_1 = true := by decide +kernel
theorem zb_i342 : (zb_m342.1, zb_m342.2.1, ([] : List Nat), zb_m342.2.2.1, [(1000, 0)], [(0, 1)]) ∈ zb_l342 := List.mem_cons_self
theorem zb_k342 (hS : ∀ ρ, en_SA E ρ ω mt_SB) (hX : sf_JX J) (hM : sf_MnB E ω J) : sf_Kok E ω J 3 1 133 zb_m342 := sf_K_of hS sf_TS_n (sf_nL (by decide +kernel)) rfl zb_h1_n zb_h1_n (by decide +kernel) (by decide +kernel) (by decide +kernel) zb_i342 (sf_fc (sf_okb_t zb_h1_n zb_e342_0) (sf_fc (sf_okb_t zb_h1_n zb_e342_1) sf_fn))
/-- X9_at -/
def zb_m343 : sf_M := (262144, 4820814133899404084098741977143444745332429438409594678280960, zb_h1, zb_h1, [], [83010348325250531333])
def zb_t343_0 : sf_T := (262144, 4820814133899404084098741977143444745332429438409594678280960, [], zb_h1, [(1000, 0)], [(0, 1)])
def zb_t343_1 : sf_T := (262156, 31057858561361006067830763032960584723500958565319766811279727790129920, [], zb_h1, [(1000, 0), (1000, 2)], [(0, 0)])
def zb_l343 : List sf_T := [zb_t343_0, zb_t343_1]
noncomputable def zb_b343 : en_T := (fun _ => none)
theorem zb_e343_0 : sf_okb (sf_fin 133 zb_h1 [83010348325250531333]) zb_b343 4 3 1 133 56 zb_l343 [1] zb_t343_0 = true := by decide +kernel
theorem zb_e343_1 : sf_okb (sf_fin 133 zb_h1 [83010348325250531333]) zb_b343 4 3 1 133 36 zb_l343 [] zb_t343_1 = true := by decide +kernel
theorem zb_i343 : (zb_m343.1, zb_m343.2.1, ([] : List Nat), zb_m343.2.2.1, [(1000, 0)], [(0, 1)]) ∈ zb_l343 := List.mem_cons_self
theorem zb_k343 (hS : ∀ ρ, en_SA E ρ ω mt_SB) (hX : sf_JX J) (hM : sf_MnB E ω J) : sf_Kok E ω J 3 1 133 zb_m343 := sf_K_of hS sf_TS_n (sf_nL (by decide +kernel)) rfl zb_h1_n zb_h1_n (by decide +kernel) (by decide +kernel) (by decide +kernel) zb_i343 (sf_fc (sf_okb_t zb_h1_n zb_e343_0) (sf_fc (sf_okb_t zb_h1_n zb_e343_1) sf_fn))
/-- X9_at -/
def zb_m344 : sf_M := (262144, 4820814133899404084098741977140909444131972979606601271870208, zb_h1, zb_h1, [], [83010348325250531333])
def zb_t344_0 : sf_T := (262144, 4820814133899404084098741977140909444131972979606601271870208, [], zb_h1, [(1000, 0)], [(0, 1)])
def zb_t344_1 : sf_T := (262156, 31057858561361006067830763032960584723498423264119310352476734383719168, [], zb_h1, [(1000, 0), (1000, 2)], [(0, 0)])
def zb_l344 : List sf_T := [zb_t344_0, zb_t344_1]
noncomputable def zb_b344 : en_T := (fun _ => none)
theorem zb_e344_0 : sf_okb (sf_fin 133 zb_h1 [83010348325250531333]) zb_b344 4 3 1 133 92 zb_l344 [1] zb_t344_0 = true := by decide +kernel
theorem zb_e344_1 : sf_okb (sf_fin 133 zb_h1 [83010348325250531333]) zb_b344 4 3 1 133 36 zb_l344 [] zb_t344_1 = true := by decide +kernel
theorem zb_i344 : (zb_m344.1, zb_m344.2.1, ([] : List Nat), zb_m344.2.2.1, [(1000, 0)], [(0, 1)]) ∈ zb_l344 := List.mem_cons_self
theorem zb_k344 (hS : ∀ ρ, en_SA E ρ ω mt_SB) (hX : sf_JX J) (hM : sf_MnB E ω J) : sf_Kok E ω J 3 1 133 zb_m344 := sf_K_of hS sf_TS_n (sf_nL (by decide +kernel)) rfl zb_h1_n zb_h1_n (by decide +kernel) (by decide +kernel) (by decide +kernel) zb_i344 (sf_fc (sf_okb_t zb_h1_n zb_e344_0) (sf_fc (sf_okb_t zb_h1_n zb_e344_1) sf_fn))
/-- X9_fillsDraw -/
def zb_m345 : sf_M := (2031616, 31057858559754068022554567617836314203128233281242810191791013140366080, zb_h74, zb_h74, [88, 98, 116, 117, 119, 120], [])
def zb_t345_0 : sf_T := (2031616, 31057858559754068022554567617836314203128233281242810191791013140366080, [], zb_h74, [(1000, 1), (1000, 2)], [(0, 0)])
def zb_l345 : List sf_T := [zb_t345_0]
noncomputable def zb_b345 : en_T := (sf_tc 262144 (sf_call 133 [(3, 1, zb_m341), (3, 1, zb_m342), (3, 1, zb_m343), (3, 1, zb_m344)]) (sf_tc 4587520 (sf_call 133 [(3, 5, zb_m340)]) (sf_tc 1966080 (sf_call 133 [(7, 5, zb_m339)]) (fun _ => none))))
theorem zb_e345_0 : sf_okb (sf_fin 133 zb_h74 []) zb_b345 31 3 6 133 72 zb_l345 [] zb_t345_0 = true := by decide +kernel
theorem zb_i345 : (zb_m345.1, zb_m345.2.1, ([] : List Nat), zb_m345.2.2.1, [(1000, 1), (1000, 2)], [(0, 0)]) ∈ zb_l345 := List.mem_cons_self
theorem zb_k345 (hS : ∀ ρ, en_SA E ρ ω mt_SB) (hX : sf_JX J) (hM : sf_MnB E ω J) : sf_Kok E ω J 3 6 133 zb_m345 := sf_K_of hS (sf_TS_k (q := 262144) (nx := 133) (l := [(3, 1, zb_m341), (3, 1, zb_m342), (3, 1, zb_m343), (3, 1, zb_m344)]) hX (sf_fc ⟨(rfl : zb_m341.1 = 262144), (zb_k341 hS hX hM)⟩ (sf_fc ⟨(rfl : zb_m342.1 = 262144), (zb_k342 hS hX hM)⟩ (sf_fc ⟨(rfl : zb_m343.1 = 262144), (zb_k343 hS hX hM)⟩ (sf_fc ⟨(rfl : zb_m344.1 = 262144), (zb_k344 hS hX hM)⟩ sf_fn)))) (sf_TS_k (q := 4587520) (nx := 133) (l := [(3, 5, zb_m340)]) hX (sf_fc ⟨(rfl : zb_m340.1 = 4587520), (zb_k340 hS hX hM)⟩ sf_fn) (sf_TS_k (q := 1966080) (nx := 133) (l := [(7, 5, zb_m339)]) hX (sf_fc ⟨(rfl : zb_m339.1 = 1966080), (zb_k339 hS hX hM)⟩ sf_fn) sf_TS_n))) (sf_nL (by decide +kernel)) rfl zb_h74_n zb_h74_n (by decide +kernel) (by decide +kernel) (by decide +kernel) zb_i345 (sf_fc (sf_okb_t zb_h74_n zb_e345_0) sf_fn)
/-- X9_copies -/
def zb_m346 : sf_M := (1114112, 16333553616007998046963562849740359991808, zb_h75, zb_h75, [88, 105, 118, 119], [])
def zb_t346_0 : sf_T := (1114112, 16333553616007998046963562849740359991808, [], zb_h75, [], [(0, 0)])
def zb_l346 : List sf_T := [zb_t346_0]
noncomputable def zb_b346 : en_T := (fun _ => none)
theorem zb_e346_0 : sf_okb (sf_fin 133 zb_h75 []) zb_b346 17 2 0 133 1612 zb_l346 [] zb_t346_0 = true := by decide +kernel
theorem zb_i346 : (zb_m346.1, zb_m346.2.1, ([] : List Nat), zb_m346.2.2.1, [], [(0, 0)]) ∈ zb_l346 := List.mem_cons_self
theorem zb_k346 (hS : ∀ ρ, en_SA E ρ ω mt_SB) (hX : sf_JX J) (hM : sf_MnB E ω J) : sf_Kok E ω J 2 0 133 zb_m346 := sf_K_of hS sf_TS_n (sf_nL (by decide +kernel)) rfl zb_h75_n zb_h75_n (by decide +kernel) (by decide +kernel) (by decide +kernel) zb_i346 (sf_fc (sf_okb_t zb_h75_n zb_e346_0) sf_fn)
end SFP
