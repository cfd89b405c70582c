/-! CONTRACTS, by program (wip/p3/emit.py) -/
section SFP
variable {E : mm_E} {ω : Nat → Value} {J : mm_H → Prop}
/-- X9_ordersOf -/
def zb_m394 : sf_M := (4587520, 4820814134004632201975677951514818796926343767777008297181952, zb_h73, zb_h73, [88, 98, 116, 117, 119], [83010348333840465923])
def zb_t394_0 : sf_T := (4587520, 4820814134004632201975677951514818796926343767777008297181952, [], zb_h73, [(1000, 1), (88, 51), (88, 52)], [(0, 1)])
def zb_t394_1 : sf_T := (4587571, 27606985390376131237988087698914973080737518814384213182516637433070336, [], zb_h73, [(1000, 1), (1000, 2), (88, 51), (88, 52)], [(0, 0)])
def zb_l394 : List sf_T := [zb_t394_0, zb_t394_1]
noncomputable def zb_b394 : en_T := (sf_tc 3997696 (sf_call 133 [(2, 0, zb_m393)]) (sf_tc 5898240 (sf_call 133 [(3, 0, zb_m392)]) (sf_tc 196608 (sf_call 133 [(6, 4, zb_m77)]) (fun _ => none))))
theorem zb_e394_0 : sf_okb (sf_fin 133 zb_h73 [83010348333840465923]) zb_b394 70 3 5 133 78 zb_l394 [1] zb_t394_0 = true := by decide +kernel
theorem zb_e394_1 : sf_okb (sf_fin 133 zb_h73 [83010348333840465923]) zb_b394 70 3 5 133 38 zb_l394 [] zb_t394_1 = true := by decide +kernel
theorem zb_i394 : (zb_m394.1, zb_m394.2.1, ([] : List Nat), zb_m394.2.2.1, [(1000, 1), (88, 51), (88, 52)], [(0, 1)]) ∈ zb_l394 := List.mem_cons_self
theorem zb_k394 (hS : ∀ ρ, en_SA E ρ ω mt_SB) (hX : sf_JX J) (hM : sf_MnB E ω J) : sf_Kok E ω J 3 5 133 zb_m394 := sf_K_of hS (sf_TS_k (q := 3997696) (nx := 133) (l := [(2, 0, zb_m393)]) hX (sf_fc ⟨(rfl : zb_m393.1 = 3997696), (zb_k393 hS hX hM)⟩ sf_fn) (sf_TS_k (q := 5898240) (nx := 133) (l := [(3, 0, zb_m392)]) hX (sf_fc ⟨(rfl : zb_m392.1 = 5898240), (zb_k392 hS hX hM)⟩ sf_fn) (sf_TS_k (q := 196608) (nx := 133) (l := [(6, 4, zb_m77)]) hX (sf_fc ⟨(rfl : zb_m77.1 = 196608), (hM _ (List.mem_of_getElem? (i := 77) rfl))⟩ sf_fn) sf_TS_n))) (sf_nL (by decide +kernel)) rfl zb_h73_n zb_h73_n (by decide +kernel) (by decide +kernel) (by decide +kernel) zb_i394 (sf_fc (sf_okb_t zb_h73_n zb_e394_0) (sf_fc (sf_okb_t zb_h73_n zb_e394_1) sf_fn))
/-- X9_fillsDoing -/
def zb_m395 : sf_M := (1966080, 36582990833331704133769688463878398985241663423791010922004235441607090117855687356087714591454335370296807506695615263104760996201528637261568, zb_h74, zb_h74, [88, 98, 116, 117, 119, 120], [])
def zb_t395_0 : sf_T := (1966080, 36582990833331704133769688463878398985241663423791010922004235441607090117855687356087714591454335370296807506695615263104760996201528637261568, [], zb_h74, [(1000, 1), (1000, 2), (1000, 3), (1000, 4), (1000, 5), (88, 51), (88, 52)], [(0, 1)])
def zb_t395_1 : sf_T := (1966088, 209496998917547409953475300355948448183151193670086816111875925103330289972534760558658065480983846666955816962371948440012616040572829811408636523579136, [], zb_h74, [(1000, 1), (1000, 2), (1000, 3), (1000, 4), (1000, 5), (1000, 6), (88, 51), (88, 52)], [(0, 0)])
def zb_l395 : List sf_T := [zb_t395_0, zb_t395_1]
noncomputable def zb_b395 : en_T := (sf_tc 3997696 (sf_call 133 [(2, 0, zb_m393)]) (sf_tc 5898240 (sf_call 133 [(3, 0, zb_m392)]) (sf_tc 196608 (sf_call 133 [(6, 4, zb_m73), (6, 4, zb_m74), (6, 4, zb_m75), (6, 4, zb_m76)]) (fun _ => none))))
theorem zb_e395_0 : sf_okb (sf_fin 133 zb_h74 []) zb_b395 30 7 5 133 30 zb_l395 [1] zb_t395_0 = true := by decide +kernel
theorem zb_e395_1 : sf_okb (sf_fin 133 zb_h74 []) zb_b395 30 7 5 133 214 zb_l395 [] zb_t395_1 = true := by decide +kernel
theorem zb_i395 : (zb_m395.1, zb_m395.2.1, ([] : List Nat), zb_m395.2.2.1, [(1000, 1), (1000, 2), (1000, 3), (1000, 4), (1000, 5), (88, 51), (88, 52)], [(0, 1)]) ∈ zb_l395 := List.mem_cons_self
theorem zb_k395 (hS : ∀ ρ, en_SA E ρ ω mt_SB) (hX : sf_JX J) (hM : sf_MnB E ω J) : sf_Kok E ω J 7 5 133 zb_m395 := sf_K_of hS (sf_TS_k (q := 3997696) (nx := 133) (l := [(2, 0, zb_m393)]) hX (sf_fc ⟨(rfl : zb_m393.1 = 3997696), (zb_k393 hS hX hM)⟩ sf_fn) (sf_TS_k (q := 5898240) (nx := 133) (l := [(3, 0, zb_m392)]) hX (sf_fc ⟨(rfl : zb_m392.1 = 5898240), (zb_k392 hS hX hM)⟩ sf_fn) (sf_TS_k (q := 196608) (nx := 133) (l := [(6, 4, zb_m73), (6, 4, zb_m74), (6, 4, zb_m75), (6, 4, zb_m76)]) hX (sf_fc ⟨(rfl : zb_m73.1 = 196608), (hM _ (List.mem_of_getElem? (i := 73) rfl))⟩ (sf_fc ⟨(rfl : zb_m74.1 = 196608), (hM _ (List.mem_of_getElem? (i := 74) rfl))⟩ (sf_fc ⟨(rfl : zb_m75.1 = 196608), (hM _ (List.mem_of_getElem? (i := 75) rfl))⟩ (sf_fc ⟨(rfl : zb_m76.1 = 196608), (hM _ (List.mem_of_getElem? (i := 76) rfl))⟩ sf_fn)))) sf_TS_n))) (sf_nL (by decide +kernel)) rfl zb_h74_n zb_h74_n (by decide +kernel) (by decide +kernel) (by decide +kernel) zb_i395 (sf_fc (sf_okb_t zb_h74_n zb_e395_0) (sf_fc (sf_okb_t zb_h74_n zb_e395_1) sf_fn))
/-- X9_at -/
def zb_m396 : sf_M := (262144, 4820814133899404084098741977139641793531744750205104568664832, zb_h1, zb_h1, [], [83010348325250531333])
def zb_t396_0 : sf_T := (262144, 4820814133899404084098741977139641793531744750205104568664832, [], zb_h1, [(1000, 0)], [(0, 1)])
def zb_t396_1 : sf_T := (262156, 31057858561361006067830763032960584723497155613519082123075237680513792, [], zb_h1, [(1000, 0), (1000, 2)], [(0, 0)])
def zb_l396 : List sf_T := [zb_t396_0, zb_t396_1]
noncomputable def zb_b396 : en_T := (fun _ => none)
theorem zb_e396_0 : sf_okb (sf_fin 133 zb_h1 [83010348325250531333]) zb_b396 4 3 1 133 110 zb_l396 [1] zb_t396_0 = true := by decide +kernel
theorem zb_e396_1 : sf_okb (sf_fin 133 zb_h1 [83010348325250531333]) zb_b396 4 3 1 133 36 zb_l396 [] zb_t396_1 = true := by decide +kernel
theorem zb_i396 : (zb_m396.1, zb_m396.2.1, ([] : List Nat), zb_m396.2.2.1, [(1000, 0)], [(0, 1)]) ∈ zb_l396 := List.mem_cons_self
theorem zb_k396 (hS : ∀ ρ, en_SA E ρ ω mt_SB) (hX : sf_JX J) (hM : sf_MnB E ω J) : sf_Kok E ω J 3 1 133 zb_m396 := sf_K_of hS sf_TS_n (sf_nL (by decide +kernel)) rfl zb_h1_n zb_h1_n (by decide +kernel) (by decide +kernel) (by decide +kernel) zb_i396 (sf_fc (sf_okb_t zb_h1_n zb_e396_0) (sf_fc (sf_okb_t zb_h1_n zb_e396_1) sf_fn))
/-- X9_at -/
def zb_m397 : sf_M := (262144, 4820814133899404084098741977143444745332429438409594678280960, zb_h1, zb_h1, [], [83010348325250531333])
def zb_t397_0 : sf_T := (262144, 4820814133899404084098741977143444745332429438409594678280960, [], zb_h1, [(1000, 0)], [(0, 1)])
def zb_t397_1 : sf_T := (262156, 31057858561361006067830763032960584723500958565319766811279727790129920, [], zb_h1, [(1000, 0), (1000, 2)], [(0, 0)])
def zb_l397 : List sf_T := [zb_t397_0, zb_t397_1]
noncomputable def zb_b397 : en_T := (fun _ => none)
theorem zb_e397_0 : sf_okb (sf_fin 133 zb_h1 [83010348325250531333]) zb_b397 4 3 1 133 56 zb_l397 [1] zb_t397_0 = true := by decide +kernel
theorem zb_e397_1 : sf_okb (sf_fin 133 zb_h1 [83010348325250531333]) zb_b397 4 3 1 133 36 zb_l397 [] zb_t397_1 = true := by decide +kernel
theorem zb_i397 : (zb_m397.1, zb_m397.2.1, ([] : List Nat), zb_m397.2.2.1, [(1000, 0)], [(0, 1)]) ∈ zb_l397 := List.mem_cons_self
theorem zb_k397 (hS : ∀ ρ, en_SA E ρ ω mt_SB) (hX : sf_JX J) (hM : sf_MnB E ω J) : sf_Kok E ω J 3 1 133 zb_m397 := sf_K_of hS sf_TS_n (sf_nL (by decide +kernel)) rfl zb_h1_n zb_h1_n (by decide +kernel) (by decide +kernel) (by decide +kernel) zb_i397 (sf_fc (sf_okb_t zb_h1_n zb_e397_0) (sf_fc (sf_okb_t zb_h1_n zb_e397_1) sf_fn))
/-- X9_fillsDraw -/
def zb_m398 : sf_M := (2031616, 31057858559754068022554567617836314203128233281242810191791013140366080, zb_h74, zb_h74, [88, 98, 116, 117, 119, 120], [])
def zb_t398_0 : sf_T := (2031616, 31057858559754068022554567617836314203128233281242810191791013140366080, [], zb_h74, [(1000, 1), (1000, 2)], [(0, 0)])
def zb_l398 : List sf_T := [zb_t398_0]
noncomputable def zb_b398 : en_T := (sf_tc 1966080 (sf_call 133 [(7, 5, zb_m395)]) (sf_tc 4587520 (sf_call 133 [(3, 5, zb_m394)]) (sf_tc 262144 (sf_call 133 [(3, 1, zb_m390), (3, 1, zb_m391), (3, 1, zb_m396), (3, 1, zb_m397)]) (fun _ => none))))
theorem zb_e398_0 : sf_okb (sf_fin 133 zb_h74 []) zb_b398 31 3 6 133 72 zb_l398 [] zb_t398_0 = true := by decide +kernel
theorem zb_i398 : (zb_m398.1, zb_m398.2.1, ([] : List Nat), zb_m398.2.2.1, [(1000, 1), (1000, 2)], [(0, 0)]) ∈ zb_l398 := List.mem_cons_self
theorem zb_k398 (hS : ∀ ρ, en_SA E ρ ω mt_SB) (hX : sf_JX J) (hM : sf_MnB E ω J) : sf_Kok E ω J 3 6 133 zb_m398 := sf_K_of hS (sf_TS_k (q := 1966080) (nx := 133) (l := [(7, 5, zb_m395)]) hX (sf_fc ⟨(rfl : zb_m395.1 = 1966080), (zb_k395 hS hX hM)⟩ sf_fn) (sf_TS_k (q := 4587520) (nx := 133) (l := [(3, 5, zb_m394)]) hX (sf_fc ⟨(rfl : zb_m394.1 = 4587520), (zb_k394 hS hX hM)⟩ sf_fn) (sf_TS_k (q := 262144) (nx := 133) (l := [(3, 1, zb_m390), (3, 1, zb_m391), (3, 1, zb_m396), (3, 1, zb_m397)]) hX (sf_fc ⟨(rfl : zb_m390.1 = 262144), (zb_k390 hS hX hM)⟩ (sf_fc ⟨(rfl : zb_m391.1 = 262144), (zb_k391 hS hX hM)⟩ (sf_fc ⟨(rfl : zb_m396.1 = 262144), (zb_k396 hS hX hM)⟩ (sf_fc ⟨(rfl : zb_m397.1 = 262144), (zb_k397 hS hX hM)⟩ sf_fn)))) sf_TS_n))) (sf_nL (by decide +kernel)) rfl zb_h74_n zb_h74_n (by decide +kernel) (by decide +kernel) (by decide +kernel) zb_i398 (sf_fc (sf_okb_t zb_h74_n zb_e398_0) sf_fn)
/-- X9_copies -/
def zb_m399 : sf_M := (1114112, 16333553616007998046963562849740359991808, zb_h75, zb_h75, [88, 105, 118, 119], [])
def zb_t399_0 : sf_T := (1114112, 16333553616007998046963562849740359991808, [], zb_h75, [], [(0, 0)])
def zb_l399 : List sf_T := [zb_t399_0]
noncomputable def zb_b399 : en_T := (fun _ => none)
theorem zb_e399_0 : sf_okb (sf_fin 133 zb_h75 []) zb_b399 17 2 0 133 1612 zb_l399 [] zb_t399_0 = true := by decide +kernel
theorem zb_i399 : (zb_m399.1, zb_m399.2.1, ([] : List Nat), zb_m399.2.2.1, [], [(0, 0)]) ∈ zb_l399 := List.mem_cons_self
theorem zb_k399 (hS : ∀ ρ, en_SA E ρ ω mt_SB) (hX : sf_JX J) (hM : sf_MnB E ω J) : sf_Kok E ω J 2 0 133 zb_m399 := sf_K_of hS sf_TS_n (sf_nL (by decide +kernel)) rfl zb_h75_n zb_h75_n (by decide +kernel) (by decide +kernel) (by decide +kernel) zb_i399 (sf_fc (sf_okb_t zb_h75_n zb_e399_0) sf_fn)
/-- X9_dangerNow -/
def zb_m400 : sf_M := (1310720, 36893488525376225536, zb_h71, zb_h71, [88, 116, 117, 119], [83010348333840465929])
def zb_t400_0 : sf_T := (1310720, 36893488525376225536, [], zb_h71, [], [(0, 0)])
def zb_l400 : List sf_T := [zb_t400_0]
noncomputable def zb_b400 : en_T := (sf_tc 3997696 (sf_call 133 [(2, 0, zb_m393)]) (sf_tc 196608 (sf_call 133 [(6, 4, zb_m73)]) (fun _ => none)))
theorem zb_e400_0 : sf_okb (sf_fin 133 zb_h71 [83010348333840465929]) zb_b400 20 1 5 133 38 zb_l400 [] zb_t400_0 = true := by decide +kernel
theorem zb_i400 : (zb_m400.1, zb_m400.2.1, ([] : List Nat), zb_m400.2.2.1, [], [(0, 0)]) ∈ zb_l400 := List.mem_cons_self
theorem zb_k400 (hS : ∀ ρ, en_SA E ρ ω mt_SB) (hX : sf_JX J) (hM : sf_MnB E ω J) : sf_Kok E ω J 1 5 133 zb_m400 := sf_K_of hS (sf_TS_k (q := 3997696) (nx := 133) (l := [(2, 0, zb_m393)]) hX (sf_fc ⟨(rfl : zb_m393.1 = 3997696), (zb_k393 hS hX hM)⟩ sf_fn) (sf_TS_k (q := 196608) (nx := 133) (l := [(6, 4, zb_m73)]) hX (sf_fc ⟨(rfl : zb_m73.1 = 196608), (hM _ (List.mem_of_getElem? (i := 73) rfl))⟩ sf_fn) sf_TS_n)) (sf_nL (by decide +kernel)) rfl zb_h71_n zb_h71_n (by decide +kernel) (by decide +kernel) (by decide +kernel) zb_i400 (sf_fc (sf_okb_t zb_h71_n zb_e400_0) sf_fn)
/-- X9_windNow -/
def zb_m401 : sf_M := (7208960, 36893488525376225536, zb_h71, zb_h71, [88, 116, 117, 119], [83010348333840465929])
def zb_t401_0 : sf_T := (7208960, 36893488525376225536, [], zb_h71, [], [(0, 0)])
def zb_l401 : List sf_T := [zb_t401_0]
noncomputable def zb_b401 : en_T := (sf_tc 3997696 (sf_call 133 [(2, 0, zb_m393)]) (sf_tc 196608 (sf_call 133 [(6, 4, zb_m73)]) (fun _ => none)))
theorem zb_e401_0 : sf_okb (sf_fin 133 zb_h71 [83010348333840465929]) zb_b401 110 1 5 133 38 zb_l401 [] zb_t401_0 = true := by decide +kernel
theorem zb_i401 : (zb_m401.1, zb_m401.2.1, ([] : List Nat), zb_m401.2.2.1, [], [(0, 0)]) ∈ zb_l401 := List.mem_cons_self
theorem zb_k401 (hS : ∀ ρ, en_SA E ρ ω mt_SB) (hX : sf_JX J) (hM : sf_MnB E ω J) : sf_Kok E ω J 1 5 133 zb_m401 := sf_K_of hS (sf_TS_k (q := 3997696) (nx := 133) (l := [(2, 0, zb_m393)]) hX (sf_fc ⟨(rfl : zb_m393.1 = 3997696), (zb_k393 hS hX hM)⟩ sf_fn) (sf_TS_k (q := 196608) (nx := 133) (l := [(6, 4, zb_m73)]) hX (sf_fc ⟨(rfl : zb_m73.1 = 196608), (hM _ (List.mem_of_getElem? (i := 73) rfl))⟩ sf_fn) sf_TS_n)) (sf_nL (by decide +kernel)) rfl zb_h71_n zb_h71_n (by decide +kernel) (by decide +kernel) (by decide +kernel) zb_i401 (sf_fc (sf_okb_t zb_h71_n zb_e401_0) sf_fn)
/-- X9_weathers -/
def zb_m402 : sf_M := (7077888, 36893488525376225536, zb_h71, zb_h71, [88, 116, 117, 119], [])
def zb_t402_0 : sf_T := (7077888, 36893488525376225536, [], zb_h71, [], [(0, 0)])
def zb_l402 : List sf_T := [zb_t402_0]
noncomputable def zb_b402 : en_T := (sf_tc 7208960 (sf_call 133 [(1, 5, zb_m401)]) (sf_tc 1310720 (sf_call 133 [(1, 5, zb_m400)]) (fun _ => none)))
theorem zb_e402_0 : sf_okb (sf_fin 133 zb_h71 []) zb_b402 108 1 6 133 38 zb_l402 [] zb_t402_0 = true := by decide +kernel
theorem zb_i402 : (zb_m402.1, zb_m402.2.1, ([] : List Nat), zb_m402.2.2.1, [], [(0, 0)]) ∈ zb_l402 := List.mem_cons_self
theorem zb_k402 (hS : ∀ ρ, en_SA E ρ ω mt_SB) (hX : sf_JX J) (hM : sf_MnB E ω J) : sf_Kok E ω J 1 6 133 zb_m402 := sf_K_of hS (sf_TS_k (q := 7208960) (nx := 133) (l := [(1, 5, zb_m401)]) hX (sf_fc ⟨(rfl : zb_m401.1 = 7208960), (zb_k401 hS hX hM)⟩ sf_fn) (sf_TS_k (q := 1310720) (nx := 133) (l := [(1, 5, zb_m400)]) hX (sf_fc ⟨(rfl : zb_m400.1 = 1310720), (zb_k400 hS hX hM)⟩ sf_fn) sf_TS_n)) (sf_nL (by decide +kernel)) rfl zb_h71_n zb_h71_n (by decide +kernel) (by decide +kernel) (by decide +kernel) zb_i402 (sf_fc (sf_okb_t zb_h71_n zb_e402_0) sf_fn)
end SFP
