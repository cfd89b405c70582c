/-! CONTRACTS, by program (wip/p3/emit.py) -/
section SFP
variable {E : mm_E} {ω : Nat → Value} {J : mm_H → Prop}
/-- X9_looks -/
def zb_m348 : sf_M := (3997696, 16333553616007998046963562849740359991808, zb_h64, zb_h64, [88, 116, 119], [])
def zb_t348_0 : sf_T := (3997696, 16333553616007998046963562849740359991808, [], zb_h64, [], [(0, 1)])
def zb_t348_1 : sf_T := (3997698, 105228117901436304798911701896198319814493576626688, [], zb_h64, [(1000, 1)], [(0, 0), (1, 0), (0, 0)])
def zb_l348 : List sf_T := [zb_t348_0, zb_t348_1]
noncomputable def zb_b348 : en_T := (fun _ => none)
theorem zb_e348_0 : sf_okb (sf_fin 133 zb_h64 []) zb_b348 61 2 0 133 24 zb_l348 [1] zb_t348_0 = true := by decide +kernel
theorem zb_e348_1 : sf_okb (sf_fin 133 zb_h64 []) zb_b348 61 2 0 133 74 zb_l348 [1] zb_t348_1 = true := by decide +kernel
theorem zb_i348 : (zb_m348.1, zb_m348.2.1, ([] : List Nat), zb_m348.2.2.1, [], [(0, 1)]) ∈ zb_l348 := List.mem_cons_self
theorem zb_k348 (hS : ∀ ρ, en_SA E ρ ω mt_SB) (hX : sf_JX J) (hM : sf_MnB E ω J) : sf_Kok E ω J 2 0 133 zb_m348 := sf_K_of hS sf_TS_n (sf_nL (by decide +kernel)) rfl zb_h64_n zb_h64_n (by decide +kernel) (by decide +kernel) (by decide +kernel) zb_i348 (sf_fc (sf_okb_t zb_h64_n zb_e348_0) (sf_fc (sf_okb_t zb_h64_n zb_e348_1) sf_fn))
/-- X9_windNow -/
def zb_m349 : sf_M := (7208960, 36893488525376225536, zb_h65, zb_h65, [88, 116, 117, 119], [83010348333840465929])
def zb_t349_0 : sf_T := (7208960, 36893488525376225536, [], zb_h65, [], [(0, 0)])
def zb_l349 : List sf_T := [zb_t349_0]
noncomputable def zb_b349 : en_T := (sf_tc 3997696 (sf_call 133 [(2, 0, zb_m348)]) (sf_tc 196608 (sf_call 133 [(6, 4, zb_m18)]) (fun _ => none)))
theorem zb_e349_0 : sf_okb (sf_fin 133 zb_h65 [83010348333840465929]) zb_b349 110 1 5 133 38 zb_l349 [] zb_t349_0 = true := by decide +kernel
theorem zb_i349 : (zb_m349.1, zb_m349.2.1, ([] : List Nat), zb_m349.2.2.1, [], [(0, 0)]) ∈ zb_l349 := List.mem_cons_self
theorem zb_k349 (hS : ∀ ρ, en_SA E ρ ω mt_SB) (hX : sf_JX J) (hM : sf_MnB E ω J) : sf_Kok E ω J 1 5 133 zb_m349 := sf_K_of hS (sf_TS_k (q := 3997696) (nx := 133) (l := [(2, 0, zb_m348)]) hX (sf_fc ⟨(rfl : zb_m348.1 = 3997696), (zb_k348 hS hX hM)⟩ sf_fn) (sf_TS_k (q := 196608) (nx := 133) (l := [(6, 4, zb_m18)]) hX (sf_fc ⟨(rfl : zb_m18.1 = 196608), (hM _ (List.mem_of_getElem? (i := 18) rfl))⟩ sf_fn) sf_TS_n)) (sf_nL (by decide +kernel)) rfl zb_h65_n zb_h65_n (by decide +kernel) (by decide +kernel) (by decide +kernel) zb_i349 (sf_fc (sf_okb_t zb_h65_n zb_e349_0) sf_fn)
/-- X9_dangerNow -/
def zb_m350 : sf_M := (1310720, 36893488525376225536, zb_h65, zb_h65, [88, 116, 117, 119], [83010348333840465929])
def zb_t350_0 : sf_T := (1310720, 36893488525376225536, [], zb_h65, [], [(0, 0)])
def zb_l350 : List sf_T := [zb_t350_0]
noncomputable def zb_b350 : en_T := (sf_tc 3997696 (sf_call 133 [(2, 0, zb_m348)]) (sf_tc 196608 (sf_call 133 [(6, 4, zb_m18)]) (fun _ => none)))
theorem zb_e350_0 : sf_okb (sf_fin 133 zb_h65 [83010348333840465929]) zb_b350 20 1 5 133 38 zb_l350 [] zb_t350_0 = true := by decide +kernel
theorem zb_i350 : (zb_m350.1, zb_m350.2.1, ([] : List Nat), zb_m350.2.2.1, [], [(0, 0)]) ∈ zb_l350 := List.mem_cons_self
theorem zb_k350 (hS : ∀ ρ, en_SA E ρ ω mt_SB) (hX : sf_JX J) (hM : sf_MnB E ω J) : sf_Kok E ω J 1 5 133 zb_m350 := sf_K_of hS (sf_TS_k (q := 3997696) (nx := 133) (l := [(2, 0, zb_m348)]) hX (sf_fc ⟨(rfl : zb_m348.1 = 3997696), (zb_k348 hS hX hM)⟩ sf_fn) (sf_TS_k (q := 196608) (nx := 133) (l := [(6, 4, zb_m18)]) hX (sf_fc ⟨(rfl : zb_m18.1 = 196608), (hM _ (List.mem_of_getElem? (i := 18) rfl))⟩ sf_fn) sf_TS_n)) (sf_nL (by decide +kernel)) rfl zb_h65_n zb_h65_n (by decide +kernel) (by decide +kernel) (by decide +kernel) zb_i350 (sf_fc (sf_okb_t zb_h65_n zb_e350_0) sf_fn)
/-- X9_weathers -/
def zb_m351 : sf_M := (7077888, 36893488525376225536, zb_h65, zb_h65, [88, 116, 117, 119], [])
def zb_t351_0 : sf_T := (7077888, 36893488525376225536, [], zb_h65, [], [(0, 0)])
def zb_l351 : List sf_T := [zb_t351_0]
noncomputable def zb_b351 : en_T := (sf_tc 1310720 (sf_call 133 [(1, 5, zb_m350)]) (sf_tc 7208960 (sf_call 133 [(1, 5, zb_m349)]) (fun _ => none)))
theorem zb_e351_0 : sf_okb (sf_fin 133 zb_h65 []) zb_b351 108 1 6 133 38 zb_l351 [] zb_t351_0 = true := by decide +kernel
theorem zb_i351 : (zb_m351.1, zb_m351.2.1, ([] : List Nat), zb_m351.2.2.1, [], [(0, 0)]) ∈ zb_l351 := List.mem_cons_self
theorem zb_k351 (hS : ∀ ρ, en_SA E ρ ω mt_SB) (hX : sf_JX J) (hM : sf_MnB E ω J) : sf_Kok E ω J 1 6 133 zb_m351 := sf_K_of hS (sf_TS_k (q := 1310720) (nx := 133) (l := [(1, 5, zb_m350)]) hX (sf_fc ⟨(rfl : zb_m350.1 = 1310720), (zb_k350 hS hX hM)⟩ sf_fn) (sf_TS_k (q := 7208960) (nx := 133) (l := [(1, 5, zb_m349)]) hX (sf_fc ⟨(rfl : zb_m349.1 = 7208960), (zb_k349 hS hX hM)⟩ sf_fn) sf_TS_n)) (sf_nL (by decide +kernel)) rfl zb_h65_n zb_h65_n (by decide +kernel) (by decide +kernel) (by decide +kernel) zb_i351 (sf_fc (sf_okb_t zb_h65_n zb_e351_0) sf_fn)
/-- X9_skillAt -/
def zb_m352 : sf_M := (5898240, 31057858561361006066813557893367387256691902665387575781551385216025344, zb_h66, zb_h66, [88, 98], [73786976299133173759])
def zb_t352_0 : sf_T := (5898240, 31057858561361006066813557893367387256691902665387575781551385216025344, [], zb_h66, [(1000, 1), (1000, 2)], [(0, 0)])
def zb_l352 : List sf_T := [zb_t352_0]
noncomputable def zb_b352 : en_T := (fun _ => none)
theorem zb_e352_0 : sf_okb (sf_fin 133 zb_h66 [73786976299133173759]) zb_b352 90 3 0 133 58 zb_l352 [] zb_t352_0 = true := by decide +kernel
theorem zb_i352 : (zb_m352.1, zb_m352.2.1, ([] : List Nat), zb_m352.2.2.1, [(1000, 1), (1000, 2)], [(0, 0)]) ∈ zb_l352 := List.mem_cons_self
theorem zb_k352 (hS : ∀ ρ, en_SA E ρ ω mt_SB) (hX : sf_JX J) (hM : sf_MnB E ω J) : sf_Kok E ω J 3 0 133 zb_m352 := sf_K_of hS sf_TS_n (sf_nL (by decide +kernel)) rfl zb_h66_n zb_h66_n (by decide +kernel) (by decide +kernel) (by decide +kernel) zb_i352 (sf_fc (sf_okb_t zb_h66_n zb_e352_0) sf_fn)
/-- X9_ordersOf -/
def zb_m353 : sf_M := (4587520, 4820814134004632201975677951514818796926343767777008297181952, zb_h68, zb_h68, [88, 98, 116, 117, 119], [83010348333840465923])
def zb_t353_0 : sf_T := (4587520, 4820814134004632201975677951514818796926343767777008297181952, [], zb_h68, [(1000, 1), (88, 51), (88, 52)], [(0, 1)])
def zb_t353_1 : sf_T := (4587571, 27606985390376131237988087698914973080737518814384213182516637433070336, [], zb_h68, [(1000, 1), (1000, 2), (88, 51), (88, 52)], [(0, 0)])
def zb_l353 : List sf_T := [zb_t353_0, zb_t353_1]
noncomputable def zb_b353 : en_T := (sf_tc 5898240 (sf_call 133 [(3, 0, zb_m352)]) (sf_tc 3997696 (sf_call 133 [(2, 0, zb_m348)]) (sf_tc 196608 (sf_call 133 [(6, 4, zb_m22)]) (fun _ => none))))
theorem zb_e353_0 : sf_okb (sf_fin 133 zb_h68 [83010348333840465923]) zb_b353 70 3 5 133 78 zb_l353 [1] zb_t353_0 = true := by decide +kernel
theorem zb_e353_1 : sf_okb (sf_fin 133 zb_h68 [83010348333840465923]) zb_b353 70 3 5 133 38 zb_l353 [] zb_t353_1 = true := by decide +kernel
theorem zb_i353 : (zb_m353.1, zb_m353.2.1, ([] : List Nat), zb_m353.2.2.1, [(1000, 1), (88, 51), (88, 52)], [(0, 1)]) ∈ zb_l353 := List.mem_cons_self
theorem zb_k353 (hS : ∀ ρ, en_SA E ρ ω mt_SB) (hX : sf_JX J) (hM : sf_MnB E ω J) : sf_Kok E ω J 3 5 133 zb_m353 := sf_K_of hS (sf_TS_k (q := 5898240) (nx := 133) (l := [(3, 0, zb_m352)]) hX (sf_fc ⟨(rfl : zb_m352.1 = 5898240), (zb_k352 hS hX hM)⟩ sf_fn) (sf_TS_k (q := 3997696) (nx := 133) (l := [(2, 0, zb_m348)]) hX (sf_fc ⟨(rfl : zb_m348.1 = 3997696), (zb_k348 hS hX hM)⟩ sf_fn) (sf_TS_k (q := 196608) (nx := 133) (l := [(6, 4, zb_m22)]) hX (sf_fc ⟨(rfl : zb_m22.1 = 196608), (hM _ (List.mem_of_getElem? (i := 22) rfl))⟩ sf_fn) sf_TS_n))) (sf_nL (by decide +kernel)) rfl zb_h68_n zb_h68_n (by decide +kernel) (by decide +kernel) (by decide +kernel) zb_i353 (sf_fc (sf_okb_t zb_h68_n zb_e353_0) (sf_fc (sf_okb_t zb_h68_n zb_e353_1) sf_fn))
/-- X9_at -/
def zb_m354 : sf_M := (262144, 4820814133899404084098741977143444745332429438409594678280960, zb_h1, zb_h1, [], [83010348325250531333])
def zb_t354_0 : sf_T := (262144, 4820814133899404084098741977143444745332429438409594678280960, [], zb_h1, [(1000, 0)], [(0, 1)])
def zb_t354_1 : sf_T := (262156, 31057858561361006067830763032960584723500958565319766811279727790129920, [], zb_h1, [(1000, 0), (1000, 2)], [(0, 0)])
def zb_l354 : List sf_T := [zb_t354_0, zb_t354_1]
noncomputable def zb_b354 : en_T := (fun _ => none)
theorem zb_e354_0 : sf_okb (sf_fin 133 zb_h1 [83010348325250531333]) zb_b354 4 3 1 133 56 zb_l354 [1] zb_t354_0 = true := by decide +kernel
theorem zb_e354_1 : sf_okb (sf_fin 133 zb_h1 [83010348325250531333]) zb_b354 4 3 1 133 36 zb_l354 [] zb_t354_1 = true := by decide +kernel
theorem zb_i354 : (zb_m354.1, zb_m354.2.1, ([] : List Nat), zb_m354.2.2.1, [(1000, 0)], [(0, 1)]) ∈ zb_l354 := List.mem_cons_self
theorem zb_k354 (hS : ∀ ρ, en_SA E ρ ω mt_SB) (hX : sf_JX J) (hM : sf_MnB E ω J) : sf_Kok E ω J 3 1 133 zb_m354 := sf_K_of hS sf_TS_n (sf_nL (by decide +kernel)) rfl zb_h1_n zb_h1_n (by decide +kernel) (by decide +kernel) (by decide +kernel) zb_i354 (sf_fc (sf_okb_t zb_h1_n zb_e354_0) (sf_fc (sf_okb_t zb_h1_n zb_e354_1) sf_fn))
/-- X9_at -/
def zb_m355 : sf_M := (262144, 4820814133899404084098741977139641793531744750205104568664832, zb_h1, zb_h1, [], [83010348325250531333])
def zb_t355_0 : sf_T := (262144, 4820814133899404084098741977139641793531744750205104568664832, [], zb_h1, [(1000, 0)], [(0, 1)])
def zb_t355_1 : sf_T := (262156, 31057858561361006067830763032960584723497155613519082123075237680513792, [], zb_h1, [(1000, 0), (1000, 2)], [(0, 0)])
def zb_l355 : List sf_T := [zb_t355_0, zb_t355_1]
noncomputable def zb_b355 : en_T := (fun _ => none)
theorem zb_e355_0 : sf_okb (sf_fin 133 zb_h1 [83010348325250531333]) zb_b355 4 3 1 133 110 zb_l355 [1] zb_t355_0 = true := by decide +kernel
theorem zb_e355_1 : sf_okb (sf_fin 133 zb_h1 [83010348325250531333]) zb_b355 4 3 1 133 36 zb_l355 [] zb_t355_1 = true := by decide +kernel
theorem zb_i355 : (zb_m355.1, zb_m355.2.1, ([] : List Nat), zb_m355.2.2.1, [(1000, 0)], [(0, 1)]) ∈ zb_l355 := List.mem_cons_self
theorem zb_k355 (hS : ∀ ρ, en_SA E ρ ω mt_SB) (hX : sf_JX J) (hM : sf_MnB E ω J) : sf_Kok E ω J 3 1 133 zb_m355 := sf_K_of hS sf_TS_n (sf_nL (by decide +kernel)) rfl zb_h1_n zb_h1_n (by decide +kernel) (by decide +kernel) (by decide +kernel) zb_i355 (sf_fc (sf_okb_t zb_h1_n zb_e355_0) (sf_fc (sf_okb_t zb_h1_n zb_e355_1) sf_fn))
/-- X9_fillsDoing -/
def zb_m356 : sf_M := (1966080, 36582990833331704133769688463878398985241663423791010922004235441607090117855687356087714591454335370296807506695615263104760996201528637261568, zb_h67, zb_h67, [88, 98, 116, 117, 119, 120], [])
def zb_t356_0 : sf_T := (1966080, 36582990833331704133769688463878398985241663423791010922004235441607090117855687356087714591454335370296807506695615263104760996201528637261568, [], zb_h67, [(1000, 1), (1000, 2), (1000, 3), (1000, 4), (1000, 5), (88, 51), (88, 52)], [(0, 1)])
def zb_t356_1 : sf_T := (1966088, 209496998917547409953475300355948448183151193670086816111875925103330289972534760558658065480983846666955816962371948440012616040572829811408636523579136, [], zb_h67, [(1000, 1), (1000, 2), (1000, 3), (1000, 4), (1000, 5), (1000, 6), (88, 51), (88, 52)], [(0, 0)])
def zb_l356 : List sf_T := [zb_t356_0, zb_t356_1]
noncomputable def zb_b356 : en_T := (sf_tc 5898240 (sf_call 133 [(3, 0, zb_m352)]) (sf_tc 3997696 (sf_call 133 [(2, 0, zb_m348)]) (sf_tc 196608 (sf_call 133 [(6, 4, zb_m18), (6, 4, zb_m19), (6, 4, zb_m20), (6, 4, zb_m21)]) (fun _ => none))))
theorem zb_e356_0 : sf_okb (sf_fin 133 zb_h67 []) zb_b356 30 7 5 133 30 zb_l356 [1] zb_t356_0 = true := by decide +kernel
theorem zb_e356_1 : sf_okb (sf_fin 133 zb_h67 []) zb_b356 30 7 5 133 214 zb_l356 [] zb_t356_1 = true := by decide +kernel
theorem zb_i356 : (zb_m356.1, zb_m356.2.1, ([] : List Nat), zb_m356.2.2.1, [(1000, 1), (1000, 2), (1000, 3), (1000, 4), (1000, 5), (88, 51), (88, 52)], [(0, 1)]) ∈ zb_l356 := List.mem_cons_self
theorem zb_k356 (hS : ∀ ρ, en_SA E ρ ω mt_SB) (hX : sf_JX J) (hM : sf_MnB E ω J) : sf_Kok E ω J 7 5 133 zb_m356 := sf_K_of hS (sf_TS_k (q := 5898240) (nx := 133) (l := [(3, 0, zb_m352)]) hX (sf_fc ⟨(rfl : zb_m352.1 = 5898240), (zb_k352 hS hX hM)⟩ sf_fn) (sf_TS_k (q := 3997696) (nx := 133) (l := [(2, 0, zb_m348)]) hX (sf_fc ⟨(rfl : zb_m348.1 = 3997696), (zb_k348 hS hX hM)⟩ sf_fn) (sf_TS_k (q := 196608) (nx := 133) (l := [(6, 4, zb_m18), (6, 4, zb_m19), (6, 4, zb_m20), (6, 4, zb_m21)]) hX (sf_fc ⟨(rfl : zb_m18.1 = 196608), (hM _ (List.mem_of_getElem? (i := 18) rfl))⟩ (sf_fc ⟨(rfl : zb_m19.1 = 196608), (hM _ (List.mem_of_getElem? (i := 19) rfl))⟩ (sf_fc ⟨(rfl : zb_m20.1 = 196608), (hM _ (List.mem_of_getElem? (i := 20) rfl))⟩ (sf_fc ⟨(rfl : zb_m21.1 = 196608), (hM _ (List.mem_of_getElem? (i := 21) rfl))⟩ sf_fn)))) sf_TS_n))) (sf_nL (by decide +kernel)) rfl zb_h67_n zb_h67_n (by decide +kernel) (by decide +kernel) (by decide +kernel) zb_i356 (sf_fc (sf_okb_t zb_h67_n zb_e356_0) (sf_fc (sf_okb_t zb_h67_n zb_e356_1) sf_fn))
/-- X9_at -/
def zb_m357 : sf_M := (262144, 4820814133899404084098741977142177094732201209008097975075584, zb_h1, zb_h1, [], [83010348325250531333])
def zb_t357_0 : sf_T := (262144, 4820814133899404084098741977142177094732201209008097975075584, [], zb_h1, [(1000, 0)], [(0, 1)])
def zb_t357_1 : sf_T := (262156, 31057858561361006067830763032960584723499690914719538581878231086924544, [], zb_h1, [(1000, 0), (1000, 2)], [(0, 0)])
def zb_l357 : List sf_T := [zb_t357_0, zb_t357_1]
noncomputable def zb_b357 : en_T := (fun _ => none)
theorem zb_e357_0 : sf_okb (sf_fin 133 zb_h1 [83010348325250531333]) zb_b357 4 3 1 133 74 zb_l357 [1] zb_t357_0 = true := by decide +kernel
theorem zb_e357_1 : sf_okb (sf_fin 133 zb_h1 [83010348325250531333]) zb_b357 4 3 1 133 36 zb_l357 [] zb_t357_1 = true := by decide +kernel
theorem zb_i357 : (zb_m357.1, zb_m357.2.1, ([] : List Nat), zb_m357.2.2.1, [(1000, 0)], [(0, 1)]) ∈ zb_l357 := List.mem_cons_self
theorem zb_k357 (hS : ∀ ρ, en_SA E ρ ω mt_SB) (hX : sf_JX J) (hM : sf_MnB E ω J) : sf_Kok E ω J 3 1 133 zb_m357 := sf_K_of hS sf_TS_n (sf_nL (by decide +kernel)) rfl zb_h1_n zb_h1_n (by decide +kernel) (by decide +kernel) (by decide +kernel) zb_i357 (sf_fc (sf_okb_t zb_h1_n zb_e357_0) (sf_fc (sf_okb_t zb_h1_n zb_e357_1) sf_fn))
/-- X9_at -/
def zb_m358 : sf_M := (262144, 4820814133899404084098741977140909444131972979606601271870208, zb_h1, zb_h1, [], [83010348325250531333])
def zb_t358_0 : sf_T := (262144, 4820814133899404084098741977140909444131972979606601271870208, [], zb_h1, [(1000, 0)], [(0, 1)])
def zb_t358_1 : sf_T := (262156, 31057858561361006067830763032960584723498423264119310352476734383719168, [], zb_h1, [(1000, 0), (1000, 2)], [(0, 0)])
def zb_l358 : List sf_T := [zb_t358_0, zb_t358_1]
noncomputable def zb_b358 : en_T := (fun _ => none)
theorem zb_e358_0 : sf_okb (sf_fin 133 zb_h1 [83010348325250531333]) zb_b358 4 3 1 133 92 zb_l358 [1] zb_t358_0 = true := by decide +kernel
theorem zb_e358_1 : sf_okb (sf_fin 133 zb_h1 [83010348325250531333]) zb_b358 4 3 1 133 36 zb_l358 [] zb_t358_1 = true := by decide +kernel
theorem zb_i358 : (zb_m358.1, zb_m358.2.1, ([] : List Nat), zb_m358.2.2.1, [(1000, 0)], [(0, 1)]) ∈ zb_l358 := List.mem_cons_self
theorem zb_k358 (hS : ∀ ρ, en_SA E ρ ω mt_SB) (hX : sf_JX J) (hM : sf_MnB E ω J) : sf_Kok E ω J 3 1 133 zb_m358 := sf_K_of hS sf_TS_n (sf_nL (by decide +kernel)) rfl zb_h1_n zb_h1_n (by decide +kernel) (by decide +kernel) (by decide +kernel) zb_i358 (sf_fc (sf_okb_t zb_h1_n zb_e358_0) (sf_fc (sf_okb_t zb_h1_n zb_e358_1) sf_fn))
/-- X9_fillsDraw -/
def zb_m359 : sf_M := (2031616, 31057858559754068022554567617836314203128233281242810191791013140366080, zb_h67, zb_h67, [88, 98, 116, 117, 119, 120], [])
def zb_t359_0 : sf_T := (2031616, 31057858559754068022554567617836314203128233281242810191791013140366080, [], zb_h67, [(1000, 1), (1000, 2)], [(0, 0)])
def zb_l359 : List sf_T := [zb_t359_0]
noncomputable def zb_b359 : en_T := (sf_tc 1966080 (sf_call 133 [(7, 5, zb_m356)]) (sf_tc 262144 (sf_call 133 [(3, 1, zb_m354), (3, 1, zb_m355), (3, 1, zb_m357), (3, 1, zb_m358)]) (sf_tc 4587520 (sf_call 133 [(3, 5, zb_m353)]) (fun _ => none))))
theorem zb_e359_0 : sf_okb (sf_fin 133 zb_h67 []) zb_b359 31 3 6 133 72 zb_l359 [] zb_t359_0 = true := by decide +kernel
theorem zb_i359 : (zb_m359.1, zb_m359.2.1, ([] : List Nat), zb_m359.2.2.1, [(1000, 1), (1000, 2)], [(0, 0)]) ∈ zb_l359 := List.mem_cons_self
theorem zb_k359 (hS : ∀ ρ, en_SA E ρ ω mt_SB) (hX : sf_JX J) (hM : sf_MnB E ω J) : sf_Kok E ω J 3 6 133 zb_m359 := sf_K_of hS (sf_TS_k (q := 1966080) (nx := 133) (l := [(7, 5, zb_m356)]) hX (sf_fc ⟨(rfl : zb_m356.1 = 1966080), (zb_k356 hS hX hM)⟩ sf_fn) (sf_TS_k (q := 262144) (nx := 133) (l := [(3, 1, zb_m354), (3, 1, zb_m355), (3, 1, zb_m357), (3, 1, zb_m358)]) hX (sf_fc ⟨(rfl : zb_m354.1 = 262144), (zb_k354 hS hX hM)⟩ (sf_fc ⟨(rfl : zb_m355.1 = 262144), (zb_k355 hS hX hM)⟩ (sf_fc ⟨(rfl : zb_m357.1 = 262144), (zb_k357 hS hX hM)⟩ (sf_fc ⟨(rfl : zb_m358.1 = 262144), (zb_k358 hS hX hM)⟩ sf_fn)))) (sf_TS_k (q := 4587520) (nx := 133) (l := [(3, 5, zb_m353)]) hX (sf_fc ⟨(rfl : zb_m353.1 = 4587520), (zb_k353 hS hX hM)⟩ sf_fn) sf_TS_n))) (sf_nL (by decide +kernel)) rfl zb_h67_n zb_h67_n (by decide +kernel) (by decide +kernel) (by decide +kernel) zb_i359 (sf_fc (sf_okb_t zb_h67_n zb_e359_0) sf_fn)
/-- X9_copies -/
def zb_m360 : sf_M := (1114112, 16333553616007998046963562849740359991808, zb_h63, zb_h63, [88, 105, 118, 119], [])
def zb_t360_0 : sf_T := (1114112, 16333553616007998046963562849740359991808, [], zb_h63, [], [(0, 0)])
def zb_l360 : List sf_T := [zb_t360_0]
noncomputable def zb_b360 : en_T := (fun _ => none)
theorem zb_e360_0 : sf_okb (sf_fin 133 zb_h63 []) zb_b360 17 2 0 133 1612 zb_l360 [] zb_t360_0 = true := by decide +kernel
theorem zb_i360 : (zb_m360.1, zb_m360.2.1, ([] : List Nat), zb_m360.2.2.1, [], [(0, 0)]) ∈ zb_l360 := List.mem_cons_self
theorem zb_k360 (hS : ∀ ρ, en_SA E ρ ω mt_SB) (hX : sf_JX J) (hM : sf_MnB E ω J) : sf_Kok E ω J 2 0 133 zb_m360 := sf_K_of hS sf_TS_n (sf_nL (by decide +kernel)) rfl zb_h63_n zb_h63_n (by decide +kernel) (by decide +kernel) (by decide +kernel) zb_i360 (sf_fc (sf_okb_t zb_h63_n zb_e360_0) sf_fn)
def zb_h84 : en_H := (((((((0, 0), 0), 0), ((0, 0), (0, 0))), ((((((0, (0, 0)), 0), 0), ((((0, 0), (0, (0, 0))), (((0, 0), 0), (0, (0, (0, 0))))), 0)), ((0, 0), 0)), (0, ((((0, 0), ((0, 0), ((0, 0), 0))), (((0, (0, 0)), ((0, 0), (0, 0))), (((0, 0), (0, 0)), ((0, 0), (0, 0))))), (((((0, 0), (0, 0)), ((0, 0), (0, 0))), (((0, 0), (0, 0)), ((0, 0), (0, 0)))), ((((0, 0), (0, 0)), ((0, 0), (0, (0, 0)))), ((((0, 0), (0, 0)), ((0, 0), 0)), (0, (0, (0, 0)))))))))), zb_r3), ((((((0, 0), 0), (0, (0, 0))), (0, 0)), zb_r20), ((((((((zb_r7, 0), 0), (0, 0)), (0, (0, zb_r5))), 0), (0, (((0, 0), (0, 0)), ((0, 0), (0, 0))))), zb_r1), (((zb_r2, zb_r6), zb_r6), (zb_r12, ((0, ((0, 0), (zb_r27, zb_r28))), (((zb_r29, 0), (0, 0)), ((0, 0), ((0, 0), (0, 0))))))))))
theorem zb_h84_n : sf_nlh zb_h84 136 = true := by decide +kernel
/-- X9_fillsFirst -/
def zb_m361 : sf_M := (2097152, 1422853192879425234015608139717629925292265360276298235107590062233449531231437824, zb_h84, zb_h84, [88, 97, 98, 105, 116, 117, 118, 119, 120, 124, 125, 126], [])
def zb_t361_0 : sf_T := (2097152, 1422853192879425234015608139717629925292265360276298235107590062233449531231437824, [], zb_h84, [(1000, 1)], [(0, 19)])
def zb_t361_1 : sf_T := (2097164, 9166661893742329624842813117257092636493575502212187267824770353587331498168013300730692608, [], zb_h84, [(1000, 1), (1000, 3)], [(0, 18), (1, 1), (0, 0)])
def zb_t361_2 : sf_T := (2097164, 9166662056896162408239812008945390282816986349434389824395986497991095762065735818722411520, [], zb_h84, [(1000, 1), (1000, 3)], [(0, 17), (1, 1), (0, 0)])
def zb_t361_3 : sf_T := (2097164, 9166662219575710794120763764178741174544811526089598523776738892089241761867046157708952576, [], zb_h84, [(1000, 1), (1000, 3)], [(0, 16), (1, 1), (0, 0)])
def zb_t361_4 : sf_T := (2097164, 9166662382255259180001715519412092066272636702744807223157491286187387761668356496695493632, [], zb_h84, [(1000, 1), (1000, 3)], [(0, 15), (1, 1), (0, 0)])
def zb_t361_5 : sf_T := (2097164, 9166662544934807565882667274645442958000461879400015922538243680285533761469666835682034688, [], zb_h84, [(1000, 1), (1000, 3)], [(0, 14), (1, 1), (0, 0)])
def zb_t361_6 : sf_T := (2097164, 9166662707614355951763619029878793849728287056055224621918996074383679761270977174668575744, [], zb_h84, [(1000, 1), (1000, 3)], [(0, 13), (1, 1), (0, 0)])
def zb_t361_7 : sf_T := (2097164, 9166662870293904305178755969809332685363020656559305592969731863392327405587773564903228416, [], zb_h84, [(1000, 1), (1000, 3)], [(0, 12), (1, 1), (0, 0)])
def zb_t361_8 : sf_T := (2097164, 9166662893533839788876034791985525669895567110367192550024125062549205405559389327615591424, [], zb_h84, [(1000, 1), (1000, 3)], [(0, 11), (1, 1), (0, 0)])
def zb_t361_9 : sf_T := (2097164, 9166662916773775272573313614161718654428113564175079507078518261706083405531005090327954432, [], zb_h84, [(1000, 1), (1000, 3)], [(0, 10), (1, 1), (0, 0)])
def zb_t361_10 : sf_T := (2097164, 9166662940013710756270592436337911638960660017982966464132911460862961405502620853040317440, [], zb_h84, [(1000, 1), (1000, 3)], [(0, 9), (1, 1), (0, 0)])
def zb_t361_11 : sf_T := (2097164, 9166662963253646239967871258514104623493206471790853421187304660019839405474236615752680448, [], zb_h84, [(1000, 1), (1000, 3)], [(0, 8), (1, 1), (0, 0)])
def zb_t361_12 : sf_T := (2097164, 9166662986493581723665150080690297608025752925598740378241697859176717405445852378465043456, [], zb_h84, [(1000, 1), (1000, 3)], [(0, 7), (1, 1), (0, 0)])
def zb_t361_13 : sf_T := (2097164, 9166663009733517202724455357823231727402143439956466231248945829035095640348251862784279552, [], zb_h84, [(1000, 1), (1000, 3)], [(0, 6), (1, 1), (0, 0)])
def zb_t361_14 : sf_T := (2097164, 9166663013053507986109780903848402153763935790500450082256716286057506783201339828886045696, [], zb_h84, [(1000, 1), (1000, 3)], [(0, 5), (1, 1), (0, 0)])
def zb_t361_15 : sf_T := (2097164, 9166663016373498769495106449873572580125728141044433933264486743079917926054427794987811840, [], zb_h84, [(1000, 1), (1000, 3)], [(0, 4), (1, 1), (0, 0)])
def zb_t361_16 : sf_T := (2097164, 9166663019693489552880431995898743006487520491588417784272257200102329068907515761089577984, [], zb_h84, [(1000, 1), (1000, 3)], [(0, 3), (1, 1), (0, 0)])
def zb_t361_17 : sf_T := (2097164, 9166663023013480336265757541923913432849312842132401635280027657124740211760603727191344128, [], zb_h84, [(1000, 1), (1000, 3)], [(0, 2), (1, 1), (0, 0)])
def zb_t361_18 : sf_T := (2097164, 9166663026333471119651083087949083859211105192676385486287798114147151354613691693293110272, [], zb_h84, [(1000, 1), (1000, 3)], [(0, 1), (1, 1), (0, 0)])
def zb_t361_19 : sf_T := (2097164, 237142463895511226534575304413982908192524949419314710436279506077627682899624960, [], zb_h84, [(1000, 1)], [(0, 0)])
def zb_l361 : List sf_T := [zb_t361_0, zb_t361_1, zb_t361_2, zb_t361_3, zb_t361_4, zb_t361_5, zb_t361_6, zb_t361_7, zb_t361_8, zb_t361_9, zb_t361_10, zb_t361_11, zb_t361_12, zb_t361_13, zb_t361_14, zb_t361_15, zb_t361_16, zb_t361_17, zb_t361_18, zb_t361_19]
noncomputable def zb_b361 : en_T := (sf_tc 1114112 (sf_call 133 [(2, 0, zb_m360)]) (sf_tc 2031616 (sf_call 133 [(3, 6, zb_m359)]) (sf_tc 7077888 (sf_call 133 [(1, 6, zb_m351)]) (sf_tc 2097164 (sf_spl 4 (1000, 3) [2147483991, 2147484334, 2147484677, 2147485020, 2147485363, 2147485706, 2147485755, 2147485804, 2147485853, 2147485902, 2147485951, 2147486000, 2147486007, 2147486014, 2147486021, 2147486028, 2147486035, 2147486042]) (fun _ => none)))))
theorem zb_e361_0 : sf_okb (sf_fin 133 zb_h84 []) zb_b361 32 4 7 133 36 zb_l361 [1] zb_t361_0 = true := by decide +kernel
theorem zb_e361_1 : sf_okb (sf_fin 133 zb_h84 []) zb_b361 32 4 7 133 352 zb_l361 [1, 2] zb_t361_1 = true := by decide +kernel
theorem zb_e361_2 : sf_okb (sf_fin 133 zb_h84 []) zb_b361 32 4 7 133 352 zb_l361 [2, 3] zb_t361_2 = true := by decide +kernel
theorem zb_e361_3 : sf_okb (sf_fin 133 zb_h84 []) zb_b361 32 4 7 133 352 zb_l361 [3, 4] zb_t361_3 = true := by decide +kernel
theorem zb_e361_4 : sf_okb (sf_fin 133 zb_h84 []) zb_b361 32 4 7 133 352 zb_l361 [4, 5] zb_t361_4 = true := by decide +kernel
theorem zb_e361_5 : sf_okb (sf_fin 133 zb_h84 []) zb_b361 32 4 7 133 352 zb_l361 [5, 6] zb_t361_5 = true := by decide +kernel
theorem zb_e361_6 : sf_okb (sf_fin 133 zb_h84 []) zb_b361 32 4 7 133 476 zb_l361 [6, 7] zb_t361_6 = true := by decide +kernel
theorem zb_e361_7 : sf_okb (sf_fin 133 zb_h84 []) zb_b361 32 4 7 133 600 zb_l361 [7, 8] zb_t361_7 = true := by decide +kernel
theorem zb_e361_8 : sf_okb (sf_fin 133 zb_h84 []) zb_b361 32 4 7 133 600 zb_l361 [8, 9] zb_t361_8 = true := by decide +kernel
theorem zb_e361_9 : sf_okb (sf_fin 133 zb_h84 []) zb_b361 32 4 7 133 600 zb_l361 [9, 10] zb_t361_9 = true := by decide +kernel
theorem zb_e361_10 : sf_okb (sf_fin 133 zb_h84 []) zb_b361 32 4 7 133 600 zb_l361 [10, 11] zb_t361_10 = true := by decide +kernel
theorem zb_e361_11 : sf_okb (sf_fin 133 zb_h84 []) zb_b361 32 4 7 133 600 zb_l361 [11, 12] zb_t361_11 = true := by decide +kernel
theorem zb_e361_12 : sf_okb (sf_fin 133 zb_h84 []) zb_b361 32 4 7 133 706 zb_l361 [12, 13] zb_t361_12 = true := by decide +kernel
theorem zb_e361_13 : sf_okb (sf_fin 133 zb_h84 []) zb_b361 32 4 7 133 812 zb_l361 [13, 14] zb_t361_13 = true := by decide +kernel
theorem zb_e361_14 : sf_okb (sf_fin 133 zb_h84 []) zb_b361 32 4 7 133 812 zb_l361 [14, 15] zb_t361_14 = true := by decide +kernel
theorem zb_e361_15 : sf_okb (sf_fin 133 zb_h84 []) zb_b361 32 4 7 133 812 zb_l361 [15, 16] zb_t361_15 = true := by decide +kernel
theorem zb_e361_16 : sf_okb (sf_fin 133 zb_h84 []) zb_b361 32 4 7 133 812 zb_l361 [16, 17] zb_t361_16 = true := by decide +kernel
theorem zb_e361_17 : sf_okb (sf_fin 133 zb_h84 []) zb_b361 32 4 7 133 812 zb_l361 [17, 18] zb_t361_17 = true := by decide +kernel
theorem zb_e361_18 : sf_okb (sf_fin 133 zb_h84 []) zb_b361 32 4 7 133 3874 zb_l361 [18, 19] zb_t361_18 = true := by decide +kernel
theorem zb_e361_19 : sf_okb (sf_fin 133 zb_h84 []) zb_b361 32 4 7 133 28 zb_l361 [] zb_t361_19 = true := by decide +kernel
theorem zb_i361 : (zb_m361.1, zb_m361.2.1, ([] : List Nat), zb_m361.2.2.1, [(1000, 1)], [(0, 19)]) ∈ zb_l361 := List.mem_cons_self
theorem zb_k361 (hS : ∀ ρ, en_SA E ρ ω mt_SB) (hX : sf_JX J) (hM : sf_MnB E ω J) : sf_Kok E ω J 4 7 133 zb_m361 := sf_K_of hS (sf_TS_k (q := 1114112) (nx := 133) (l := [(2, 0, zb_m360)]) hX (sf_fc ⟨(rfl : zb_m360.1 = 1114112), (zb_k360 hS hX hM)⟩ sf_fn) (sf_TS_k (q := 2031616) (nx := 133) (l := [(3, 6, zb_m359)]) hX (sf_fc ⟨(rfl : zb_m359.1 = 2031616), (zb_k359 hS hX hM)⟩ sf_fn) (sf_TS_k (q := 7077888) (nx := 133) (l := [(1, 6, zb_m351)]) hX (sf_fc ⟨(rfl : zb_m351.1 = 7077888), (zb_k351 hS hX hM)⟩ sf_fn) (sf_TS_s (sf_nL (by decide +kernel)) sf_TS_n)))) (sf_nL (by decide +kernel)) rfl zb_h84_n zb_h84_n (by decide +kernel) (by decide +kernel) (by decide +kernel) zb_i361 (sf_fc (sf_okb_t zb_h84_n zb_e361_0) (sf_fc (sf_okb_t zb_h84_n zb_e361_1) (sf_fc (sf_okb_t zb_h84_n zb_e361_2) (sf_fc (sf_okb_t zb_h84_n zb_e361_3) (sf_fc (sf_okb_t zb_h84_n zb_e361_4) (sf_fc (sf_okb_t zb_h84_n zb_e361_5) (sf_fc (sf_okb_t zb_h84_n zb_e361_6) (sf_fc (sf_okb_t zb_h84_n zb_e361_7) (sf_fc (sf_okb_t zb_h84_n zb_e361_8) (sf_fc (sf_okb_t zb_h84_n zb_e361_9) (sf_fc (sf_okb_t zb_h84_n zb_e361_10) (sf_fc (sf_okb_t zb_h84_n zb_e361_11) (sf_fc (sf_okb_t zb_h84_n zb_e361_12) (sf_fc (sf_okb_t zb_h84_n zb_e361_13) (sf_fc (sf_okb_t zb_h84_n zb_e361_14) (sf_fc (sf_okb_t zb_h84_n zb_e361_15) (sf_fc (sf_okb_t zb_h84_n zb_e361_16) (sf_fc (sf_okb_t zb_h84_n zb_e361_17) (sf_fc (sf_okb_t zb_h84_n zb_e361_18) (sf_fc (sf_okb_t zb_h84_n zb_e361_19) sf_fn))))))))))))))))))))
/-- X9_looks -/
def zb_m362 : sf_M := (3997696, 16333553616007998046963562849740359991808, zb_h70, zb_h70, [88, 116, 119], [])
def zb_t362_0 : sf_T := (3997696, 16333553616007998046963562849740359991808, [], zb_h70, [], [(0, 1)])
def zb_t362_1 : sf_T := (3997698, 105228117901436304798911701896198319814493576626688, [], zb_h70, [(1000, 1)], [(0, 0), (1, 0), (0, 0)])
def zb_l362 : List sf_T := [zb_t362_0, zb_t362_1]
noncomputable def zb_b362 : en_T := (fun _ => none)
theorem zb_e362_0 : sf_okb (sf_fin 133 zb_h70 []) zb_b362 61 2 0 133 24 zb_l362 [1] zb_t362_0 = true := by decide +kernel
theorem zb_e362_1 : sf_okb (sf_fin 133 zb_h70 []) zb_b362 61 2 0 133 74 zb_l362 [1] zb_t362_1 = true := by decide +kernel
theorem zb_i362 : (zb_m362.1, zb_m362.2.1, ([] : List Nat), zb_m362.2.2.1, [], [(0, 1)]) ∈ zb_l362 := List.mem_cons_self
theorem zb_k362 (hS : ∀ ρ, en_SA E ρ ω mt_SB) (hX : sf_JX J) (hM : sf_MnB E ω J) : sf_Kok E ω J 2 0 133 zb_m362 := sf_K_of hS sf_TS_n (sf_nL (by decide +kernel)) rfl zb_h70_n zb_h70_n (by decide +kernel) (by decide +kernel) (by decide +kernel) zb_i362 (sf_fc (sf_okb_t zb_h70_n zb_e362_0) (sf_fc (sf_okb_t zb_h70_n zb_e362_1) sf_fn))
/-- X9_windNow -/
def zb_m363 : sf_M := (7208960, 36893488525376225536, zb_h71, zb_h71, [88, 116, 117, 119], [83010348333840465929])
def zb_t363_0 : sf_T := (7208960, 36893488525376225536, [], zb_h71, [], [(0, 0)])
def zb_l363 : List sf_T := [zb_t363_0]
noncomputable def zb_b363 : en_T := (sf_tc 3997696 (sf_call 133 [(2, 0, zb_m362)]) (sf_tc 196608 (sf_call 133 [(6, 4, zb_m53)]) (fun _ => none)))
theorem zb_e363_0 : sf_okb (sf_fin 133 zb_h71 [83010348333840465929]) zb_b363 110 1 5 133 38 zb_l363 [] zb_t363_0 = true := by decide +kernel
theorem zb_i363 : (zb_m363.1, zb_m363.2.1, ([] : List Nat), zb_m363.2.2.1, [], [(0, 0)]) ∈ zb_l363 := List.mem_cons_self
theorem zb_k363 (hS : ∀ ρ, en_SA E ρ ω mt_SB) (hX : sf_JX J) (hM : sf_MnB E ω J) : sf_Kok E ω J 1 5 133 zb_m363 := sf_K_of hS (sf_TS_k (q := 3997696) (nx := 133) (l := [(2, 0, zb_m362)]) hX (sf_fc ⟨(rfl : zb_m362.1 = 3997696), (zb_k362 hS hX hM)⟩ sf_fn) (sf_TS_k (q := 196608) (nx := 133) (l := [(6, 4, zb_m53)]) hX (sf_fc ⟨(rfl : zb_m53.1 = 196608), (hM _ (List.mem_of_getElem? (i := 53) rfl))⟩ sf_fn) sf_TS_n)) (sf_nL (by decide +kernel)) rfl zb_h71_n zb_h71_n (by decide +kernel) (by decide +kernel) (by decide +kernel) zb_i363 (sf_fc (sf_okb_t zb_h71_n zb_e363_0) sf_fn)
/-- X9_dangerNow -/
def zb_m364 : sf_M := (1310720, 36893488525376225536, zb_h71, zb_h71, [88, 116, 117, 119], [83010348333840465929])
def zb_t364_0 : sf_T := (1310720, 36893488525376225536, [], zb_h71, [], [(0, 0)])
def zb_l364 : List sf_T := [zb_t364_0]
noncomputable def zb_b364 : en_T := (sf_tc 3997696 (sf_call 133 [(2, 0, zb_m362)]) (sf_tc 196608 (sf_call 133 [(6, 4, zb_m53)]) (fun _ => none)))
theorem zb_e364_0 : sf_okb (sf_fin 133 zb_h71 [83010348333840465929]) zb_b364 20 1 5 133 38 zb_l364 [] zb_t364_0 = true := by decide +kernel
theorem zb_i364 : (zb_m364.1, zb_m364.2.1, ([] : List Nat), zb_m364.2.2.1, [], [(0, 0)]) ∈ zb_l364 := List.mem_cons_self
theorem zb_k364 (hS : ∀ ρ, en_SA E ρ ω mt_SB) (hX : sf_JX J) (hM : sf_MnB E ω J) : sf_Kok E ω J 1 5 133 zb_m364 := sf_K_of hS (sf_TS_k (q := 3997696) (nx := 133) (l := [(2, 0, zb_m362)]) hX (sf_fc ⟨(rfl : zb_m362.1 = 3997696), (zb_k362 hS hX hM)⟩ sf_fn) (sf_TS_k (q := 196608) (nx := 133) (l := [(6, 4, zb_m53)]) hX (sf_fc ⟨(rfl : zb_m53.1 = 196608), (hM _ (List.mem_of_getElem? (i := 53) rfl))⟩ sf_fn) sf_TS_n)) (sf_nL (by decide +kernel)) rfl zb_h71_n zb_h71_n (by decide +kernel) (by decide +kernel) (by decide +kernel) zb_i364 (sf_fc (sf_okb_t zb_h71_n zb_e364_0) sf_fn)
/-- X9_weathers -/
def zb_m365 : sf_M := (7077888, 36893488525376225536, zb_h71, zb_h71, [88, 116, 117, 119], [])
def zb_t365_0 : sf_T := (7077888, 36893488525376225536, [], zb_h71, [], [(0, 0)])
def zb_l365 : List sf_T := [zb_t365_0]
noncomputable def zb_b365 : en_T := (sf_tc 1310720 (sf_call 133 [(1, 5, zb_m364)]) (sf_tc 7208960 (sf_call 133 [(1, 5, zb_m363)]) (fun _ => none)))
theorem zb_e365_0 : sf_okb (sf_fin 133 zb_h71 []) zb_b365 108 1 6 133 38 zb_l365 [] zb_t365_0 = true := by decide +kernel
theorem zb_i365 : (zb_m365.1, zb_m365.2.1, ([] : List Nat), zb_m365.2.2.1, [], [(0, 0)]) ∈ zb_l365 := List.mem_cons_self
theorem zb_k365 (hS : ∀ ρ, en_SA E ρ ω mt_SB) (hX : sf_JX J) (hM : sf_MnB E ω J) : sf_Kok E ω J 1 6 133 zb_m365 := sf_K_of hS (sf_TS_k (q := 1310720) (nx := 133) (l := [(1, 5, zb_m364)]) hX (sf_fc ⟨(rfl : zb_m364.1 = 1310720), (zb_k364 hS hX hM)⟩ sf_fn) (sf_TS_k (q := 7208960) (nx := 133) (l := [(1, 5, zb_m363)]) hX (sf_fc ⟨(rfl : zb_m363.1 = 7208960), (zb_k363 hS hX hM)⟩ sf_fn) sf_TS_n)) (sf_nL (by decide +kernel)) rfl zb_h71_n zb_h71_n (by decide +kernel) (by decide +kernel) (by decide +kernel) zb_i365 (sf_fc (sf_okb_t zb_h71_n zb_e365_0) sf_fn)
/-- X9_at -/
def zb_m366 : sf_M := (262144, 4820814133899404084098741977143444745332429438409594678280960, zb_h1, zb_h1, [], [83010348325250531333])
def zb_t366_0 : sf_T := (262144, 4820814133899404084098741977143444745332429438409594678280960, [], zb_h1, [(1000, 0)], [(0, 1)])
def zb_t366_1 : sf_T := (262156, 31057858561361006067830763032960584723500958565319766811279727790129920, [], zb_h1, [(1000, 0), (1000, 2)], [(0, 0)])
def zb_l366 : List sf_T := [zb_t366_0, zb_t366_1]
noncomputable def zb_b366 : en_T := (fun _ => none)
theorem zb_e366_0 : sf_okb (sf_fin 133 zb_h1 [83010348325250531333]) zb_b366 4 3 1 133 56 zb_l366 [1] zb_t366_0 = true := by decide +kernel
theorem zb_e366_1 : sf_okb (sf_fin 133 zb_h1 [83010348325250531333]) zb_b366 4 3 1 133 36 zb_l366 [] zb_t366_1 = true := by decide +kernel
theorem zb_i366 : (zb_m366.1, zb_m366.2.1, ([] : List Nat), zb_m366.2.2.1, [(1000, 0)], [(0, 1)]) ∈ zb_l366 := List.mem_cons_self
theorem zb_k366 (hS : ∀ ρ, en_SA E ρ ω mt_SB) (hX : sf_JX J) (hM : sf_MnB E ω J) : sf_Kok E ω J 3 1 133 zb_m366 := sf_K_of hS sf_TS_n (sf_nL (by decide +kernel)) rfl zb_h1_n zb_h1_n (by decide +kernel) (by decide +kernel) (by decide +kernel) zb_i366 (sf_fc (sf_okb_t zb_h1_n zb_e366_0) (sf_fc (sf_okb_t zb_h1_n zb_e366_1) sf_fn))
/-- X9_skillAt -/
def zb_m367 : sf_M := (5898240, 31057858561361006066813557893367387256691902665387575781551385216025344, zb_h72, zb_h72, [88, 98], [73786976299133173759])
def zb_t367_0 : sf_T := (5898240, 31057858561361006066813557893367387256691902665387575781551385216025344, [], zb_h72, [(1000, 1), (1000, 2)], [(0, 0)])
def zb_l367 : List sf_T := [zb_t367_0]
noncomputable def zb_b367 : en_T := (fun _ => none)
theorem zb_e367_0 : sf_okb (sf_fin 133 zb_h72 [73786976299133173759]) zb_b367 90 3 0 133 58 zb_l367 [] zb_t367_0 = true := by decide +kernel
theorem zb_i367 : (zb_m367.1, zb_m367.2.1, ([] : List Nat), zb_m367.2.2.1, [(1000, 1), (1000, 2)], [(0, 0)]) ∈ zb_l367 := List.mem_cons_self
theorem zb_k367 (hS : ∀ ρ, en_SA E ρ ω mt_SB) (hX : sf_JX J) (hM : sf_MnB E ω J) : sf_Kok E ω J 3 0 133 zb_m367 := sf_K_of hS sf_TS_n (sf_nL (by decide +kernel)) rfl zb_h72_n zb_h72_n (by decide +kernel) (by decide +kernel) (by decide +kernel) zb_i367 (sf_fc (sf_okb_t zb_h72_n zb_e367_0) sf_fn)
/-- X9_ordersOf -/
def zb_m368 : sf_M := (4587520, 4820814134004632201975677951514818796926343767777008297181952, zb_h73, zb_h73, [88, 98, 116, 117, 119], [83010348333840465923])
def zb_t368_0 : sf_T := (4587520, 4820814134004632201975677951514818796926343767777008297181952, [], zb_h73, [(1000, 1), (88, 51), (88, 52)], [(0, 1)])
def zb_t368_1 : sf_T := (4587571, 27606985390376131237988087698914973080737518814384213182516637433070336, [], zb_h73, [(1000, 1), (1000, 2), (88, 51), (88, 52)], [(0, 0)])
def zb_l368 : List sf_T := [zb_t368_0, zb_t368_1]
noncomputable def zb_b368 : en_T := (sf_tc 5898240 (sf_call 133 [(3, 0, zb_m367)]) (sf_tc 3997696 (sf_call 133 [(2, 0, zb_m362)]) (sf_tc 196608 (sf_call 133 [(6, 4, zb_m57)]) (fun _ => none))))
theorem zb_e368_0 : sf_okb (sf_fin 133 zb_h73 [83010348333840465923]) zb_b368 70 3 5 133 78 zb_l368 [1] zb_t368_0 = true := by decide +kernel
theorem zb_e368_1 : sf_okb (sf_fin 133 zb_h73 [83010348333840465923]) zb_b368 70 3 5 133 38 zb_l368 [] zb_t368_1 = true := by decide +kernel
theorem zb_i368 : (zb_m368.1, zb_m368.2.1, ([] : List Nat), zb_m368.2.2.1, [(1000, 1), (88, 51), (88, 52)], [(0, 1)]) ∈ zb_l368 := List.mem_cons_self
theorem zb_k368 (hS : ∀ ρ, en_SA E ρ ω mt_SB) (hX : sf_JX J) (hM : sf_MnB E ω J) : sf_Kok E ω J 3 5 133 zb_m368 := sf_K_of hS (sf_TS_k (q := 5898240) (nx := 133) (l := [(3, 0, zb_m367)]) hX (sf_fc ⟨(rfl : zb_m367.1 = 5898240), (zb_k367 hS hX hM)⟩ sf_fn) (sf_TS_k (q := 3997696) (nx := 133) (l := [(2, 0, zb_m362)]) hX (sf_fc ⟨(rfl : zb_m362.1 = 3997696), (zb_k362 hS hX hM)⟩ sf_fn) (sf_TS_k (q := 196608) (nx := 133) (l := [(6, 4, zb_m57)]) hX (sf_fc ⟨(rfl : zb_m57.1 = 196608), (hM _ (List.mem_of_getElem? (i := 57) rfl))⟩ sf_fn) sf_TS_n))) (sf_nL (by decide +kernel)) rfl zb_h73_n zb_h73_n (by decide +kernel) (by decide +kernel) (by decide +kernel) zb_i368 (sf_fc (sf_okb_t zb_h73_n zb_e368_0) (sf_fc (sf_okb_t zb_h73_n zb_e368_1) sf_fn))
/-- X9_fillsDoing -/
def zb_m369 : sf_M := (1966080, 36582990833331704133769688463878398985241663423791010922004235441607090117855687356087714591454335370296807506695615263104760996201528637261568, zb_h74, zb_h74, [88, 98, 116, 117, 119, 120], [])
def zb_t369_0 : sf_T := (1966080, 36582990833331704133769688463878398985241663423791010922004235441607090117855687356087714591454335370296807506695615263104760996201528637261568, [], zb_h74, [(1000, 1), (1000, 2), (1000, 3), (1000, 4), (1000, 5), (88, 51), (88, 52)], [(0, 1)])
def zb_t369_1 : sf_T := (1966088, 209496998917547409953475300355948448183151193670086816111875925103330289972534760558658065480983846666955816962371948440012616040572829811408636523579136, [], zb_h74, [(1000, 1), (1000, 2), (1000, 3), (1000, 4), (1000, 5), (1000, 6), (88, 51), (88, 52)], [(0, 0)])
def zb_l369 : List sf_T := [zb_t369_0, zb_t369_1]
noncomputable def zb_b369 : en_T := (sf_tc 5898240 (sf_call 133 [(3, 0, zb_m367)]) (sf_tc 3997696 (sf_call 133 [(2, 0, zb_m362)]) (sf_tc 196608 (sf_call 133 [(6, 4, zb_m53), (6, 4, zb_m54), (6, 4, zb_m55), (6, 4, zb_m56)]) (fun _ => none))))
theorem zb_e369_0 : sf_okb (sf_fin 133 zb_h74 []) zb_b369 30 7 5 133 30 zb_l369 [1] zb_t369_0 = true := by decide +kernel
theorem zb_e369_1 : sf_okb (sf_fin 133 zb_h74 []) zb_b369 30 7 5 133 214 zb_l369 [] zb_t369_1 = true := by decide +kernel
theorem zb_i369 : (zb_m369.1, zb_m369.2.1, ([] : List Nat), zb_m369.2.2.1, [(1000, 1), (1000, 2), (1000, 3), (1000, 4), (1000, 5), (88, 51), (88, 52)], [(0, 1)]) ∈ zb_l369 := List.mem_cons_self
theorem zb_k369 (hS : ∀ ρ, en_SA E ρ ω mt_SB) (hX : sf_JX J) (hM : sf_MnB E ω J) : sf_Kok E ω J 7 5 133 zb_m369 := sf_K_of hS (sf_TS_k (q := 5898240) (nx := 133) (l := [(3, 0, zb_m367)]) hX (sf_fc ⟨(rfl : zb_m367.1 = 5898240), (zb_k367 hS hX hM)⟩ sf_fn) (sf_TS_k (q := 3997696) (nx := 133) (l := [(2, 0, zb_m362)]) hX (sf_fc ⟨(rfl : zb_m362.1 = 3997696), (zb_k362 hS hX hM)⟩ sf_fn) (sf_TS_k (q := 196608) (nx := 133) (l := [(6, 4, zb_m53), (6, 4, zb_m54), (6, 4, zb_m55), (6, 4, zb_m56)]) hX (sf_fc ⟨(rfl : zb_m53.1 = 196608), (hM _ (List.mem_of_getElem? (i := 53) rfl))⟩ (sf_fc ⟨(rfl : zb_m54.1 = 196608), (hM _ (List.mem_of_getElem? (i := 54) rfl))⟩ (sf_fc ⟨(rfl : zb_m55.1 = 196608), (hM _ (List.mem_of_getElem? (i := 55) rfl))⟩ (sf_fc ⟨(rfl : zb_m56.1 = 196608), (hM _ (List.mem_of_getElem? (i := 56) rfl))⟩ sf_fn)))) sf_TS_n))) (sf_nL (by decide +kernel)) rfl zb_h74_n zb_h74_n (by decide +kernel) (by decide +kernel) (by decide +kernel) zb_i369 (sf_fc (sf_okb_t zb_h74_n zb_e369_0) (sf_fc (sf_okb_t zb_h74_n zb_e369_1) sf_fn))
/-- X9_at -/
def zb_m370 : sf_M := (262144, 4820814133899404084098741977139641793531744750205104568664832, zb_h1, zb_h1, [], [83010348325250531333])
def zb_t370_0 : sf_T := (262144, 4820814133899404084098741977139641793531744750205104568664832, [], zb_h1, [(1000, 0)], [(0, 1)])
def zb_t370_1 : sf_T := (262156, 31057858561361006067830763032960584723497155613519082123075237680513792, [], zb_h1, [(1000, 0), (1000, 2)], [(0, 0)])
def zb_l370 : List sf_T := [zb_t370_0, zb_t370_1]
noncomputable def zb_b370 : en_T := (fun _ => none)
theorem zb_e370_0 : sf_okb (sf_fin 133 zb_h1 [83010348325250531333]) zb_b370 4 3 1 133 110 zb_l370 [1] zb_t370_0 = true := by decide +kernel
theorem zb_e370_1 : sf_okb (sf_fin 133 zb_h1 [83010348325250531333]) zb_b370 4 3 1 133 36 zb_l370 [] zb_t370_1 = true := by decide +kernel
theorem zb_i370 : (zb_m370.1, zb_m370.2.1, ([] : List Nat), zb_m370.2.2.1, [(1000, 0)], [(0, 1)]) ∈ zb_l370 := List.mem_cons_self
theorem zb_k370 (hS : ∀ ρ, en_SA E ρ ω mt_SB) (hX : sf_JX J) (hM : sf_MnB E ω J) : sf_Kok E ω J 3 1 133 zb_m370 := sf_K_of hS sf_TS_n (sf_nL (by decide +kernel)) rfl zb_h1_n zb_h1_n (by decide +kernel) (by decide +kernel) (by decide +kernel) zb_i370 (sf_fc (sf_okb_t zb_h1_n zb_e370_0) (sf_fc (sf_okb_t zb_h1_n zb_e370_1) sf_fn))
/-- X9_at -/
def zb_m371 : sf_M := (262144, 4820814133899404084098741977142177094732201209008097975075584, zb_h1, zb_h1, [], [83010348325250531333])
def zb_t371_0 : sf_T := (262144, 4820814133899404084098741977142177094732201209008097975075584, [], zb_h1, [(1000, 0)], [(0, 1)])
def zb_t371_1 : sf_T := (262156, 31057858561361006067830763032960584723499690914719538581878231086924544, [], zb_h1, [(1000, 0), (1000, 2)], [(0, 0)])
def zb_l371 : List sf_T := [zb_t371_0, zb_t371_1]
noncomputable def zb_b371 : en_T := (fun _ => none)
theorem zb_e371_0 : sf_okb (sf_fin 133 zb_h1 [83010348325250531333]) zb_b371 4 3 1 133 74 zb_l371 [1] zb_t371_0 = true := by decide +kernel
theorem zb_e371_1 : sf_okb (sf_fin 133 zb_h1 [83010348325250531333]) zb_b371 4 3 1 133 36 zb_l371 [] zb_t371_1 = true := by decide +kernel
theorem zb_i371 : (zb_m371.1, zb_m371.2.1, ([] : List Nat), zb_m371.2.2.1, [(1000, 0)], [(0, 1)]) ∈ zb_l371 := List.mem_cons_self
theorem zb_k371 (hS : ∀ ρ, en_SA E ρ ω mt_SB) (hX : sf_JX J) (hM : sf_MnB E ω J) : sf_Kok E ω J 3 1 133 zb_m371 := sf_K_of hS sf_TS_n (sf_nL (by decide +kernel)) rfl zb_h1_n zb_h1_n (by decide +kernel) (by decide +kernel) (by decide +kernel) zb_i371 (sf_fc (sf_okb_t zb_h1_n zb_e371_0) (sf_fc (sf_okb_t zb_h1_n zb_e371_1) sf_fn))
/-- X9_at -/
def zb_m372 : sf_M := (262144, 4820814133899404084098741977140909444131972979606601271870208, zb_h1, zb_h1, [], [83010348325250531333])
def zb_t372_0 : sf_T := (262144, 4820814133899404084098741977140909444131972979606601271870208, [], zb_h1, [(1000, 0)], [(0, 1)])
def zb_t372_1 : sf_T := (262156, 31057858561361006067830763032960584723498423264119310352476734383719168, [], zb_h1, [(1000, 0), (1000, 2)], [(0, 0)])
def zb_l372 : List sf_T := [zb_t372_0, zb_t372_1]
noncomputable def zb_b372 : en_T := (fun _ => none)
theorem zb_e372_0 : sf_okb (sf_fin 133 zb_h1 [83010348325250531333]) zb_b372 4 3 1 133 92 zb_l372 [1] zb_t372_0 = true := by decide +kernel
theorem zb_e372_1 : sf_okb (sf_fin 133 zb_h1 [83010348325250531333]) zb_b372 4 3 1 133 36 zb_l372 [] zb_t372_1 = true := by decide +kernel
theorem zb_i372 : (zb_m372.1, zb_m372.2.1, ([] : List Nat), zb_m372.2.2.1, [(1000, 0)], [(0, 1)]) ∈ zb_l372 := List.mem_cons_self
theorem zb_k372 (hS : ∀ ρ, en_SA E ρ ω mt_SB) (hX : sf_JX J) (hM : sf_MnB E ω J) : sf_Kok E ω J 3 1 133 zb_m372 := sf_K_of hS sf_TS_n (sf_nL (by decide +kernel)) rfl zb_h1_n zb_h1_n (by decide +kernel) (by decide +kernel) (by decide +kernel) zb_i372 (sf_fc (sf_okb_t zb_h1_n zb_e372_0) (sf_fc (sf_okb_t zb_h1_n zb_e372_1) sf_fn))
/-- X9_fillsDraw -/
def zb_m373 : sf_M := (2031616, 31057858559754068022554567617836314203128233281242810191791013140366080, zb_h74, zb_h74, [88, 98, 116, 117, 119, 120], [])
def zb_t373_0 : sf_T := (2031616, 31057858559754068022554567617836314203128233281242810191791013140366080, [], zb_h74, [(1000, 1), (1000, 2)], [(0, 0)])
def zb_l373 : List sf_T := [zb_t373_0]
noncomputable def zb_b373 : en_T := (sf_tc 1966080 (sf_call 133 [(7, 5, zb_m369)]) (sf_tc 4587520 (sf_call 133 [(3, 5, zb_m368)]) (sf_tc 262144 (sf_call 133 [(3, 1, zb_m366), (3, 1, zb_m370), (3, 1, zb_m371), (3, 1, zb_m372)]) (fun _ => none))))
theorem zb_e373_0 : sf_okb (sf_fin 133 zb_h74 []) zb_b373 31 3 6 133 72 zb_l373 [] zb_t373_0 = true := by decide +kernel
theorem zb_i373 : (zb_m373.1, zb_m373.2.1, ([] : List Nat), zb_m373.2.2.1, [(1000, 1), (1000, 2)], [(0, 0)]) ∈ zb_l373 := List.mem_cons_self
theorem zb_k373 (hS : ∀ ρ, en_SA E ρ ω mt_SB) (hX : sf_JX J) (hM : sf_MnB E ω J) : sf_Kok E ω J 3 6 133 zb_m373 := sf_K_of hS (sf_TS_k (q := 1966080) (nx := 133) (l := [(7, 5, zb_m369)]) hX (sf_fc ⟨(rfl : zb_m369.1 = 1966080), (zb_k369 hS hX hM)⟩ sf_fn) (sf_TS_k (q := 4587520) (nx := 133) (l := [(3, 5, zb_m368)]) hX (sf_fc ⟨(rfl : zb_m368.1 = 4587520), (zb_k368 hS hX hM)⟩ sf_fn) (sf_TS_k (q := 262144) (nx := 133) (l := [(3, 1, zb_m366), (3, 1, zb_m370), (3, 1, zb_m371), (3, 1, zb_m372)]) hX (sf_fc ⟨(rfl : zb_m366.1 = 262144), (zb_k366 hS hX hM)⟩ (sf_fc ⟨(rfl : zb_m370.1 = 262144), (zb_k370 hS hX hM)⟩ (sf_fc ⟨(rfl : zb_m371.1 = 262144), (zb_k371 hS hX hM)⟩ (sf_fc ⟨(rfl : zb_m372.1 = 262144), (zb_k372 hS hX hM)⟩ sf_fn)))) sf_TS_n))) (sf_nL (by decide +kernel)) rfl zb_h74_n zb_h74_n (by decide +kernel) (by decide +kernel) (by decide +kernel) zb_i373 (sf_fc (sf_okb_t zb_h74_n zb_e373_0) sf_fn)
end SFP
