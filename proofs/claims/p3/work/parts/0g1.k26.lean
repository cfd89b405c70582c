/-! CONTRACTS, by program (wip/p3/emit.py) -/
section SFP
variable {E : mm_E} {ω : Nat → Value} {J : mm_H → Prop}
/-- X9_looks -/
def sb_m348 : sf_M := (3997696, 16333553616007998046963562849740359991808, sb_h64, sb_h64, [88, 116, 119], [])
def sb_t348_0 : sf_T := (3997696, 16333553616007998046963562849740359991808, [], sb_h64, [], [(0, 1)])
def sb_t348_1 : sf_T := (3997698, 105228117901436304798911701896198319814493576626688, [], sb_h64, [(1000, 1)], [(0, 0), (1, 0), (0, 0)])
def sb_l348 : List sf_T := [sb_t348_0, sb_t348_1]
noncomputable def sb_b348 : en_T := (fun _ => none)
theorem sb_e348_0 : sf_okb (sf_fin 133 sb_h64 []) sb_b348 61 2 0 133 24 sb_l348 [1] sb_t348_0 = true := by decide +kernel
theorem sb_e348_1 : sf_okb (sf_fin 133 sb_h64 []) sb_b348 61 2 0 133 74 sb_l348 [1] sb_t348_1 = true := by decide +kernel
theorem sb_i348 : (sb_m348.1, sb_m348.2.1, ([] : List Nat), sb_m348.2.2.1, [], [(0, 1)]) ∈ sb_l348 := List.mem_cons_self
theorem sb_k348 (hS : ∀ ρ, en_SA E ρ ω mt_SB) (hX : sf_JX J) (hM : sf_MnB E ω J) : sf_Kok E ω J 2 0 133 sb_m348 := sf_K_of hS sf_TS_n (sf_nL (by decide +kernel)) rfl sb_h64_n sb_h64_n (by decide +kernel) (by decide +kernel) (by decide +kernel) sb_i348 (sf_fc (sf_okb_t sb_h64_n sb_e348_0) (sf_fc (sf_okb_t sb_h64_n sb_e348_1) sf_fn))
/-- X9_windNow -/
def sb_m349 : sf_M := (7208960, 36893488525376225536, sb_h65, sb_h65, [88, 116, 117, 119], [83010348333840465929])
def sb_t349_0 : sf_T := (7208960, 36893488525376225536, [], sb_h65, [], [(0, 0)])
def sb_l349 : List sf_T := [sb_t349_0]
noncomputable def sb_b349 : en_T := (sf_tc 3997696 (sf_call 133 [(2, 0, sb_m348)]) (sf_tc 196608 (sf_call 133 [(6, 4, sb_m18)]) (fun _ => none)))
theorem sb_e349_0 : sf_okb (sf_fin 133 sb_h65 [83010348333840465929]) sb_b349 110 1 5 133 38 sb_l349 [] sb_t349_0 = true := by decide +kernel
theorem sb_i349 : (sb_m349.1, sb_m349.2.1, ([] : List Nat), sb_m349.2.2.1, [], [(0, 0)]) ∈ sb_l349 := List.mem_cons_self
theorem sb_k349 (hS : ∀ ρ, en_SA E ρ ω mt_SB) (hX : sf_JX J) (hM : sf_MnB E ω J) : sf_Kok E ω J 1 5 133 sb_m349 := sf_K_of hS (sf_TS_k (q := 3997696) (nx := 133) (l := [(2, 0, sb_m348)]) hX (sf_fc ⟨(rfl : sb_m348.1 = 3997696), (sb_k348 hS hX hM)⟩ sf_fn) (sf_TS_k (q := 196608) (nx := 133) (l := [(6, 4, sb_m18)]) hX (sf_fc ⟨(rfl : sb_m18.1 = 196608), (hM _ (List.mem_of_getElem? (i := 18) rfl))⟩ sf_fn) sf_TS_n)) (sf_nL (by decide +kernel)) rfl sb_h65_n sb_h65_n (by decide +kernel) (by decide +kernel) (by decide +kernel) sb_i349 (sf_fc (sf_okb_t sb_h65_n sb_e349_0) sf_fn)
/-- X9_dangerNow -/
def sb_m350 : sf_M := (1310720, 36893488525376225536, sb_h65, sb_h65, [88, 116, 117, 119], [83010348333840465929])
def sb_t350_0 : sf_T := (1310720, 36893488525376225536, [], sb_h65, [], [(0, 0)])
def sb_l350 : List sf_T := [sb_t350_0]
noncomputable def sb_b350 : en_T := (sf_tc 3997696 (sf_call 133 [(2, 0, sb_m348)]) (sf_tc 196608 (sf_call 133 [(6, 4, sb_m18)]) (fun _ => none)))
theorem sb_e350_0 : sf_okb (sf_fin 133 sb_h65 [83010348333840465929]) sb_b350 20 1 5 133 38 sb_l350 [] sb_t350_0 = true := by decide +kernel
theorem sb_i350 : (sb_m350.1, sb_m350.2.1, ([] : List Nat), sb_m350.2.2.1, [], [(0, 0)]) ∈ sb_l350 := List.mem_cons_self
theorem sb_k350 (hS : ∀ ρ, en_SA E ρ ω mt_SB) (hX : sf_JX J) (hM : sf_MnB E ω J) : sf_Kok E ω J 1 5 133 sb_m350 := sf_K_of hS (sf_TS_k (q := 3997696) (nx := 133) (l := [(2, 0, sb_m348)]) hX (sf_fc ⟨(rfl : sb_m348.1 = 3997696), (sb_k348 hS hX hM)⟩ sf_fn) (sf_TS_k (q := 196608) (nx := 133) (l := [(6, 4, sb_m18)]) hX (sf_fc ⟨(rfl : sb_m18.1 = 196608), (hM _ (List.mem_of_getElem? (i := 18) rfl))⟩ sf_fn) sf_TS_n)) (sf_nL (by decide +kernel)) rfl sb_h65_n sb_h65_n (by decide +kernel) (by decide +kernel) (by decide +kernel) sb_i350 (sf_fc (sf_okb_t sb_h65_n sb_e350_0) sf_fn)
/-- X9_weathers -/
def sb_m351 : sf_M := (7077888, 36893488525376225536, sb_h65, sb_h65, [88, 116, 117, 119], [])
def sb_t351_0 : sf_T := (7077888, 36893488525376225536, [], sb_h65, [], [(0, 0)])
def sb_l351 : List sf_T := [sb_t351_0]
noncomputable def sb_b351 : en_T := (sf_tc 1310720 (sf_call 133 [(1, 5, sb_m350)]) (sf_tc 7208960 (sf_call 133 [(1, 5, sb_m349)]) (fun _ => none)))
theorem sb_e351_0 : sf_okb (sf_fin 133 sb_h65 []) sb_b351 108 1 6 133 38 sb_l351 [] sb_t351_0 = true := by decide +kernel
theorem sb_i351 : (sb_m351.1, sb_m351.2.1, ([] : List Nat), sb_m351.2.2.1, [], [(0, 0)]) ∈ sb_l351 := List.mem_cons_self
theorem sb_k351 (hS : ∀ ρ, en_SA E ρ ω mt_SB) (hX : sf_JX J) (hM : sf_MnB E ω J) : sf_Kok E ω J 1 6 133 sb_m351 := sf_K_of hS (sf_TS_k (q := 1310720) (nx := 133) (l := [(1, 5, sb_m350)]) hX (sf_fc ⟨(rfl : sb_m350.1 = 1310720), (sb_k350 hS hX hM)⟩ sf_fn) (sf_TS_k (q := 7208960) (nx := 133) (l := [(1, 5, sb_m349)]) hX (sf_fc ⟨(rfl : sb_m349.1 = 7208960), (sb_k349 hS hX hM)⟩ sf_fn) sf_TS_n)) (sf_nL (by decide +kernel)) rfl sb_h65_n sb_h65_n (by decide +kernel) (by decide +kernel) (by decide +kernel) sb_i351 (sf_fc (sf_okb_t sb_h65_n sb_e351_0) sf_fn)
/-- X9_skillAt -/
def sb_m352 : sf_M := (5898240, 31057858561361006066813557893367387256691902665387575781551385216025344, sb_h66, sb_h66, [88, 98], [73786976299133173759])
def sb_t352_0 : sf_T := (5898240, 31057858561361006066813557893367387256691902665387575781551385216025344, [], sb_h66, [(1000, 1), (1000, 2)], [(0, 0)])
def sb_l352 : List sf_T := [sb_t352_0]
noncomputable def sb_b352 : en_T := (fun _ => none)
theorem sb_e352_0 : sf_okb (sf_fin 133 sb_h66 [73786976299133173759]) sb_b352 90 3 0 133 58 sb_l352 [] sb_t352_0 = true := by decide +kernel
theorem sb_i352 : (sb_m352.1, sb_m352.2.1, ([] : List Nat), sb_m352.2.2.1, [(1000, 1), (1000, 2)], [(0, 0)]) ∈ sb_l352 := List.mem_cons_self
theorem sb_k352 (hS : ∀ ρ, en_SA E ρ ω mt_SB) (hX : sf_JX J) (hM : sf_MnB E ω J) : sf_Kok E ω J 3 0 133 sb_m352 := sf_K_of hS sf_TS_n (sf_nL (by decide +kernel)) rfl sb_h66_n sb_h66_n (by decide +kernel) (by decide +kernel) (by decide +kernel) sb_i352 (sf_fc (sf_okb_t sb_h66_n sb_e352_0) sf_fn)
/-- X9_ordersOf -/
def sb_m353 : sf_M := (4587520, 4820814134004632201975677951514818796926343767777008297181952, sb_h68, sb_h68, [88, 98, 116, 117, 119], [83010348333840465923])
def sb_t353_0 : sf_T := (4587520, 4820814134004632201975677951514818796926343767777008297181952, [], sb_h68, [(1000, 1), (88, 51), (88, 52)], [(0, 1)])
def sb_t353_1 : sf_T := (4587571, 27606985390376131237988087698914973080737518814384213182516637433070336, [], sb_h68, [(1000, 1), (1000, 2), (88, 51), (88, 52)], [(0, 0)])
def sb_l353 : List sf_T := [sb_t353_0, sb_t353_1]
noncomputable def sb_b353 : en_T := (sf_tc 5898240 (sf_call 133 [(3, 0, sb_m352)]) (sf_tc 3997696 (sf_call 133 [(2, 0, sb_m348)]) (sf_tc 196608 (sf_call 133 [(6, 4, sb_m22)]) (fun _ => none))))
theorem sb_e353_0 : sf_okb (sf_fin 133 sb_h68 [83010348333840465923]) sb_b353 70 3 5 133 78 sb_l353 [1] sb_t353_0 = true := by decide +kernel
theorem sb_e353_1 : sf_okb (sf_fin 133 sb_h68 [83010348333840465923]) sb_b353 70 3 5 133 38 sb_l353 [] sb_t353_1 = true := by decide +kernel
theorem sb_i353 : (sb_m353.1, sb_m353.2.1, ([] : List Nat), sb_m353.2.2.1, [(1000, 1), (88, 51), (88, 52)], [(0, 1)]) ∈ sb_l353 := List.mem_cons_self
theorem sb_k353 (hS : ∀ ρ, en_SA E ρ ω mt_SB) (hX : sf_JX J) (hM : sf_MnB E ω J) : sf_Kok E ω J 3 5 133 sb_m353 := sf_K_of hS (sf_TS_k (q := 5898240) (nx := 133) (l := [(3, 0, sb_m352)]) hX (sf_fc ⟨(rfl : sb_m352.1 = 5898240), (sb_k352 hS hX hM)⟩ sf_fn) (sf_TS_k (q := 3997696) (nx := 133) (l := [(2, 0, sb_m348)]) hX (sf_fc ⟨(rfl : sb_m348.1 = 3997696), (sb_k348 hS hX hM)⟩ sf_fn) (sf_TS_k (q := 196608) (nx := 133) (l := [(6, 4, sb_m22)]) hX (sf_fc ⟨(rfl : sb_m22.1 = 196608), (hM _ (List.mem_of_getElem? (i := 22) rfl))⟩ sf_fn) sf_TS_n))) (sf_nL (by decide +kernel)) rfl sb_h68_n sb_h68_n (by decide +kernel) (by decide +kernel) (by decide +kernel) sb_i353 (sf_fc (sf_okb_t sb_h68_n sb_e353_0) (sf_fc (sf_okb_t sb_h68_n sb_e353_1) sf_fn))
/-- X9_at -/
def sb_m354 : sf_M := (262144, 4820814133899404084098741977143444745332429438409594678280960, sb_h1, sb_h1, [], [83010348325250531333])
def sb_t354_0 : sf_T := (262144, 4820814133899404084098741977143444745332429438409594678280960, [], sb_h1, [(1000, 0)], [(0, 1)])
def sb_t354_1 : sf_T := (262156, 31057858561361006067830763032960584723500958565319766811279727790129920, [], sb_h1, [(1000, 0), (1000, 2)], [(0, 0)])
def sb_l354 : List sf_T := [sb_t354_0, sb_t354_1]
noncomputable def sb_b354 : en_T := (fun _ => none)
theorem sb_e354_0 : sf_okb (sf_fin 133 sb_h1 [83010348325250531333]) sb_b354 4 3 1 133 56 sb_l354 [1] sb_t354_0 = true := by decide +kernel
theorem sb_e354_1 : sf_okb (sf_fin 133 sb_h1 [83010348325250531333]) sb_b354 4 3 1 133 36 sb_l354 [] sb_t354_1 = true := by decide +kernel
theorem sb_i354 : (sb_m354.1, sb_m354.2.1, ([] : List Nat), sb_m354.2.2.1, [(1000, 0)], [(0, 1)]) ∈ sb_l354 := List.mem_cons_self
theorem sb_k354 (hS : ∀ ρ, en_SA E ρ ω mt_SB) (hX : sf_JX J) (hM : sf_MnB E ω J) : sf_Kok E ω J 3 1 133 sb_m354 := sf_K_of hS sf_TS_n (sf_nL (by decide +kernel)) rfl sb_h1_n sb_h1_n (by decide +kernel) (by decide +kernel) (by decide +kernel) sb_i354 (sf_fc (sf_okb_t sb_h1_n sb_e354_0) (sf_fc (sf_okb_t sb_h1_n sb_e354_1) sf_fn))
/-- X9_at -/
def sb_m355 : sf_M := (262144, 4820814133899404084098741977139641793531744750205104568664832, sb_h1, sb_h1, [], [83010348325250531333])
def sb_t355_0 : sf_T := (262144, 4820814133899404084098741977139641793531744750205104568664832, [], sb_h1, [(1000, 0)], [(0, 1)])
def sb_t355_1 : sf_T := (262156, 31057858561361006067830763032960584723497155613519082123075237680513792, [], sb_h1, [(1000, 0), (1000, 2)], [(0, 0)])
def sb_l355 : List sf_T := [sb_t355_0, sb_t355_1]
noncomputable def sb_b355 : en_T := (fun _ => none)
theorem sb_e355_0 : sf_okb (sf_fin 133 sb_h1 [83010348325250531333]) sb_b355 4 3 1 133 110 sb_l355 [1] sb_t355_0 = true := by decide +kernel
theorem sb_e355_1 : sf_okb (sf_fin 133 sb_h1 [83010348325250531333]) sb_b355 4 3 1 133 36 sb_l355 [] sb_t355_1 = true := by decide +kernel
theorem sb_i355 : (sb_m355.1, sb_m355.2.1, ([] : List Nat), sb_m355.2.2.1, [(1000, 0)], [(0, 1)]) ∈ sb_l355 := List.mem_cons_self
theorem sb_k355 (hS : ∀ ρ, en_SA E ρ ω mt_SB) (hX : sf_JX J) (hM : sf_MnB E ω J) : sf_Kok E ω J 3 1 133 sb_m355 := sf_K_of hS sf_TS_n (sf_nL (by decide +kernel)) rfl sb_h1_n sb_h1_n (by decide +kernel) (by decide +kernel) (by decide +kernel) sb_i355 (sf_fc (sf_okb_t sb_h1_n sb_e355_0) (sf_fc (sf_okb_t sb_h1_n sb_e355_1) sf_fn))
/-- X9_fillsDoing -/
def sb_m356 : sf_M := (1966080, 36582990833331704133769688463878398985241663423791010922004235441607090117855687356087714591454335370296807506695615263104760996201528637261568, sb_h67, sb_h67, [88, 98, 116, 117, 119, 120], [])
def sb_t356_0 : sf_T := (1966080, 36582990833331704133769688463878398985241663423791010922004235441607090117855687356087714591454335370296807506695615263104760996201528637261568, [], sb_h67, [(1000, 1), (1000, 2), (1000, 3), (1000, 4), (1000, 5), (88, 51), (88, 52)], [(0, 1)])
def sb_t356_1 : sf_T := (1966088, 209496998917547409953475300355948448183151193670086816111875925103330289972534760558658065480983846666955816962371948440012616040572829811408636523579136, [], sb_h67, [(1000, 1), (1000, 2), (1000, 3), (1000, 4), (1000, 5), (1000, 6), (88, 51), (88, 52)], [(0, 0)])
def sb_l356 : List sf_T := [sb_t356_0, sb_t356_1]
noncomputable def sb_b356 : en_T := (sf_tc 5898240 (sf_call 133 [(3, 0, sb_m352)]) (sf_tc 3997696 (sf_call 133 [(2, 0, sb_m348)]) (sf_tc 196608 (sf_call 133 [(6, 4, sb_m18), (6, 4, sb_m19), (6, 4, sb_m20), (6, 4, sb_m21)]) (fun _ => none))))
theorem sb_e356_0 : sf_okb (sf_fin 133 sb_h67 []) sb_b356 30 7 5 133 30 sb_l356 [1] sb_t356_0 = true := by decide +kernel
theorem sb_e356_1 : sf_okb (sf_fin 133 sb_h67 []) sb_b356 30 7 5 133 214 sb_l356 [] sb_t356_1 = true := by decide +kernel
theorem sb_i356 : (sb_m356.1, sb_m356.2.1, ([] : List Nat), sb_m356.2.2.1, [(1000, 1), (1000, 2), (1000, 3), (1000, 4), (1000, 5), (88, 51), (88, 52)], [(0, 1)]) ∈ sb_l356 := List.mem_cons_self
theorem sb_k356 (hS : ∀ ρ, en_SA E ρ ω mt_SB) (hX : sf_JX J) (hM : sf_MnB E ω J) : sf_Kok E ω J 7 5 133 sb_m356 := sf_K_of hS (sf_TS_k (q := 5898240) (nx := 133) (l := [(3, 0, sb_m352)]) hX (sf_fc ⟨(rfl : sb_m352.1 = 5898240), (sb_k352 hS hX hM)⟩ sf_fn) (sf_TS_k (q := 3997696) (nx := 133) (l := [(2, 0, sb_m348)]) hX (sf_fc ⟨(rfl : sb_m348.1 = 3997696), (sb_k348 hS hX hM)⟩ sf_fn) (sf_TS_k (q := 196608) (nx := 133) (l := [(6, 4, sb_m18), (6, 4, sb_m19), (6, 4, sb_m20), (6, 4, sb_m21)]) hX (sf_fc ⟨(rfl : sb_m18.1 = 196608), (hM _ (List.mem_of_getElem? (i := 18) rfl))⟩ (sf_fc ⟨(rfl : sb_m19.1 = 196608), (hM _ (List.mem_of_getElem? (i := 19) rfl))⟩ (sf_fc ⟨(rfl : sb_m20.1 = 196608), (hM _ (List.mem_of_getElem? (i := 20) rfl))⟩ (sf_fc ⟨(rfl : sb_m21.1 = 196608), (hM _ (List.mem_of_getElem? (i := 21) rfl))⟩ sf_fn)))) sf_TS_n))) (sf_nL (by decide +kernel)) rfl sb_h67_n sb_h67_n (by decide +kernel) (by decide +kernel) (by decide +kernel) sb_i356 (sf_fc (sf_okb_t sb_h67_n sb_e356_0) (sf_fc (sf_okb_t sb_h67_n sb_e356_1) sf_fn))
/-- X9_at -/
def sb_m357 : sf_M := (262144, 4820814133899404084098741977142177094732201209008097975075584, sb_h1, sb_h1, [], [83010348325250531333])
def sb_t357_0 : sf_T := (262144, 4820814133899404084098741977142177094732201209008097975075584, [], sb_h1, [(1000, 0)], [(0, 1)])
def sb_t357_1 : sf_T := (262156, 31057858561361006067830763032960584723499690914719538581878231086924544, [], sb_h1, [(1000, 0), (1000, 2)], [(0, 0)])
def sb_l357 : List sf_T := [sb_t357_0, sb_t357_1]
noncomputable def sb_b357 : en_T := (fun _ => none)
theorem sb_e357_0 : sf_okb (sf_fin 133 sb_h1 [83010348325250531333]) sb_b357 4 3 1 133 74 sb_l357 [1] sb_t357_0 = true := by decide +kernel
theorem sb_e357_1 : sf_okb (sf_fin 133 sb_h1 [83010348325250531333]) sb_b357 4 3 1 133 36 sb_l357 [] sb_t357_1 = true := by decide +kernel
theorem sb_i357 : (sb_m357.1, sb_m357.2.1, ([] : List Nat), sb_m357.2.2.1, [(1000, 0)], [(0, 1)]) ∈ sb_l357 := List.mem_cons_self
theorem sb_k357 (hS : ∀ ρ, en_SA E ρ ω mt_SB) (hX : sf_JX J) (hM : sf_MnB E ω J) : sf_Kok E ω J 3 1 133 sb_m357 := sf_K_of hS sf_TS_n (sf_nL (by decide +kernel)) rfl sb_h1_n sb_h1_n (by decide +kernel) (by decide +kernel) (by decide +kernel) sb_i357 (sf_fc (sf_okb_t sb_h1_n sb_e357_0) (sf_fc (sf_okb_t sb_h1_n sb_e357_1) sf_fn))
/-- X9_at -/
def sb_m358 : sf_M := (262144, 4820814133899404084098741977140909444131972979606601271870208, sb_h1, sb_h1, [], [83010348325250531333])
def sb_t358_0 : sf_T := (262144, 4820814133899404084098741977140909444131972979606601271870208, [], sb_h1, [(1000, 0)], [(0, 1)])
def sb_t358_1 : sf_T := (262156, 31057858561361006067830763032960584723498423264119310352476734383719168, [], sb_h1, [(1000, 0), (1000, 2)], [(0, 0)])
def sb_l358 : List sf_T := [sb_t358_0, sb_t358_1]
noncomputable def sb_b358 : en_T := (fun _ => none)
theorem sb_e358_0 : sf_okb (sf_fin 133 sb_h1 [83010348325250531333]) sb_b358 4 3 1 133 92 sb_l358 [1] sb_t358_0 = true := by decide +kernel
theorem sb_e358_1 : sf_okb (sf_fin 133 sb_h1 [83010348325250531333]) sb_b358 4 3 1 133 36 sb_l358 [] sb_t358_1 = true := by decide +kernel
theorem sb_i358 : (sb_m358.1, sb_m358.2.1, ([] : List Nat), sb_m358.2.2.1, [(1000, 0)], [(0, 1)]) ∈ sb_l358 := List.mem_cons_self
theorem sb_k358 (hS : ∀ ρ, en_SA E ρ ω mt_SB) (hX : sf_JX J) (hM : sf_MnB E ω J) : sf_Kok E ω J 3 1 133 sb_m358 := sf_K_of hS sf_TS_n (sf_nL (by decide +kernel)) rfl sb_h1_n sb_h1_n (by decide +kernel) (by decide +kernel) (by decide +kernel) sb_i358 (sf_fc (sf_okb_t sb_h1_n sb_e358_0) (sf_fc (sf_okb_t sb_h1_n sb_e358_1) sf_fn))
/-- X9_fillsDraw -/
def sb_m359 : sf_M := (2031616, 31057858559754068022554567617836314203128233281242810191791013140366080, sb_h67, sb_h67, [88, 98, 116, 117, 119, 120], [])
def sb_t359_0 : sf_T := (2031616, 31057858559754068022554567617836314203128233281242810191791013140366080, [], sb_h67, [(1000, 1), (1000, 2)], [(0, 0)])
def sb_l359 : List sf_T := [sb_t359_0]
noncomputable def sb_b359 : en_T := (sf_tc 1966080 (sf_call 133 [(7, 5, sb_m356)]) (sf_tc 262144 (sf_call 133 [(3, 1, sb_m354), (3, 1, sb_m355), (3, 1, sb_m357), (3, 1, sb_m358)]) (sf_tc 4587520 (sf_call 133 [(3, 5, sb_m353)]) (fun _ => none))))
theorem sb_e359_0 : sf_okb (sf_fin 133 sb_h67 []) sb_b359 31 3 6 133 72 sb_l359 [] sb_t359_0 = true := by decide +kernel
theorem sb_i359 : (sb_m359.1, sb_m359.2.1, ([] : List Nat), sb_m359.2.2.1, [(1000, 1), (1000, 2)], [(0, 0)]) ∈ sb_l359 := List.mem_cons_self
theorem sb_k359 (hS : ∀ ρ, en_SA E ρ ω mt_SB) (hX : sf_JX J) (hM : sf_MnB E ω J) : sf_Kok E ω J 3 6 133 sb_m359 := sf_K_of hS (sf_TS_k (q := 1966080) (nx := 133) (l := [(7, 5, sb_m356)]) hX (sf_fc ⟨(rfl : sb_m356.1 = 1966080), (sb_k356 hS hX hM)⟩ sf_fn) (sf_TS_k (q := 262144) (nx := 133) (l := [(3, 1, sb_m354), (3, 1, sb_m355), (3, 1, sb_m357), (3, 1, sb_m358)]) hX (sf_fc ⟨(rfl : sb_m354.1 = 262144), (sb_k354 hS hX hM)⟩ (sf_fc ⟨(rfl : sb_m355.1 = 262144), (sb_k355 hS hX hM)⟩ (sf_fc ⟨(rfl : sb_m357.1 = 262144), (sb_k357 hS hX hM)⟩ (sf_fc ⟨(rfl : sb_m358.1 = 262144), (sb_k358 hS hX hM)⟩ sf_fn)))) (sf_TS_k (q := 4587520) (nx := 133) (l := [(3, 5, sb_m353)]) hX (sf_fc ⟨(rfl : sb_m353.1 = 4587520), (sb_k353 hS hX hM)⟩ sf_fn) sf_TS_n))) (sf_nL (by decide +kernel)) rfl sb_h67_n sb_h67_n (by decide +kernel) (by decide +kernel) (by decide +kernel) sb_i359 (sf_fc (sf_okb_t sb_h67_n sb_e359_0) sf_fn)
/-- X9_copies -/
def sb_m360 : sf_M := (1114112, 16333553616007998046963562849740359991808, sb_h63, sb_h63, [88, 105, 118, 119], [])
def sb_t360_0 : sf_T := (1114112, 16333553616007998046963562849740359991808, [], sb_h63, [], [(0, 0)])
def sb_l360 : List sf_T := [sb_t360_0]
noncomputable def sb_b360 : en_T := (fun _ => none)
theorem sb_e360_0 : sf_okb (sf_fin 133 sb_h63 []) sb_b360 17 2 0 133 1612 sb_l360 [] sb_t360_0 = true := by decide +kernel
theorem sb_i360 : (sb_m360.1, sb_m360.2.1, ([] : List Nat), sb_m360.2.2.1, [], [(0, 0)]) ∈ sb_l360 := List.mem_cons_self
theorem sb_k360 (hS : ∀ ρ, en_SA E ρ ω mt_SB) (hX : sf_JX J) (hM : sf_MnB E ω J) : sf_Kok E ω J 2 0 133 sb_m360 := sf_K_of hS sf_TS_n (sf_nL (by decide +kernel)) rfl sb_h63_n sb_h63_n (by decide +kernel) (by decide +kernel) (by decide +kernel) sb_i360 (sf_fc (sf_okb_t sb_h63_n sb_e360_0) sf_fn)
def sb_h84 : en_H := (((((((0, 0), 0), 0), ((0, 0), (0, 0))), ((((((0, (0, 0)), 0), 0), ((((0, 0), (0, (0, 0))), (((0, 0), 0), (0, (0, (0, 0))))), 0)), ((0, 0), 0)), (0, ((((0, 0), ((0, 0), ((0, 0), 0))), (((0, (0, 0)), ((0, 0), (0, 0))), (((0, 0), (0, 0)), ((0, 0), (0, 0))))), (((((0, 0), (0, 0)), ((0, 0), (0, 0))), (((0, 0), (0, 0)), ((0, 0), (0, 0)))), ((((0, 0), (0, 0)), ((0, 0), (0, (0, 0)))), ((((0, 0), (0, 0)), ((0, 0), 0)), (0, (0, (0, 0)))))))))), sb_r3), ((((((0, 0), 0), (0, (0, 0))), (0, 0)), sb_r20), ((((((((sb_r7, 0), 0), (0, 0)), (0, (0, sb_r5))), 0), (0, (((0, 0), (0, 0)), ((0, 0), (0, 0))))), sb_r1), (((sb_r2, sb_r6), sb_r6), (sb_r12, ((0, ((0, 0), (sb_r27, sb_r28))), (((sb_r29, 0), (0, 0)), ((0, 0), ((0, 0), (0, 0))))))))))
theorem sb_h84_n : sf_nlh sb_h84 136 = true := by decide +kernel
/-- X9_fillsFirst -/
def sb_m361 : sf_M := (2097152, 1422853192879425234015608139717629925292265360276298235107590062233449531231437824, sb_h84, sb_h84, [88, 97, 98, 105, 116, 117, 118, 119, 120, 124, 125, 126], [])
def sb_t361_0 : sf_T := (2097152, 1422853192879425234015608139717629925292265360276298235107590062233449531231437824, [], sb_h84, [(1000, 1)], [(0, 19)])
def sb_t361_1 : sf_T := (2097164, 9166661893742329624842813117257092636493575502212187267824770353587331498168013300730692608, [], sb_h84, [(1000, 1), (1000, 3)], [(0, 18), (1, 1), (0, 0)])
def sb_t361_2 : sf_T := (2097164, 9166662056896162408239812008945390282816986349434389824395986497991095762065735818722411520, [], sb_h84, [(1000, 1), (1000, 3)], [(0, 17), (1, 1), (0, 0)])
def sb_t361_3 : sf_T := (2097164, 9166662219575710794120763764178741174544811526089598523776738892089241761867046157708952576, [], sb_h84, [(1000, 1), (1000, 3)], [(0, 16), (1, 1), (0, 0)])
def sb_t361_4 : sf_T := (2097164, 9166662382255259180001715519412092066272636702744807223157491286187387761668356496695493632, [], sb_h84, [(1000, 1), (1000, 3)], [(0, 15), (1, 1), (0, 0)])
def sb_t361_5 : sf_T := (2097164, 9166662544934807565882667274645442958000461879400015922538243680285533761469666835682034688, [], sb_h84, [(1000, 1), (1000, 3)], [(0, 14), (1, 1), (0, 0)])
def sb_t361_6 : sf_T := (2097164, 9166662707614355951763619029878793849728287056055224621918996074383679761270977174668575744, [], sb_h84, [(1000, 1), (1000, 3)], [(0, 13), (1, 1), (0, 0)])
def sb_t361_7 : sf_T := (2097164, 9166662870293904305178755969809332685363020656559305592969731863392327405587773564903228416, [], sb_h84, [(1000, 1), (1000, 3)], [(0, 12), (1, 1), (0, 0)])
def sb_t361_8 : sf_T := (2097164, 9166662893533839788876034791985525669895567110367192550024125062549205405559389327615591424, [], sb_h84, [(1000, 1), (1000, 3)], [(0, 11), (1, 1), (0, 0)])
def sb_t361_9 : sf_T := (2097164, 9166662916773775272573313614161718654428113564175079507078518261706083405531005090327954432, [], sb_h84, [(1000, 1), (1000, 3)], [(0, 10), (1, 1), (0, 0)])
def sb_t361_10 : sf_T := (2097164, 9166662940013710756270592436337911638960660017982966464132911460862961405502620853040317440, [], sb_h84, [(1000, 1), (1000, 3)], [(0, 9), (1, 1), (0, 0)])
def sb_t361_11 : sf_T := (2097164, 9166662963253646239967871258514104623493206471790853421187304660019839405474236615752680448, [], sb_h84, [(1000, 1), (1000, 3)], [(0, 8), (1, 1), (0, 0)])
def sb_t361_12 : sf_T := (2097164, 9166662986493581723665150080690297608025752925598740378241697859176717405445852378465043456, [], sb_h84, [(1000, 1), (1000, 3)], [(0, 7), (1, 1), (0, 0)])
def sb_t361_13 : sf_T := (2097164, 9166663009733517202724455357823231727402143439956466231248945829035095640348251862784279552, [], sb_h84, [(1000, 1), (1000, 3)], [(0, 6), (1, 1), (0, 0)])
def sb_t361_14 : sf_T := (2097164, 9166663013053507986109780903848402153763935790500450082256716286057506783201339828886045696, [], sb_h84, [(1000, 1), (1000, 3)], [(0, 5), (1, 1), (0, 0)])
def sb_t361_15 : sf_T := (2097164, 9166663016373498769495106449873572580125728141044433933264486743079917926054427794987811840, [], sb_h84, [(1000, 1), (1000, 3)], [(0, 4), (1, 1), (0, 0)])
def sb_t361_16 : sf_T := (2097164, 9166663019693489552880431995898743006487520491588417784272257200102329068907515761089577984, [], sb_h84, [(1000, 1), (1000, 3)], [(0, 3), (1, 1), (0, 0)])
def sb_t361_17 : sf_T := (2097164, 9166663023013480336265757541923913432849312842132401635280027657124740211760603727191344128, [], sb_h84, [(1000, 1), (1000, 3)], [(0, 2), (1, 1), (0, 0)])
def sb_t361_18 : sf_T := (2097164, 9166663026333471119651083087949083859211105192676385486287798114147151354613691693293110272, [], sb_h84, [(1000, 1), (1000, 3)], [(0, 1), (1, 1), (0, 0)])
def sb_t361_19 : sf_T := (2097164, 237142463895511226534575304413982908192524949419314710436279506077627682899624960, [], sb_h84, [(1000, 1)], [(0, 0)])
def sb_l361 : List sf_T := [sb_t361_0, sb_t361_1, sb_t361_2, sb_t361_3, sb_t361_4, sb_t361_5, sb_t361_6, sb_t361_7, sb_t361_8, sb_t361_9, sb_t361_10, sb_t361_11, sb_t361_12, sb_t361_13, sb_t361_14, sb_t361_15, sb_t361_16, sb_t361_17, sb_t361_18, sb_t361_19]
noncomputable def sb_b361 : en_T := (sf_tc 1114112 (sf_call 133 [(2, 0, sb_m360)]) (sf_tc 2031616 (sf_call 133 [(3, 6, sb_m359)]) (sf_tc 7077888 (sf_call 133 [(1, 6, sb_m351)]) (sf_tc 2097164 (sf_spl 4 (1000, 3) [2147483991, 2147484334, 2147484677, 2147485020, 2147485363, 2147485706, 2147485755, 2147485804, 2147485853, 2147485902, 2147485951, 2147486000, 2147486007, 2147486014, 2147486021, 2147486028, 2147486035, 2147486042]) (fun _ => none)))))
theorem sb_e361_0 : sf_okb (sf_fin 133 sb_h84 []) sb_b361 32 4 7 133 36 sb_l361 [1] sb_t361_0 = true := by decide +kernel
theorem sb_e361_1 : sf_okb (sf_fin 133 sb_h84 []) sb_b361 32 4 7 133 352 sb_l361 [1, 2] sb_t361_1 = true := by decide +kernel
theorem sb_e361_2 : sf_okb (sf_fin 133 sb_h84 []) sb_b361 32 4 7 133 352 sb_l361 [2, 3] sb_t361_2 = true := by decide +kernel
theorem sb_e361_3 : sf_okb (sf_fin 133 sb_h84 []) sb_b361 32 4 7 133 352 sb_l361 [3, 4] sb_t361_3 = true := by decide +kernel
theorem sb_e361_4 : sf_okb (sf_fin 133 sb_h84 []) sb_b361 32 4 7 133 352 sb_l361 [4, 5] sb_t361_4 = true := by decide +kernel
theorem sb_e361_5 : sf_okb (sf_fin 133 sb_h84 []) sb_b361 32 4 7 133 352 sb_l361 [5, 6] sb_t361_5 = true := by decide +kernel
theorem sb_e361_6 : sf_okb (sf_fin 133 sb_h84 []) sb_b361 32 4 7 133 476 sb_l361 [6, 7] sb_t361_6 = true := by decide +kernel
theorem sb_e361_7 : sf_okb (sf_fin 133 sb_h84 []) sb_b361 32 4 7 133 600 sb_l361 [7, 8] sb_t361_7 = true := by decide +kernel
theorem sb_e361_8 : sf_okb (sf_fin 133 sb_h84 []) sb_b361 32 4 7 133 600 sb_l361 [8, 9] sb_t361_8 = true := by decide +kernel
theorem sb_e361_9 : sf_okb (sf_fin 133 sb_h84 []) sb_b361 32 4 7 133 600 sb_l361 [9, 10] sb_t361_9 = true := by decide +kernel
theorem sb_e361_10 : sf_okb (sf_fin 133 sb_h84 []) sb_b361 32 4 7 133 600 sb_l361 [10, 11] sb_t361_10 = true := by decide +kernel
theorem sb_e361_11 : sf_okb (sf_fin 133 sb_h84 []) sb_b361 32 4 7 133 600 sb_l361 [11, 12] sb_t361_11 = true := by decide +kernel
theorem sb_e361_12 : sf_okb (sf_fin 133 sb_h84 []) sb_b361 32 4 7 133 706 sb_l361 [12, 13] sb_t361_12 = true := by decide +kernel
theorem sb_e361_13 : sf_okb (sf_fin 133 sb_h84 []) sb_b361 32 4 7 133 812 sb_l361 [13, 14] sb_t361_13 = true := by decide +kernel
theorem sb_e361_14 : sf_okb (sf_fin 133 sb_h84 []) sb_b361 32 4 7 133 812 sb_l361 [14, 15] sb_t361_14 = true := by decide +kernel
theorem sb_e361_15 : sf_okb (sf_fin 133 sb_h84 []) sb_b361 32 4 7 133 812 sb_l361 [15, 16] sb_t361_15 = true := by decide +kernel
theorem sb_e361_16 : sf_okb (sf_fin 133 sb_h84 []) sb_b361 32 4 7 133 812 sb_l361 [16, 17] sb_t361_16 = true := by decide +kernel
theorem sb_e361_17 : sf_okb (sf_fin 133 sb_h84 []) sb_b361 32 4 7 133 812 sb_l361 [17, 18] sb_t361_17 = true := by decide +kernel
theorem sb_e361_18 : sf_okb (sf_fin 133 sb_h84 []) sb_b361 32 4 7 133 3874 sb_l361 [18, 19] sb_t361_18 = true := by decide +kernel
theorem sb_e361_19 : sf_okb (sf_fin 133 sb_h84 []) sb_b361 32 4 7 133 28 sb_l361 [] sb_t361_19 = true := by decide +kernel
theorem sb_i361 : (sb_m361.1, sb_m361.2.1, ([] : List Nat), sb_m361.2.2.1, [(1000, 1)], [(0, 19)]) ∈ sb_l361 := List.mem_cons_self
theorem sb_k361 (hS : ∀ ρ, en_SA E ρ ω mt_SB) (hX : sf_JX J) (hM : sf_MnB E ω J) : sf_Kok E ω J 4 7 133 sb_m361 := sf_K_of hS (sf_TS_k (q := 1114112) (nx := 133) (l := [(2, 0, sb_m360)]) hX (sf_fc ⟨(rfl : sb_m360.1 = 1114112), (sb_k360 hS hX hM)⟩ sf_fn) (sf_TS_k (q := 2031616) (nx := 133) (l := [(3, 6, sb_m359)]) hX (sf_fc ⟨(rfl : sb_m359.1 = 2031616), (sb_k359 hS hX hM)⟩ sf_fn) (sf_TS_k (q := 7077888) (nx := 133) (l := [(1, 6, sb_m351)]) hX (sf_fc ⟨(rfl : sb_m351.1 = 7077888), (sb_k351 hS hX hM)⟩ sf_fn) (sf_TS_s (sf_nL (by decide +kernel)) sf_TS_n)))) (sf_nL (by decide +kernel)) rfl sb_h84_n sb_h84_n (by decide +kernel) (by decide +kernel) (by decide +kernel) sb_i361 (sf_fc (sf_okb_t sb_h84_n sb_e361_0) (sf_fc (sf_okb_t sb_h84_n sb_e361_1) (sf_fc (sf_okb_t sb_h84_n sb_e361_2) (sf_fc (sf_okb_t sb_h84_n sb_e361_3) (sf_fc (sf_okb_t sb_h84_n sb_e361_4) (sf_fc (sf_okb_t sb_h84_n sb_e361_5) (sf_fc (sf_okb_t sb_h84_n sb_e361_6) (sf_fc (sf_okb_t sb_h84_n sb_e361_7) (sf_fc (sf_okb_t sb_h84_n sb_e361_8) (sf_fc (sf_okb_t sb_h84_n sb_e361_9) (sf_fc (sf_okb_t sb_h84_n sb_e361_10) (sf_fc (sf_okb_t sb_h84_n sb_e361_11) (sf_fc (sf_okb_t sb_h84_n sb_e361_12) (sf_fc (sf_okb_t sb_h84_n sb_e361_13) (sf_fc (sf_okb_t sb_h84_n sb_e361_14) (sf_fc (sf_okb_t sb_h84_n sb_e361_15) (sf_fc (sf_okb_t sb_h84_n sb_e361_16) (sf_fc (sf_okb_t sb_h84_n sb_e361_17) (sf_fc (sf_okb_t sb_h84_n sb_e361_18) (sf_fc (sf_okb_t sb_h84_n sb_e361_19) sf_fn))))))))))))))))))))
/-- X9_looks -/
def sb_m362 : sf_M := (3997696, 16333553616007998046963562849740359991808, sb_h70, sb_h70, [88, 116, 119], [])
def sb_t362_0 : sf_T := (3997696, 16333553616007998046963562849740359991808, [], sb_h70, [], [(0, 1)])
def sb_t362_1 : sf_T := (3997698, 105228117901436304798911701896198319814493576626688, [], sb_h70, [(1000, 1)], [(0, 0), (1, 0), (0, 0)])
def sb_l362 : List sf_T := [sb_t362_0, sb_t362_1]
noncomputable def sb_b362 : en_T := (fun _ => none)
theorem sb_e362_0 : sf_okb (sf_fin 133 sb_h70 []) sb_b362 61 2 0 133 24 sb_l362 [1] sb_t362_0 = true := by decide +kernel
theorem sb_e362_1 : sf_okb (sf_fin 133 sb_h70 []) sb_b362 61 2 0 133 74 sb_l362 [1] sb_t362_1 = true := by decide +kernel
theorem sb_i362 : (sb_m362.1, sb_m362.2.1, ([] : List Nat), sb_m362.2.2.1, [], [(0, 1)]) ∈ sb_l362 := List.mem_cons_self
theorem sb_k362 (hS : ∀ ρ, en_SA E ρ ω mt_SB) (hX : sf_JX J) (hM : sf_MnB E ω J) : sf_Kok E ω J 2 0 133 sb_m362 := sf_K_of hS sf_TS_n (sf_nL (by decide +kernel)) rfl sb_h70_n sb_h70_n (by decide +kernel) (by decide +kernel) (by decide +kernel) sb_i362 (sf_fc (sf_okb_t sb_h70_n sb_e362_0) (sf_fc (sf_okb_t sb_h70_n sb_e362_1) sf_fn))
/-- X9_windNow -/
def sb_m363 : sf_M := (7208960, 36893488525376225536, sb_h71, sb_h71, [88, 116, 117, 119], [83010348333840465929])
def sb_t363_0 : sf_T := (7208960, 36893488525376225536, [], sb_h71, [], [(0, 0)])
def sb_l363 : List sf_T := [sb_t363_0]
noncomputable def sb_b363 : en_T := (sf_tc 3997696 (sf_call 133 [(2, 0, sb_m362)]) (sf_tc 196608 (sf_call 133 [(6, 4, sb_m53)]) (fun _ => none)))
theorem sb_e363_0 : sf_okb (sf_fin 133 sb_h71 [83010348333840465929]) sb_b363 110 1 5 133 38 sb_l363 [] sb_t363_0 = true := by decide +kernel
theorem sb_i363 : (sb_m363.1, sb_m363.2.1, ([] : List Nat), sb_m363.2.2.1, [], [(0, 0)]) ∈ sb_l363 := List.mem_cons_self
theorem sb_k363 (hS : ∀ ρ, en_SA E ρ ω mt_SB) (hX : sf_JX J) (hM : sf_MnB E ω J) : sf_Kok E ω J 1 5 133 sb_m363 := sf_K_of hS (sf_TS_k (q := 3997696) (nx := 133) (l := [(2, 0, sb_m362)]) hX (sf_fc ⟨(rfl : sb_m362.1 = 3997696), (sb_k362 hS hX hM)⟩ sf_fn) (sf_TS_k (q := 196608) (nx := 133) (l := [(6, 4, sb_m53)]) hX (sf_fc ⟨(rfl : sb_m53.1 = 196608), (hM _ (List.mem_of_getElem? (i := 53) rfl))⟩ sf_fn) sf_TS_n)) (sf_nL (by decide +kernel)) rfl sb_h71_n sb_h71_n (by decide +kernel) (by decide +kernel) (by decide +kernel) sb_i363 (sf_fc (sf_okb_t sb_h71_n sb_e363_0) sf_fn)
/-- X9_dangerNow -/
def sb_m364 : sf_M := (1310720, 36893488525376225536, sb_h71, sb_h71, [88, 116, 117, 119], [83010348333840465929])
def sb_t364_0 : sf_T := (1310720, 36893488525376225536, [], sb_h71, [], [(0, 0)])
def sb_l364 : List sf_T := [sb_t364_0]
noncomputable def sb_b364 : en_T := (sf_tc 3997696 (sf_call 133 [(2, 0, sb_m362)]) (sf_tc 196608 (sf_call 133 [(6, 4, sb_m53)]) (fun _ => none)))
theorem sb_e364_0 : sf_okb (sf_fin 133 sb_h71 [83010348333840465929]) sb_b364 20 1 5 133 38 sb_l364 [] sb_t364_0 = true := by decide +kernel
theorem sb_i364 : (sb_m364.1, sb_m364.2.1, ([] : List Nat), sb_m364.2.2.1, [], [(0, 0)]) ∈ sb_l364 := List.mem_cons_self
theorem sb_k364 (hS : ∀ ρ, en_SA E ρ ω mt_SB) (hX : sf_JX J) (hM : sf_MnB E ω J) : sf_Kok E ω J 1 5 133 sb_m364 := sf_K_of hS (sf_TS_k (q := 3997696) (nx := 133) (l := [(2, 0, sb_m362)]) hX (sf_fc ⟨(rfl : sb_m362.1 = 3997696), (sb_k362 hS hX hM)⟩ sf_fn) (sf_TS_k (q := 196608) (nx := 133) (l := [(6, 4, sb_m53)]) hX (sf_fc ⟨(rfl : sb_m53.1 = 196608), (hM _ (List.mem_of_getElem? (i := 53) rfl))⟩ sf_fn) sf_TS_n)) (sf_nL (by decide +kernel)) rfl sb_h71_n sb_h71_n (by decide +kernel) (by decide +kernel) (by decide +kernel) sb_i364 (sf_fc (sf_okb_t sb_h71_n sb_e364_0) sf_fn)
/-- X9_weathers -/
def sb_m365 : sf_M := (7077888, 36893488525376225536, sb_h71, sb_h71, [88, 116, 117, 119], [])
def sb_t365_0 : sf_T := (7077888, 36893488525376225536, [], sb_h71, [], [(0, 0)])
def sb_l365 : List sf_T := [sb_t365_0]
noncomputable def sb_b365 : en_T := (sf_tc 1310720 (sf_call 133 [(1, 5, sb_m364)]) (sf_tc 7208960 (sf_call 133 [(1, 5, sb_m363)]) (fun _ => none)))
theorem sb_e365_0 : sf_okb (sf_fin 133 sb_h71 []) sb_b365 108 1 6 133 38 sb_l365 [] sb_t365_0 = true := by decide +kernel
theorem sb_i365 : (sb_m365.1, sb_m365.2.1, ([] : List Nat), sb_m365.2.2.1, [], [(0, 0)]) ∈ sb_l365 := List.mem_cons_self
theorem sb_k365 (hS : ∀ ρ, en_SA E ρ ω mt_SB) (hX : sf_JX J) (hM : sf_MnB E ω J) : sf_Kok E ω J 1 6 133 sb_m365 := sf_K_of hS (sf_TS_k (q := 1310720) (nx := 133) (l := [(1, 5, sb_m364)]) hX (sf_fc ⟨(rfl : sb_m364.1 = 1310720), (sb_k364 hS hX hM)⟩ sf_fn) (sf_TS_k (q := 7208960) (nx := 133) (l := [(1, 5, sb_m363)]) hX (sf_fc ⟨(rfl : sb_m363.1 = 7208960), (sb_k363 hS hX hM)⟩ sf_fn) sf_TS_n)) (sf_nL (by decide +kernel)) rfl sb_h71_n sb_h71_n (by decide +kernel) (by decide +kernel) (by decide +kernel) sb_i365 (sf_fc (sf_okb_t sb_h71_n sb_e365_0) sf_fn)
/-- X9_at -/
def sb_m366 : sf_M := (262144, 4820814133899404084098741977143444745332429438409594678280960, sb_h1, sb_h1, [], [83010348325250531333])
def sb_t366_0 : sf_T := (262144, 4820814133899404084098741977143444745332429438409594678280960, [], sb_h1, [(1000, 0)], [(0, 1)])
def sb_t366_1 : sf_T := (262156, 31057858561361006067830763032960584723500958565319766811279727790129920, [], sb_h1, [(1000, 0), (1000, 2)], [(0, 0)])
def sb_l366 : List sf_T := [sb_t366_0, sb_t366_1]
noncomputable def sb_b366 : en_T := (fun _ => none)
theorem sb_e366_0 : sf_okb (sf_fin 133 sb_h1 [83010348325250531333]) sb_b366 4 3 1 133 56 sb_l366 [1] sb_t366_0 = true := by decide +kernel
theorem sb_e366_1 : sf_okb (sf_fin 133 sb_h1 [83010348325250531333]) sb_b366 4 3 1 133 36 sb_l366 [] sb_t366_1 = true := by decide +kernel
theorem sb_i366 : (sb_m366.1, sb_m366.2.1, ([] : List Nat), sb_m366.2.2.1, [(1000, 0)], [(0, 1)]) ∈ sb_l366 := List.mem_cons_self
theorem sb_k366 (hS : ∀ ρ, en_SA E ρ ω mt_SB) (hX : sf_JX J) (hM : sf_MnB E ω J) : sf_Kok E ω J 3 1 133 sb_m366 := sf_K_of hS sf_TS_n (sf_nL (by decide +kernel)) rfl sb_h1_n sb_h1_n (by decide +kernel) (by decide +kernel) (by decide +kernel) sb_i366 (sf_fc (sf_okb_t sb_h1_n sb_e366_0) (sf_fc (sf_okb_t sb_h1_n sb_e366_1) sf_fn))
/-- X9_skillAt -/
def sb_m367 : sf_M := (5898240, 31057858561361006066813557893367387256691902665387575781551385216025344, sb_h72, sb_h72, [88, 98], [73786976299133173759])
def sb_t367_0 : sf_T := (5898240, 31057858561361006066813557893367387256691902665387575781551385216025344, [], sb_h72, [(1000, 1), (1000, 2)], [(0, 0)])
def sb_l367 : List sf_T := [sb_t367_0]
noncomputable def sb_b367 : en_T := (fun _ => none)
theorem sb_e367_0 : sf_okb (sf_fin 133 sb_h72 [73786976299133173759]) sb_b367 90 3 0 133 58 sb_l367 [] sb_t367_0 = true := by decide +kernel
theorem sb_i367 : (sb_m367.1, sb_m367.2.1, ([] : List Nat), sb_m367.2.2.1, [(1000, 1), (1000, 2)], [(0, 0)]) ∈ sb_l367 := List.mem_cons_self
theorem sb_k367 (hS : ∀ ρ, en_SA E ρ ω mt_SB) (hX : sf_JX J) (hM : sf_MnB E ω J) : sf_Kok E ω J 3 0 133 sb_m367 := sf_K_of hS sf_TS_n (sf_nL (by decide +kernel)) rfl sb_h72_n sb_h72_n (by decide +kernel) (by decide +kernel) (by decide +kernel) sb_i367 (sf_fc (sf_okb_t sb_h72_n sb_e367_0) sf_fn)
/-- X9_ordersOf -/
def sb_m368 : sf_M := (4587520, 4820814134004632201975677951514818796926343767777008297181952, sb_h73, sb_h73, [88, 98, 116, 117, 119], [83010348333840465923])
def sb_t368_0 : sf_T := (4587520, 4820814134004632201975677951514818796926343767777008297181952, [], sb_h73, [(1000, 1), (88, 51), (88, 52)], [(0, 1)])
def sb_t368_1 : sf_T := (4587571, 27606985390376131237988087698914973080737518814384213182516637433070336, [], sb_h73, [(1000, 1), (1000, 2), (88, 51), (88, 52)], [(0, 0)])
def sb_l368 : List sf_T := [sb_t368_0, sb_t368_1]
noncomputable def sb_b368 : en_T := (sf_tc 5898240 (sf_call 133 [(3, 0, sb_m367)]) (sf_tc 3997696 (sf_call 133 [(2, 0, sb_m362)]) (sf_tc 196608 (sf_call 133 [(6, 4, sb_m57)]) (fun _ => none))))
theorem sb_e368_0 : sf_okb (sf_fin 133 sb_h73 [83010348333840465923]) sb_b368 70 3 5 133 78 sb_l368 [1] sb_t368_0 = true := by decide +kernel
theorem sb_e368_1 : sf_okb (sf_fin 133 sb_h73 [83010348333840465923]) sb_b368 70 3 5 133 38 sb_l368 [] sb_t368_1 = true := by decide +kernel
theorem sb_i368 : (sb_m368.1, sb_m368.2.1, ([] : List Nat), sb_m368.2.2.1, [(1000, 1), (88, 51), (88, 52)], [(0, 1)]) ∈ sb_l368 := List.mem_cons_self
theorem sb_k368 (hS : ∀ ρ, en_SA E ρ ω mt_SB) (hX : sf_JX J) (hM : sf_MnB E ω J) : sf_Kok E ω J 3 5 133 sb_m368 := sf_K_of hS (sf_TS_k (q := 5898240) (nx := 133) (l := [(3, 0, sb_m367)]) hX (sf_fc ⟨(rfl : sb_m367.1 = 5898240), (sb_k367 hS hX hM)⟩ sf_fn) (sf_TS_k (q := 3997696) (nx := 133) (l := [(2, 0, sb_m362)]) hX (sf_fc ⟨(rfl : sb_m362.1 = 3997696), (sb_k362 hS hX hM)⟩ sf_fn) (sf_TS_k (q := 196608) (nx := 133) (l := [(6, 4, sb_m57)]) hX (sf_fc ⟨(rfl : sb_m57.1 = 196608), (hM _ (List.mem_of_getElem? (i := 57) rfl))⟩ sf_fn) sf_TS_n))) (sf_nL (by decide +kernel)) rfl sb_h73_n sb_h73_n (by decide +kernel) (by decide +kernel) (by decide +kernel) sb_i368 (sf_fc (sf_okb_t sb_h73_n sb_e368_0) (sf_fc (sf_okb_t sb_h73_n sb_e368_1) sf_fn))
/-- X9_fillsDoing -/
def sb_m369 : sf_M := (1966080, 36582990833331704133769688463878398985241663423791010922004235441607090117855687356087714591454335370296807506695615263104760996201528637261568, sb_h74, sb_h74, [88, 98, 116, 117, 119, 120], [])
def sb_t369_0 : sf_T := (1966080, 36582990833331704133769688463878398985241663423791010922004235441607090117855687356087714591454335370296807506695615263104760996201528637261568, [], sb_h74, [(1000, 1), (1000, 2), (1000, 3), (1000, 4), (1000, 5), (88, 51), (88, 52)], [(0, 1)])
def sb_t369_1 : sf_T := (1966088, 209496998917547409953475300355948448183151193670086816111875925103330289972534760558658065480983846666955816962371948440012616040572829811408636523579136, [], sb_h74, [(1000, 1), (1000, 2), (1000, 3), (1000, 4), (1000, 5), (1000, 6), (88, 51), (88, 52)], [(0, 0)])
def sb_l369 : List sf_T := [sb_t369_0, sb_t369_1]
noncomputable def sb_b369 : en_T := (sf_tc 5898240 (sf_call 133 [(3, 0, sb_m367)]) (sf_tc 3997696 (sf_call 133 [(2, 0, sb_m362)]) (sf_tc 196608 (sf_call 133 [(6, 4, sb_m53), (6, 4, sb_m54), (6, 4, sb_m55), (6, 4, sb_m56)]) (fun _ => none))))
theorem sb_e369_0 : sf_okb (sf_fin 133 sb_h74 []) sb_b369 30 7 5 133 30 sb_l369 [1] sb_t369_0 = true := by decide +kernel
theorem sb_e369_1 : sf_okb (sf_fin 133 sb_h74 []) sb_b369 30 7 5 133 214 sb_l369 [] sb_t369_1 = true := by decide +kernel
theorem sb_i369 : (sb_m369.1, sb_m369.2.1, ([] : List Nat), sb_m369.2.2.1, [(1000, 1), (1000, 2), (1000, 3), (1000, 4), (1000, 5), (88, 51), (88, 52)], [(0, 1)]) ∈ sb_l369 := List.mem_cons_self
theorem sb_k369 (hS : ∀ ρ, en_SA E ρ ω mt_SB) (hX : sf_JX J) (hM : sf_MnB E ω J) : sf_Kok E ω J 7 5 133 sb_m369 := sf_K_of hS (sf_TS_k (q := 5898240) (nx := 133) (l := [(3, 0, sb_m367)]) hX (sf_fc ⟨(rfl : sb_m367.1 = 5898240), (sb_k367 hS hX hM)⟩ sf_fn) (sf_TS_k (q := 3997696) (nx := 133) (l := [(2, 0, sb_m362)]) hX (sf_fc ⟨(rfl : sb_m362.1 = 3997696), (sb_k362 hS hX hM)⟩ sf_fn) (sf_TS_k (q := 196608) (nx := 133) (l := [(6, 4, sb_m53), (6, 4, sb_m54), (6, 4, sb_m55), (6, 4, sb_m56)]) hX (sf_fc ⟨(rfl : sb_m53.1 = 196608), (hM _ (List.mem_of_getElem? (i := 53) rfl))⟩ (sf_fc ⟨(rfl : sb_m54.1 = 196608), (hM _ (List.mem_of_getElem? (i := 54) rfl))⟩ (sf_fc ⟨(rfl : sb_m55.1 = 196608), (hM _ (List.mem_of_getElem? (i := 55) rfl))⟩ (sf_fc ⟨(rfl : sb_m56.1 = 196608), (hM _ (List.mem_of_getElem? (i := 56) rfl))⟩ sf_fn)))) sf_TS_n))) (sf_nL (by decide +kernel)) rfl sb_h74_n sb_h74_n (by decide +kernel) (by decide +kernel) (by decide +kernel) sb_i369 (sf_fc (sf_okb_t sb_h74_n sb_e369_0) (sf_fc (sf_okb_t sb_h74_n sb_e369_1) sf_fn))
/-- X9_at -/
def sb_m370 : sf_M := (262144, 4820814133899404084098741977139641793531744750205104568664832, sb_h1, sb_h1, [], [83010348325250531333])
def sb_t370_0 : sf_T := (262144, 4820814133899404084098741977139641793531744750205104568664832, [], sb_h1, [(1000, 0)], [(0, 1)])
def sb_t370_1 : sf_T := (262156, 31057858561361006067830763032960584723497155613519082123075237680513792, [], sb_h1, [(1000, 0), (1000, 2)], [(0, 0)])
def sb_l370 : List sf_T := [sb_t370_0, sb_t370_1]
noncomputable def sb_b370 : en_T := (fun _ => none)
theorem sb_e370_0 : sf_okb (sf_fin 133 sb_h1 [83010348325250531333]) sb_b370 4 3 1 133 110 sb_l370 [1] sb_t370_0 = true := by decide +kernel
theorem sb_e370_1 : sf_okb (sf_fin 133 sb_h1 [83010348325250531333]) sb_b370 4 3 1 133 36 sb_l370 [] sb_t370_1 = true := by decide +kernel
theorem sb_i370 : (sb_m370.1, sb_m370.2.1, ([] : List Nat), sb_m370.2.2.1, [(1000, 0)], [(0, 1)]) ∈ sb_l370 := List.mem_cons_self
theorem sb_k370 (hS : ∀ ρ, en_SA E ρ ω mt_SB) (hX : sf_JX J) (hM : sf_MnB E ω J) : sf_Kok E ω J 3 1 133 sb_m370 := sf_K_of hS sf_TS_n (sf_nL (by decide +kernel)) rfl sb_h1_n sb_h1_n (by decide +kernel) (by decide +kernel) (by decide +kernel) sb_i370 (sf_fc (sf_okb_t sb_h1_n sb_e370_0) (sf_fc (sf_okb_t sb_h1_n sb_e370_1) sf_fn))
/-- X9_at -/
def sb_m371 : sf_M := (262144, 4820814133899404084098741977142177094732201209008097975075584, sb_h1, sb_h1, [], [83010348325250531333])
def sb_t371_0 : sf_T := (262144, 4820814133899404084098741977142177094732201209008097975075584, [], sb_h1, [(1000, 0)], [(0, 1)])
def sb_t371_1 : sf_T := (262156, 31057858561361006067830763032960584723499690914719538581878231086924544, [], sb_h1, [(1000, 0), (1000, 2)], [(0, 0)])
def sb_l371 : List sf_T := [sb_t371_0, sb_t371_1]
noncomputable def sb_b371 : en_T := (fun _ => none)
theorem sb_e371_0 : sf_okb (sf_fin 133 sb_h1 [83010348325250531333]) sb_b371 4 3 1 133 74 sb_l371 [1] sb_t371_0 = true := by decide +kernel
theorem sb_e371_1 : sf_okb (sf_fin 133 sb_h1 [83010348325250531333]) sb_b371 4 3 1 133 36 sb_l371 [] sb_t371_1 = true := by decide +kernel
theorem sb_i371 : (sb_m371.1, sb_m371.2.1, ([] : List Nat), sb_m371.2.2.1, [(1000, 0)], [(0, 1)]) ∈ sb_l371 := List.mem_cons_self
theorem sb_k371 (hS : ∀ ρ, en_SA E ρ ω mt_SB) (hX : sf_JX J) (hM : sf_MnB E ω J) : sf_Kok E ω J 3 1 133 sb_m371 := sf_K_of hS sf_TS_n (sf_nL (by decide +kernel)) rfl sb_h1_n sb_h1_n (by decide +kernel) (by decide +kernel) (by decide +kernel) sb_i371 (sf_fc (sf_okb_t sb_h1_n sb_e371_0) (sf_fc (sf_okb_t sb_h1_n sb_e371_1) sf_fn))
/-- X9_at -/
def sb_m372 : sf_M := (262144, 4820814133899404084098741977140909444131972979606601271870208, sb_h1, sb_h1, [], [83010348325250531333])
def sb_t372_0 : sf_T := (262144, 4820814133899404084098741977140909444131972979606601271870208, [], sb_h1, [(1000, 0)], [(0, 1)])
def sb_t372_1 : sf_T := (262156, 31057858561361006067830763032960584723498423264119310352476734383719168, [], sb_h1, [(1000, 0), (1000, 2)], [(0, 0)])
def sb_l372 : List sf_T := [sb_t372_0, sb_t372_1]
noncomputable def sb_b372 : en_T := (fun _ => none)
theorem sb_e372_0 : sf_okb (sf_fin 133 sb_h1 [83010348325250531333]) sb_b372 4 3 1 133 92 sb_l372 [1] sb_t372_0 = true := by decide +kernel
theorem sb_e372_1 : sf_okb (sf_fin 133 sb_h1 [83010348325250531333]) sb_b372 4 3 1 133 36 sb_l372 [] sb_t372_1 = true := by decide +kernel
theorem sb_i372 : (sb_m372.1, sb_m372.2.1, ([] : List Nat), sb_m372.2.2.1, [(1000, 0)], [(0, 1)]) ∈ sb_l372 := List.mem_cons_self
theorem sb_k372 (hS : ∀ ρ, en_SA E ρ ω mt_SB) (hX : sf_JX J) (hM : sf_MnB E ω J) : sf_Kok E ω J 3 1 133 sb_m372 := sf_K_of hS sf_TS_n (sf_nL (by decide +kernel)) rfl sb_h1_n sb_h1_n (by decide +kernel) (by decide +kernel) (by decide +kernel) sb_i372 (sf_fc (sf_okb_t sb_h1_n sb_e372_0) (sf_fc (sf_okb_t sb_h1_n sb_e372_1) sf_fn))
/-- X9_fillsDraw -/
def sb_m373 : sf_M := (2031616, 31057858559754068022554567617836314203128233281242810191791013140366080, sb_h74, sb_h74, [88, 98, 116, 117, 119, 120], [])
def sb_t373_0 : sf_T := (2031616, 31057858559754068022554567617836314203128233281242810191791013140366080, [], sb_h74, [(1000, 1), (1000, 2)], [(0, 0)])
def sb_l373 : List sf_T := [sb_t373_0]
noncomputable def sb_b373 : en_T := (sf_tc 1966080 (sf_call 133 [(7, 5, sb_m369)]) (sf_tc 4587520 (sf_call 133 [(3, 5, sb_m368)]) (sf_tc 262144 (sf_call 133 [(3, 1, sb_m366), (3, 1, sb_m370), (3, 1, sb_m371), (3, 1, sb_m372)]) (fun _ => none))))
theorem sb_e373_0 : sf_okb (sf_fin 133 sb_h74 []) sb_b373 31 3 6 133 72 sb_l373 [] sb_t373_0 = true := by decide +kernel
theorem sb_i373 : (sb_m373.1, sb_m373.2.1, ([] : List Nat), sb_m373.2.2.1, [(1000, 1), (1000, 2)], [(0, 0)]) ∈ sb_l373 := List.mem_cons_self
theorem sb_k373 (hS : ∀ ρ, en_SA E ρ ω mt_SB) (hX : sf_JX J) (hM : sf_MnB E ω J) : sf_Kok E ω J 3 6 133 sb_m373 := sf_K_of hS (sf_TS_k (q := 1966080) (nx := 133) (l := [(7, 5, sb_m369)]) hX (sf_fc ⟨(rfl : sb_m369.1 = 1966080), (sb_k369 hS hX hM)⟩ sf_fn) (sf_TS_k (q := 4587520) (nx := 133) (l := [(3, 5, sb_m368)]) hX (sf_fc ⟨(rfl : sb_m368.1 = 4587520), (sb_k368 hS hX hM)⟩ sf_fn) (sf_TS_k (q := 262144) (nx := 133) (l := [(3, 1, sb_m366), (3, 1, sb_m370), (3, 1, sb_m371), (3, 1, sb_m372)]) hX (sf_fc ⟨(rfl : sb_m366.1 = 262144), (sb_k366 hS hX hM)⟩ (sf_fc ⟨(rfl : sb_m370.1 = 262144), (sb_k370 hS hX hM)⟩ (sf_fc ⟨(rfl : sb_m371.1 = 262144), (sb_k371 hS hX hM)⟩ (sf_fc ⟨(rfl : sb_m372.1 = 262144), (sb_k372 hS hX hM)⟩ sf_fn)))) sf_TS_n))) (sf_nL (by decide +kernel)) rfl sb_h74_n sb_h74_n (by decide +kernel) (by decide +kernel) (by decide +kernel) sb_i373 (sf_fc (sf_okb_t sb_h74_n sb_e373_0) sf_fn)
end SFP
