/-! CONTRACTS, by program (wip/p3/emit.py) -/
section SFP
variable {E : mm_E} {ω : Nat → Value} {J : mm_H → Prop}
/-- X9_copies -/
def sb_m306 : sf_M := (1114112, 16333553616007998046963562849740359991808, sb_h63, sb_h63, [88, 105, 118, 119], [])
def sb_t306_0 : sf_T := (1114112, 16333553616007998046963562849740359991808, [], sb_h63, [], [(0, 0)])
def sb_l306 : List sf_T := [sb_t306_0]
noncomputable def sb_b306 : en_T := (fun _ => none)
theorem sb_e306_0 : sf_okb (sf_fin 133 sb_h63 []) sb_b306 17 2 0 133 1612 sb_l306 [] sb_t306_0 = true := by decide +kernel
theorem sb_i306 : (sb_m306.1, sb_m306.2.1, ([] : List Nat), sb_m306.2.2.1, [], [(0, 0)]) ∈ sb_l306 := List.mem_cons_self
theorem sb_k306 (hS : ∀ ρ, en_SA E ρ ω mt_SB) (hX : sf_JX J) (hM : sf_MnB E ω J) : sf_Kok E ω J 2 0 133 sb_m306 := sf_K_of hS sf_TS_n (sf_nL (by decide +kernel)) rfl sb_h63_n sb_h63_n (by decide +kernel) (by decide +kernel) (by decide +kernel) sb_i306 (sf_fc (sf_okb_t sb_h63_n sb_e306_0) sf_fn)
/-- X9_looks -/
def sb_m307 : sf_M := (3997696, 16333553616007998046963562849740359991808, sb_h64, sb_h64, [88, 116, 119], [])
def sb_t307_0 : sf_T := (3997696, 16333553616007998046963562849740359991808, [], sb_h64, [], [(0, 1)])
def sb_t307_1 : sf_T := (3997698, 105228117901436304798911701896198319814493576626688, [], sb_h64, [(1000, 1)], [(0, 0), (1, 0), (0, 0)])
def sb_l307 : List sf_T := [sb_t307_0, sb_t307_1]
noncomputable def sb_b307 : en_T := (fun _ => none)
theorem sb_e307_0 : sf_okb (sf_fin 133 sb_h64 []) sb_b307 61 2 0 133 24 sb_l307 [1] sb_t307_0 = true := by decide +kernel
theorem sb_e307_1 : sf_okb (sf_fin 133 sb_h64 []) sb_b307 61 2 0 133 74 sb_l307 [1] sb_t307_1 = true := by decide +kernel
theorem sb_i307 : (sb_m307.1, sb_m307.2.1, ([] : List Nat), sb_m307.2.2.1, [], [(0, 1)]) ∈ sb_l307 := List.mem_cons_self
theorem sb_k307 (hS : ∀ ρ, en_SA E ρ ω mt_SB) (hX : sf_JX J) (hM : sf_MnB E ω J) : sf_Kok E ω J 2 0 133 sb_m307 := sf_K_of hS sf_TS_n (sf_nL (by decide +kernel)) rfl sb_h64_n sb_h64_n (by decide +kernel) (by decide +kernel) (by decide +kernel) sb_i307 (sf_fc (sf_okb_t sb_h64_n sb_e307_0) (sf_fc (sf_okb_t sb_h64_n sb_e307_1) sf_fn))
/-- X9_windNow -/
def sb_m308 : sf_M := (7208960, 36893488525376225536, sb_h65, sb_h65, [88, 116, 117, 119], [83010348333840465929])
def sb_t308_0 : sf_T := (7208960, 36893488525376225536, [], sb_h65, [], [(0, 0)])
def sb_l308 : List sf_T := [sb_t308_0]
noncomputable def sb_b308 : en_T := (sf_tc 3997696 (sf_call 133 [(2, 0, sb_m307)]) (sf_tc 196608 (sf_call 133 [(6, 4, sb_m43)]) (fun _ => none)))
theorem sb_e308_0 : sf_okb (sf_fin 133 sb_h65 [83010348333840465929]) sb_b308 110 1 5 133 38 sb_l308 [] sb_t308_0 = true := by decide +kernel
theorem sb_i308 : (sb_m308.1, sb_m308.2.1, ([] : List Nat), sb_m308.2.2.1, [], [(0, 0)]) ∈ sb_l308 := List.mem_cons_self
theorem sb_k308 (hS : ∀ ρ, en_SA E ρ ω mt_SB) (hX : sf_JX J) (hM : sf_MnB E ω J) : sf_Kok E ω J 1 5 133 sb_m308 := sf_K_of hS (sf_TS_k (q := 3997696) (nx := 133) (l := [(2, 0, sb_m307)]) hX (sf_fc ⟨(rfl : sb_m307.1 = 3997696), (sb_k307 hS hX hM)⟩ sf_fn) (sf_TS_k (q := 196608) (nx := 133) (l := [(6, 4, sb_m43)]) hX (sf_fc ⟨(rfl : sb_m43.1 = 196608), (hM _ (List.mem_of_getElem? (i := 43) rfl))⟩ sf_fn) sf_TS_n)) (sf_nL (by decide +kernel)) rfl sb_h65_n sb_h65_n (by decide +kernel) (by decide +kernel) (by decide +kernel) sb_i308 (sf_fc (sf_okb_t sb_h65_n sb_e308_0) sf_fn)
/-- X9_dangerNow -/
def sb_m309 : sf_M := (1310720, 36893488525376225536, sb_h65, sb_h65, [88, 116, 117, 119], [83010348333840465929])
def sb_t309_0 : sf_T := (1310720, 36893488525376225536, [], sb_h65, [], [(0, 0)])
def sb_l309 : List sf_T := [sb_t309_0]
noncomputable def sb_b309 : en_T := (sf_tc 3997696 (sf_call 133 [(2, 0, sb_m307)]) (sf_tc 196608 (sf_call 133 [(6, 4, sb_m43)]) (fun _ => none)))
theorem sb_e309_0 : sf_okb (sf_fin 133 sb_h65 [83010348333840465929]) sb_b309 20 1 5 133 38 sb_l309 [] sb_t309_0 = true := by decide +kernel
theorem sb_i309 : (sb_m309.1, sb_m309.2.1, ([] : List Nat), sb_m309.2.2.1, [], [(0, 0)]) ∈ sb_l309 := List.mem_cons_self
theorem sb_k309 (hS : ∀ ρ, en_SA E ρ ω mt_SB) (hX : sf_JX J) (hM : sf_MnB E ω J) : sf_Kok E ω J 1 5 133 sb_m309 := sf_K_of hS (sf_TS_k (q := 3997696) (nx := 133) (l := [(2, 0, sb_m307)]) hX (sf_fc ⟨(rfl : sb_m307.1 = 3997696), (sb_k307 hS hX hM)⟩ sf_fn) (sf_TS_k (q := 196608) (nx := 133) (l := [(6, 4, sb_m43)]) hX (sf_fc ⟨(rfl : sb_m43.1 = 196608), (hM _ (List.mem_of_getElem? (i := 43) rfl))⟩ sf_fn) sf_TS_n)) (sf_nL (by decide +kernel)) rfl sb_h65_n sb_h65_n (by decide +kernel) (by decide +kernel) (by decide +kernel) sb_i309 (sf_fc (sf_okb_t sb_h65_n sb_e309_0) sf_fn)
/-- X9_weathers -/
def sb_m310 : sf_M := (7077888, 36893488525376225536, sb_h65, sb_h65, [88, 116, 117, 119], [])
def sb_t310_0 : sf_T := (7077888, 36893488525376225536, [], sb_h65, [], [(0, 0)])
def sb_l310 : List sf_T := [sb_t310_0]
noncomputable def sb_b310 : en_T := (sf_tc 1310720 (sf_call 133 [(1, 5, sb_m309)]) (sf_tc 7208960 (sf_call 133 [(1, 5, sb_m308)]) (fun _ => none)))
theorem sb_e310_0 : sf_okb (sf_fin 133 sb_h65 []) sb_b310 108 1 6 133 38 sb_l310 [] sb_t310_0 = true := by decide +kernel
theorem sb_i310 : (sb_m310.1, sb_m310.2.1, ([] : List Nat), sb_m310.2.2.1, [], [(0, 0)]) ∈ sb_l310 := List.mem_cons_self
theorem sb_k310 (hS : ∀ ρ, en_SA E ρ ω mt_SB) (hX : sf_JX J) (hM : sf_MnB E ω J) : sf_Kok E ω J 1 6 133 sb_m310 := sf_K_of hS (sf_TS_k (q := 1310720) (nx := 133) (l := [(1, 5, sb_m309)]) hX (sf_fc ⟨(rfl : sb_m309.1 = 1310720), (sb_k309 hS hX hM)⟩ sf_fn) (sf_TS_k (q := 7208960) (nx := 133) (l := [(1, 5, sb_m308)]) hX (sf_fc ⟨(rfl : sb_m308.1 = 7208960), (sb_k308 hS hX hM)⟩ sf_fn) sf_TS_n)) (sf_nL (by decide +kernel)) rfl sb_h65_n sb_h65_n (by decide +kernel) (by decide +kernel) (by decide +kernel) sb_i310 (sf_fc (sf_okb_t sb_h65_n sb_e310_0) sf_fn)
/-- X9_at -/
def sb_m311 : sf_M := (262144, 4820814133899404084098741977139641793531744750205104568664832, sb_h1, sb_h1, [], [83010348325250531333])
def sb_t311_0 : sf_T := (262144, 4820814133899404084098741977139641793531744750205104568664832, [], sb_h1, [(1000, 0)], [(0, 1)])
def sb_t311_1 : sf_T := (262156, 31057858561361006067830763032960584723497155613519082123075237680513792, [], sb_h1, [(1000, 0), (1000, 2)], [(0, 0)])
def sb_l311 : List sf_T := [sb_t311_0, sb_t311_1]
noncomputable def sb_b311 : en_T := (fun _ => none)
theorem sb_e311_0 : sf_okb (sf_fin 133 sb_h1 [83010348325250531333]) sb_b311 4 3 1 133 110 sb_l311 [1] sb_t311_0 = true := by decide +kernel
theorem sb_e311_1 : sf_okb (sf_fin 133 sb_h1 [83010348325250531333]) sb_b311 4 3 1 133 36 sb_l311 [] sb_t311_1 = true := by decide +kernel
theorem sb_i311 : (sb_m311.1, sb_m311.2.1, ([] : List Nat), sb_m311.2.2.1, [(1000, 0)], [(0, 1)]) ∈ sb_l311 := List.mem_cons_self
theorem sb_k311 (hS : ∀ ρ, en_SA E ρ ω mt_SB) (hX : sf_JX J) (hM : sf_MnB E ω J) : sf_Kok E ω J 3 1 133 sb_m311 := sf_K_of hS sf_TS_n (sf_nL (by decide +kernel)) rfl sb_h1_n sb_h1_n (by decide +kernel) (by decide +kernel) (by decide +kernel) sb_i311 (sf_fc (sf_okb_t sb_h1_n sb_e311_0) (sf_fc (sf_okb_t sb_h1_n sb_e311_1) sf_fn))
/-- X9_at -/
def sb_m312 : sf_M := (262144, 4820814133899404084098741977142177094732201209008097975075584, sb_h1, sb_h1, [], [83010348325250531333])
def sb_t312_0 : sf_T := (262144, 4820814133899404084098741977142177094732201209008097975075584, [], sb_h1, [(1000, 0)], [(0, 1)])
def sb_t312_1 : sf_T := (262156, 31057858561361006067830763032960584723499690914719538581878231086924544, [], sb_h1, [(1000, 0), (1000, 2)], [(0, 0)])
def sb_l312 : List sf_T := [sb_t312_0, sb_t312_1]
noncomputable def sb_b312 : en_T := (fun _ => none)
theorem sb_e312_0 : sf_okb (sf_fin 133 sb_h1 [83010348325250531333]) sb_b312 4 3 1 133 74 sb_l312 [1] sb_t312_0 = true := by decide +kernel
theorem sb_e312_1 : sf_okb (sf_fin 133 sb_h1 [83010348325250531333]) sb_b312 4 3 1 133 36 sb_l312 [] sb_t312_1 = true := by decide +kernel
theorem sb_i312 : (sb_m312.1, sb_m312.2.1, ([] : List Nat), sb_m312.2.2.1, [(1000, 0)], [(0, 1)]) ∈ sb_l312 := List.mem_cons_self
theorem sb_k312 (hS : ∀ ρ, en_SA E ρ ω mt_SB) (hX : sf_JX J) (hM : sf_MnB E ω J) : sf_Kok E ω J 3 1 133 sb_m312 := sf_K_of hS sf_TS_n (sf_nL (by decide +kernel)) rfl sb_h1_n sb_h1_n (by decide +kernel) (by decide +kernel) (by decide +kernel) sb_i312 (sf_fc (sf_okb_t sb_h1_n sb_e312_0) (sf_fc (sf_okb_t sb_h1_n sb_e312_1) sf_fn))
/-- X9_at -/
def sb_m313 : sf_M := (262144, 4820814133899404084098741977143444745332429438409594678280960, sb_h1, sb_h1, [], [83010348325250531333])
def sb_t313_0 : sf_T := (262144, 4820814133899404084098741977143444745332429438409594678280960, [], sb_h1, [(1000, 0)], [(0, 1)])
def sb_t313_1 : sf_T := (262156, 31057858561361006067830763032960584723500958565319766811279727790129920, [], sb_h1, [(1000, 0), (1000, 2)], [(0, 0)])
def sb_l313 : List sf_T := [sb_t313_0, sb_t313_1]
noncomputable def sb_b313 : en_T := (fun _ => none)
theorem sb_e313_0 : sf_okb (sf_fin 133 sb_h1 [83010348325250531333]) sb_b313 4 3 1 133 56 sb_l313 [1] sb_t313_0 = true := by decide +kernel
theorem sb_e313_1 : sf_okb (sf_fin 133 sb_h1 [83010348325250531333]) sb_b313 4 3 1 133 36 sb_l313 [] sb_t313_1 = true := by decide +kernel
theorem sb_i313 : (sb_m313.1, sb_m313.2.1, ([] : List Nat), sb_m313.2.2.1, [(1000, 0)], [(0, 1)]) ∈ sb_l313 := List.mem_cons_self
theorem sb_k313 (hS : ∀ ρ, en_SA E ρ ω mt_SB) (hX : sf_JX J) (hM : sf_MnB E ω J) : sf_Kok E ω J 3 1 133 sb_m313 := sf_K_of hS sf_TS_n (sf_nL (by decide +kernel)) rfl sb_h1_n sb_h1_n (by decide +kernel) (by decide +kernel) (by decide +kernel) sb_i313 (sf_fc (sf_okb_t sb_h1_n sb_e313_0) (sf_fc (sf_okb_t sb_h1_n sb_e313_1) sf_fn))
/-- X9_at -/
def sb_m314 : sf_M := (262144, 4820814133899404084098741977140909444131972979606601271870208, sb_h1, sb_h1, [], [83010348325250531333])
def sb_t314_0 : sf_T := (262144, 4820814133899404084098741977140909444131972979606601271870208, [], sb_h1, [(1000, 0)], [(0, 1)])
def sb_t314_1 : sf_T := (262156, 31057858561361006067830763032960584723498423264119310352476734383719168, [], sb_h1, [(1000, 0), (1000, 2)], [(0, 0)])
def sb_l314 : List sf_T := [sb_t314_0, sb_t314_1]
noncomputable def sb_b314 : en_T := (fun _ => none)
theorem sb_e314_0 : sf_okb (sf_fin 133 sb_h1 [83010348325250531333]) sb_b314 4 3 1 133 92 sb_l314 [1] sb_t314_0 = true := by decide +kernel
theorem sb_e314_1 : sf_okb (sf_fin 133 sb_h1 [83010348325250531333]) sb_b314 4 3 1 133 36 sb_l314 [] sb_t314_1 = true := by decide +kernel
theorem sb_i314 : (sb_m314.1, sb_m314.2.1, ([] : List Nat), sb_m314.2.2.1, [(1000, 0)], [(0, 1)]) ∈ sb_l314 := List.mem_cons_self
theorem sb_k314 (hS : ∀ ρ, en_SA E ρ ω mt_SB) (hX : sf_JX J) (hM : sf_MnB E ω J) : sf_Kok E ω J 3 1 133 sb_m314 := sf_K_of hS sf_TS_n (sf_nL (by decide +kernel)) rfl sb_h1_n sb_h1_n (by decide +kernel) (by decide +kernel) (by decide +kernel) sb_i314 (sf_fc (sf_okb_t sb_h1_n sb_e314_0) (sf_fc (sf_okb_t sb_h1_n sb_e314_1) sf_fn))
/-- X9_skillAt -/
def sb_m315 : sf_M := (5898240, 31057858561361006066813557893367387256691902665387575781551385216025344, sb_h66, sb_h66, [88, 98], [73786976299133173759])
def sb_t315_0 : sf_T := (5898240, 31057858561361006066813557893367387256691902665387575781551385216025344, [], sb_h66, [(1000, 1), (1000, 2)], [(0, 0)])
def sb_l315 : List sf_T := [sb_t315_0]
noncomputable def sb_b315 : en_T := (fun _ => none)
theorem sb_e315_0 : sf_okb (sf_fin 133 sb_h66 [73786976299133173759]) sb_b315 90 3 0 133 58 sb_l315 [] sb_t315_0 = true := by decide +kernel
theorem sb_i315 : (sb_m315.1, sb_m315.2.1, ([] : List Nat), sb_m315.2.2.1, [(1000, 1), (1000, 2)], [(0, 0)]) ∈ sb_l315 := List.mem_cons_self
theorem sb_k315 (hS : ∀ ρ, en_SA E ρ ω mt_SB) (hX : sf_JX J) (hM : sf_MnB E ω J) : sf_Kok E ω J 3 0 133 sb_m315 := sf_K_of hS sf_TS_n (sf_nL (by decide +kernel)) rfl sb_h66_n sb_h66_n (by decide +kernel) (by decide +kernel) (by decide +kernel) sb_i315 (sf_fc (sf_okb_t sb_h66_n sb_e315_0) sf_fn)
/-- X9_ordersOf -/
def sb_m316 : sf_M := (4587520, 4820814134004632201975677951514818796926343767777008297181952, sb_h68, sb_h68, [88, 98, 116, 117, 119], [83010348333840465923])
def sb_t316_0 : sf_T := (4587520, 4820814134004632201975677951514818796926343767777008297181952, [], sb_h68, [(1000, 1), (88, 51), (88, 52)], [(0, 1)])
def sb_t316_1 : sf_T := (4587571, 27606985390376131237988087698914973080737518814384213182516637433070336, [], sb_h68, [(1000, 1), (1000, 2), (88, 51), (88, 52)], [(0, 0)])
def sb_l316 : List sf_T := [sb_t316_0, sb_t316_1]
noncomputable def sb_b316 : en_T := (sf_tc 5898240 (sf_call 133 [(3, 0, sb_m315)]) (sf_tc 3997696 (sf_call 133 [(2, 0, sb_m307)]) (sf_tc 196608 (sf_call 133 [(6, 4, sb_m47)]) (fun _ => none))))
theorem sb_e316_0 : sf_okb (sf_fin 133 sb_h68 [83010348333840465923]) sb_b316 70 3 5 133 78 sb_l316 [1] sb_t316_0 = true := by decide +kernel
theorem sb_e316_1 : sf_okb (sf_fin 133 sb_h68 [83010348333840465923]) sb_b316 70 3 5 133 38 sb_l316 [] sb_t316_1 = true := by decide +kernel
theorem sb_i316 : (sb_m316.1, sb_m316.2.1, ([] : List Nat), sb_m316.2.2.1, [(1000, 1), (88, 51), (88, 52)], [(0, 1)]) ∈ sb_l316 := List.mem_cons_self
theorem sb_k316 (hS : ∀ ρ, en_SA E ρ ω mt_SB) (hX : sf_JX J) (hM : sf_MnB E ω J) : sf_Kok E ω J 3 5 133 sb_m316 := sf_K_of hS (sf_TS_k (q := 5898240) (nx := 133) (l := [(3, 0, sb_m315)]) hX (sf_fc ⟨(rfl : sb_m315.1 = 5898240), (sb_k315 hS hX hM)⟩ sf_fn) (sf_TS_k (q := 3997696) (nx := 133) (l := [(2, 0, sb_m307)]) hX (sf_fc ⟨(rfl : sb_m307.1 = 3997696), (sb_k307 hS hX hM)⟩ sf_fn) (sf_TS_k (q := 196608) (nx := 133) (l := [(6, 4, sb_m47)]) hX (sf_fc ⟨(rfl : sb_m47.1 = 196608), (hM _ (List.mem_of_getElem? (i := 47) rfl))⟩ sf_fn) sf_TS_n))) (sf_nL (by decide +kernel)) rfl sb_h68_n sb_h68_n (by decide +kernel) (by decide +kernel) (by decide +kernel) sb_i316 (sf_fc (sf_okb_t sb_h68_n sb_e316_0) (sf_fc (sf_okb_t sb_h68_n sb_e316_1) sf_fn))
/-- X9_fillsDoing -/
def sb_m317 : sf_M := (1966080, 36582990833331704133769688463878398985241663423791010922004235441607090117855687356087714591454335370296807506695615263104760996201528637261568, sb_h67, sb_h67, [88, 98, 116, 117, 119, 120], [])
def sb_t317_0 : sf_T := (1966080, 36582990833331704133769688463878398985241663423791010922004235441607090117855687356087714591454335370296807506695615263104760996201528637261568, [], sb_h67, [(1000, 1), (1000, 2), (1000, 3), (1000, 4), (1000, 5), (88, 51), (88, 52)], [(0, 1)])
def sb_t317_1 : sf_T := (1966088, 209496998917547409953475300355948448183151193670086816111875925103330289972534760558658065480983846666955816962371948440012616040572829811408636523579136, [], sb_h67, [(1000, 1), (1000, 2), (1000, 3), (1000, 4), (1000, 5), (1000, 6), (88, 51), (88, 52)], [(0, 0)])
def sb_l317 : List sf_T := [sb_t317_0, sb_t317_1]
noncomputable def sb_b317 : en_T := (sf_tc 5898240 (sf_call 133 [(3, 0, sb_m315)]) (sf_tc 3997696 (sf_call 133 [(2, 0, sb_m307)]) (sf_tc 196608 (sf_call 133 [(6, 4, sb_m43), (6, 4, sb_m44), (6, 4, sb_m45), (6, 4, sb_m46)]) (fun _ => none))))
theorem sb_e317_0 : sf_okb (sf_fin 133 sb_h67 []) sb_b317 30 7 5 133 30 sb_l317 [1] sb_t317_0 = true := by decide +kernel
theorem sb_e317_1 : sf_okb (sf_fin 133 sb_h67 []) sb_b317 30 7 5 133 214 sb_l317 [] sb_t317_1 = true := by decide +kernel
theorem sb_i317 : (sb_m317.1, sb_m317.2.1, ([] : List Nat), sb_m317.2.2.1, [(1000, 1), (1000, 2), (1000, 3), (1000, 4), (1000, 5), (88, 51), (88, 52)], [(0, 1)]) ∈ sb_l317 := List.mem_cons_self
theorem sb_k317 (hS : ∀ ρ, en_SA E ρ ω mt_SB) (hX : sf_JX J) (hM : sf_MnB E ω J) : sf_Kok E ω J 7 5 133 sb_m317 := sf_K_of hS (sf_TS_k (q := 5898240) (nx := 133) (l := [(3, 0, sb_m315)]) hX (sf_fc ⟨(rfl : sb_m315.1 = 5898240), (sb_k315 hS hX hM)⟩ sf_fn) (sf_TS_k (q := 3997696) (nx := 133) (l := [(2, 0, sb_m307)]) hX (sf_fc ⟨(rfl : sb_m307.1 = 3997696), (sb_k307 hS hX hM)⟩ sf_fn) (sf_TS_k (q := 196608) (nx := 133) (l := [(6, 4, sb_m43), (6, 4, sb_m44), (6, 4, sb_m45), (6, 4, sb_m46)]) hX (sf_fc ⟨(rfl : sb_m43.1 = 196608), (hM _ (List.mem_of_getElem? (i := 43) rfl))⟩ (sf_fc ⟨(rfl : sb_m44.1 = 196608), (hM _ (List.mem_of_getElem? (i := 44) rfl))⟩ (sf_fc ⟨(rfl : sb_m45.1 = 196608), (hM _ (List.mem_of_getElem? (i := 45) rfl))⟩ (sf_fc ⟨(rfl : sb_m46.1 = 196608), (hM _ (List.mem_of_getElem? (i := 46) rfl))⟩ sf_fn)))) sf_TS_n))) (sf_nL (by decide +kernel)) rfl sb_h67_n sb_h67_n (by decide +kernel) (by decide +kernel) (by decide +kernel) sb_i317 (sf_fc (sf_okb_t sb_h67_n sb_e317_0) (sf_fc (sf_okb_t sb_h67_n sb_e317_1) sf_fn))
/-- X9_fillsDraw -/
def sb_m318 : sf_M := (2031616, 31057858559754068022554567617836314203128233281242810191791013140366080, sb_h67, sb_h67, [88, 98, 116, 117, 119, 120], [])
def sb_t318_0 : sf_T := (2031616, 31057858559754068022554567617836314203128233281242810191791013140366080, [], sb_h67, [(1000, 1), (1000, 2)], [(0, 0)])
def sb_l318 : List sf_T := [sb_t318_0]
noncomputable def sb_b318 : en_T := (sf_tc 1966080 (sf_call 133 [(7, 5, sb_m317)]) (sf_tc 4587520 (sf_call 133 [(3, 5, sb_m316)]) (sf_tc 262144 (sf_call 133 [(3, 1, sb_m311), (3, 1, sb_m312), (3, 1, sb_m313), (3, 1, sb_m314)]) (fun _ => none))))
theorem sb_e318_0 : sf_okb (sf_fin 133 sb_h67 []) sb_b318 31 3 6 133 72 sb_l318 [] sb_t318_0 = true := by decide +kernel
theorem sb_i318 : (sb_m318.1, sb_m318.2.1, ([] : List Nat), sb_m318.2.2.1, [(1000, 1), (1000, 2)], [(0, 0)]) ∈ sb_l318 := List.mem_cons_self
theorem sb_k318 (hS : ∀ ρ, en_SA E ρ ω mt_SB) (hX : sf_JX J) (hM : sf_MnB E ω J) : sf_Kok E ω J 3 6 133 sb_m318 := sf_K_of hS (sf_TS_k (q := 1966080) (nx := 133) (l := [(7, 5, sb_m317)]) hX (sf_fc ⟨(rfl : sb_m317.1 = 1966080), (sb_k317 hS hX hM)⟩ sf_fn) (sf_TS_k (q := 4587520) (nx := 133) (l := [(3, 5, sb_m316)]) hX (sf_fc ⟨(rfl : sb_m316.1 = 4587520), (sb_k316 hS hX hM)⟩ sf_fn) (sf_TS_k (q := 262144) (nx := 133) (l := [(3, 1, sb_m311), (3, 1, sb_m312), (3, 1, sb_m313), (3, 1, sb_m314)]) hX (sf_fc ⟨(rfl : sb_m311.1 = 262144), (sb_k311 hS hX hM)⟩ (sf_fc ⟨(rfl : sb_m312.1 = 262144), (sb_k312 hS hX hM)⟩ (sf_fc ⟨(rfl : sb_m313.1 = 262144), (sb_k313 hS hX hM)⟩ (sf_fc ⟨(rfl : sb_m314.1 = 262144), (sb_k314 hS hX hM)⟩ sf_fn)))) sf_TS_n))) (sf_nL (by decide +kernel)) rfl sb_h67_n sb_h67_n (by decide +kernel) (by decide +kernel) (by decide +kernel) sb_i318 (sf_fc (sf_okb_t sb_h67_n sb_e318_0) sf_fn)
end SFP
