/-! CONTRACTS, by program (wip/p3/emit.py) -/
section SFP
variable {E : mm_E} {ω : Nat → Value} {J : mm_H → Prop}
/-- X9_copies -/
def zb_m306 : sf_M := (1114112, 16333553616007998046963562849740359991808, zb_h63, zb_h63, [88, 105, 118, 119], [])
def zb_t306_0 : sf_T := (1114112, 16333553616007998046963562849740359991808, [], zb_h63, [], [(0, 0)])
def zb_l306 : List sf_T := [zb_t306_0]
noncomputable def zb_b306 : en_T := (fun _ => none)
theorem zb_e306_0 : sf_okb (sf_fin 133 zb_h63 []) zb_b306 17 2 0 133 1612 zb_l306 [] zb_t306_0 = true := by decide +kernel
theorem zb_i306 : (zb_m306.1, zb_m306.2.1, ([] : List Nat), zb_m306.2.2.1, [], [(0, 0)]) ∈ zb_l306 := List.mem_cons_self
theorem zb_k306 (hS : ∀ ρ, en_SA E ρ ω mt_SB) (hX : sf_JX J) (hM : sf_MnB E ω J) : sf_Kok E ω J 2 0 133 zb_m306 := sf_K_of hS sf_TS_n (sf_nL (by decide +kernel)) rfl zb_h63_n zb_h63_n (by decide +kernel) (by decide +kernel) (by decide +kernel) zb_i306 (sf_fc (sf_okb_t zb_h63_n zb_e306_0) sf_fn)
/-- X9_looks -/
def zb_m307 : sf_M := (3997696, 16333553616007998046963562849740359991808, zb_h64, zb_h64, [88, 116, 119], [])
def zb_t307_0 : sf_T := (3997696, 16333553616007998046963562849740359991808, [], zb_h64, [], [(0, 1)])
def zb_t307_1 : sf_T := (3997698, 105228117901436304798911701896198319814493576626688, [], zb_h64, [(1000, 1)], [(0, 0), (1, 0), (0, 0)])
def zb_l307 : List sf_T := [zb_t307_0, zb_t307_1]
noncomputable def zb_b307 : en_T := (fun _ => none)
theorem zb_e307_0 : sf_okb (sf_fin 133 zb_h64 []) zb_b307 61 2 0 133 24 zb_l307 [1] zb_t307_0 = true := by decide +kernel
theorem zb_e307_1 : sf_okb (sf_fin 133 zb_h64 []) zb_b307 61 2 0 133 74 zb_l307 [1] zb_t307_1 = true := by decide +kernel
theorem zb_i307 : (zb_m307.1, zb_m307.2.1, ([] : List Nat), zb_m307.2.2.1, [], [(0, 1)]) ∈ zb_l307 := List.mem_cons_self
theorem zb_k307 (hS : ∀ ρ, en_SA E ρ ω mt_SB) (hX : sf_JX J) (hM : sf_MnB E ω J) : sf_Kok E ω J 2 0 133 zb_m307 := sf_K_of hS sf_TS_n (sf_nL (by decide +kernel)) rfl zb_h64_n zb_h64_n (by decide +kernel) (by decide +kernel) (by decide +kernel) zb_i307 (sf_fc (sf_okb_t zb_h64_n zb_e307_0) (sf_fc (sf_okb_t zb_h64_n zb_e307_1) sf_fn))
/-- X9_windNow -/
def zb_m308 : sf_M := (7208960, 36893488525376225536, zb_h65, zb_h65, [88, 116, 117, 119], [83010348333840465929])
def zb_t308_0 : sf_T := (7208960, 36893488525376225536, [], zb_h65, [], [(0, 0)])
def zb_l308 : List sf_T := [zb_t308_0]
noncomputable def zb_b308 : en_T := (sf_tc 3997696 (sf_call 133 [(2, 0, zb_m307)]) (sf_tc 196608 (sf_call 133 [(6, 4, zb_m43)]) (fun _ => none)))
theorem zb_e308_0 : sf_okb (sf_fin 133 zb_h65 [83010348333840465929]) zb_b308 110 1 5 133 38 zb_l308 [] zb_t308_0 = true := by decide +kernel
theorem zb_i308 : (zb_m308.1, zb_m308.2.1, ([] : List Nat), zb_m308.2.2.1, [], [(0, 0)]) ∈ zb_l308 := List.mem_cons_self
theorem zb_k308 (hS : ∀ ρ, en_SA E ρ ω mt_SB) (hX : sf_JX J) (hM : sf_MnB E ω J) : sf_Kok E ω J 1 5 133 zb_m308 := sf_K_of hS (sf_TS_k (q := 3997696) (nx := 133) (l := [(2, 0, zb_m307)]) hX (sf_fc ⟨(rfl : zb_m307.1 = 3997696), (zb_k307 hS hX hM)⟩ sf_fn) (sf_TS_k (q := 196608) (nx := 133) (l := [(6, 4, zb_m43)]) hX (sf_fc ⟨(rfl : zb_m43.1 = 196608), (hM _ (List.mem_of_getElem? (i := 43) rfl))⟩ sf_fn) sf_TS_n)) (sf_nL (by decide +kernel)) rfl zb_h65_n zb_h65_n (by decide +kernel) (by decide +kernel) (by decide +kernel) zb_i308 (sf_fc (sf_okb_t zb_h65_n zb_e308_0) sf_fn)
/-- X9_dangerNow -/
def zb_m309 : sf_M := (1310720, 36893488525376225536, zb_h65, zb_h65, [88, 116, 117, 119], [83010348333840465929])
def zb_t309_0 : sf_T := (1310720, 36893488525376225536, [], zb_h65, [], [(0, 0)])
def zb_l309 : List sf_T := [zb_t309_0]
noncomputable def zb_b309 : en_T := (sf_tc 3997696 (sf_call 133 [(2, 0, zb_m307)]) (sf_tc 196608 (sf_call 133 [(6, 4, zb_m43)]) (fun _ => none)))
theorem zb_e309_0 : sf_okb (sf_fin 133 zb_h65 [83010348333840465929]) zb_b309 20 1 5 133 38 zb_l309 [] zb_t309_0 = true := by decide +kernel
theorem zb_i309 : (zb_m309.1, zb_m309.2.1, ([] : List Nat), zb_m309.2.2.1, [], [(0, 0)]) ∈ zb_l309 := List.mem_cons_self
theorem zb_k309 (hS : ∀ ρ, en_SA E ρ ω mt_SB) (hX : sf_JX J) (hM : sf_MnB E ω J) : sf_Kok E ω J 1 5 133 zb_m309 := sf_K_of hS (sf_TS_k (q := 3997696) (nx := 133) (l := [(2, 0, zb_m307)]) hX (sf_fc ⟨(rfl : zb_m307.1 = 3997696), (zb_k307 hS hX hM)⟩ sf_fn) (sf_TS_k (q := 196608) (nx := 133) (l := [(6, 4, zb_m43)]) hX (sf_fc ⟨(rfl : zb_m43.1 = 196608), (hM _ (List.mem_of_getElem? (i := 43) rfl))⟩ sf_fn) sf_TS_n)) (sf_nL (by decide +kernel)) rfl zb_h65_n zb_h65_n (by decide +kernel) (by decide +kernel) (by decide +kernel) zb_i309 (sf_fc (sf_okb_t zb_h65_n zb_e309_0) sf_fn)
/-- X9_weathers -/
def zb_m310 : sf_M := (7077888, 36893488525376225536, zb_h65, zb_h65, [88, 116, 117, 119], [])
def zb_t310_0 : sf_T := (7077888, 36893488525376225536, [], zb_h65, [], [(0, 0)])
def zb_l310 : List sf_T := [zb_t310_0]
noncomputable def zb_b310 : en_T := (sf_tc 1310720 (sf_call 133 [(1, 5, zb_m309)]) (sf_tc 7208960 (sf_call 133 [(1, 5, zb_m308)]) (fun _ => none)))
theorem zb_e310_0 : sf_okb (sf_fin 133 zb_h65 []) zb_b310 108 1 6 133 38 zb_l310 [] zb_t310_0 = true := by decide +kernel
theorem zb_i310 : (zb_m310.1, zb_m310.2.1, ([] : List Nat), zb_m310.2.2.1, [], [(0, 0)]) ∈ zb_l310 := List.mem_cons_self
theorem zb_k310 (hS : ∀ ρ, en_SA E ρ ω mt_SB) (hX : sf_JX J) (hM : sf_MnB E ω J) : sf_Kok E ω J 1 6 133 zb_m310 := sf_K_of hS (sf_TS_k (q := 1310720) (nx := 133) (l := [(1, 5, zb_m309)]) hX (sf_fc ⟨(rfl : zb_m309.1 = 1310720), (zb_k309 hS hX hM)⟩ sf_fn) (sf_TS_k (q := 7208960) (nx := 133) (l := [(1, 5, zb_m308)]) hX (sf_fc ⟨(rfl : zb_m308.1 = 7208960), (zb_k308 hS hX hM)⟩ sf_fn) sf_TS_n)) (sf_nL (by decide +kernel)) rfl zb_h65_n zb_h65_n (by decide +kernel) (by decide +kernel) (by decide +kernel) zb_i310 (sf_fc (sf_okb_t zb_h65_n zb_e310_0) sf_fn)
/-- X9_at -/
def zb_m311 : sf_M := (262144, 4820814133899404084098741977139641793531744750205104568664832, zb_h1, zb_h1, [], [83010348325250531333])
def zb_t311_0 : sf_T := (262144, 4820814133899404084098741977139641793531744750205104568664832, [], zb_h1, [(1000, 0)], [(0, 1)])
def zb_t311_1 : sf_T := (262156, 31057858561361006067830763032960584723497155613519082123075237680513792, [], zb_h1, [(1000, 0), (1000, 2)], [(0, 0)])
def zb_l311 : List sf_T := [zb_t311_0, zb_t311_1]
noncomputable def zb_b311 : en_T := (fun _ => none)
theorem zb_e311_0 : sf_okb (sf_fin 133 zb_h1 [83010348325250531333]) zb_b311 4 3 1 133 110 zb_l311 [1] zb_t311_0 = true := by decide +kernel
theorem zb_e311_1 : sf_okb (sf_fin 133 zb_h1 [83010348325250531333]) zb_b311 4 3 1 133 36 zb_l311 [] zb_t311_1 = true := by decide +kernel
theorem zb_i311 : (zb_m311.1, zb_m311.2.1, ([] : List Nat), zb_m311.2.2.1, [(1000, 0)], [(0, 1)]) ∈ zb_l311 := List.mem_cons_self
theorem zb_k311 (hS : ∀ ρ, en_SA E ρ ω mt_SB) (hX : sf_JX J) (hM : sf_MnB E ω J) : sf_Kok E ω J 3 1 133 zb_m311 := sf_K_of hS sf_TS_n (sf_nL (by decide +kernel)) rfl zb_h1_n zb_h1_n (by decide +kernel) (by decide +kernel) (by decide +kernel) zb_i311 (sf_fc (sf_okb_t zb_h1_n zb_e311_0) (sf_fc (sf_okb_t zb_h1_n zb_e311_1) sf_fn))
/-- X9_at -/
def zb_m312 : sf_M := (262144, 4820814133899404084098741977142177094732201209008097975075584, zb_h1, zb_h1, [], [83010348325250531333])
def zb_t312_0 : sf_T := (262144, 4820814133899404084098741977142177094732201209008097975075584, [], zb_h1, [(1000, 0)], [(0, 1)])
def zb_t312_1 : sf_T := (262156, 31057858561361006067830763032960584723499690914719538581878231086924544, [], zb_h1, [(1000, 0), (1000, 2)], [(0, 0)])
def zb_l312 : List sf_T := [zb_t312_0, zb_t312_1]
noncomputable def zb_b312 : en_T := (fun _ => none)
theorem zb_e312_0 : sf_okb (sf_fin 133 zb_h1 [83010348325250531333]) zb_b312 4 3 1 133 74 zb_l312 [1] zb_t312_0 = true := by decide +kernel
theorem zb_e312_1 : sf_okb (sf_fin 133 zb_h1 [83010348325250531333]) zb_b312 4 3 1 133 36 zb_l312 [] zb_t312_1 = true := by decide +kernel
theorem zb_i312 : (zb_m312.1, zb_m312.2.1, ([] : List Nat), zb_m312.2.2.1, [(1000, 0)], [(0, 1)]) ∈ zb_l312 := List.mem_cons_self
theorem zb_k312 (hS : ∀ ρ, en_SA E ρ ω mt_SB) (hX : sf_JX J) (hM : sf_MnB E ω J) : sf_Kok E ω J 3 1 133 zb_m312 := sf_K_of hS sf_TS_n (sf_nL (by decide +kernel)) rfl zb_h1_n zb_h1_n (by decide +kernel) (by decide +kernel) (by decide +kernel) zb_i312 (sf_fc (sf_okb_t zb_h1_n zb_e312_0) (sf_fc (sf_okb_t zb_h1_n zb_e312_1) sf_fn))
/-- X9_at -/
def zb_m313 : sf_M := (262144, 4820814133899404084098741977143444745332429438409594678280960, zb_h1, zb_h1, [], [83010348325250531333])
def zb_t313_0 : sf_T := (262144, 4820814133899404084098741977143444745332429438409594678280960, [], zb_h1, [(1000, 0)], [(0, 1)])
def zb_t313_1 : sf_T := (262156, 31057858561361006067830763032960584723500958565319766811279727790129920, [], zb_h1, [(1000, 0), (1000, 2)], [(0, 0)])
def zb_l313 : List sf_T := [zb_t313_0, zb_t313_1]
noncomputable def zb_b313 : en_T := (fun _ => none)
theorem zb_e313_0 : sf_okb (sf_fin 133 zb_h1 [83010348325250531333]) zb_b313 4 3 1 133 56 zb_l313 [1] zb_t313_0 = true := by decide +kernel
theorem zb_e313_1 : sf_okb (sf_fin 133 zb_h1 [83010348325250531333]) zb_b313 4 3 1 133 36 zb_l313 [] zb_t313_1 = true := by decide +kernel
theorem zb_i313 : (zb_m313.1, zb_m313.2.1, ([] : List Nat), zb_m313.2.2.1, [(1000, 0)], [(0, 1)]) ∈ zb_l313 := List.mem_cons_self
theorem zb_k313 (hS : ∀ ρ, en_SA E ρ ω mt_SB) (hX : sf_JX J) (hM : sf_MnB E ω J) : sf_Kok E ω J 3 1 133 zb_m313 := sf_K_of hS sf_TS_n (sf_nL (by decide +kernel)) rfl zb_h1_n zb_h1_n (by decide +kernel) (by decide +kernel) (by decide +kernel) zb_i313 (sf_fc (sf_okb_t zb_h1_n zb_e313_0) (sf_fc (sf_okb_t zb_h1_n zb_e313_1) sf_fn))
/-- X9_at -/
def zb_m314 : sf_M := (262144, 4820814133899404084098741977140909444131972979606601271870208, zb_h1, zb_h1, [], [83010348325250531333])
def zb_t314_0 : sf_T := (262144, 4820814133899404084098741977140909444131972979606601271870208, [], zb_h1, [(1000, 0)], [(0, 1)])
def zb_t314_1 : sf_T := (262156, 31057858561361006067830763032960584723498423264119310352476734383719168, [], zb_h1, [(1000, 0), (1000, 2)], [(0, 0)])
def zb_l314 : List sf_T := [zb_t314_0, zb_t314_1]
noncomputable def zb_b314 : en_T := (fun _ => none)
theorem zb_e314_0 : sf_okb (sf_fin 133 zb_h1 [83010348325250531333]) zb_b314 4 3 1 133 92 zb_l314 [1] zb_t314_0 = true := by decide +kernel
theorem zb_e314_1 : sf_okb (sf_fin 133 zb_h1 [83010348325250531333]) zb_b314 4 3 1 133 36 zb_l314 [] zb_t314_1 = true := by decide +kernel
theorem zb_i314 : (zb_m314.1, zb_m314.2.1, ([] : List Nat), zb_m314.2.2.1, [(1000, 0)], [(0, 1)]) ∈ zb_l314 := List.mem_cons_self
theorem zb_k314 (hS : ∀ ρ, en_SA E ρ ω mt_SB) (hX : sf_JX J) (hM : sf_MnB E ω J) : sf_Kok E ω J 3 1 133 zb_m314 := sf_K_of hS sf_TS_n (sf_nL (by decide +kernel)) rfl zb_h1_n zb_h1_n (by decide +kernel) (by decide +kernel) (by decide +kernel) zb_i314 (sf_fc (sf_okb_t zb_h1_n zb_e314_0) (sf_fc (sf_okb_t zb_h1_n zb_e314_1) sf_fn))
/-- X9_skillAt -/
def zb_m315 : sf_M := (5898240, 31057858561361006066813557893367387256691902665387575781551385216025344, zb_h66, zb_h66, [88, 98], [73786976299133173759])
def zb_t315_0 : sf_T := (5898240, 31057858561361006066813557893367387256691902665387575781551385216025344, [], zb_h66, [(1000, 1), (1000, 2)], [(0, 0)])
def zb_l315 : List sf_T := [zb_t315_0]
noncomputable def zb_b315 : en_T := (fun _ => none)
theorem zb_e315_0 : sf_okb (sf_fin 133 zb_h66 [73786976299133173759]) zb_b315 90 3 0 133 58 zb_l315 [] zb_t315_0 = true := by decide +kernel
theorem zb_i315 : (zb_m315.1, zb_m315.2.1, ([] : List Nat), zb_m315.2.2.1, [(1000, 1), (1000, 2)], [(0, 0)]) ∈ zb_l315 := List.mem_cons_self
theorem zb_k315 (hS : ∀ ρ, en_SA E ρ ω mt_SB) (hX : sf_JX J) (hM : sf_MnB E ω J) : sf_Kok E ω J 3 0 133 zb_m315 := sf_K_of hS sf_TS_n (sf_nL (by decide +kernel)) rfl zb_h66_n zb_h66_n (by decide +kernel) (by decide +kernel) (by decide +kernel) zb_i315 (sf_fc (sf_okb_t zb_h66_n zb_e315_0) sf_fn)
/-- X9_ordersOf -/
def zb_m316 : sf_M := (4587520, 4820814134004632201975677951514818796926343767777008297181952, zb_h68, zb_h68, [88, 98, 116, 117, 119], [83010348333840465923])
def zb_t316_0 : sf_T := (4587520, 4820814134004632201975677951514818796926343767777008297181952, [], zb_h68, [(1000, 1), (88, 51), (88, 52)], [(0, 1)])
def zb_t316_1 : sf_T := (4587571, 27606985390376131237988087698914973080737518814384213182516637433070336, [], zb_h68, [(1000, 1), (1000, 2), (88, 51), (88, 52)], [(0, 0)])
def zb_l316 : List sf_T := [zb_t316_0, zb_t316_1]
noncomputable def zb_b316 : en_T := (sf_tc 5898240 (sf_call 133 [(3, 0, zb_m315)]) (sf_tc 3997696 (sf_call 133 [(2, 0, zb_m307)]) (sf_tc 196608 (sf_call 133 [(6, 4, zb_m47)]) (fun _ => none))))
theorem zb_e316_0 : sf_okb (sf_fin 133 zb_h68 [83010348333840465923]) zb_b316 70 3 5 133 78 zb_l316 [1] zb_t316_0 = true := by decide +kernel
theorem zb_e316_1 : sf_okb (sf_fin 133 zb_h68 [83010348333840465923]) zb_b316 70 3 5 133 38 zb_l316 [] zb_t316_1 = true := by decide +kernel
theorem zb_i316 : (zb_m316.1, zb_m316.2.1, ([] : List Nat), zb_m316.2.2.1, [(1000, 1), (88, 51), (88, 52)], [(0, 1)]) ∈ zb_l316 := List.mem_cons_self
theorem zb_k316 (hS : ∀ ρ, en_SA E ρ ω mt_SB) (hX : sf_JX J) (hM : sf_MnB E ω J) : sf_Kok E ω J 3 5 133 zb_m316 := sf_K_of hS (sf_TS_k (q := 5898240) (nx := 133) (l := [(3, 0, zb_m315)]) hX (sf_fc ⟨(rfl : zb_m315.1 = 5898240), (zb_k315 hS hX hM)⟩ sf_fn) (sf_TS_k (q := 3997696) (nx := 133) (l := [(2, 0, zb_m307)]) hX (sf_fc ⟨(rfl : zb_m307.1 = 3997696), (zb_k307 hS hX hM)⟩ sf_fn) (sf_TS_k (q := 196608) (nx := 133) (l := [(6, 4, zb_m47)]) hX (sf_fc ⟨(rfl : zb_m47.1 = 196608), (hM _ (List.mem_of_getElem? (i := 47) rfl))⟩ sf_fn) sf_TS_n))) (sf_nL (by decide +kernel)) rfl zb_h68_n zb_h68_n (by decide +kernel) (by decide +kernel) (by decide +kernel) zb_i316 (sf_fc (sf_okb_t zb_h68_n zb_e316_0) (sf_fc (sf_okb_t zb_h68_n zb_e316_1) sf_fn))
/-- X9_fillsDoing -/
def zb_m317 : sf_M := (1966080, 36582990833331704133769688463878398985241663423791010922004235441607090117855687356087714591454335370296807506695615263104760996201528637261568, zb_h67, zb_h67, [88, 98, 116, 117, 119, 120], [])
def zb_t317_0 : sf_T := (1966080, 36582990833331704133769688463878398985241663423791010922004235441607090117855687356087714591454335370296807506695615263104760996201528637261568, [], zb_h67, [(1000, 1), (1000, 2), (1000, 3), (1000, 4), (1000, 5), (88, 51), (88, 52)], [(0, 1)])
def zb_t317_1 : sf_T := (1966088, 209496998917547409953475300355948448183151193670086816111875925103330289972534760558658065480983846666955816962371948440012616040572829811408636523579136, [], zb_h67, [(1000, 1), (1000, 2), (1000, 3), (1000, 4), (1000, 5), (1000, 6), (88, 51), (88, 52)], [(0, 0)])
def zb_l317 : List sf_T := [zb_t317_0, zb_t317_1]
noncomputable def zb_b317 : en_T := (sf_tc 5898240 (sf_call 133 [(3, 0, zb_m315)]) (sf_tc 3997696 (sf_call 133 [(2, 0, zb_m307)]) (sf_tc 196608 (sf_call 133 [(6, 4, zb_m43), (6, 4, zb_m44), (6, 4, zb_m45), (6, 4, zb_m46)]) (fun _ => none))))
theorem zb_e317_0 : sf_okb (sf_fin 133 zb_h67 []) zb_b317 30 7 5 133 30 zb_l317 [1] zb_t317_0 = true := by decide +kernel
theorem zb_e317_1 : sf_okb (sf_fin 133 zb_h67 []) zb_b317 30 7 5 133 214 zb_l317 [] zb_t317_1 = true := by decide +kernel
theorem zb_i317 : (zb_m317.1, zb_m317.2.1, ([] : List Nat), zb_m317.2.2.1, [(1000, 1), (1000, 2), (1000, 3), (1000, 4), (1000, 5), (88, 51), (88, 52)], [(0, 1)]) ∈ zb_l317 := List.mem_cons_self
theorem zb_k317 (hS : ∀ ρ, en_SA E ρ ω mt_SB) (hX : sf_JX J) (hM : sf_MnB E ω J) : sf_Kok E ω J 7 5 133 zb_m317 := sf_K_of hS (sf_TS_k (q := 5898240) (nx := 133) (l := [(3, 0, zb_m315)]) hX (sf_fc ⟨(rfl : zb_m315.1 = 5898240), (zb_k315 hS hX hM)⟩ sf_fn) (sf_TS_k (q := 3997696) (nx := 133) (l := [(2, 0, zb_m307)]) hX (sf_fc ⟨(rfl : zb_m307.1 = 3997696), (zb_k307 hS hX hM)⟩ sf_fn) (sf_TS_k (q := 196608) (nx := 133) (l := [(6, 4, zb_m43), (6, 4, zb_m44), (6, 4, zb_m45), (6, 4, zb_m46)]) hX (sf_fc ⟨(rfl : zb_m43.1 = 196608), (hM _ (List.mem_of_getElem? (i := 43) rfl))⟩ (sf_fc ⟨(rfl : zb_m44.1 = 196608), (hM _ (List.mem_of_getElem? (i := 44) rfl))⟩ (sf_fc ⟨(rfl : zb_m45.1 = 196608), (hM _ (List.mem_of_getElem? (i := 45) rfl))⟩ (sf_fc ⟨(rfl : zb_m46.1 = 196608), (hM _ (List.mem_of_getElem? (i := 46) rfl))⟩ sf_fn)))) sf_TS_n))) (sf_nL (by decide +kernel)) rfl zb_h67_n zb_h67_n (by decide +kernel) (by decide +kernel) (by decide +kernel) zb_i317 (sf_fc (sf_okb_t zb_h67_n zb_e317_0) (sf_fc (sf_okb_t zb_h67_n zb_e317_1) sf_fn))
/-- X9_fillsDraw -/
def zb_m318 : sf_M := (2031616, 31057858559754068022554567617836314203128233281242810191791013140366080, zb_h67, zb_h67, [88, 98, 116, 117, 119, 120], [])
def zb_t318_0 : sf_T := (2031616, 31057858559754068022554567617836314203128233281242810191791013140366080, [], zb_h67, [(1000, 1), (1000, 2)], [(0, 0)])
def zb_l318 : List sf_T := [zb_t318_0]
noncomputable def zb_b318 : en_T := (sf_tc 1966080 (sf_call 133 [(7, 5, zb_m317)]) (sf_tc 4587520 (sf_call 133 [(3, 5, zb_m316)]) (sf_tc 262144 (sf_call 133 [(3, 1, zb_m311), (3, 1, zb_m312), (3, 1, zb_m313), (3, 1, zb_m314)]) (fun _ => none))))
theorem zb_e318_0 : sf_okb (sf_fin 133 zb_h67 []) zb_b318 31 3 6 133 72 zb_l318 [] zb_t318_0 = true := by decide +kernel
theorem zb_i318 : (zb_m318.1, zb_m318.2.1, ([] : List Nat), zb_m318.2.2.1, [(1000, 1), (1000, 2)], [(0, 0)]) ∈ zb_l318 := List.mem_cons_self
theorem zb_k318 (hS : ∀ ρ, en_SA E ρ ω mt_SB) (hX : sf_JX J) (hM : sf_MnB E ω J) : sf_Kok E ω J 3 6 133 zb_m318 := sf_K_of hS (sf_TS_k (q := 1966080) (nx := 133) (l := [(7, 5, zb_m317)]) hX (sf_fc ⟨(rfl : zb_m317.1 = 1966080), (zb_k317 hS hX hM)⟩ sf_fn) (sf_TS_k (q := 4587520) (nx := 133) (l := [(3, 5, zb_m316)]) hX (sf_fc ⟨(rfl : zb_m316.1 = 4587520), (zb_k316 hS hX hM)⟩ sf_fn) (sf_TS_k (q := 262144) (nx := 133) (l := [(3, 1, zb_m311), (3, 1, zb_m312), (3, 1, zb_m313), (3, 1, zb_m314)]) hX (sf_fc ⟨(rfl : zb_m311.1 = 262144), (zb_k311 hS hX hM)⟩ (sf_fc ⟨(rfl : zb_m312.1 = 262144), (zb_k312 hS hX hM)⟩ (sf_fc ⟨(rfl : zb_m313.1 = 262144), (zb_k313 hS hX hM)⟩ (sf_fc ⟨(rfl : zb_m314.1 = 262144), (zb_k314 hS hX hM)⟩ sf_fn)))) sf_TS_n))) (sf_nL (by decide +kernel)) rfl zb_h67_n zb_h67_n (by decide +kernel) (by decide +kernel) (by decide +kernel) zb_i318 (sf_fc (sf_okb_t zb_h67_n zb_e318_0) sf_fn)
end SFP
