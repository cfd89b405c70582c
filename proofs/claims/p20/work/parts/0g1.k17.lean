/-! CONTRACTS, by program (wip/p3/emit.py) -/
section SFP
variable {E : mm_E} {ω : Nat → Value} {J : mm_H → Prop}
/-- X9_at -/
def zb_m278 : sf_M := (262144, 4820814133899404084098741977143444745332429438409594678280960, zb_h1, zb_h1, [], [83010348325250531333])
def zb_t278_0 : sf_T := (262144, 4820814133899404084098741977143444745332429438409594678280960, [], zb_h1, [(1000, 0)], [(0, 1)])
def zb_t278_1 : sf_T := (262156, 31057858561361006067830763032960584723500958565319766811279727790129920, [], zb_h1, [(1000, 0), (1000, 2)], [(0, 0)])
def zb_l278 : List sf_T := [zb_t278_0, zb_t278_1]
noncomputable def zb_b278 : en_T := (fun _ => none)
theorem zb_e278_0 : sf_okb (sf_fin 133 zb_h1 [83010348325250531333]) zb_b278 4 3 1 133 56 zb_l278 [1] zb_t278_0 = true := by decide +kernel
theorem zb_e278_1 : sf_okb (sf_fin 133 zb_h1 [83010348325250531333]) zb_b278 4 3 1 133 36 zb_l278 [] zb_t278_1 = true := by decide +kernel
theorem zb_i278 : (zb_m278.1, zb_m278.2.1, ([] : List Nat), zb_m278.2.2.1, [(1000, 0)], [(0, 1)]) ∈ zb_l278 := List.mem_cons_self
theorem zb_k278 (hS : ∀ ρ, en_SA E ρ ω mt_SB) (hX : sf_JX J) (hM : sf_MnB E ω J) : sf_Kok E ω J 3 1 133 zb_m278 := sf_K_of hS sf_TS_n (sf_nL (by decide +kernel)) rfl zb_h1_n zb_h1_n (by decide +kernel) (by decide +kernel) (by decide +kernel) zb_i278 (sf_fc (sf_okb_t zb_h1_n zb_e278_0) (sf_fc (sf_okb_t zb_h1_n zb_e278_1) sf_fn))
/-- X9_at -/
def zb_m279 : sf_M := (262144, 4820814133899404084098741977142177094732201209008097975075584, zb_h1, zb_h1, [], [83010348325250531333])
def zb_t279_0 : sf_T := (262144, 4820814133899404084098741977142177094732201209008097975075584, [], zb_h1, [(1000, 0)], [(0, 1)])
def zb_t279_1 : sf_T := (262156, 31057858561361006067830763032960584723499690914719538581878231086924544, [], zb_h1, [(1000, 0), (1000, 2)], [(0, 0)])
def zb_l279 : List sf_T := [zb_t279_0, zb_t279_1]
noncomputable def zb_b279 : en_T := (fun _ => none)
theorem zb_e279_0 : sf_okb (sf_fin 133 zb_h1 [83010348325250531333]) zb_b279 4 3 1 133 74 zb_l279 [1] zb_t279_0 = true := by decide +kernel
theorem zb_e279_1 : sf_okb (sf_fin 133 zb_h1 [83010348325250531333]) zb_b279 4 3 1 133 36 zb_l279 [] zb_t279_1 = true := by decide +kernel
theorem zb_i279 : (zb_m279.1, zb_m279.2.1, ([] : List Nat), zb_m279.2.2.1, [(1000, 0)], [(0, 1)]) ∈ zb_l279 := List.mem_cons_self
theorem zb_k279 (hS : ∀ ρ, en_SA E ρ ω mt_SB) (hX : sf_JX J) (hM : sf_MnB E ω J) : sf_Kok E ω J 3 1 133 zb_m279 := sf_K_of hS sf_TS_n (sf_nL (by decide +kernel)) rfl zb_h1_n zb_h1_n (by decide +kernel) (by decide +kernel) (by decide +kernel) zb_i279 (sf_fc (sf_okb_t zb_h1_n zb_e279_0) (sf_fc (sf_okb_t zb_h1_n zb_e279_1) sf_fn))
/-- X9_at -/
def zb_m280 : sf_M := (262144, 4820814133899404084098741977140909444131972979606601271870208, zb_h1, zb_h1, [], [83010348325250531333])
def zb_t280_0 : sf_T := (262144, 4820814133899404084098741977140909444131972979606601271870208, [], zb_h1, [(1000, 0)], [(0, 1)])
def zb_t280_1 : sf_T := (262156, 31057858561361006067830763032960584723498423264119310352476734383719168, [], zb_h1, [(1000, 0), (1000, 2)], [(0, 0)])
def zb_l280 : List sf_T := [zb_t280_0, zb_t280_1]
noncomputable def zb_b280 : en_T := (fun _ => none)
theorem zb_e280_0 : sf_okb (sf_fin 133 zb_h1 [83010348325250531333]) zb_b280 4 3 1 133 92 zb_l280 [1] zb_t280_0 = true := by decide +kernel
theorem zb_e280_1 : sf_okb (sf_fin 133 zb_h1 [83010348325250531333]) zb_b280 4 3 1 133 36 zb_l280 [] zb_t280_1 = true := by decide +kernel
theorem zb_i280 : (zb_m280.1, zb_m280.2.1, ([] : List Nat), zb_m280.2.2.1, [(1000, 0)], [(0, 1)]) ∈ zb_l280 := List.mem_cons_self
theorem zb_k280 (hS : ∀ ρ, en_SA E ρ ω mt_SB) (hX : sf_JX J) (hM : sf_MnB E ω J) : sf_Kok E ω J 3 1 133 zb_m280 := sf_K_of hS sf_TS_n (sf_nL (by decide +kernel)) rfl zb_h1_n zb_h1_n (by decide +kernel) (by decide +kernel) (by decide +kernel) zb_i280 (sf_fc (sf_okb_t zb_h1_n zb_e280_0) (sf_fc (sf_okb_t zb_h1_n zb_e280_1) sf_fn))
/-- X9_looks -/
def zb_m281 : sf_M := (3997696, 16333553616007998046963562849740359991808, zb_h70, zb_h70, [88, 116, 119], [])
def zb_t281_0 : sf_T := (3997696, 16333553616007998046963562849740359991808, [], zb_h70, [], [(0, 1)])
def zb_t281_1 : sf_T := (3997698, 105228117901436304798911701896198319814493576626688, [], zb_h70, [(1000, 1)], [(0, 0), (1, 0), (0, 0)])
def zb_l281 : List sf_T := [zb_t281_0, zb_t281_1]
noncomputable def zb_b281 : en_T := (fun _ => none)
theorem zb_e281_0 : sf_okb (sf_fin 133 zb_h70 []) zb_b281 61 2 0 133 24 zb_l281 [1] zb_t281_0 = true := by decide +kernel
theorem zb_e281_1 : sf_okb (sf_fin 133 zb_h70 []) zb_b281 61 2 0 133 74 zb_l281 [1] zb_t281_1 = true := by decide +kernel
theorem zb_i281 : (zb_m281.1, zb_m281.2.1, ([] : List Nat), zb_m281.2.2.1, [], [(0, 1)]) ∈ zb_l281 := List.mem_cons_self
theorem zb_k281 (hS : ∀ ρ, en_SA E ρ ω mt_SB) (hX : sf_JX J) (hM : sf_MnB E ω J) : sf_Kok E ω J 2 0 133 zb_m281 := sf_K_of hS sf_TS_n (sf_nL (by decide +kernel)) rfl zb_h70_n zb_h70_n (by decide +kernel) (by decide +kernel) (by decide +kernel) zb_i281 (sf_fc (sf_okb_t zb_h70_n zb_e281_0) (sf_fc (sf_okb_t zb_h70_n zb_e281_1) sf_fn))
/-- X9_skillAt -/
def zb_m282 : sf_M := (5898240, 31057858561361006066813557893367387256691902665387575781551385216025344, zb_h72, zb_h72, [88, 98], [73786976299133173759])
def zb_t282_0 : sf_T := (5898240, 31057858561361006066813557893367387256691902665387575781551385216025344, [], zb_h72, [(1000, 1), (1000, 2)], [(0, 0)])
def zb_l282 : List sf_T := [zb_t282_0]
noncomputable def zb_b282 : en_T := (fun _ => none)
theorem zb_e282_0 : sf_okb (sf_fin 133 zb_h72 [73786976299133173759]) zb_b282 90 3 0 133 58 zb_l282 [] zb_t282_0 = true := by decide +kernel
theorem zb_i282 : (zb_m282.1, zb_m282.2.1, ([] : List Nat), zb_m282.2.2.1, [(1000, 1), (1000, 2)], [(0, 0)]) ∈ zb_l282 := List.mem_cons_self
theorem zb_k282 (hS : ∀ ρ, en_SA E ρ ω mt_SB) (hX : sf_JX J) (hM : sf_MnB E ω J) : sf_Kok E ω J 3 0 133 zb_m282 := sf_K_of hS sf_TS_n (sf_nL (by decide +kernel)) rfl zb_h72_n zb_h72_n (by decide +kernel) (by decide +kernel) (by decide +kernel) zb_i282 (sf_fc (sf_okb_t zb_h72_n zb_e282_0) sf_fn)
/-- X9_ordersOf -/
def zb_m283 : sf_M := (4587520, 4820814134004632201975677951514818796926343767777008297181952, zb_h73, zb_h73, [88, 98, 116, 117, 119], [83010348333840465923])
def zb_t283_0 : sf_T := (4587520, 4820814134004632201975677951514818796926343767777008297181952, [], zb_h73, [(1000, 1), (88, 51), (88, 52)], [(0, 1)])
def zb_t283_1 : sf_T := (4587571, 27606985390376131237988087698914973080737518814384213182516637433070336, [], zb_h73, [(1000, 1), (1000, 2), (88, 51), (88, 52)], [(0, 0)])
def zb_l283 : List sf_T := [zb_t283_0, zb_t283_1]
noncomputable def zb_b283 : en_T := (sf_tc 5898240 (sf_call 133 [(3, 0, zb_m282)]) (sf_tc 3997696 (sf_call 133 [(2, 0, zb_m281)]) (sf_tc 196608 (sf_call 133 [(6, 4, zb_m62)]) (fun _ => none))))
theorem zb_e283_0 : sf_okb (sf_fin 133 zb_h73 [83010348333840465923]) zb_b283 70 3 5 133 78 zb_l283 [1] zb_t283_0 = true := by decide +kernel
theorem zb_e283_1 : sf_okb (sf_fin 133 zb_h73 [83010348333840465923]) zb_b283 70 3 5 133 38 zb_l283 [] zb_t283_1 = true := by decide +kernel
theorem zb_i283 : (zb_m283.1, zb_m283.2.1, ([] : List Nat), zb_m283.2.2.1, [(1000, 1), (88, 51), (88, 52)], [(0, 1)]) ∈ zb_l283 := List.mem_cons_self
theorem zb_k283 (hS : ∀ ρ, en_SA E ρ ω mt_SB) (hX : sf_JX J) (hM : sf_MnB E ω J) : sf_Kok E ω J 3 5 133 zb_m283 := sf_K_of hS (sf_TS_k (q := 5898240) (nx := 133) (l := [(3, 0, zb_m282)]) hX (sf_fc ⟨(rfl : zb_m282.1 = 5898240), (zb_k282 hS hX hM)⟩ sf_fn) (sf_TS_k (q := 3997696) (nx := 133) (l := [(2, 0, zb_m281)]) hX (sf_fc ⟨(rfl : zb_m281.1 = 3997696), (zb_k281 hS hX hM)⟩ sf_fn) (sf_TS_k (q := 196608) (nx := 133) (l := [(6, 4, zb_m62)]) hX (sf_fc ⟨(rfl : zb_m62.1 = 196608), (hM _ (List.mem_of_getElem? (i := 62) rfl))⟩ sf_fn) sf_TS_n))) (sf_nL (by decide +kernel)) rfl zb_h73_n zb_h73_n (by decide +kernel) (by decide +kernel) (by decide +kernel) zb_i283 (sf_fc (sf_okb_t zb_h73_n zb_e283_0) (sf_fc (sf_okb_t zb_h73_n zb_e283_1) sf_fn))
/-- X9_fillsDoing -/
def zb_m284 : sf_M := (1966080, 36582990833331704133769688463878398985241663423791010922004235441607090117855687356087714591454335370296807506695615263104760996201528637261568, zb_h74, zb_h74, [88, 98, 116, 117, 119, 120], [])
def zb_t284_0 : sf_T := (1966080, 36582990833331704133769688463878398985241663423791010922004235441607090117855687356087714591454335370296807506695615263104760996201528637261568, [], zb_h74, [(1000, 1), (1000, 2), (1000, 3), (1000, 4), (1000, 5), (88, 51), (88, 52)], [(0, 1)])
def zb_t284_1 : sf_T := (1966088, 209496998917547409953475300355948448183151193670086816111875925103330289972534760558658065480983846666955816962371948440012616040572829811408636523579136, [], zb_h74, [(1000, 1), (1000, 2), (1000, 3), (1000, 4), (1000, 5), (1000, 6), (88, 51), (88, 52)], [(0, 0)])
def zb_l284 : List sf_T := [zb_t284_0, zb_t284_1]
noncomputable def zb_b284 : en_T := (sf_tc 5898240 (sf_call 133 [(3, 0, zb_m282)]) (sf_tc 3997696 (sf_call 133 [(2, 0, zb_m281)]) (sf_tc 196608 (sf_call 133 [(6, 4, zb_m58), (6, 4, zb_m59), (6, 4, zb_m60), (6, 4, zb_m61)]) (fun _ => none))))
theorem zb_e284_0 : sf_okb (sf_fin 133 zb_h74 []) zb_b284 30 7 5 133 30 zb_l284 [1] zb_t284_0 = true := by decide +kernel
theorem zb_e284_1 : sf_okb (sf_fin 133 zb_h74 []) zb_b284 30 7 5 133 214 zb_l284 [] zb_t284_1 = true := by decide +kernel
theorem zb_i284 : (zb_m284.1, zb_m284.2.1, ([] : List Nat), zb_m284.2.2.1, [(1000, 1), (1000, 2), (1000, 3), (1000, 4), (1000, 5), (88, 51), (88, 52)], [(0, 1)]) ∈ zb_l284 := List.mem_cons_self
theorem zb_k284 (hS : ∀ ρ, en_SA E ρ ω mt_SB) (hX : sf_JX J) (hM : sf_MnB E ω J) : sf_Kok E ω J 7 5 133 zb_m284 := sf_K_of hS (sf_TS_k (q := 5898240) (nx := 133) (l := [(3, 0, zb_m282)]) hX (sf_fc ⟨(rfl : zb_m282.1 = 5898240), (zb_k282 hS hX hM)⟩ sf_fn) (sf_TS_k (q := 3997696) (nx := 133) (l := [(2, 0, zb_m281)]) hX (sf_fc ⟨(rfl : zb_m281.1 = 3997696), (zb_k281 hS hX hM)⟩ sf_fn) (sf_TS_k (q := 196608) (nx := 133) (l := [(6, 4, zb_m58), (6, 4, zb_m59), (6, 4, zb_m60), (6, 4, zb_m61)]) hX (sf_fc ⟨(rfl : zb_m58.1 = 196608), (hM _ (List.mem_of_getElem? (i := 58) rfl))⟩ (sf_fc ⟨(rfl : zb_m59.1 = 196608), (hM _ (List.mem_of_getElem? (i := 59) rfl))⟩ (sf_fc ⟨(rfl : zb_m60.1 = 196608), (hM _ (List.mem_of_getElem? (i := 60) rfl))⟩ (sf_fc ⟨(rfl : zb_m61.1 = 196608), (hM _ (List.mem_of_getElem? (i := 61) rfl))⟩ sf_fn)))) sf_TS_n))) (sf_nL (by decide +kernel)) rfl zb_h74_n zb_h74_n (by decide +kernel) (by decide +kernel) (by decide +kernel) zb_i284 (sf_fc (sf_okb_t zb_h74_n zb_e284_0) (sf_fc (sf_okb_t zb_h74_n zb_e284_1) sf_fn))
/-- X9_at -/
def zb_m285 : sf_M := (262144, 4820814133899404084098741977139641793531744750205104568664832, zb_h1, zb_h1, [], [83010348325250531333])
def zb_t285_0 : sf_T := (262144, 4820814133899404084098741977139641793531744750205104568664832, [], zb_h1, [(1000, 0)], [(0, 1)])
def zb_t285_1 : sf_T := (262156, 31057858561361006067830763032960584723497155613519082123075237680513792, [], zb_h1, [(1000, 0), (1000, 2)], [(0, 0)])
def zb_l285 : List sf_T := [zb_t285_0, zb_t285_1]
noncomputable def zb_b285 : en_T := (fun _ => none)
theorem zb_e285_0 : sf_okb (sf_fin 133 zb_h1 [83010348325250531333]) zb_b285 4 3 1 133 110 zb_l285 [1] zb_t285_0 = true := by decide +kernel
theorem zb_e285_1 : sf_okb (sf_fin 133 zb_h1 [83010348325250531333]) zb_b285 4 3 1 133 36 zb_l285 [] zb_t285_1 = true := by decide +kernel
theorem zb_i285 : (zb_m285.1, zb_m285.2.1, ([] : List Nat), zb_m285.2.2.1, [(1000, 0)], [(0, 1)]) ∈ zb_l285 := List.mem_cons_self
theorem zb_k285 (hS : ∀ ρ, en_SA E ρ ω mt_SB) (hX : sf_JX J) (hM : sf_MnB E ω J) : sf_Kok E ω J 3 1 133 zb_m285 := sf_K_of hS sf_TS_n (sf_nL (by decide +kernel)) rfl zb_h1_n zb_h1_n (by decide +kernel) (by decide +kernel) (by decide +kernel) zb_i285 (sf_fc (sf_okb_t zb_h1_n zb_e285_0) (sf_fc (sf_okb_t zb_h1_n zb_e285_1) sf_fn))
/-- X9_fillsDraw -/
def zb_m286 : sf_M := (2031616, 31057858559754068022554567617836314203128233281242810191791013140366080, zb_h74, zb_h74, [88, 98, 116, 117, 119, 120], [])
def zb_t286_0 : sf_T := (2031616, 31057858559754068022554567617836314203128233281242810191791013140366080, [], zb_h74, [(1000, 1), (1000, 2)], [(0, 0)])
def zb_l286 : List sf_T := [zb_t286_0]
noncomputable def zb_b286 : en_T := (sf_tc 1966080 (sf_call 133 [(7, 5, zb_m284)]) (sf_tc 4587520 (sf_call 133 [(3, 5, zb_m283)]) (sf_tc 262144 (sf_call 133 [(3, 1, zb_m278), (3, 1, zb_m279), (3, 1, zb_m280), (3, 1, zb_m285)]) (fun _ => none))))
theorem zb_e286_0 : sf_okb (sf_fin 133 zb_h74 []) zb_b286 31 3 6 133 72 zb_l286 [] zb_t286_0 = true := by decide +kernel
theorem zb_i286 : (zb_m286.1, zb_m286.2.1, ([] : List Nat), zb_m286.2.2.1, [(1000, 1), (1000, 2)], [(0, 0)]) ∈ zb_l286 := List.mem_cons_self
theorem zb_k286 (hS : ∀ ρ, en_SA E ρ ω mt_SB) (hX : sf_JX J) (hM : sf_MnB E ω J) : sf_Kok E ω J 3 6 133 zb_m286 := sf_K_of hS (sf_TS_k (q := 1966080) (nx := 133) (l := [(7, 5, zb_m284)]) hX (sf_fc ⟨(rfl : zb_m284.1 = 1966080), (zb_k284 hS hX hM)⟩ sf_fn) (sf_TS_k (q := 4587520) (nx := 133) (l := [(3, 5, zb_m283)]) hX (sf_fc ⟨(rfl : zb_m283.1 = 4587520), (zb_k283 hS hX hM)⟩ sf_fn) (sf_TS_k (q := 262144) (nx := 133) (l := [(3, 1, zb_m278), (3, 1, zb_m279), (3, 1, zb_m280), (3, 1, zb_m285)]) hX (sf_fc ⟨(rfl : zb_m278.1 = 262144), (zb_k278 hS hX hM)⟩ (sf_fc ⟨(rfl : zb_m279.1 = 262144), (zb_k279 hS hX hM)⟩ (sf_fc ⟨(rfl : zb_m280.1 = 262144), (zb_k280 hS hX hM)⟩ (sf_fc ⟨(rfl : zb_m285.1 = 262144), (zb_k285 hS hX hM)⟩ sf_fn)))) sf_TS_n))) (sf_nL (by decide +kernel)) rfl zb_h74_n zb_h74_n (by decide +kernel) (by decide +kernel) (by decide +kernel) zb_i286 (sf_fc (sf_okb_t zb_h74_n zb_e286_0) sf_fn)
/-- X9_copies -/
def zb_m287 : sf_M := (1114112, 16333553616007998046963562849740359991808, zb_h75, zb_h75, [88, 105, 118, 119], [])
def zb_t287_0 : sf_T := (1114112, 16333553616007998046963562849740359991808, [], zb_h75, [], [(0, 0)])
def zb_l287 : List sf_T := [zb_t287_0]
noncomputable def zb_b287 : en_T := (fun _ => none)
theorem zb_e287_0 : sf_okb (sf_fin 133 zb_h75 []) zb_b287 17 2 0 133 1612 zb_l287 [] zb_t287_0 = true := by decide +kernel
theorem zb_i287 : (zb_m287.1, zb_m287.2.1, ([] : List Nat), zb_m287.2.2.1, [], [(0, 0)]) ∈ zb_l287 := List.mem_cons_self
theorem zb_k287 (hS : ∀ ρ, en_SA E ρ ω mt_SB) (hX : sf_JX J) (hM : sf_MnB E ω J) : sf_Kok E ω J 2 0 133 zb_m287 := sf_K_of hS sf_TS_n (sf_nL (by decide +kernel)) rfl zb_h75_n zb_h75_n (by decide +kernel) (by decide +kernel) (by decide +kernel) zb_i287 (sf_fc (sf_okb_t zb_h75_n zb_e287_0) sf_fn)
/-- X9_dangerNow -/
def zb_m288 : sf_M := (1310720, 36893488525376225536, zb_h71, zb_h71, [88, 116, 117, 119], [83010348333840465929])
def zb_t288_0 : sf_T := (1310720, 36893488525376225536, [], zb_h71, [], [(0, 0)])
def zb_l288 : List sf_T := [zb_t288_0]
noncomputable def zb_b288 : en_T := (sf_tc 3997696 (sf_call 133 [(2, 0, zb_m281)]) (sf_tc 196608 (sf_call 133 [(6, 4, zb_m58)]) (fun _ => none)))
theorem zb_e288_0 : sf_okb (sf_fin 133 zb_h71 [83010348333840465929]) zb_b288 20 1 5 133 38 zb_l288 [] zb_t288_0 = true := by decide +kernel
theorem zb_i288 : (zb_m288.1, zb_m288.2.1, ([] : List Nat), zb_m288.2.2.1, [], [(0, 0)]) ∈ zb_l288 := List.mem_cons_self
theorem zb_k288 (hS : ∀ ρ, en_SA E ρ ω mt_SB) (hX : sf_JX J) (hM : sf_MnB E ω J) : sf_Kok E ω J 1 5 133 zb_m288 := sf_K_of hS (sf_TS_k (q := 3997696) (nx := 133) (l := [(2, 0, zb_m281)]) hX (sf_fc ⟨(rfl : zb_m281.1 = 3997696), (zb_k281 hS hX hM)⟩ sf_fn) (sf_TS_k (q := 196608) (nx := 133) (l := [(6, 4, zb_m58)]) hX (sf_fc ⟨(rfl : zb_m58.1 = 196608), (hM _ (List.mem_of_getElem? (i := 58) rfl))⟩ sf_fn) sf_TS_n)) (sf_nL (by decide +kernel)) rfl zb_h71_n zb_h71_n (by decide +kernel) (by decide +kernel) (by decide +kernel) zb_i288 (sf_fc (sf_okb_t zb_h71_n zb_e288_0) sf_fn)
/-- X9_windNow -/
def zb_m289 : sf_M := (7208960, 36893488525376225536, zb_h71, zb_h71, [88, 116, 117, 119], [83010348333840465929])
def zb_t289_0 : sf_T := (7208960, 36893488525376225536, [], zb_h71, [], [(0, 0)])
def zb_l289 : List sf_T := [zb_t289_0]
noncomputable def zb_b289 : en_T := (sf_tc 3997696 (sf_call 133 [(2, 0, zb_m281)]) (sf_tc 196608 (sf_call 133 [(6, 4, zb_m58)]) (fun _ => none)))
theorem zb_e289_0 : sf_okb (sf_fin 133 zb_h71 [83010348333840465929]) zb_b289 110 1 5 133 38 zb_l289 [] zb_t289_0 = true := by decide +kernel
theorem zb_i289 : (zb_m289.1, zb_m289.2.1, ([] : List Nat), zb_m289.2.2.1, [], [(0, 0)]) ∈ zb_l289 := List.mem_cons_self
theorem zb_k289 (hS : ∀ ρ, en_SA E ρ ω mt_SB) (hX : sf_JX J) (hM : sf_MnB E ω J) : sf_Kok E ω J 1 5 133 zb_m289 := sf_K_of hS (sf_TS_k (q := 3997696) (nx := 133) (l := [(2, 0, zb_m281)]) hX (sf_fc ⟨(rfl : zb_m281.1 = 3997696), (zb_k281 hS hX hM)⟩ sf_fn) (sf_TS_k (q := 196608) (nx := 133) (l := [(6, 4, zb_m58)]) hX (sf_fc ⟨(rfl : zb_m58.1 = 196608), (hM _ (List.mem_of_getElem? (i := 58) rfl))⟩ sf_fn) sf_TS_n)) (sf_nL (by decide +kernel)) rfl zb_h71_n zb_h71_n (by decide +kernel) (by decide +kernel) (by decide +kernel) zb_i289 (sf_fc (sf_okb_t zb_h71_n zb_e289_0) sf_fn)
/-- X9_weathers -/
def zb_m290 : sf_M := (7077888, 36893488525376225536, zb_h71, zb_h71, [88, 116, 117, 119], [])
def zb_t290_0 : sf_T := (7077888, 36893488525376225536, [], zb_h71, [], [(0, 0)])
def zb_l290 : List sf_T := [zb_t290_0]
noncomputable def zb_b290 : en_T := (sf_tc 7208960 (sf_call 133 [(1, 5, zb_m289)]) (sf_tc 1310720 (sf_call 133 [(1, 5, zb_m288)]) (fun _ => none)))
theorem zb_e290_0 : sf_okb (sf_fin 133 zb_h71 []) zb_b290 108 1 6 133 38 zb_l290 [] zb_t290_0 = true := by decide +kernel
theorem zb_i290 : (zb_m290.1, zb_m290.2.1, ([] : List Nat), zb_m290.2.2.1, [], [(0, 0)]) ∈ zb_l290 := List.mem_cons_self
theorem zb_k290 (hS : ∀ ρ, en_SA E ρ ω mt_SB) (hX : sf_JX J) (hM : sf_MnB E ω J) : sf_Kok E ω J 1 6 133 zb_m290 := sf_K_of hS (sf_TS_k (q := 7208960) (nx := 133) (l := [(1, 5, zb_m289)]) hX (sf_fc ⟨(rfl : zb_m289.1 = 7208960), (zb_k289 hS hX hM)⟩ sf_fn) (sf_TS_k (q := 1310720) (nx := 133) (l := [(1, 5, zb_m288)]) hX (sf_fc ⟨(rfl : zb_m288.1 = 1310720), (zb_k288 hS hX hM)⟩ sf_fn) sf_TS_n)) (sf_nL (by decide +kernel)) rfl zb_h71_n zb_h71_n (by decide +kernel) (by decide +kernel) (by decide +kernel) zb_i290 (sf_fc (sf_okb_t zb_h71_n zb_e290_0) sf_fn)
def zb_h79 : en_H := (((((((0, 0), 0), 0), ((0, 0), (0, 0))), ((((((0, (0, 0)), 0), 0), ((((0, 0), (0, (0, 0))), (((0, 0), 0), (0, (0, (0, 0))))), 0)), ((0, 0), 0)), (0, ((((0, 0), ((0, 0), ((0, 0), 0))), (((0, (0, 0)), ((0, 0), (0, 0))), (((0, 0), (0, 0)), ((0, 0), (0, 0))))), (((((0, 0), (0, 0)), ((0, 0), (0, 0))), (((0, 0), (0, 0)), ((0, 0), (0, 0)))), ((((0, 0), (0, 0)), ((0, 0), (0, (0, 0)))), ((((0, 0), (0, 0)), ((0, 0), 0)), (0, (0, (0, 0)))))))))), zb_r4), ((((((0, 0), 0), (0, (0, 0))), (0, 0)), zb_r16), ((((((((zb_r7, 0), 0), (0, 0)), (0, (0, zb_r5))), 0), (0, (((0, 0), (0, 0)), ((0, 0), (0, 0))))), zb_r1), (((zb_r2, zb_r6), zb_r6), (zb_r12, ((0, ((0, 0), (zb_r27, zb_r28))), (((zb_r29, 0), (0, 0)), ((0, 0), ((0, 0), (0, 0))))))))))
theorem zb_h79_n : sf_nlh zb_h79 136 = true := by decide +kernel
/-- X9_fillsFirst -/
def zb_m291 : sf_M := (2097152, 1422853192879425234015608139717629925292265360276298235107590062233449531231437824, zb_h79, zb_h79, [88, 97, 98, 105, 116, 117, 118, 119, 120, 124, 125, 126], [])
def zb_t291_0 : sf_T := (2097152, 1422853192879425234015608139717629925292265360276298235107590062233449531231437824, [], zb_h79, [(1000, 1)], [(0, 18)])
def zb_t291_1 : sf_T := (2097164, 9166661893742329592376998301954280580400483926061059539494753748497833142683499351978804224, [], zb_h79, [(1000, 1), (1000, 3)], [(0, 17), (1, 1), (0, 0)])
def zb_t291_2 : sf_T := (2097164, 9166661917456549473590324260585420319528616050435940353739610697960329406751527293696345088, [], zb_h79, [(1000, 1), (1000, 3)], [(0, 16), (1, 1), (0, 0)])
def zb_t291_3 : sf_T := (2097164, 9166661940696484957287603082761613304061162504243827310794003897117207406723143056408708096, [], zb_h79, [(1000, 1), (1000, 3)], [(0, 15), (1, 1), (0, 0)])
def zb_t291_4 : sf_T := (2097164, 9166661963936420440984881904937806288593708958051714267848397096274085406694758819121071104, [], zb_h79, [(1000, 1), (1000, 3)], [(0, 14), (1, 1), (0, 0)])
def zb_t291_5 : sf_T := (2097164, 9166661987176355924682160727113999273126255411859601224902790295430963406666374581833434112, [], zb_h79, [(1000, 1), (1000, 3)], [(0, 13), (1, 1), (0, 0)])
def zb_t291_6 : sf_T := (2097164, 9166662010416291408379439549290192257658801865667488181957183494587841406637990344545797120, [], zb_h79, [(1000, 1), (1000, 3)], [(0, 12), (1, 1), (0, 0)])
def zb_t291_7 : sf_T := (2097164, 9166662033656226887438744826423126377035192380025214034964431464446219641540389828865033216, [], zb_h79, [(1000, 1), (1000, 3)], [(0, 11), (1, 1), (0, 0)])
def zb_t291_8 : sf_T := (2097164, 9166662036976217670824070372448296803396984730569197885972201921468630784393477794966799360, [], zb_h79, [(1000, 1), (1000, 3)], [(0, 10), (1, 1), (0, 0)])
def zb_t291_9 : sf_T := (2097164, 9166662040296208454209395918473467229758777081113181736979972378491041927246565761068565504, [], zb_h79, [(1000, 1), (1000, 3)], [(0, 9), (1, 1), (0, 0)])
def zb_t291_10 : sf_T := (2097164, 9166662043616199237594721464498637656120569431657165587987742835513453070099653727170331648, [], zb_h79, [(1000, 1), (1000, 3)], [(0, 8), (1, 1), (0, 0)])
def zb_t291_11 : sf_T := (2097164, 9166662046936190020980047010523808082482361782201149438995513292535864212952741693272097792, [], zb_h79, [(1000, 1), (1000, 3)], [(0, 7), (1, 1), (0, 0)])
def zb_t291_12 : sf_T := (2097164, 9166662050256180804365372556548978508844154132745133290003283749558275355805829659373863936, [], zb_h79, [(1000, 1), (1000, 3)], [(0, 6), (1, 1), (0, 0)])
def zb_t291_13 : sf_T := (2097164, 9166662056421878010723764872490443528221774823286552678352582891002652866422355558448235520, [], zb_h79, [(1000, 1), (1000, 3)], [(0, 5), (1, 1), (0, 0)])
def zb_t291_14 : sf_T := (2097164, 9166662219575710794120763764178741174545185670508755234923799035406417130320078076439954432, [], zb_h79, [(1000, 1), (1000, 3)], [(0, 4), (1, 1), (0, 0)])
def zb_t291_15 : sf_T := (2097164, 9166662382255259180001715519412092066273010847163963934304551429504563130121388415426495488, [], zb_h79, [(1000, 1), (1000, 3)], [(0, 3), (1, 1), (0, 0)])
def zb_t291_16 : sf_T := (2097164, 9166662544934807565882667274645442958000836023819172633685303823602709129922698754413036544, [], zb_h79, [(1000, 1), (1000, 3)], [(0, 2), (1, 1), (0, 0)])
def zb_t291_17 : sf_T := (2097164, 9166662707614355951763619029878793849728661200474381333066056217700855129724009093399577600, [], zb_h79, [(1000, 1), (1000, 3)], [(0, 1), (1, 1), (0, 0)])
def zb_t291_18 : sf_T := (2097164, 9166662870293904337644570785112144741456486377129590032446808611799001129525319432386118656, [], zb_h79, [(1000, 1), (1000, 3)], [(0, 0), (1, 1), (0, 0)])
def zb_l291 : List sf_T := [zb_t291_0, zb_t291_1, zb_t291_2, zb_t291_3, zb_t291_4, zb_t291_5, zb_t291_6, zb_t291_7, zb_t291_8, zb_t291_9, zb_t291_10, zb_t291_11, zb_t291_12, zb_t291_13, zb_t291_14, zb_t291_15, zb_t291_16, zb_t291_17, zb_t291_18]
noncomputable def zb_b291 : en_T := (sf_tc 7077888 (sf_call 133 [(1, 6, zb_m290)]) (sf_tc 1114112 (sf_call 133 [(2, 0, zb_m287)]) (sf_tc 2031616 (sf_call 133 [(3, 6, zb_m286)]) (sf_tc 2097164 (sf_spl 4 (1000, 3) [2147483697, 2147483746, 2147483795, 2147483844, 2147483893, 2147483942, 2147483949, 2147483956, 2147483963, 2147483970, 2147483977, 2147483984, 2147484334, 2147484677, 2147485020, 2147485363, 2147485706, 2147486049]) (fun _ => none)))))
theorem zb_e291_0 : sf_okb (sf_fin 133 zb_h79 []) zb_b291 32 4 7 133 36 zb_l291 [1] zb_t291_0 = true := by decide +kernel
theorem zb_e291_1 : sf_okb (sf_fin 133 zb_h79 []) zb_b291 32 4 7 133 736 zb_l291 [1, 2] zb_t291_1 = true := by decide +kernel
theorem zb_e291_2 : sf_okb (sf_fin 133 zb_h79 []) zb_b291 32 4 7 133 736 zb_l291 [2, 3] zb_t291_2 = true := by decide +kernel
theorem zb_e291_3 : sf_okb (sf_fin 133 zb_h79 []) zb_b291 32 4 7 133 736 zb_l291 [3, 4] zb_t291_3 = true := by decide +kernel
theorem zb_e291_4 : sf_okb (sf_fin 133 zb_h79 []) zb_b291 32 4 7 133 736 zb_l291 [4, 5] zb_t291_4 = true := by decide +kernel
theorem zb_e291_5 : sf_okb (sf_fin 133 zb_h79 []) zb_b291 32 4 7 133 736 zb_l291 [5, 6] zb_t291_5 = true := by decide +kernel
theorem zb_e291_6 : sf_okb (sf_fin 133 zb_h79 []) zb_b291 32 4 7 133 842 zb_l291 [6, 7] zb_t291_6 = true := by decide +kernel
theorem zb_e291_7 : sf_okb (sf_fin 133 zb_h79 []) zb_b291 32 4 7 133 948 zb_l291 [7, 8] zb_t291_7 = true := by decide +kernel
theorem zb_e291_8 : sf_okb (sf_fin 133 zb_h79 []) zb_b291 32 4 7 133 948 zb_l291 [8, 9] zb_t291_8 = true := by decide +kernel
theorem zb_e291_9 : sf_okb (sf_fin 133 zb_h79 []) zb_b291 32 4 7 133 948 zb_l291 [9, 10] zb_t291_9 = true := by decide +kernel
theorem zb_e291_10 : sf_okb (sf_fin 133 zb_h79 []) zb_b291 32 4 7 133 948 zb_l291 [10, 11] zb_t291_10 = true := by decide +kernel
theorem zb_e291_11 : sf_okb (sf_fin 133 zb_h79 []) zb_b291 32 4 7 133 948 zb_l291 [11, 12] zb_t291_11 = true := by decide +kernel
theorem zb_e291_12 : sf_okb (sf_fin 133 zb_h79 []) zb_b291 32 4 7 133 4418 zb_l291 [12, 13] zb_t291_12 = true := by decide +kernel
theorem zb_e291_13 : sf_okb (sf_fin 133 zb_h79 []) zb_b291 32 4 7 133 432 zb_l291 [13, 14] zb_t291_13 = true := by decide +kernel
theorem zb_e291_14 : sf_okb (sf_fin 133 zb_h79 []) zb_b291 32 4 7 133 432 zb_l291 [14, 15] zb_t291_14 = true := by decide +kernel
theorem zb_e291_15 : sf_okb (sf_fin 133 zb_h79 []) zb_b291 32 4 7 133 432 zb_l291 [15, 16] zb_t291_15 = true := by decide +kernel
theorem zb_e291_16 : sf_okb (sf_fin 133 zb_h79 []) zb_b291 32 4 7 133 432 zb_l291 [16, 17] zb_t291_16 = true := by decide +kernel
theorem zb_e291_17 : sf_okb (sf_fin 133 zb_h79 []) zb_b291 32 4 7 133 428 zb_l291 [17, 18] zb_t291_17 = true := by decide +kernel
theorem zb_e291_18 : sf_okb (sf_fin 133 zb_h79 []) zb_b291 32 4 7 133 230 zb_l291 [18] zb_t291_18 = true := by decide +kernel
theorem zb_i291 : (zb_m291.1, zb_m291.2.1, ([] : List Nat), zb_m291.2.2.1, [(1000, 1)], [(0, 18)]) ∈ zb_l291 := List.mem_cons_self
theorem zb_k291 (hS : ∀ ρ, en_SA E ρ ω mt_SB) (hX : sf_JX J) (hM : sf_MnB E ω J) : sf_Kok E ω J 4 7 133 zb_m291 := sf_K_of hS (sf_TS_k (q := 7077888) (nx := 133) (l := [(1, 6, zb_m290)]) hX (sf_fc ⟨(rfl : zb_m290.1 = 7077888), (zb_k290 hS hX hM)⟩ sf_fn) (sf_TS_k (q := 1114112) (nx := 133) (l := [(2, 0, zb_m287)]) hX (sf_fc ⟨(rfl : zb_m287.1 = 1114112), (zb_k287 hS hX hM)⟩ sf_fn) (sf_TS_k (q := 2031616) (nx := 133) (l := [(3, 6, zb_m286)]) hX (sf_fc ⟨(rfl : zb_m286.1 = 2031616), (zb_k286 hS hX hM)⟩ sf_fn) (sf_TS_s (sf_nL (by decide +kernel)) sf_TS_n)))) (sf_nL (by decide +kernel)) rfl zb_h79_n zb_h79_n (by decide +kernel) (by decide +kernel) (by decide +kernel) zb_i291 (sf_fc (sf_okb_t zb_h79_n zb_e291_0) (sf_fc (sf_okb_t zb_h79_n zb_e291_1) (sf_fc (sf_okb_t zb_h79_n zb_e291_2) (sf_fc (sf_okb_t zb_h79_n zb_e291_3) (sf_fc (sf_okb_t zb_h79_n zb_e291_4) (sf_fc (sf_okb_t zb_h79_n zb_e291_5) (sf_fc (sf_okb_t zb_h79_n zb_e291_6) (sf_fc (sf_okb_t zb_h79_n zb_e291_7) (sf_fc (sf_okb_t zb_h79_n zb_e291_8) (sf_fc (sf_okb_t zb_h79_n zb_e291_9) (sf_fc (sf_okb_t zb_h79_n zb_e291_10) (sf_fc (sf_okb_t zb_h79_n zb_e291_11) (sf_fc (sf_okb_t zb_h79_n zb_e291_12) (sf_fc (sf_okb_t zb_h79_n zb_e291_13) (sf_fc (sf_okb_t zb_h79_n zb_e291_14) (sf_fc (sf_okb_t zb_h79_n zb_e291_15) (sf_fc (sf_okb_t zb_h79_n zb_e291_16) (sf_fc (sf_okb_t zb_h79_n zb_e291_17) (sf_fc (sf_okb_t zb_h79_n zb_e291_18) sf_fn)))))))))))))))))))
/-- X9_looks -/
def zb_m292 : sf_M := (3997696, 16333553616007998046963562849740359991808, zb_h64, zb_h64, [88, 116, 119], [])
def zb_t292_0 : sf_T := (3997696, 16333553616007998046963562849740359991808, [], zb_h64, [], [(0, 1)])
def zb_t292_1 : sf_T := (3997698, 105228117901436304798911701896198319814493576626688, [], zb_h64, [(1000, 1)], [(0, 0), (1, 0), (0, 0)])
def zb_l292 : List sf_T := [zb_t292_0, zb_t292_1]
noncomputable def zb_b292 : en_T := (fun _ => none)
theorem zb_e292_0 : sf_okb (sf_fin 133 zb_h64 []) zb_b292 61 2 0 133 24 zb_l292 [1] zb_t292_0 = true := by decide +kernel
theorem zb_e292_1 : sf_okb (sf_fin 133 zb_h64 []) zb_b292 61 2 0 133 74 zb_l292 [1] zb_t292_1 = true := by decide +kernel
theorem zb_i292 : (zb_m292.1, zb_m292.2.1, ([] : List Nat), zb_m292.2.2.1, [], [(0, 1)]) ∈ zb_l292 := List.mem_cons_self
theorem zb_k292 (hS : ∀ ρ, en_SA E ρ ω mt_SB) (hX : sf_JX J) (hM : sf_MnB E ω J) : sf_Kok E ω J 2 0 133 zb_m292 := sf_K_of hS sf_TS_n (sf_nL (by decide +kernel)) rfl zb_h64_n zb_h64_n (by decide +kernel) (by decide +kernel) (by decide +kernel) zb_i292 (sf_fc (sf_okb_t zb_h64_n zb_e292_0) (sf_fc (sf_okb_t zb_h64_n zb_e292_1) sf_fn))
/-- X9_skillAt -/
def zb_m293 : sf_M := (5898240, 31057858561361006066813557893367387256691902665387575781551385216025344, zb_h66, zb_h66, [88, 98], [73786976299133173759])
def zb_t293_0 : sf_T := (5898240, 31057858561361006066813557893367387256691902665387575781551385216025344, [], zb_h66, [(1000, 1), (1000, 2)], [(0, 0)])
def zb_l293 : List sf_T := [zb_t293_0]
noncomputable def zb_b293 : en_T := (fun _ => none)
theorem zb_e293_0 : sf_okb (sf_fin 133 zb_h66 [73786976299133173759]) zb_b293 90 3 0 133 58 zb_l293 [] zb_t293_0 = true := by decide +kernel
theorem zb_i293 : (zb_m293.1, zb_m293.2.1, ([] : List Nat), zb_m293.2.2.1, [(1000, 1), (1000, 2)], [(0, 0)]) ∈ zb_l293 := List.mem_cons_self
theorem zb_k293 (hS : ∀ ρ, en_SA E ρ ω mt_SB) (hX : sf_JX J) (hM : sf_MnB E ω J) : sf_Kok E ω J 3 0 133 zb_m293 := sf_K_of hS sf_TS_n (sf_nL (by decide +kernel)) rfl zb_h66_n zb_h66_n (by decide +kernel) (by decide +kernel) (by decide +kernel) zb_i293 (sf_fc (sf_okb_t zb_h66_n zb_e293_0) sf_fn)
/-- X9_fillsDoing -/
def zb_m294 : sf_M := (1966080, 36582990833331704133769688463878398985241663423791010922004235441607090117855687356087714591454335370296807506695615263104760996201528637261568, zb_h67, zb_h67, [88, 98, 116, 117, 119, 120], [])
def zb_t294_0 : sf_T := (1966080, 36582990833331704133769688463878398985241663423791010922004235441607090117855687356087714591454335370296807506695615263104760996201528637261568, [], zb_h67, [(1000, 1), (1000, 2), (1000, 3), (1000, 4), (1000, 5), (88, 51), (88, 52)], [(0, 1)])
def zb_t294_1 : sf_T := (1966088, 209496998917547409953475300355948448183151193670086816111875925103330289972534760558658065480983846666955816962371948440012616040572829811408636523579136, [], zb_h67, [(1000, 1), (1000, 2), (1000, 3), (1000, 4), (1000, 5), (1000, 6), (88, 51), (88, 52)], [(0, 0)])
def zb_l294 : List sf_T := [zb_t294_0, zb_t294_1]
noncomputable def zb_b294 : en_T := (sf_tc 5898240 (sf_call 133 [(3, 0, zb_m293)]) (sf_tc 3997696 (sf_call 133 [(2, 0, zb_m292)]) (sf_tc 196608 (sf_call 133 [(6, 4, zb_m33), (6, 4, zb_m34), (6, 4, zb_m35), (6, 4, zb_m36)]) (fun _ => none))))
theorem zb_e294_0 : sf_okb (sf_fin 133 zb_h67 []) zb_b294 30 7 5 133 30 zb_l294 [1] zb_t294_0 = true := by decide +kernel
theorem zb_e294_1 : sf_okb (sf_fin 133 zb_h67 []) zb_b294 30 7 5 133 214 zb_l294 [] zb_t294_1 = true := by decide +kernel
theorem zb_i294 : (zb_m294.1, zb_m294.2.1, ([] : List Nat), zb_m294.2.2.1, [(1000, 1), (1000, 2), (1000, 3), (1000, 4), (1000, 5), (88, 51), (88, 52)], [(0, 1)]) ∈ zb_l294 := List.mem_cons_self
theorem zb_k294 (hS : ∀ ρ, en_SA E ρ ω mt_SB) (hX : sf_JX J) (hM : sf_MnB E ω J) : sf_Kok E ω J 7 5 133 zb_m294 := sf_K_of hS (sf_TS_k (q := 5898240) (nx := 133) (l := [(3, 0, zb_m293)]) hX (sf_fc ⟨(rfl : zb_m293.1 = 5898240), (zb_k293 hS hX hM)⟩ sf_fn) (sf_TS_k (q := 3997696) (nx := 133) (l := [(2, 0, zb_m292)]) hX (sf_fc ⟨(rfl : zb_m292.1 = 3997696), (zb_k292 hS hX hM)⟩ sf_fn) (sf_TS_k (q := 196608) (nx := 133) (l := [(6, 4, zb_m33), (6, 4, zb_m34), (6, 4, zb_m35), (6, 4, zb_m36)]) hX (sf_fc ⟨(rfl : zb_m33.1 = 196608), (hM _ (List.mem_of_getElem? (i := 33) rfl))⟩ (sf_fc ⟨(rfl : zb_m34.1 = 196608), (hM _ (List.mem_of_getElem? (i := 34) rfl))⟩ (sf_fc ⟨(rfl : zb_m35.1 = 196608), (hM _ (List.mem_of_getElem? (i := 35) rfl))⟩ (sf_fc ⟨(rfl : zb_m36.1 = 196608), (hM _ (List.mem_of_getElem? (i := 36) rfl))⟩ sf_fn)))) sf_TS_n))) (sf_nL (by decide +kernel)) rfl zb_h67_n zb_h67_n (by decide +kernel) (by decide +kernel) (by decide +kernel) zb_i294 (sf_fc (sf_okb_t zb_h67_n zb_e294_0) (sf_fc (sf_okb_t zb_h67_n zb_e294_1) sf_fn))
/-- X9_at -/
def zb_m295 : sf_M := (262144, 4820814133899404084098741977139641793531744750205104568664832, zb_h1, zb_h1, [], [83010348325250531333])
def zb_t295_0 : sf_T := (262144, 4820814133899404084098741977139641793531744750205104568664832, [], zb_h1, [(1000, 0)], [(0, 1)])
def zb_t295_1 : sf_T := (262156, 31057858561361006067830763032960584723497155613519082123075237680513792, [], zb_h1, [(1000, 0), (1000, 2)], [(0, 0)])
def zb_l295 : List sf_T := [zb_t295_0, zb_t295_1]
noncomputable def zb_b295 : en_T := (fun _ => none)
theorem zb_e295_0 : sf_okb (sf_fin 133 zb_h1 [83010348325250531333]) zb_b295 4 3 1 133 110 zb_l295 [1] zb_t295_0 = true := by decide +kernel
theorem zb_e295_1 : sf_okb (sf_fin 133 zb_h1 [83010348325250531333]) zb_b295 4 3 1 133 36 zb_l295 [] zb_t295_1 = true := by decide +kernel
theorem zb_i295 : (zb_m295.1, zb_m295.2.1, ([] : List Nat), zb_m295.2.2.1, [(1000, 0)], [(0, 1)]) ∈ zb_l295 := List.mem_cons_self
theorem zb_k295 (hS : ∀ ρ, en_SA E ρ ω mt_SB) (hX : sf_JX J) (hM : sf_MnB E ω J) : sf_Kok E ω J 3 1 133 zb_m295 := sf_K_of hS sf_TS_n (sf_nL (by decide +kernel)) rfl zb_h1_n zb_h1_n (by decide +kernel) (by decide +kernel) (by decide +kernel) zb_i295 (sf_fc (sf_okb_t zb_h1_n zb_e295_0) (sf_fc (sf_okb_t zb_h1_n zb_e295_1) sf_fn))
/-- X9_at -/
def zb_m296 : sf_M := (262144, 4820814133899404084098741977143444745332429438409594678280960, zb_h1, zb_h1, [], [83010348325250531333])
def zb_t296_0 : sf_T := (262144, 4820814133899404084098741977143444745332429438409594678280960, [], zb_h1, [(1000, 0)], [(0, 1)])
def zb_t296_1 : sf_T := (262156, 31057858561361006067830763032960584723500958565319766811279727790129920, [], zb_h1, [(1000, 0), (1000, 2)], [(0, 0)])
def zb_l296 : List sf_T := [zb_t296_0, zb_t296_1]
noncomputable def zb_b296 : en_T := (fun _ => none)
theorem zb_e296_0 : sf_okb (sf_fin 133 zb_h1 [83010348325250531333]) zb_b296 4 3 1 133 56 zb_l296 [1] zb_t296_0 = true := by decide +kernel
theorem zb_e296_1 : sf_okb (sf_fin 133 zb_h1 [83010348325250531333]) zb_b296 4 3 1 133 36 zb_l296 [] zb_t296_1 = true := by decide +kernel
theorem zb_i296 : (zb_m296.1, zb_m296.2.1, ([] : List Nat), zb_m296.2.2.1, [(1000, 0)], [(0, 1)]) ∈ zb_l296 := List.mem_cons_self
theorem zb_k296 (hS : ∀ ρ, en_SA E ρ ω mt_SB) (hX : sf_JX J) (hM : sf_MnB E ω J) : sf_Kok E ω J 3 1 133 zb_m296 := sf_K_of hS sf_TS_n (sf_nL (by decide +kernel)) rfl zb_h1_n zb_h1_n (by decide +kernel) (by decide +kernel) (by decide +kernel) zb_i296 (sf_fc (sf_okb_t zb_h1_n zb_e296_0) (sf_fc (sf_okb_t zb_h1_n zb_e296_1) sf_fn))
/-- X9_at -/
def zb_m297 : sf_M := (262144, 4820814133899404084098741977142177094732201209008097975075584, zb_h1, zb_h1, [], [83010348325250531333])
def zb_t297_0 : sf_T := (262144, 4820814133899404084098741977142177094732201209008097975075584, [], zb_h1, [(1000, 0)], [(0, 1)])
def zb_t297_1 : sf_T := (262156, 31057858561361006067830763032960584723499690914719538581878231086924544, [], zb_h1, [(1000, 0), (1000, 2)], [(0, 0)])
def zb_l297 : List sf_T := [zb_t297_0, zb_t297_1]
noncomputable def zb_b297 : en_T := (fun _ => none)
theorem zb_e297_0 : sf_okb (sf_fin 133 zb_h1 [83010348325250531333]) zb_b297 4 3 1 133 74 zb_l297 [1] zb_t297_0 = true := by decide +kernel
theorem zb_e297_1 : sf_okb (sf_fin 133 zb_h1 [83010348325250531333]) zb_b297 4 3 1 133 36 zb_l297 [] zb_t297_1 = true := by decide +kernel
theorem zb_i297 : (zb_m297.1, zb_m297.2.1, ([] : List Nat), zb_m297.2.2.1, [(1000, 0)], [(0, 1)]) ∈ zb_l297 := List.mem_cons_self
theorem zb_k297 (hS : ∀ ρ, en_SA E ρ ω mt_SB) (hX : sf_JX J) (hM : sf_MnB E ω J) : sf_Kok E ω J 3 1 133 zb_m297 := sf_K_of hS sf_TS_n (sf_nL (by decide +kernel)) rfl zb_h1_n zb_h1_n (by decide +kernel) (by decide +kernel) (by decide +kernel) zb_i297 (sf_fc (sf_okb_t zb_h1_n zb_e297_0) (sf_fc (sf_okb_t zb_h1_n zb_e297_1) sf_fn))
/-- X9_at -/
def zb_m298 : sf_M := (262144, 4820814133899404084098741977140909444131972979606601271870208, zb_h1, zb_h1, [], [83010348325250531333])
def zb_t298_0 : sf_T := (262144, 4820814133899404084098741977140909444131972979606601271870208, [], zb_h1, [(1000, 0)], [(0, 1)])
def zb_t298_1 : sf_T := (262156, 31057858561361006067830763032960584723498423264119310352476734383719168, [], zb_h1, [(1000, 0), (1000, 2)], [(0, 0)])
def zb_l298 : List sf_T := [zb_t298_0, zb_t298_1]
noncomputable def zb_b298 : en_T := (fun _ => none)
theorem zb_e298_0 : sf_okb (sf_fin 133 zb_h1 [83010348325250531333]) zb_b298 4 3 1 133 92 zb_l298 [1] zb_t298_0 = true := by decide +kernel
theorem zb_e298_1 : sf_okb (sf_fin 133 zb_h1 [83010348325250531333]) zb_b298 4 3 1 133 36 zb_l298 [] zb_t298_1 = true := by decide +kernel
theorem zb_i298 : (zb_m298.1, zb_m298.2.1, ([] : List Nat), zb_m298.2.2.1, [(1000, 0)], [(0, 1)]) ∈ zb_l298 := List.mem_cons_self
theorem zb_k298 (hS : ∀ ρ, en_SA E ρ ω mt_SB) (hX : sf_JX J) (hM : sf_MnB E ω J) : sf_Kok E ω J 3 1 133 zb_m298 := sf_K_of hS sf_TS_n (sf_nL (by decide +kernel)) rfl zb_h1_n zb_h1_n (by decide +kernel) (by decide +kernel) (by decide +kernel) zb_i298 (sf_fc (sf_okb_t zb_h1_n zb_e298_0) (sf_fc (sf_okb_t zb_h1_n zb_e298_1) sf_fn))
/-- X9_ordersOf -/
def zb_m299 : sf_M := (4587520, 4820814134004632201975677951514818796926343767777008297181952, zb_h68, zb_h68, [88, 98, 116, 117, 119], [83010348333840465923])
def zb_t299_0 : sf_T := (4587520, 4820814134004632201975677951514818796926343767777008297181952, [], zb_h68, [(1000, 1), (88, 51), (88, 52)], [(0, 1)])
def zb_t299_1 : sf_T := (4587571, 27606985390376131237988087698914973080737518814384213182516637433070336, [], zb_h68, [(1000, 1), (1000, 2), (88, 51), (88, 52)], [(0, 0)])
def zb_l299 : List sf_T := [zb_t299_0, zb_t299_1]
noncomputable def zb_b299 : en_T := (sf_tc 5898240 (sf_call 133 [(3, 0, zb_m293)]) (sf_tc 3997696 (sf_call 133 [(2, 0, zb_m292)]) (sf_tc 196608 (sf_call 133 [(6, 4, zb_m37)]) (fun _ => none))))
theorem zb_e299_0 : sf_okb (sf_fin 133 zb_h68 [83010348333840465923]) zb_b299 70 3 5 133 78 zb_l299 [1] zb_t299_0 = true := by decide +kernel
theorem zb_e299_1 : sf_okb (sf_fin 133 zb_h68 [83010348333840465923]) zb_b299 70 3 5 133 38 zb_l299 [] zb_t299_1 = true := by decide +kernel
theorem zb_i299 : (zb_m299.1, zb_m299.2.1, ([] : List Nat), zb_m299.2.2.1, [(1000, 1), (88, 51), (88, 52)], [(0, 1)]) ∈ zb_l299 := List.mem_cons_self
theorem zb_k299 (hS : ∀ ρ, en_SA E ρ ω mt_SB) (hX : sf_JX J) (hM : sf_MnB E ω J) : sf_Kok E ω J 3 5 133 zb_m299 := sf_K_of hS (sf_TS_k (q := 5898240) (nx := 133) (l := [(3, 0, zb_m293)]) hX (sf_fc ⟨(rfl : zb_m293.1 = 5898240), (zb_k293 hS hX hM)⟩ sf_fn) (sf_TS_k (q := 3997696) (nx := 133) (l := [(2, 0, zb_m292)]) hX (sf_fc ⟨(rfl : zb_m292.1 = 3997696), (zb_k292 hS hX hM)⟩ sf_fn) (sf_TS_k (q := 196608) (nx := 133) (l := [(6, 4, zb_m37)]) hX (sf_fc ⟨(rfl : zb_m37.1 = 196608), (hM _ (List.mem_of_getElem? (i := 37) rfl))⟩ sf_fn) sf_TS_n))) (sf_nL (by decide +kernel)) rfl zb_h68_n zb_h68_n (by decide +kernel) (by decide +kernel) (by decide +kernel) zb_i299 (sf_fc (sf_okb_t zb_h68_n zb_e299_0) (sf_fc (sf_okb_t zb_h68_n zb_e299_1) sf_fn))
/-- X9_fillsDraw -/
def zb_m300 : sf_M := (2031616, 31057858559754068022554567617836314203128233281242810191791013140366080, zb_h67, zb_h67, [88, 98, 116, 117, 119, 120], [])
def zb_t300_0 : sf_T := (2031616, 31057858559754068022554567617836314203128233281242810191791013140366080, [], zb_h67, [(1000, 1), (1000, 2)], [(0, 0)])
def zb_l300 : List sf_T := [zb_t300_0]
noncomputable def zb_b300 : en_T := (sf_tc 4587520 (sf_call 133 [(3, 5, zb_m299)]) (sf_tc 262144 (sf_call 133 [(3, 1, zb_m295), (3, 1, zb_m296), (3, 1, zb_m297), (3, 1, zb_m298)]) (sf_tc 1966080 (sf_call 133 [(7, 5, zb_m294)]) (fun _ => none))))
theorem zb_e300_0 : sf_okb (sf_fin 133 zb_h67 []) zb_b300 31 3 6 133 72 zb_l300 [] zb_t300_0 = true := by decide +kernel
theorem zb_i300 : (zb_m300.1, zb_m300.2.1, ([] : List Nat), zb_m300.2.2.1, [(1000, 1), (1000, 2)], [(0, 0)]) ∈ zb_l300 := List.mem_cons_self
theorem zb_k300 (hS : ∀ ρ, en_SA E ρ ω mt_SB) (hX : sf_JX J) (hM : sf_MnB E ω J) : sf_Kok E ω J 3 6 133 zb_m300 := sf_K_of hS (sf_TS_k (q := 4587520) (nx := 133) (l := [(3, 5, zb_m299)]) hX (sf_fc ⟨(rfl : zb_m299.1 = 4587520), (zb_k299 hS hX hM)⟩ sf_fn) (sf_TS_k (q := 262144) (nx := 133) (l := [(3, 1, zb_m295), (3, 1, zb_m296), (3, 1, zb_m297), (3, 1, zb_m298)]) hX (sf_fc ⟨(rfl : zb_m295.1 = 262144), (zb_k295 hS hX hM)⟩ (sf_fc ⟨(rfl : zb_m296.1 = 262144), (zb_k296 hS hX hM)⟩ (sf_fc ⟨(rfl : zb_m297.1 = 262144), (zb_k297 hS hX hM)⟩ (sf_fc ⟨(rfl : zb_m298.1 = 262144), (zb_k298 hS hX hM)⟩ sf_fn)))) (sf_TS_k (q := 1966080) (nx := 133) (l := [(7, 5, zb_m294)]) hX (sf_fc ⟨(rfl : zb_m294.1 = 1966080), (zb_k294 hS hX hM)⟩ sf_fn) sf_TS_n))) (sf_nL (by decide +kernel)) rfl zb_h67_n zb_h67_n (by decide +kernel) (by decide +kernel) (by decide +kernel) zb_i300 (sf_fc (sf_okb_t zb_h67_n zb_e300_0) sf_fn)
end SFP
