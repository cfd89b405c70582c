/-! CONTRACTS, by program (wip/p3/emit.py) -/
section SFP
variable {E : mm_E} {ω : Nat → Value} {J : mm_H → Prop}
def zb_h63 : en_H := (((((((0, 0), 0), 0), ((0, 0), (0, 0))), ((((((0, (0, 0)), 0), 0), ((((0, 0), (0, (0, 0))), (((0, 0), 0), (0, (0, (0, 0))))), 0)), ((0, 0), 0)), (0, ((((0, 0), ((0, 0), ((0, 0), 0))), (((0, (0, 0)), ((0, 0), (0, 0))), (((0, 0), (0, 0)), ((0, 0), (0, 0))))), (((((0, 0), (0, 0)), ((0, 0), (0, 0))), (((0, 0), (0, 0)), ((0, 0), (0, 0)))), ((((0, 0), (0, 0)), ((0, 0), (0, (0, 0)))), ((((0, 0), (0, 0)), ((0, 0), 0)), (0, (0, (0, 0)))))))))), zb_r3), ((((((0, 0), 0), (0, (0, 0))), (0, 0)), 0), ((((((((0, 0), 0), (0, 0)), (0, (0, zb_r5))), 0), (0, (((0, 0), (0, 0)), ((0, 0), (0, 0))))), 0), (((0, zb_r6), zb_r6), (0, ((0, ((0, 0), (0, 0))), (((0, 0), (0, 0)), ((0, 0), ((0, 0), (0, 0))))))))))
theorem zb_h63_n : sf_nlh zb_h63 136 = true := by decide +kernel
/-- X9_copies -/
def zb_m222 : sf_M := (1114112, 16333553616007998046963562849740359991808, zb_h63, zb_h63, [88, 105, 118, 119], [])
def zb_t222_0 : sf_T := (1114112, 16333553616007998046963562849740359991808, [], zb_h63, [], [(0, 0)])
def zb_l222 : List sf_T := [zb_t222_0]
noncomputable def zb_b222 : en_T := (fun _ => none)
theorem zb_e222_0 : sf_okb (sf_fin 133 zb_h63 []) zb_b222 17 2 0 133 1612 zb_l222 [] zb_t222_0 = true := by decide +kernel
theorem zb_i222 : (zb_m222.1, zb_m222.2.1, ([] : List Nat), zb_m222.2.2.1, [], [(0, 0)]) ∈ zb_l222 := List.mem_cons_self
theorem zb_k222 (hS : ∀ ρ, en_SA E ρ ω mt_SB) (hX : sf_JX J) (hM : sf_MnB E ω J) : sf_Kok E ω J 2 0 133 zb_m222 := sf_K_of hS sf_TS_n (sf_nL (by decide +kernel)) rfl zb_h63_n zb_h63_n (by decide +kernel) (by decide +kernel) (by decide +kernel) zb_i222 (sf_fc (sf_okb_t zb_h63_n zb_e222_0) sf_fn)
def zb_h64 : en_H := (((((((0, 0), 0), 0), ((0, 0), (0, 0))), ((((((0, (0, 0)), 0), 0), ((((0, 0), (0, (0, 0))), (((0, 0), 0), (0, (0, (0, 0))))), 0)), ((0, 0), 0)), (0, ((((0, 0), ((0, 0), ((0, 0), 0))), (((0, (0, 0)), ((0, 0), (0, 0))), (((0, 0), (0, 0)), ((0, 0), (0, 0))))), (((((0, 0), (0, 0)), ((0, 0), (0, 0))), (((0, 0), (0, 0)), ((0, 0), (0, 0)))), ((((0, 0), (0, 0)), ((0, 0), (0, (0, 0)))), ((((0, 0), (0, 0)), ((0, 0), 0)), (0, (0, (0, 0)))))))))), zb_r3), ((((((0, 0), 0), (0, (0, 0))), (0, 0)), 0), ((((((((0, 0), 0), (0, 0)), (0, (0, 0))), 0), (0, (((0, 0), (0, 0)), ((0, 0), (0, 0))))), zb_r1), (((0, 0), zb_r6), (0, ((0, ((0, 0), (0, 0))), (((0, 0), (0, 0)), ((0, 0), ((0, 0), (0, 0))))))))))
theorem zb_h64_n : sf_nlh zb_h64 136 = true := by decide +kernel
/-- X9_looks -/
def zb_m223 : sf_M := (3997696, 16333553616007998046963562849740359991808, zb_h64, zb_h64, [88, 116, 119], [])
def zb_t223_0 : sf_T := (3997696, 16333553616007998046963562849740359991808, [], zb_h64, [], [(0, 1)])
def zb_t223_1 : sf_T := (3997698, 105228117901436304798911701896198319814493576626688, [], zb_h64, [(1000, 1)], [(0, 0), (1, 0), (0, 0)])
def zb_l223 : List sf_T := [zb_t223_0, zb_t223_1]
noncomputable def zb_b223 : en_T := (fun _ => none)
theorem zb_e223_0 : sf_okb (sf_fin 133 zb_h64 []) zb_b223 61 2 0 133 24 zb_l223 [1] zb_t223_0 = true := by decide +kernel
theorem zb_e223_1 : sf_okb (sf_fin 133 zb_h64 []) zb_b223 61 2 0 133 74 zb_l223 [1] zb_t223_1 = true := by decide +kernel
theorem zb_i223 : (zb_m223.1, zb_m223.2.1, ([] : List Nat), zb_m223.2.2.1, [], [(0, 1)]) ∈ zb_l223 := List.mem_cons_self
theorem zb_k223 (hS : ∀ ρ, en_SA E ρ ω mt_SB) (hX : sf_JX J) (hM : sf_MnB E ω J) : sf_Kok E ω J 2 0 133 zb_m223 := sf_K_of hS sf_TS_n (sf_nL (by decide +kernel)) rfl zb_h64_n zb_h64_n (by decide +kernel) (by decide +kernel) (by decide +kernel) zb_i223 (sf_fc (sf_okb_t zb_h64_n zb_e223_0) (sf_fc (sf_okb_t zb_h64_n zb_e223_1) sf_fn))
def zb_h65 : en_H := (((((((0, 0), 0), 0), ((0, 0), (0, 0))), ((((((0, (0, 0)), 0), 0), ((((0, 0), (0, (0, 0))), (((0, 0), 0), (0, (0, (0, 0))))), 0)), ((0, 0), 0)), (0, ((((0, 0), ((0, 0), ((0, 0), 0))), (((0, (0, 0)), ((0, 0), (0, 0))), (((0, 0), (0, 0)), ((0, 0), (0, 0))))), (((((0, 0), (0, 0)), ((0, 0), (0, 0))), (((0, 0), (0, 0)), ((0, 0), (0, 0)))), ((((0, 0), (0, 0)), ((0, 0), (0, (0, 0)))), ((((0, 0), (0, 0)), ((0, 0), 0)), (0, (0, (0, 0)))))))))), zb_r3), ((((((0, 0), 0), (0, (0, 0))), (0, 0)), 0), ((((((((0, 0), 0), (0, 0)), (0, (0, 0))), 0), (0, (((0, 0), (0, 0)), ((0, 0), (0, 0))))), zb_r1), (((zb_r2, 0), zb_r6), (0, ((0, ((0, 0), (0, 0))), (((0, 0), (0, 0)), ((0, 0), ((0, 0), (0, 0))))))))))
theorem zb_h65_n : sf_nlh zb_h65 136 = true := by decide +kernel
/-- X9_dangerNow -/
def zb_m224 : sf_M := (1310720, 36893488525376225536, zb_h65, zb_h65, [88, 116, 117, 119], [83010348333840465929])
def zb_t224_0 : sf_T := (1310720, 36893488525376225536, [], zb_h65, [], [(0, 0)])
def zb_l224 : List sf_T := [zb_t224_0]
noncomputable def zb_b224 : en_T := (sf_tc 3997696 (sf_call 133 [(2, 0, zb_m223)]) (sf_tc 196608 (sf_call 133 [(6, 4, zb_m38)]) (fun _ => none)))
theorem zb_e224_0 : sf_okb (sf_fin 133 zb_h65 [83010348333840465929]) zb_b224 20 1 5 133 38 zb_l224 [] zb_t224_0 = true := by decide +kernel
theorem zb_i224 : (zb_m224.1, zb_m224.2.1, ([] : List Nat), zb_m224.2.2.1, [], [(0, 0)]) ∈ zb_l224 := List.mem_cons_self
theorem zb_k224 (hS : ∀ ρ, en_SA E ρ ω mt_SB) (hX : sf_JX J) (hM : sf_MnB E ω J) : sf_Kok E ω J 1 5 133 zb_m224 := sf_K_of hS (sf_TS_k (q := 3997696) (nx := 133) (l := [(2, 0, zb_m223)]) hX (sf_fc ⟨(rfl : zb_m223.1 = 3997696), (zb_k223 hS hX hM)⟩ sf_fn) (sf_TS_k (q := 196608) (nx := 133) (l := [(6, 4, zb_m38)]) hX (sf_fc ⟨(rfl : zb_m38.1 = 196608), (hM _ (List.mem_of_getElem? (i := 38) rfl))⟩ sf_fn) sf_TS_n)) (sf_nL (by decide +kernel)) rfl zb_h65_n zb_h65_n (by decide +kernel) (by decide +kernel) (by decide +kernel) zb_i224 (sf_fc (sf_okb_t zb_h65_n zb_e224_0) sf_fn)
/-- X9_windNow -/
def zb_m225 : sf_M := (7208960, 36893488525376225536, zb_h65, zb_h65, [88, 116, 117, 119], [83010348333840465929])
def zb_t225_0 : sf_T := (7208960, 36893488525376225536, [], zb_h65, [], [(0, 0)])
def zb_l225 : List sf_T := [zb_t225_0]
noncomputable def zb_b225 : en_T := (sf_tc 3997696 (sf_call 133 [(2, 0, zb_m223)]) (sf_tc 196608 (sf_call 133 [(6, 4, zb_m38)]) (fun _ => none)))
theorem zb_e225_0 : sf_okb (sf_fin 133 zb_h65 [83010348333840465929]) zb_b225 110 1 5 133 38 zb_l225 [] zb_t225_0 = true := by decide +kernel
theorem zb_i225 : (zb_m225.1, zb_m225.2.1, ([] : List Nat), zb_m225.2.2.1, [], [(0, 0)]) ∈ zb_l225 := List.mem_cons_self
theorem zb_k225 (hS : ∀ ρ, en_SA E ρ ω mt_SB) (hX : sf_JX J) (hM : sf_MnB E ω J) : sf_Kok E ω J 1 5 133 zb_m225 := sf_K_of hS (sf_TS_k (q := 3997696) (nx := 133) (l := [(2, 0, zb_m223)]) hX (sf_fc ⟨(rfl : zb_m223.1 = 3997696), (zb_k223 hS hX hM)⟩ sf_fn) (sf_TS_k (q := 196608) (nx := 133) (l := [(6, 4, zb_m38)]) hX (sf_fc ⟨(rfl : zb_m38.1 = 196608), (hM _ (List.mem_of_getElem? (i := 38) rfl))⟩ sf_fn) sf_TS_n)) (sf_nL (by decide +kernel)) rfl zb_h65_n zb_h65_n (by decide +kernel) (by decide +kernel) (by decide +kernel) zb_i225 (sf_fc (sf_okb_t zb_h65_n zb_e225_0) sf_fn)
/-- X9_weathers -/
def zb_m226 : sf_M := (7077888, 36893488525376225536, zb_h65, zb_h65, [88, 116, 117, 119], [])
def zb_t226_0 : sf_T := (7077888, 36893488525376225536, [], zb_h65, [], [(0, 0)])
def zb_l226 : List sf_T := [zb_t226_0]
noncomputable def zb_b226 : en_T := (sf_tc 7208960 (sf_call 133 [(1, 5, zb_m225)]) (sf_tc 1310720 (sf_call 133 [(1, 5, zb_m224)]) (fun _ => none)))
theorem zb_e226_0 : sf_okb (sf_fin 133 zb_h65 []) zb_b226 108 1 6 133 38 zb_l226 [] zb_t226_0 = true := by decide +kernel
theorem zb_i226 : (zb_m226.1, zb_m226.2.1, ([] : List Nat), zb_m226.2.2.1, [], [(0, 0)]) ∈ zb_l226 := List.mem_cons_self
theorem zb_k226 (hS : ∀ ρ, en_SA E ρ ω mt_SB) (hX : sf_JX J) (hM : sf_MnB E ω J) : sf_Kok E ω J 1 6 133 zb_m226 := sf_K_of hS (sf_TS_k (q := 7208960) (nx := 133) (l := [(1, 5, zb_m225)]) hX (sf_fc ⟨(rfl : zb_m225.1 = 7208960), (zb_k225 hS hX hM)⟩ sf_fn) (sf_TS_k (q := 1310720) (nx := 133) (l := [(1, 5, zb_m224)]) hX (sf_fc ⟨(rfl : zb_m224.1 = 1310720), (zb_k224 hS hX hM)⟩ sf_fn) sf_TS_n)) (sf_nL (by decide +kernel)) rfl zb_h65_n zb_h65_n (by decide +kernel) (by decide +kernel) (by decide +kernel) zb_i226 (sf_fc (sf_okb_t zb_h65_n zb_e226_0) sf_fn)
/-- X9_at -/
def zb_m227 : sf_M := (262144, 4820814133899404084098741977140909444131972979606601271870208, zb_h1, zb_h1, [], [83010348325250531333])
def zb_t227_0 : sf_T := (262144, 4820814133899404084098741977140909444131972979606601271870208, [], zb_h1, [(1000, 0)], [(0, 1)])
def zb_t227_1 : sf_T := (262156, 31057858561361006067830763032960584723498423264119310352476734383719168, [], zb_h1, [(1000, 0), (1000, 2)], [(0, 0)])
def zb_l227 : List sf_T := [zb_t227_0, zb_t227_1]
noncomputable def zb_b227 : en_T := (fun _ => none)
theorem zb_e227_0 : sf_okb (sf_fin 133 zb_h1 [83010348325250531333]) zb_b227 4 3 1 133 92 zb_l227 [1] zb_t227_0 = true := by decide +kernel
theorem zb_e227_1 : sf_okb (sf_fin 133 zb_h1 [83010348325250531333]) zb_b227 4 3 1 133 36 zb_l227 [] zb_t227_1 = true := by decide +kernel
theorem zb_i227 : (zb_m227.1, zb_m227.2.1, ([] : List Nat), zb_m227.2.2.1, [(1000, 0)], [(0, 1)]) ∈ zb_l227 := List.mem_cons_self
theorem zb_k227 (hS : ∀ ρ, en_SA E ρ ω mt_SB) (hX : sf_JX J) (hM : sf_MnB E ω J) : sf_Kok E ω J 3 1 133 zb_m227 := sf_K_of hS sf_TS_n (sf_nL (by decide +kernel)) rfl zb_h1_n zb_h1_n (by decide +kernel) (by decide +kernel) (by decide +kernel) zb_i227 (sf_fc (sf_okb_t zb_h1_n zb_e227_0) (sf_fc (sf_okb_t zb_h1_n zb_e227_1) sf_fn))
def zb_h66 : en_H := (((((((0, 0), 0), 0), ((0, 0), (0, 0))), ((((((0, (0, 0)), 0), 0), ((((0, 0), (0, (0, 0))), (((0, 0), 0), (0, (0, (0, 0))))), 0)), ((0, 0), 0)), (0, ((((0, 0), ((0, 0), ((0, 0), 0))), (((0, (0, 0)), ((0, 0), (0, 0))), (((0, 0), (0, 0)), ((0, 0), (0, 0))))), (((((0, 0), (0, 0)), ((0, 0), (0, 0))), (((0, 0), (0, 0)), ((0, 0), (0, 0)))), ((((0, 0), (0, 0)), ((0, 0), (0, (0, 0)))), ((((0, 0), (0, 0)), ((0, 0), 0)), (0, (0, (0, 0)))))))))), zb_r3), ((((((0, 0), 0), (0, (0, 0))), (0, 0)), 0), ((((((((zb_r7, 0), 0), (0, 0)), (0, (0, 0))), 0), (0, (((0, 0), (0, 0)), ((0, 0), (0, 0))))), 0), (((0, 0), 0), (0, ((0, ((0, 0), (0, 0))), (((0, 0), (0, 0)), ((0, 0), ((0, 0), (0, 0))))))))))
theorem zb_h66_n : sf_nlh zb_h66 136 = true := by decide +kernel
/-- X9_skillAt -/
def zb_m228 : sf_M := (5898240, 31057858561361006066813557893367387256691902665387575781551385216025344, zb_h66, zb_h66, [88, 98], [73786976299133173759])
def zb_t228_0 : sf_T := (5898240, 31057858561361006066813557893367387256691902665387575781551385216025344, [], zb_h66, [(1000, 1), (1000, 2)], [(0, 0)])
def zb_l228 : List sf_T := [zb_t228_0]
noncomputable def zb_b228 : en_T := (fun _ => none)
theorem zb_e228_0 : sf_okb (sf_fin 133 zb_h66 [73786976299133173759]) zb_b228 90 3 0 133 58 zb_l228 [] zb_t228_0 = true := by decide +kernel
theorem zb_i228 : (zb_m228.1, zb_m228.2.1, ([] : List Nat), zb_m228.2.2.1, [(1000, 1), (1000, 2)], [(0, 0)]) ∈ zb_l228 := List.mem_cons_self
theorem zb_k228 (hS : ∀ ρ, en_SA E ρ ω mt_SB) (hX : sf_JX J) (hM : sf_MnB E ω J) : sf_Kok E ω J 3 0 133 zb_m228 := sf_K_of hS sf_TS_n (sf_nL (by decide +kernel)) rfl zb_h66_n zb_h66_n (by decide +kernel) (by decide +kernel) (by decide +kernel) zb_i228 (sf_fc (sf_okb_t zb_h66_n zb_e228_0) sf_fn)
def zb_h67 : en_H := (((((((0, 0), 0), 0), ((0, 0), (0, 0))), ((((((0, (0, 0)), 0), 0), ((((0, 0), (0, (0, 0))), (((0, 0), 0), (0, (0, (0, 0))))), 0)), ((0, 0), 0)), (0, ((((0, 0), ((0, 0), ((0, 0), 0))), (((0, (0, 0)), ((0, 0), (0, 0))), (((0, 0), (0, 0)), ((0, 0), (0, 0))))), (((((0, 0), (0, 0)), ((0, 0), (0, 0))), (((0, 0), (0, 0)), ((0, 0), (0, 0)))), ((((0, 0), (0, 0)), ((0, 0), (0, (0, 0)))), ((((0, 0), (0, 0)), ((0, 0), 0)), (0, (0, (0, 0)))))))))), zb_r3), ((((((0, 0), 0), (0, (0, 0))), (0, 0)), 0), ((((((((zb_r7, 0), 0), (0, 0)), (0, (0, 0))), 0), (0, (((0, 0), (0, 0)), ((0, 0), (0, 0))))), zb_r1), (((zb_r2, 0), zb_r6), (zb_r12, ((0, ((0, 0), (0, 0))), (((0, 0), (0, 0)), ((0, 0), ((0, 0), (0, 0))))))))))
theorem zb_h67_n : sf_nlh zb_h67 136 = true := by decide +kernel
/-- X9_fillsDoing -/
def zb_m229 : sf_M := (1966080, 36582990833331704133769688463878398985241663423791010922004235441607090117855687356087714591454335370296807506695615263104760996201528637261568, zb_h67, zb_h67, [88, 98, 116, 117, 119, 120], [])
def zb_t229_0 : sf_T := (1966080, 36582990833331704133769688463878398985241663423791010922004235441607090117855687356087714591454335370296807506695615263104760996201528637261568, [], zb_h67, [(1000, 1), (1000, 2), (1000, 3), (1000, 4), (1000, 5), (88, 51), (88, 52)], [(0, 1)])
def zb_t229_1 : sf_T := (1966088, 209496998917547409953475300355948448183151193670086816111875925103330289972534760558658065480983846666955816962371948440012616040572829811408636523579136, [], zb_h67, [(1000, 1), (1000, 2), (1000, 3), (1000, 4), (1000, 5), (1000, 6), (88, 51), (88, 52)], [(0, 0)])
def zb_l229 : List sf_T := [zb_t229_0, zb_t229_1]
noncomputable def zb_b229 : en_T := (sf_tc 5898240 (sf_call 133 [(3, 0, zb_m228)]) (sf_tc 3997696 (sf_call 133 [(2, 0, zb_m223)]) (sf_tc 196608 (sf_call 133 [(6, 4, zb_m38), (6, 4, zb_m39), (6, 4, zb_m40), (6, 4, zb_m41)]) (fun _ => none))))
theorem zb_e229_0 : sf_okb (sf_fin 133 zb_h67 []) zb_b229 30 7 5 133 30 zb_l229 [1] zb_t229_0 = true := by decide +kernel
theorem zb_e229_1 : sf_okb (sf_fin 133 zb_h67 []) zb_b229 30 7 5 133 214 zb_l229 [] zb_t229_1 = true := by decide +kernel
theorem zb_i229 : (zb_m229.1, zb_m229.2.1, ([] : List Nat), zb_m229.2.2.1, [(1000, 1), (1000, 2), (1000, 3), (1000, 4), (1000, 5), (88, 51), (88, 52)], [(0, 1)]) ∈ zb_l229 := List.mem_cons_self
theorem zb_k229 (hS : ∀ ρ, en_SA E ρ ω mt_SB) (hX : sf_JX J) (hM : sf_MnB E ω J) : sf_Kok E ω J 7 5 133 zb_m229 := sf_K_of hS (sf_TS_k (q := 5898240) (nx := 133) (l := [(3, 0, zb_m228)]) hX (sf_fc ⟨(rfl : zb_m228.1 = 5898240), (zb_k228 hS hX hM)⟩ sf_fn) (sf_TS_k (q := 3997696) (nx := 133) (l := [(2, 0, zb_m223)]) hX (sf_fc ⟨(rfl : zb_m223.1 = 3997696), (zb_k223 hS hX hM)⟩ sf_fn) (sf_TS_k (q := 196608) (nx := 133) (l := [(6, 4, zb_m38), (6, 4, zb_m39), (6, 4, zb_m40), (6, 4, zb_m41)]) hX (sf_fc ⟨(rfl : zb_m38.1 = 196608), (hM _ (List.mem_of_getElem? (i := 38) rfl))⟩ (sf_fc ⟨(rfl : zb_m39.1 = 196608), (hM _ (List.mem_of_getElem? (i := 39) rfl))⟩ (sf_fc ⟨(rfl : zb_m40.1 = 196608), (hM _ (List.mem_of_getElem? (i := 40) rfl))⟩ (sf_fc ⟨(rfl : zb_m41.1 = 196608), (hM _ (List.mem_of_getElem? (i := 41) rfl))⟩ sf_fn)))) sf_TS_n))) (sf_nL (by decide +kernel)) rfl zb_h67_n zb_h67_n (by decide +kernel) (by decide +kernel) (by decide +kernel) zb_i229 (sf_fc (sf_okb_t zb_h67_n zb_e229_0) (sf_fc (sf_okb_t zb_h67_n zb_e229_1) sf_fn))
def zb_h68 : en_H := (((((((0, 0), 0), 0), ((0, 0), (0, 0))), ((((((0, (0, 0)), 0), 0), ((((0, 0), (0, (0, 0))), (((0, 0), 0), (0, (0, (0, 0))))), 0)), ((0, 0), 0)), (0, ((((0, 0), ((0, 0), ((0, 0), 0))), (((0, (0, 0)), ((0, 0), (0, 0))), (((0, 0), (0, 0)), ((0, 0), (0, 0))))), (((((0, 0), (0, 0)), ((0, 0), (0, 0))), (((0, 0), (0, 0)), ((0, 0), (0, 0)))), ((((0, 0), (0, 0)), ((0, 0), (0, (0, 0)))), ((((0, 0), (0, 0)), ((0, 0), 0)), (0, (0, (0, 0)))))))))), zb_r3), ((((((0, 0), 0), (0, (0, 0))), (0, 0)), 0), ((((((((zb_r7, 0), 0), (0, 0)), (0, (0, 0))), 0), (0, (((0, 0), (0, 0)), ((0, 0), (0, 0))))), zb_r1), (((zb_r2, 0), zb_r6), (0, ((0, ((0, 0), (0, 0))), (((0, 0), (0, 0)), ((0, 0), ((0, 0), (0, 0))))))))))
theorem zb_h68_n : sf_nlh zb_h68 136 = true := by decide +kernel
/-- X9_ordersOf -/
def zb_m230 : sf_M := (4587520, 4820814134004632201975677951514818796926343767777008297181952, zb_h68, zb_h68, [88, 98, 116, 117, 119], [83010348333840465923])
def zb_t230_0 : sf_T := (4587520, 4820814134004632201975677951514818796926343767777008297181952, [], zb_h68, [(1000, 1), (88, 51), (88, 52)], [(0, 1)])
def zb_t230_1 : sf_T := (4587571, 27606985390376131237988087698914973080737518814384213182516637433070336, [], zb_h68, [(1000, 1), (1000, 2), (88, 51), (88, 52)], [(0, 0)])
def zb_l230 : List sf_T := [zb_t230_0, zb_t230_1]
noncomputable def zb_b230 : en_T := (sf_tc 5898240 (sf_call 133 [(3, 0, zb_m228)]) (sf_tc 3997696 (sf_call 133 [(2, 0, zb_m223)]) (sf_tc 196608 (sf_call 133 [(6, 4, zb_m42)]) (fun _ => none))))
theorem zb_e230_0 : sf_okb (sf_fin 133 zb_h68 [83010348333840465923]) zb_b230 70 3 5 133 78 zb_l230 [1] zb_t230_0 = true := by decide +kernel
theorem zb_e230_1 : sf_okb (sf_fin 133 zb_h68 [83010348333840465923]) zb_b230 70 3 5 133 38 zb_l230 [] zb_t230_1 = true := by decide +kernel
theorem zb_i230 : (zb_m230.1, zb_m230.2.1, ([] : List Nat), zb_m230.2.2.1, [(1000, 1), (88, 51), (88, 52)], [(0, 1)]) ∈ zb_l230 := List.mem_cons_self
theorem zb_k230 (hS : ∀ ρ, en_SA E ρ ω mt_SB) (hX : sf_JX J) (hM : sf_MnB E ω J) : sf_Kok E ω J 3 5 133 zb_m230 := sf_K_of hS (sf_TS_k (q := 5898240) (nx := 133) (l := [(3, 0, zb_m228)]) hX (sf_fc ⟨(rfl : zb_m228.1 = 5898240), (zb_k228 hS hX hM)⟩ sf_fn) (sf_TS_k (q := 3997696) (nx := 133) (l := [(2, 0, zb_m223)]) hX (sf_fc ⟨(rfl : zb_m223.1 = 3997696), (zb_k223 hS hX hM)⟩ sf_fn) (sf_TS_k (q := 196608) (nx := 133) (l := [(6, 4, zb_m42)]) hX (sf_fc ⟨(rfl : zb_m42.1 = 196608), (hM _ (List.mem_of_getElem? (i := 42) rfl))⟩ sf_fn) sf_TS_n))) (sf_nL (by decide +kernel)) rfl zb_h68_n zb_h68_n (by decide +kernel) (by decide +kernel) (by decide +kernel) zb_i230 (sf_fc (sf_okb_t zb_h68_n zb_e230_0) (sf_fc (sf_okb_t zb_h68_n zb_e230_1) sf_fn))
/-- X9_at -/
def zb_m231 : sf_M := (262144, 4820814133899404084098741977139641793531744750205104568664832, zb_h1, zb_h1, [], [83010348325250531333])
def zb_t231_0 : sf_T := (262144, 4820814133899404084098741977139641793531744750205104568664832, [], zb_h1, [(1000, 0)], [(0, 1)])
def zb_t231_1 : sf_T := (262156, 31057858561361006067830763032960584723497155613519082123075237680513792, [], zb_h1, [(1000, 0), (1000, 2)], [(0, 0)])
def zb_l231 : List sf_T := [zb_t231_0, zb_t231_1]
noncomputable def zb_b231 : en_T := (fun _ => none)
theorem zb_e231_0 : sf_okb (sf_fin 133 zb_h1 [83010348325250531333]) zb_b231 4 3 1 133 110 zb_l231 [1] zb_t231_0 = true := by decide +kernel
theorem zb_e231_1 : sf_okb (sf_fin 133 zb_h1 [83010348325250531333]) zb_b231 4 3 1 133 36 zb_l231 [] zb_t231_1 = true := by decide +kernel
theorem zb_i231 : (zb_m231.1, zb_m231.2.1, ([] : List Nat), zb_m231.2.2.1, [(1000, 0)], [(0, 1)]) ∈ zb_l231 := List.mem_cons_self
theorem zb_k231 (hS : ∀ ρ, en_SA E ρ ω mt_SB) (hX : sf_JX J) (hM : sf_MnB E ω J) : sf_Kok E ω J 3 1 133 zb_m231 := sf_K_of hS sf_TS_n (sf_nL (by decide +kernel)) rfl zb_h1_n zb_h1_n (by decide +kernel) (by decide +kernel) (by decide +kernel) zb_i231 (sf_fc (sf_okb_t zb_h1_n zb_e231_0) (sf_fc (sf_okb_t zb_h1_n zb_e231_1) sf_fn))
/-- X9_at -/
def zb_m232 : sf_M := (262144, 4820814133899404084098741977142177094732201209008097975075584, zb_h1, zb_h1, [], [83010348325250531333])
def zb_t232_0 : sf_T := (262144, 4820814133899404084098741977142177094732201209008097975075584, [], zb_h1, [(1000, 0)], [(0, 1)])
def zb_t232_1 : sf_T := (262156, 31057858561361006067830763032960584723499690914719538581878231086924544, [], zb_h1, [(1000, 0), (1000, 2)], [(0, 0)])
def zb_l232 : List sf_T := [zb_t232_0, zb_t232_1]
noncomputable def zb_b232 : en_T := (fun _ => none)
theorem zb_e232_0 : sf_okb (sf_fin 133 zb_h1 [83010348325250531333]) zb_b232 4 3 1 133 74 zb_l232 [1] zb_t232_0 = true := by decide +kernel
theorem zb_e232_1 : sf_okb (sf_fin 133 zb_h1 [83010348325250531333]) zb_b232 4 3 1 133 36 zb_l232 [] zb_t232_1 = true := by decide +kernel
theorem zb_i232 : (zb_m232.1, zb_m232.2.1, ([] : List Nat), zb_m232.2.2.1, [(1000, 0)], [(0, 1)]) ∈ zb_l232 := List.mem_cons_self
theorem zb_k232 (hS : ∀ ρ, en_SA E ρ ω mt_SB) (hX : sf_JX J) (hM : sf_MnB E ω J) : sf_Kok E ω J 3 1 133 zb_m232 := sf_K_of hS sf_TS_n (sf_nL (by decide +kernel)) rfl zb_h1_n zb_h1_n (by decide +kernel) (by decide +kernel) (by decide +kernel) zb_i232 (sf_fc (sf_okb_t zb_h1_n zb_e232_0) (sf_fc (sf_okb_t zb_h1_n zb_e232_1) sf_fn))
/-- X9_at -/
def zb_m233 : sf_M := (262144, 4820814133899404084098741977143444745332429438409594678280960, zb_h1, zb_h1, [], [83010348325250531333])
def zb_t233_0 : sf_T := (262144, 4820814133899404084098741977143444745332429438409594678280960, [], zb_h1, [(1000, 0)], [(0, 1)])
def zb_t233_1 : sf_T := (262156, 31057858561361006067830763032960584723500958565319766811279727790129920, [], zb_h1, [(1000, 0), (1000, 2)], [(0, 0)])
def zb_l233 : List sf_T := [zb_t233_0, zb_t233_1]
noncomputable def zb_b233 : en_T := (fun _ => none)
theorem zb_e233_0 : sf_okb (sf_fin 133 zb_h1 [83010348325250531333]) zb_b233 4 3 1 133 56 zb_l233 [1] zb_t233_0 = true := by decide +kernel
theorem zb_e233_1 : sf_okb (sf_fin 133 zb_h1 [83010348325250531333]) zb_b233 4 3 1 133 36 zb_l233 [] zb_t233_1 = true := by decide +kernel
theorem zb_i233 : (zb_m233.1, zb_m233.2.1, ([] : List Nat), zb_m233.2.2.1, [(1000, 0)], [(0, 1)]) ∈ zb_l233 := List.mem_cons_self
theorem zb_k233 (hS : ∀ ρ, en_SA E ρ ω mt_SB) (hX : sf_JX J) (hM : sf_MnB E ω J) : sf_Kok E ω J 3 1 133 zb_m233 := sf_K_of hS sf_TS_n (sf_nL (by decide +kernel)) rfl zb_h1_n zb_h1_n (by decide +kernel) (by decide +kernel) (by decide +kernel) zb_i233 (sf_fc (sf_okb_t zb_h1_n zb_e233_0) (sf_fc (sf_okb_t zb_h1_n zb_e233_1) sf_fn))
/-- X9_fillsDraw -/
def zb_m234 : sf_M := (2031616, 31057858559754068022554567617836314203128233281242810191791013140366080, zb_h67, zb_h67, [88, 98, 116, 117, 119, 120], [])
def zb_t234_0 : sf_T := (2031616, 31057858559754068022554567617836314203128233281242810191791013140366080, [], zb_h67, [(1000, 1), (1000, 2)], [(0, 0)])
def zb_l234 : List sf_T := [zb_t234_0]
noncomputable def zb_b234 : en_T := (sf_tc 4587520 (sf_call 133 [(3, 5, zb_m230)]) (sf_tc 1966080 (sf_call 133 [(7, 5, zb_m229)]) (sf_tc 262144 (sf_call 133 [(3, 1, zb_m227), (3, 1, zb_m231), (3, 1, zb_m232), (3, 1, zb_m233)]) (fun _ => none))))
theorem zb_e234_0 : sf_okb (sf_fin 133 zb_h67 []) zb_b234 31 3 6 133 72 zb_l234 [] zb_t234_0 = true := by decide +kernel
theorem zb_i234 : (zb_m234.1, zb_m234.2.1, ([] : List Nat), zb_m234.2.2.1, [(1000, 1), (1000, 2)], [(0, 0)]) ∈ zb_l234 := List.mem_cons_self
theorem zb_k234 (hS : ∀ ρ, en_SA E ρ ω mt_SB) (hX : sf_JX J) (hM : sf_MnB E ω J) : sf_Kok E ω J 3 6 133 zb_m234 := sf_K_of hS (sf_TS_k (q := 4587520) (nx := 133) (l := [(3, 5, zb_m230)]) hX (sf_fc ⟨(rfl : zb_m230.1 = 4587520), (zb_k230 hS hX hM)⟩ sf_fn) (sf_TS_k (q := 1966080) (nx := 133) (l := [(7, 5, zb_m229)]) hX (sf_fc ⟨(rfl : zb_m229.1 = 1966080), (zb_k229 hS hX hM)⟩ sf_fn) (sf_TS_k (q := 262144) (nx := 133) (l := [(3, 1, zb_m227), (3, 1, zb_m231), (3, 1, zb_m232), (3, 1, zb_m233)]) hX (sf_fc ⟨(rfl : zb_m227.1 = 262144), (zb_k227 hS hX hM)⟩ (sf_fc ⟨(rfl : zb_m231.1 = 262144), (zb_k231 hS hX hM)⟩ (sf_fc ⟨(rfl : zb_m232.1 = 262144), (zb_k232 hS hX hM)⟩ (sf_fc ⟨(rfl : zb_m233.1 = 262144), (zb_k233 hS hX hM)⟩ sf_fn)))) sf_TS_n))) (sf_nL (by decide +kernel)) rfl zb_h67_n zb_h67_n (by decide +kernel) (by decide +kernel) (by decide +kernel) zb_i234 (sf_fc (sf_okb_t zb_h67_n zb_e234_0) sf_fn)
end SFP
