/-! CONTRACTS, by program (wip/p3/emit.py) -/
section SFP
variable {E : mm_E} {ω : Nat → Value} {J : mm_H → Prop}
/-- X9_at -/
def zb_m250 : sf_M := (262144, 4820814133899404084098741977143444745332429438409594678280960, zb_h1, zb_h1, [], [83010348325250531333])
def zb_t250_0 : sf_T := (262144, 4820814133899404084098741977143444745332429438409594678280960, [], zb_h1, [(1000, 0)], [(0, 1)])
def zb_t250_1 : sf_T := (262156, 31057858561361006067830763032960584723500958565319766811279727790129920, [], zb_h1, [(1000, 0), (1000, 2)], [(0, 0)])
def zb_l250 : List sf_T := [zb_t250_0, zb_t250_1]
noncomputable def zb_b250 : en_T := (fun _ => none)
theorem zb_e250_0 : sf_okb (sf_fin 133 zb_h1 [83010348325250531333]) zb_b250 4 3 1 133 56 zb_l250 [1] zb_t250_0 = true := by decide +kernel
theorem zb_e250_1 : sf_okb (sf_fin 133 zb_h1 [83010348325250531333]) zb_b250 4 3 1 133 36 zb_l250 [] zb_t250_1 = true := by decide +kernel
theorem zb_i250 : (zb_m250.1, zb_m250.2.1, ([] : List Nat), zb_m250.2.2.1, [(1000, 0)], [(0, 1)]) ∈ zb_l250 := List.mem_cons_self
theorem zb_k250 (hS : ∀ ρ, en_SA E ρ ω mt_SB) (hX : sf_JX J) (hM : sf_MnB E ω J) : sf_Kok E ω J 3 1 133 zb_m250 := sf_K_of hS sf_TS_n (sf_nL (by decide +kernel)) rfl zb_h1_n zb_h1_n (by decide +kernel) (by decide +kernel) (by decide +kernel) zb_i250 (sf_fc (sf_okb_t zb_h1_n zb_e250_0) (sf_fc (sf_okb_t zb_h1_n zb_e250_1) sf_fn))
/-- X9_at -/
def zb_m251 : sf_M := (262144, 4820814133899404084098741977142177094732201209008097975075584, zb_h1, zb_h1, [], [83010348325250531333])
def zb_t251_0 : sf_T := (262144, 4820814133899404084098741977142177094732201209008097975075584, [], zb_h1, [(1000, 0)], [(0, 1)])
def zb_t251_1 : sf_T := (262156, 31057858561361006067830763032960584723499690914719538581878231086924544, [], zb_h1, [(1000, 0), (1000, 2)], [(0, 0)])
def zb_l251 : List sf_T := [zb_t251_0, zb_t251_1]
noncomputable def zb_b251 : en_T := (fun _ => none)
theorem zb_e251_0 : sf_okb (sf_fin 133 zb_h1 [83010348325250531333]) zb_b251 4 3 1 133 74 zb_l251 [1] zb_t251_0 = true := by decide +kernel
theorem zb_e251_1 : sf_okb (sf_fin 133 zb_h1 [83010348325250531333]) zb_b251 4 3 1 133 36 zb_l251 [] zb_t251_1 = true := by decide +kernel
theorem zb_i251 : (zb_m251.1, zb_m251.2.1, ([] : List Nat), zb_m251.2.2.1, [(1000, 0)], [(0, 1)]) ∈ zb_l251 := List.mem_cons_self
theorem zb_k251 (hS : ∀ ρ, en_SA E ρ ω mt_SB) (hX : sf_JX J) (hM : sf_MnB E ω J) : sf_Kok E ω J 3 1 133 zb_m251 := sf_K_of hS sf_TS_n (sf_nL (by decide +kernel)) rfl zb_h1_n zb_h1_n (by decide +kernel) (by decide +kernel) (by decide +kernel) zb_i251 (sf_fc (sf_okb_t zb_h1_n zb_e251_0) (sf_fc (sf_okb_t zb_h1_n zb_e251_1) sf_fn))
/-- X9_at -/
def zb_m252 : sf_M := (262144, 4820814133899404084098741977140909444131972979606601271870208, zb_h1, zb_h1, [], [83010348325250531333])
def zb_t252_0 : sf_T := (262144, 4820814133899404084098741977140909444131972979606601271870208, [], zb_h1, [(1000, 0)], [(0, 1)])
def zb_t252_1 : sf_T := (262156, 31057858561361006067830763032960584723498423264119310352476734383719168, [], zb_h1, [(1000, 0), (1000, 2)], [(0, 0)])
def zb_l252 : List sf_T := [zb_t252_0, zb_t252_1]
noncomputable def zb_b252 : en_T := (fun _ => none)
theorem zb_e252_0 : sf_okb (sf_fin 133 zb_h1 [83010348325250531333]) zb_b252 4 3 1 133 92 zb_l252 [1] zb_t252_0 = true := by decide +kernel
theorem zb_e252_1 : sf_okb (sf_fin 133 zb_h1 [83010348325250531333]) zb_b252 4 3 1 133 36 zb_l252 [] zb_t252_1 = true := by decide +kernel
theorem zb_i252 : (zb_m252.1, zb_m252.2.1, ([] : List Nat), zb_m252.2.2.1, [(1000, 0)], [(0, 1)]) ∈ zb_l252 := List.mem_cons_self
theorem zb_k252 (hS : ∀ ρ, en_SA E ρ ω mt_SB) (hX : sf_JX J) (hM : sf_MnB E ω J) : sf_Kok E ω J 3 1 133 zb_m252 := sf_K_of hS sf_TS_n (sf_nL (by decide +kernel)) rfl zb_h1_n zb_h1_n (by decide +kernel) (by decide +kernel) (by decide +kernel) zb_i252 (sf_fc (sf_okb_t zb_h1_n zb_e252_0) (sf_fc (sf_okb_t zb_h1_n zb_e252_1) sf_fn))
/-- X9_skillAt -/
def zb_m253 : sf_M := (5898240, 31057858561361006066813557893367387256691902665387575781551385216025344, zb_h66, zb_h66, [88, 98], [73786976299133173759])
def zb_t253_0 : sf_T := (5898240, 31057858561361006066813557893367387256691902665387575781551385216025344, [], zb_h66, [(1000, 1), (1000, 2)], [(0, 0)])
def zb_l253 : List sf_T := [zb_t253_0]
noncomputable def zb_b253 : en_T := (fun _ => none)
theorem zb_e253_0 : sf_okb (sf_fin 133 zb_h66 [73786976299133173759]) zb_b253 90 3 0 133 58 zb_l253 [] zb_t253_0 = true := by decide +kernel
theorem zb_i253 : (zb_m253.1, zb_m253.2.1, ([] : List Nat), zb_m253.2.2.1, [(1000, 1), (1000, 2)], [(0, 0)]) ∈ zb_l253 := List.mem_cons_self
theorem zb_k253 (hS : ∀ ρ, en_SA E ρ ω mt_SB) (hX : sf_JX J) (hM : sf_MnB E ω J) : sf_Kok E ω J 3 0 133 zb_m253 := sf_K_of hS sf_TS_n (sf_nL (by decide +kernel)) rfl zb_h66_n zb_h66_n (by decide +kernel) (by decide +kernel) (by decide +kernel) zb_i253 (sf_fc (sf_okb_t zb_h66_n zb_e253_0) sf_fn)
/-- X9_looks -/
def zb_m254 : sf_M := (3997696, 16333553616007998046963562849740359991808, zb_h64, zb_h64, [88, 116, 119], [])
def zb_t254_0 : sf_T := (3997696, 16333553616007998046963562849740359991808, [], zb_h64, [], [(0, 1)])
def zb_t254_1 : sf_T := (3997698, 105228117901436304798911701896198319814493576626688, [], zb_h64, [(1000, 1)], [(0, 0), (1, 0), (0, 0)])
def zb_l254 : List sf_T := [zb_t254_0, zb_t254_1]
noncomputable def zb_b254 : en_T := (fun _ => none)
theorem zb_e254_0 : sf_okb (sf_fin 133 zb_h64 []) zb_b254 61 2 0 133 24 zb_l254 [1] zb_t254_0 = true := by decide +kernel
theorem zb_e254_1 : sf_okb (sf_fin 133 zb_h64 []) zb_b254 61 2 0 133 74 zb_l254 [1] zb_t254_1 = true := by decide +kernel
theorem zb_i254 : (zb_m254.1, zb_m254.2.1, ([] : List Nat), zb_m254.2.2.1, [], [(0, 1)]) ∈ zb_l254 := List.mem_cons_self
theorem zb_k254 (hS : ∀ ρ, en_SA E ρ ω mt_SB) (hX : sf_JX J) (hM : sf_MnB E ω J) : sf_Kok E ω J 2 0 133 zb_m254 := sf_K_of hS sf_TS_n (sf_nL (by decide +kernel)) rfl zb_h64_n zb_h64_n (by decide +kernel) (by decide +kernel) (by decide +kernel) zb_i254 (sf_fc (sf_okb_t zb_h64_n zb_e254_0) (sf_fc (sf_okb_t zb_h64_n zb_e254_1) sf_fn))
/-- X9_ordersOf -/
def zb_m255 : sf_M := (4587520, 4820814134004632201975677951514818796926343767777008297181952, zb_h68, zb_h68, [88, 98, 116, 117, 119], [83010348333840465923])
def zb_t255_0 : sf_T := (4587520, 4820814134004632201975677951514818796926343767777008297181952, [], zb_h68, [(1000, 1), (88, 51), (88, 52)], [(0, 1)])
def zb_t255_1 : sf_T := (4587571, 27606985390376131237988087698914973080737518814384213182516637433070336, [], zb_h68, [(1000, 1), (1000, 2), (88, 51), (88, 52)], [(0, 0)])
def zb_l255 : List sf_T := [zb_t255_0, zb_t255_1]
noncomputable def zb_b255 : en_T := (sf_tc 3997696 (sf_call 133 [(2, 0, zb_m254)]) (sf_tc 5898240 (sf_call 133 [(3, 0, zb_m253)]) (sf_tc 196608 (sf_call 133 [(6, 4, zb_m27)]) (fun _ => none))))
theorem zb_e255_0 : sf_okb (sf_fin 133 zb_h68 [83010348333840465923]) zb_b255 70 3 5 133 78 zb_l255 [1] zb_t255_0 = true := by decide +kernel
theorem zb_e255_1 : sf_okb (sf_fin 133 zb_h68 [83010348333840465923]) zb_b255 70 3 5 133 38 zb_l255 [] zb_t255_1 = true := by decide +kernel
theorem zb_i255 : (zb_m255.1, zb_m255.2.1, ([] : List Nat), zb_m255.2.2.1, [(1000, 1), (88, 51), (88, 52)], [(0, 1)]) ∈ zb_l255 := List.mem_cons_self
theorem zb_k255 (hS : ∀ ρ, en_SA E ρ ω mt_SB) (hX : sf_JX J) (hM : sf_MnB E ω J) : sf_Kok E ω J 3 5 133 zb_m255 := sf_K_of hS (sf_TS_k (q := 3997696) (nx := 133) (l := [(2, 0, zb_m254)]) hX (sf_fc ⟨(rfl : zb_m254.1 = 3997696), (zb_k254 hS hX hM)⟩ sf_fn) (sf_TS_k (q := 5898240) (nx := 133) (l := [(3, 0, zb_m253)]) hX (sf_fc ⟨(rfl : zb_m253.1 = 5898240), (zb_k253 hS hX hM)⟩ sf_fn) (sf_TS_k (q := 196608) (nx := 133) (l := [(6, 4, zb_m27)]) hX (sf_fc ⟨(rfl : zb_m27.1 = 196608), (hM _ (List.mem_of_getElem? (i := 27) rfl))⟩ sf_fn) sf_TS_n))) (sf_nL (by decide +kernel)) rfl zb_h68_n zb_h68_n (by decide +kernel) (by decide +kernel) (by decide +kernel) zb_i255 (sf_fc (sf_okb_t zb_h68_n zb_e255_0) (sf_fc (sf_okb_t zb_h68_n zb_e255_1) sf_fn))
/-- X9_fillsDoing -/
def zb_m256 : sf_M := (1966080, 36582990833331704133769688463878398985241663423791010922004235441607090117855687356087714591454335370296807506695615263104760996201528637261568, zb_h67, zb_h67, [88, 98, 116, 117, 119, 120], [])
def zb_t256_0 : sf_T := (1966080, 36582990833331704133769688463878398985241663423791010922004235441607090117855687356087714591454335370296807506695615263104760996201528637261568, [], zb_h67, [(1000, 1), (1000, 2), (1000, 3), (1000, 4), (1000, 5), (88, 51), (88, 52)], [(0, 1)])
def zb_t256_1 : sf_T := (1966088, 209496998917547409953475300355948448183151193670086816111875925103330289972534760558658065480983846666955816962371948440012616040572829811408636523579136, [], zb_h67, [(1000, 1), (1000, 2), (1000, 3), (1000, 4), (1000, 5), (1000, 6), (88, 51), (88, 52)], [(0, 0)])
def zb_l256 : List sf_T := [zb_t256_0, zb_t256_1]
noncomputable def zb_b256 : en_T := (sf_tc 3997696 (sf_call 133 [(2, 0, zb_m254)]) (sf_tc 5898240 (sf_call 133 [(3, 0, zb_m253)]) (sf_tc 196608 (sf_call 133 [(6, 4, zb_m23), (6, 4, zb_m24), (6, 4, zb_m25), (6, 4, zb_m26)]) (fun _ => none))))
theorem zb_e256_0 : sf_okb (sf_fin 133 zb_h67 []) zb_b256 30 7 5 133 30 zb_l256 [1] zb_t256_0 = true := by decide +kernel
theorem zb_e256_1 : sf_okb (sf_fin 133 zb_h67 []) zb_b256 30 7 5 133 214 zb_l256 [] zb_t256_1 = true := by decide +kernel
theorem zb_i256 : (zb_m256.1, zb_m256.2.1, ([] : List Nat), zb_m256.2.2.1, [(1000, 1), (1000, 2), (1000, 3), (1000, 4), (1000, 5), (88, 51), (88, 52)], [(0, 1)]) ∈ zb_l256 := List.mem_cons_self
theorem zb_k256 (hS : ∀ ρ, en_SA E ρ ω mt_SB) (hX : sf_JX J) (hM : sf_MnB E ω J) : sf_Kok E ω J 7 5 133 zb_m256 := sf_K_of hS (sf_TS_k (q := 3997696) (nx := 133) (l := [(2, 0, zb_m254)]) hX (sf_fc ⟨(rfl : zb_m254.1 = 3997696), (zb_k254 hS hX hM)⟩ sf_fn) (sf_TS_k (q := 5898240) (nx := 133) (l := [(3, 0, zb_m253)]) hX (sf_fc ⟨(rfl : zb_m253.1 = 5898240), (zb_k253 hS hX hM)⟩ sf_fn) (sf_TS_k (q := 196608) (nx := 133) (l := [(6, 4, zb_m23), (6, 4, zb_m24), (6, 4, zb_m25), (6, 4, zb_m26)]) hX (sf_fc ⟨(rfl : zb_m23.1 = 196608), (hM _ (List.mem_of_getElem? (i := 23) rfl))⟩ (sf_fc ⟨(rfl : zb_m24.1 = 196608), (hM _ (List.mem_of_getElem? (i := 24) rfl))⟩ (sf_fc ⟨(rfl : zb_m25.1 = 196608), (hM _ (List.mem_of_getElem? (i := 25) rfl))⟩ (sf_fc ⟨(rfl : zb_m26.1 = 196608), (hM _ (List.mem_of_getElem? (i := 26) rfl))⟩ sf_fn)))) sf_TS_n))) (sf_nL (by decide +kernel)) rfl zb_h67_n zb_h67_n (by decide +kernel) (by decide +kernel) (by decide +kernel) zb_i256 (sf_fc (sf_okb_t zb_h67_n zb_e256_0) (sf_fc (sf_okb_t zb_h67_n zb_e256_1) sf_fn))
/-- X9_at -/
def zb_m257 : sf_M := (262144, 4820814133899404084098741977139641793531744750205104568664832, zb_h1, zb_h1, [], [83010348325250531333])
def zb_t257_0 : sf_T := (262144, 4820814133899404084098741977139641793531744750205104568664832, [], zb_h1, [(1000, 0)], [(0, 1)])
def zb_t257_1 : sf_T := (262156, 31057858561361006067830763032960584723497155613519082123075237680513792, [], zb_h1, [(1000, 0), (1000, 2)], [(0, 0)])
def zb_l257 : List sf_T := [zb_t257_0, zb_t257_1]
noncomputable def zb_b257 : en_T := (fun _ => none)
theorem zb_e257_0 : sf_okb (sf_fin 133 zb_h1 [83010348325250531333]) zb_b257 4 3 1 133 110 zb_l257 [1] zb_t257_0 = true := by decide +kernel
theorem zb_e257_1 : sf_okb (sf_fin 133 zb_h1 [83010348325250531333]) zb_b257 4 3 1 133 36 zb_l257 [] zb_t257_1 = true := by decide +kernel
theorem zb_i257 : (zb_m257.1, zb_m257.2.1, ([] : List Nat), zb_m257.2.2.1, [(1000, 0)], [(0, 1)]) ∈ zb_l257 := List.mem_cons_self
theorem zb_k257 (hS : ∀ ρ, en_SA E ρ ω mt_SB) (hX : sf_JX J) (hM : sf_MnB E ω J) : sf_Kok E ω J 3 1 133 zb_m257 := sf_K_of hS sf_TS_n (sf_nL (by decide +kernel)) rfl zb_h1_n zb_h1_n (by decide +kernel) (by decide +kernel) (by decide +kernel) zb_i257 (sf_fc (sf_okb_t zb_h1_n zb_e257_0) (sf_fc (sf_okb_t zb_h1_n zb_e257_1) sf_fn))
/-- X9_fillsDraw -/
def zb_m258 : sf_M := (2031616, 31057858559754068022554567617836314203128233281242810191791013140366080, zb_h67, zb_h67, [88, 98, 116, 117, 119, 120], [])
def zb_t258_0 : sf_T := (2031616, 31057858559754068022554567617836314203128233281242810191791013140366080, [], zb_h67, [(1000, 1), (1000, 2)], [(0, 0)])
def zb_l258 : List sf_T := [zb_t258_0]
noncomputable def zb_b258 : en_T := (sf_tc 1966080 (sf_call 133 [(7, 5, zb_m256)]) (sf_tc 4587520 (sf_call 133 [(3, 5, zb_m255)]) (sf_tc 262144 (sf_call 133 [(3, 1, zb_m250), (3, 1, zb_m251), (3, 1, zb_m252), (3, 1, zb_m257)]) (fun _ => none))))
theorem zb_e258_0 : sf_okb (sf_fin 133 zb_h67 []) zb_b258 31 3 6 133 72 zb_l258 [] zb_t258_0 = true := by decide +kernel
theorem zb_i258 : (zb_m258.1, zb_m258.2.1, ([] : List Nat), zb_m258.2.2.1, [(1000, 1), (1000, 2)], [(0, 0)]) ∈ zb_l258 := List.mem_cons_self
theorem zb_k258 (hS : ∀ ρ, en_SA E ρ ω mt_SB) (hX : sf_JX J) (hM : sf_MnB E ω J) : sf_Kok E ω J 3 6 133 zb_m258 := sf_K_of hS (sf_TS_k (q := 1966080) (nx := 133) (l := [(7, 5, zb_m256)]) hX (sf_fc ⟨(rfl : zb_m256.1 = 1966080), (zb_k256 hS hX hM)⟩ sf_fn) (sf_TS_k (q := 4587520) (nx := 133) (l := [(3, 5, zb_m255)]) hX (sf_fc ⟨(rfl : zb_m255.1 = 4587520), (zb_k255 hS hX hM)⟩ sf_fn) (sf_TS_k (q := 262144) (nx := 133) (l := [(3, 1, zb_m250), (3, 1, zb_m251), (3, 1, zb_m252), (3, 1, zb_m257)]) hX (sf_fc ⟨(rfl : zb_m250.1 = 262144), (zb_k250 hS hX hM)⟩ (sf_fc ⟨(rfl : zb_m251.1 = 262144), (zb_k251 hS hX hM)⟩ (sf_fc ⟨(rfl : zb_m252.1 = 262144), (zb_k252 hS hX hM)⟩ (sf_fc ⟨(rfl : zb_m257.1 = 262144), (zb_k257 hS hX hM)⟩ sf_fn)))) sf_TS_n))) (sf_nL (by decide +kernel)) rfl zb_h67_n zb_h67_n (by decide +kernel) (by decide +kernel) (by decide +kernel) zb_i258 (sf_fc (sf_okb_t zb_h67_n zb_e258_0) sf_fn)
/-- X9_copies -/
def zb_m259 : sf_M := (1114112, 16333553616007998046963562849740359991808, zb_h63, zb_h63, [88, 105, 118, 119], [])
def zb_t259_0 : sf_T := (1114112, 16333553616007998046963562849740359991808, [], zb_h63, [], [(0, 0)])
def zb_l259 : List sf_T := [zb_t259_0]
noncomputable def zb_b259 : en_T := (fun _ => none)
theorem zb_e259_0 : sf_okb (sf_fin 133 zb_h63 []) zb_b259 17 2 0 133 1612 zb_l259 [] zb_t259_0 = true := by decide +kernel
theorem zb_i259 : (zb_m259.1, zb_m259.2.1, ([] : List Nat), zb_m259.2.2.1, [], [(0, 0)]) ∈ zb_l259 := List.mem_cons_self
theorem zb_k259 (hS : ∀ ρ, en_SA E ρ ω mt_SB) (hX : sf_JX J) (hM : sf_MnB E ω J) : sf_Kok E ω J 2 0 133 zb_m259 := sf_K_of hS sf_TS_n (sf_nL (by decide +kernel)) rfl zb_h63_n zb_h63_n (by decide +kernel) (by decide +kernel) (by decide +kernel) zb_i259 (sf_fc (sf_okb_t zb_h63_n zb_e259_0) sf_fn)
/-- X9_dangerNow -/
def zb_m260 : sf_M := (1310720, 36893488525376225536, zb_h65, zb_h65, [88, 116, 117, 119], [83010348333840465929])
def zb_t260_0 : sf_T := (1310720, 36893488525376225536, [], zb_h65, [], [(0, 0)])
def zb_l260 : List sf_T := [zb_t260_0]
noncomputable def zb_b260 : en_T := (sf_tc 3997696 (sf_call 133 [(2, 0, zb_m254)]) (sf_tc 196608 (sf_call 133 [(6, 4, zb_m23)]) (fun _ => none)))
theorem zb_e260_0 : sf_okb (sf_fin 133 zb_h65 [83010348333840465929]) zb_b260 20 1 5 133 38 zb_l260 [] zb_t260_0 = true := by decide +kernel
theorem zb_i260 : (zb_m260.1, zb_m260.2.1, ([] : List Nat), zb_m260.2.2.1, [], [(0, 0)]) ∈ zb_l260 := List.mem_cons_self
theorem zb_k260 (hS : ∀ ρ, en_SA E ρ ω mt_SB) (hX : sf_JX J) (hM : sf_MnB E ω J) : sf_Kok E ω J 1 5 133 zb_m260 := sf_K_of hS (sf_TS_k (q := 3997696) (nx := 133) (l := [(2, 0, zb_m254)]) hX (sf_fc ⟨(rfl : zb_m254.1 = 3997696), (zb_k254 hS hX hM)⟩ sf_fn) (sf_TS_k (q := 196608) (nx := 133) (l := [(6, 4, zb_m23)]) hX (sf_fc ⟨(rfl : zb_m23.1 = 196608), (hM _ (List.mem_of_getElem? (i := 23) rfl))⟩ sf_fn) sf_TS_n)) (sf_nL (by decide +kernel)) rfl zb_h65_n zb_h65_n (by decide +kernel) (by decide +kernel) (by decide +kernel) zb_i260 (sf_fc (sf_okb_t zb_h65_n zb_e260_0) sf_fn)
/-- X9_windNow -/
def zb_m261 : sf_M := (7208960, 36893488525376225536, zb_h65, zb_h65, [88, 116, 117, 119], [83010348333840465929])
def zb_t261_0 : sf_T := (7208960, 36893488525376225536, [], zb_h65, [], [(0, 0)])
def zb_l261 : List sf_T := [zb_t261_0]
noncomputable def zb_b261 : en_T := (sf_tc 3997696 (sf_call 133 [(2, 0, zb_m254)]) (sf_tc 196608 (sf_call 133 [(6, 4, zb_m23)]) (fun _ => none)))
theorem zb_e261_0 : sf_okb (sf_fin 133 zb_h65 [83010348333840465929]) zb_b261 110 1 5 133 38 zb_l261 [] zb_t261_0 = true := by decide +kernel
theorem zb_i261 : (zb_m261.1, zb_m261.2.1, ([] : List Nat), zb_m261.2.2.1, [], [(0, 0)]) ∈ zb_l261 := List.mem_cons_self
theorem zb_k261 (hS : ∀ ρ, en_SA E ρ ω mt_SB) (hX : sf_JX J) (hM : sf_MnB E ω J) : sf_Kok E ω J 1 5 133 zb_m261 := sf_K_of hS (sf_TS_k (q := 3997696) (nx := 133) (l := [(2, 0, zb_m254)]) hX (sf_fc ⟨(rfl : zb_m254.1 = 3997696), (zb_k254 hS hX hM)⟩ sf_fn) (sf_TS_k (q := 196608) (nx := 133) (l := [(6, 4, zb_m23)]) hX (sf_fc ⟨(rfl : zb_m23.1 = 196608), (hM _ (List.mem_of_getElem? (i := 23) rfl))⟩ sf_fn) sf_TS_n)) (sf_nL (by decide +kernel)) rfl zb_h65_n zb_h65_n (by decide +kernel) (by decide +kernel) (by decide +kernel) zb_i261 (sf_fc (sf_okb_t zb_h65_n zb_e261_0) sf_fn)
/-- X9_weathers -/
def zb_m262 : sf_M := (7077888, 36893488525376225536, zb_h65, zb_h65, [88, 116, 117, 119], [])
def zb_t262_0 : sf_T := (7077888, 36893488525376225536, [], zb_h65, [], [(0, 0)])
def zb_l262 : List sf_T := [zb_t262_0]
noncomputable def zb_b262 : en_T := (sf_tc 7208960 (sf_call 133 [(1, 5, zb_m261)]) (sf_tc 1310720 (sf_call 133 [(1, 5, zb_m260)]) (fun _ => none)))
theorem zb_e262_0 : sf_okb (sf_fin 133 zb_h65 []) zb_b262 108 1 6 133 38 zb_l262 [] zb_t262_0 = true := by decide +kernel
theorem zb_i262 : (zb_m262.1, zb_m262.2.1, ([] : List Nat), zb_m262.2.2.1, [], [(0, 0)]) ∈ zb_l262 := List.mem_cons_self
theorem zb_k262 (hS : ∀ ρ, en_SA E ρ ω mt_SB) (hX : sf_JX J) (hM : sf_MnB E ω J) : sf_Kok E ω J 1 6 133 zb_m262 := sf_K_of hS (sf_TS_k (q := 7208960) (nx := 133) (l := [(1, 5, zb_m261)]) hX (sf_fc ⟨(rfl : zb_m261.1 = 7208960), (zb_k261 hS hX hM)⟩ sf_fn) (sf_TS_k (q := 1310720) (nx := 133) (l := [(1, 5, zb_m260)]) hX (sf_fc ⟨(rfl : zb_m260.1 = 1310720), (zb_k260 hS hX hM)⟩ sf_fn) sf_TS_n)) (sf_nL (by decide +kernel)) rfl zb_h65_n zb_h65_n (by decide +kernel) (by decide +kernel) (by decide +kernel) zb_i262 (sf_fc (sf_okb_t zb_h65_n zb_e262_0) sf_fn)
def zb_h77 : en_H := (((((((0, 0), 0), 0), ((0, 0), (0, 0))), ((((((0, (0, 0)), 0), 0), ((((0, 0), (0, (0, 0))), (((0, 0), 0), (0, (0, (0, 0))))), 0)), ((0, 0), 0)), (0, ((((0, 0), ((0, 0), ((0, 0), 0))), (((0, (0, 0)), ((0, 0), (0, 0))), (((0, 0), (0, 0)), ((0, 0), (0, 0))))), (((((0, 0), (0, 0)), ((0, 0), (0, 0))), (((0, 0), (0, 0)), ((0, 0), (0, 0)))), ((((0, 0), (0, 0)), ((0, 0), (0, (0, 0)))), ((((0, 0), (0, 0)), ((0, 0), 0)), (0, (0, (0, 0)))))))))), zb_r3), ((((((0, 0), 0), (0, (0, 0))), (0, 0)), zb_r13), ((((((((zb_r7, 0), 0), (0, 0)), (0, (0, zb_r5))), 0), (0, (((0, 0), (0, 0)), ((0, 0), (0, 0))))), zb_r1), (((zb_r2, zb_r6), zb_r6), (zb_r12, ((0, ((0, 0), (zb_r27, zb_r28))), (((zb_r29, 0), (0, 0)), ((0, 0), ((0, 0), (0, 0))))))))))
theorem zb_h77_n : sf_nlh zb_h77 136 = true := by decide +kernel
/-- X9_fillsFirst -/
def zb_m263 : sf_M := (2097152, 1422853192879425234015608139717629925292265360276298235107590062233449531231437824, zb_h77, zb_h77, [88, 97, 98, 105, 116, 117, 118, 119, 120, 124, 125, 126], [])
def zb_t263_0 : sf_T := (2097152, 1422853192879425234015608139717629925292265360276298235107590062233449531231437824, [], zb_h77, [(1000, 1)], [(0, 18)])
def zb_t263_1 : sf_T := (2097164, 9166661893742329592376998301954280580400483926061059539494753748497833142683499351978804224, [], zb_h77, [(1000, 1), (1000, 3)], [(0, 17), (1, 1), (0, 0)])
def zb_t263_2 : sf_T := (2097164, 9166661917456549473590324260585420319528616050435940353739610697960329406751527293696345088, [], zb_h77, [(1000, 1), (1000, 3)], [(0, 16), (1, 1), (0, 0)])
def zb_t263_3 : sf_T := (2097164, 9166661940696484957287603082761613304061162504243827310794003897117207406723143056408708096, [], zb_h77, [(1000, 1), (1000, 3)], [(0, 15), (1, 1), (0, 0)])
def zb_t263_4 : sf_T := (2097164, 9166661963936420440984881904937806288593708958051714267848397096274085406694758819121071104, [], zb_h77, [(1000, 1), (1000, 3)], [(0, 14), (1, 1), (0, 0)])
def zb_t263_5 : sf_T := (2097164, 9166661987176355924682160727113999273126255411859601224902790295430963406666374581833434112, [], zb_h77, [(1000, 1), (1000, 3)], [(0, 13), (1, 1), (0, 0)])
def zb_t263_6 : sf_T := (2097164, 9166662010416291408379439549290192257658801865667488181957183494587841406637990344545797120, [], zb_h77, [(1000, 1), (1000, 3)], [(0, 12), (1, 1), (0, 0)])
def zb_t263_7 : sf_T := (2097164, 9166662033656226887438744826423126377035192380025214034964431464446219641540389828865033216, [], zb_h77, [(1000, 1), (1000, 3)], [(0, 11), (1, 1), (0, 0)])
def zb_t263_8 : sf_T := (2097164, 9166662036976217670824070372448296803396984730569197885972201921468630784393477794966799360, [], zb_h77, [(1000, 1), (1000, 3)], [(0, 10), (1, 1), (0, 0)])
def zb_t263_9 : sf_T := (2097164, 9166662040296208454209395918473467229758777081113181736979972378491041927246565761068565504, [], zb_h77, [(1000, 1), (1000, 3)], [(0, 9), (1, 1), (0, 0)])
def zb_t263_10 : sf_T := (2097164, 9166662043616199237594721464498637656120569431657165587987742835513453070099653727170331648, [], zb_h77, [(1000, 1), (1000, 3)], [(0, 8), (1, 1), (0, 0)])
def zb_t263_11 : sf_T := (2097164, 9166662046936190020980047010523808082482361782201149438995513292535864212952741693272097792, [], zb_h77, [(1000, 1), (1000, 3)], [(0, 7), (1, 1), (0, 0)])
def zb_t263_12 : sf_T := (2097164, 9166662050256180804365372556548978508844154132745133290003283749558275355805829659373863936, [], zb_h77, [(1000, 1), (1000, 3)], [(0, 6), (1, 1), (0, 0)])
def zb_t263_13 : sf_T := (2097164, 9166662056421878010723764872490443528221774823286552678352582891002652866422355558448235520, [], zb_h77, [(1000, 1), (1000, 3)], [(0, 5), (1, 1), (0, 0)])
def zb_t263_14 : sf_T := (2097164, 9166662219575710794120763764178741174545185670508755234923799035406417130320078076439954432, [], zb_h77, [(1000, 1), (1000, 3)], [(0, 4), (1, 1), (0, 0)])
def zb_t263_15 : sf_T := (2097164, 9166662382255259180001715519412092066273010847163963934304551429504563130121388415426495488, [], zb_h77, [(1000, 1), (1000, 3)], [(0, 3), (1, 1), (0, 0)])
def zb_t263_16 : sf_T := (2097164, 9166662544934807565882667274645442958000836023819172633685303823602709129922698754413036544, [], zb_h77, [(1000, 1), (1000, 3)], [(0, 2), (1, 1), (0, 0)])
def zb_t263_17 : sf_T := (2097164, 9166662707614355951763619029878793849728661200474381333066056217700855129724009093399577600, [], zb_h77, [(1000, 1), (1000, 3)], [(0, 1), (1, 1), (0, 0)])
def zb_t263_18 : sf_T := (2097164, 9166662870293904337644570785112144741456486377129590032446808611799001129525319432386118656, [], zb_h77, [(1000, 1), (1000, 3)], [(0, 0), (1, 1), (0, 0)])
def zb_l263 : List sf_T := [zb_t263_0, zb_t263_1, zb_t263_2, zb_t263_3, zb_t263_4, zb_t263_5, zb_t263_6, zb_t263_7, zb_t263_8, zb_t263_9, zb_t263_10, zb_t263_11, zb_t263_12, zb_t263_13, zb_t263_14, zb_t263_15, zb_t263_16, zb_t263_17, zb_t263_18]
noncomputable def zb_b263 : en_T := (sf_tc 7077888 (sf_call 133 [(1, 6, zb_m262)]) (sf_tc 1114112 (sf_call 133 [(2, 0, zb_m259)]) (sf_tc 2031616 (sf_call 133 [(3, 6, zb_m258)]) (sf_tc 2097164 (sf_spl 4 (1000, 3) [2147483697, 2147483746, 2147483795, 2147483844, 2147483893, 2147483942, 2147483949, 2147483956, 2147483963, 2147483970, 2147483977, 2147483984, 2147484334, 2147484677, 2147485020, 2147485363, 2147485706, 2147486049]) (fun _ => none)))))
theorem zb_e263_0 : sf_okb (sf_fin 133 zb_h77 []) zb_b263 32 4 7 133 36 zb_l263 [1] zb_t263_0 = true := by decide +kernel
theorem zb_e263_1 : sf_okb (sf_fin 133 zb_h77 []) zb_b263 32 4 7 133 736 zb_l263 [1, 2] zb_t263_1 = true := by decide +kernel
theorem zb_e263_2 : sf_okb (sf_fin 133 zb_h77 []) zb_b263 32 4 7 133 736 zb_l263 [2, 3] zb_t263_2 = true := by decide +kernel
theorem zb_e263_3 : sf_okb (sf_fin 133 zb_h77 []) zb_b263 32 4 7 133 736 zb_l263 [3, 4] zb_t263_3 = true := by decide +kernel
theorem zb_e263_4 : sf_okb (sf_fin 133 zb_h77 []) zb_b263 32 4 7 133 736 zb_l263 [4, 5] zb_t263_4 = true := by decide +kernel
theorem zb_e263_5 : sf_okb (sf_fin 133 zb_h77 []) zb_b263 32 4 7 133 736 zb_l263 [5, 6] zb_t263_5 = true := by decide +kernel
theorem zb_e263_6 : sf_okb (sf_fin 133 zb_h77 []) zb_b263 32 4 7 133 842 zb_l263 [6, 7] zb_t263_6 = true := by decide +kernel
theorem zb_e263_7 : sf_okb (sf_fin 133 zb_h77 []) zb_b263 32 4 7 133 948 zb_l263 [7, 8] zb_t263_7 = true := by decide +kernel
theorem zb_e263_8 : sf_okb (sf_fin 133 zb_h77 []) zb_b263 32 4 7 133 948 zb_l263 [8, 9] zb_t263_8 = true := by decide +kernel
theorem zb_e263_9 : sf_okb (sf_fin 133 zb_h77 []) zb_b263 32 4 7 133 948 zb_l263 [9, 10] zb_t263_9 = true := by decide +kernel
theorem zb_e263_10 : sf_okb (sf_fin 133 zb_h77 []) zb_b263 32 4 7 133 948 zb_l263 [10, 11] zb_t263_10 = true := by decide +kernel
theorem zb_e263_11 : sf_okb (sf_fin 133 zb_h77 []) zb_b263 32 4 7 133 948 zb_l263 [11, 12] zb_t263_11 = true := by decide +kernel
theorem zb_e263_12 : sf_okb (sf_fin 133 zb_h77 []) zb_b263 32 4 7 133 4418 zb_l263 [12, 13] zb_t263_12 = true := by decide +kernel
theorem zb_e263_13 : sf_okb (sf_fin 133 zb_h77 []) zb_b263 32 4 7 133 432 zb_l263 [13, 14] zb_t263_13 = true := by decide +kernel
theorem zb_e263_14 : sf_okb (sf_fin 133 zb_h77 []) zb_b263 32 4 7 133 432 zb_l263 [14, 15] zb_t263_14 = true := by decide +kernel
theorem zb_e263_15 : sf_okb (sf_fin 133 zb_h77 []) zb_b263 32 4 7 133 432 zb_l263 [15, 16] zb_t263_15 = true := by decide +kernel
theorem zb_e263_16 : sf_okb (sf_fin 133 zb_h77 []) zb_b263 32 4 7 133 432 zb_l263 [16, 17] zb_t263_16 = true := by decide +kernel
theorem zb_e263_17 : sf_okb (sf_fin 133 zb_h77 []) zb_b263 32 4 7 133 428 zb_l263 [17, 18] zb_t263_17 = true := by decide +kernel
theorem zb_e263_18 : sf_okb (sf_fin 133 zb_h77 []) zb_b263 32 4 7 133 230 zb_l263 [18] zb_t263_18 = true := by decide +kernel
theorem zb_i263 : (zb_m263.1, zb_m263.2.1, ([] : List Nat), zb_m263.2.2.1, [(1000, 1)], [(0, 18)]) ∈ zb_l263 := List.mem_cons_self
theorem zb_k263 (hS : ∀ ρ, en_SA E ρ ω mt_SB) (hX : sf_JX J) (hM : sf_MnB E ω J) : sf_Kok E ω J 4 7 133 zb_m263 := sf_K_of hS (sf_TS_k (q := 7077888) (nx := 133) (l := [(1, 6, zb_m262)]) hX (sf_fc ⟨(rfl : zb_m262.1 = 7077888), (zb_k262 hS hX hM)⟩ sf_fn) (sf_TS_k (q := 1114112) (nx := 133) (l := [(2, 0, zb_m259)]) hX (sf_fc ⟨(rfl : zb_m259.1 = 1114112), (zb_k259 hS hX hM)⟩ sf_fn) (sf_TS_k (q := 2031616) (nx := 133) (l := [(3, 6, zb_m258)]) hX (sf_fc ⟨(rfl : zb_m258.1 = 2031616), (zb_k258 hS hX hM)⟩ sf_fn) (sf_TS_s (sf_nL (by decide +kernel)) sf_TS_n)))) (sf_nL (by decide +kernel)) rfl zb_h77_n zb_h77_n (by decide +kernel) (by decide +kernel) (by decide +kernel) zb_i263 (sf_fc (sf_okb_t zb_h77_n zb_e263_0) (sf_fc (sf_okb_t zb_h77_n zb_e263_1) (sf_fc (sf_okb_t zb_h77_n zb_e263_2) (sf_fc (sf_okb_t zb_h77_n zb_e263_3) (sf_fc (sf_okb_t zb_h77_n zb_e263_4) (sf_fc (sf_okb_t zb_h77_n zb_e263_5) (sf_fc (sf_okb_t zb_h77_n zb_e263_6) (sf_fc (sf_okb_t zb_h77_n zb_e263_7) (sf_fc (sf_okb_t zb_h77_n zb_e263_8) (sf_fc (sf_okb_t zb_h77_n zb_e263_9) (sf_fc (sf_okb_t zb_h77_n zb_e263_10) (sf_fc (sf_okb_t zb_h77_n zb_e263_11) (sf_fc (sf_okb_t zb_h77_n zb_e263_12) (sf_fc (sf_okb_t zb_h77_n zb_e263_13) (sf_fc (sf_okb_t zb_h77_n zb_e263_14) (sf_fc (sf_okb_t zb_h77_n zb_e263_15) (sf_fc (sf_okb_t zb_h77_n zb_e263_16) (sf_fc (sf_okb_t zb_h77_n zb_e263_17) (sf_fc (sf_okb_t zb_h77_n zb_e263_18) sf_fn)))))))))))))))))))
/-- X9_at -/
def zb_m264 : sf_M := (262144, 4820814133899404084098741977143444745332429438409594678280960, zb_h1, zb_h1, [], [83010348325250531333])
def zb_t264_0 : sf_T := (262144, 4820814133899404084098741977143444745332429438409594678280960, [], zb_h1, [(1000, 0)], [(0, 1)])
def zb_t264_1 : sf_T := (262156, 31057858561361006067830763032960584723500958565319766811279727790129920, [], zb_h1, [(1000, 0), (1000, 2)], [(0, 0)])
def zb_l264 : List sf_T := [zb_t264_0, zb_t264_1]
noncomputable def zb_b264 : en_T := (fun _ => none)
theorem zb_e264_0 : sf_okb (sf_fin 133 zb_h1 [83010348325250531333]) zb_b264 4 3 1 133 56 zb_l264 [1] zb_t264_0 = true := by decide +kernel
theorem zb_e264_1 : sf_okb (sf_fin 133 zb_h1 [83010348325250531333]) zb_b264 4 3 1 133 36 zb_l264 [] zb_t264_1 = true := by decide +kernel
theorem zb_i264 : (zb_m264.1, zb_m264.2.1, ([] : List Nat), zb_m264.2.2.1, [(1000, 0)], [(0, 1)]) ∈ zb_l264 := List.mem_cons_self
theorem zb_k264 (hS : ∀ ρ, en_SA E ρ ω mt_SB) (hX : sf_JX J) (hM : sf_MnB E ω J) : sf_Kok E ω J 3 1 133 zb_m264 := sf_K_of hS sf_TS_n (sf_nL (by decide +kernel)) rfl zb_h1_n zb_h1_n (by decide +kernel) (by decide +kernel) (by decide +kernel) zb_i264 (sf_fc (sf_okb_t zb_h1_n zb_e264_0) (sf_fc (sf_okb_t zb_h1_n zb_e264_1) sf_fn))
/-- X9_at -/
def zb_m265 : sf_M := (262144, 4820814133899404084098741977142177094732201209008097975075584, zb_h1, zb_h1, [], [83010348325250531333])
def zb_t265_0 : sf_T := (262144, 4820814133899404084098741977142177094732201209008097975075584, [], zb_h1, [(1000, 0)], [(0, 1)])
def zb_t265_1 : sf_T := (262156, 31057858561361006067830763032960584723499690914719538581878231086924544, [], zb_h1, [(1000, 0), (1000, 2)], [(0, 0)])
def zb_l265 : List sf_T := [zb_t265_0, zb_t265_1]
noncomputable def zb_b265 : en_T := (fun _ => none)
theorem zb_e265_0 : sf_okb (sf_fin 133 zb_h1 [83010348325250531333]) zb_b265 4 3 1 133 74 zb_l265 [1] zb_t265_0 = true := by decide +kernel
theorem zb_e265_1 : sf_okb (sf_fin 133 zb_h1 [83010348325250531333]) zb_b265 4 3 1 133 36 zb_l265 [] zb_t265_1 = true := by decide +kernel
theorem zb_i265 : (zb_m265.1, zb_m265.2.1, ([] : List Nat), zb_m265.2.2.1, [(1000, 0)], [(0, 1)]) ∈ zb_l265 := List.mem_cons_self
theorem zb_k265 (hS : ∀ ρ, en_SA E ρ ω mt_SB) (hX : sf_JX J) (hM : sf_MnB E ω J) : sf_Kok E ω J 3 1 133 zb_m265 := sf_K_of hS sf_TS_n (sf_nL (by decide +kernel)) rfl zb_h1_n zb_h1_n (by decide +kernel) (by decide +kernel) (by decide +kernel) zb_i265 (sf_fc (sf_okb_t zb_h1_n zb_e265_0) (sf_fc (sf_okb_t zb_h1_n zb_e265_1) sf_fn))
/-- X9_at -/
def zb_m266 : sf_M := (262144, 4820814133899404084098741977140909444131972979606601271870208, zb_h1, zb_h1, [], [83010348325250531333])
def zb_t266_0 : sf_T := (262144, 4820814133899404084098741977140909444131972979606601271870208, [], zb_h1, [(1000, 0)], [(0, 1)])
def zb_t266_1 : sf_T := (262156, 31057858561361006067830763032960584723498423264119310352476734383719168, [], zb_h1, [(1000, 0), (1000, 2)], [(0, 0)])
def zb_l266 : List sf_T := [zb_t266_0, zb_t266_1]
noncomputable def zb_b266 : en_T := (fun _ => none)
theorem zb_e266_0 : sf_okb (sf_fin 133 zb_h1 [83010348325250531333]) zb_b266 4 3 1 133 92 zb_l266 [1] zb_t266_0 = true := by decide +kernel
theorem zb_e266_1 : sf_okb (sf_fin 133 zb_h1 [83010348325250531333]) zb_b266 4 3 1 133 36 zb_l266 [] zb_t266_1 = true := by decide +kernel
theorem zb_i266 : (zb_m266.1, zb_m266.2.1, ([] : List Nat), zb_m266.2.2.1, [(1000, 0)], [(0, 1)]) ∈ zb_l266 := List.mem_cons_self
theorem zb_k266 (hS : ∀ ρ, en_SA E ρ ω mt_SB) (hX : sf_JX J) (hM : sf_MnB E ω J) : sf_Kok E ω J 3 1 133 zb_m266 := sf_K_of hS sf_TS_n (sf_nL (by decide +kernel)) rfl zb_h1_n zb_h1_n (by decide +kernel) (by decide +kernel) (by decide +kernel) zb_i266 (sf_fc (sf_okb_t zb_h1_n zb_e266_0) (sf_fc (sf_okb_t zb_h1_n zb_e266_1) sf_fn))
/-- X9_skillAt -/
def zb_m267 : sf_M := (5898240, 31057858561361006066813557893367387256691902665387575781551385216025344, zb_h66, zb_h66, [88, 98], [73786976299133173759])
def zb_t267_0 : sf_T := (5898240, 31057858561361006066813557893367387256691902665387575781551385216025344, [], zb_h66, [(1000, 1), (1000, 2)], [(0, 0)])
def zb_l267 : List sf_T := [zb_t267_0]
noncomputable def zb_b267 : en_T := (fun _ => none)
theorem zb_e267_0 : sf_okb (sf_fin 133 zb_h66 [73786976299133173759]) zb_b267 90 3 0 133 58 zb_l267 [] zb_t267_0 = true := by decide +kernel
theorem zb_i267 : (zb_m267.1, zb_m267.2.1, ([] : List Nat), zb_m267.2.2.1, [(1000, 1), (1000, 2)], [(0, 0)]) ∈ zb_l267 := List.mem_cons_self
theorem zb_k267 (hS : ∀ ρ, en_SA E ρ ω mt_SB) (hX : sf_JX J) (hM : sf_MnB E ω J) : sf_Kok E ω J 3 0 133 zb_m267 := sf_K_of hS sf_TS_n (sf_nL (by decide +kernel)) rfl zb_h66_n zb_h66_n (by decide +kernel) (by decide +kernel) (by decide +kernel) zb_i267 (sf_fc (sf_okb_t zb_h66_n zb_e267_0) sf_fn)
/-- X9_looks -/
def zb_m268 : sf_M := (3997696, 16333553616007998046963562849740359991808, zb_h64, zb_h64, [88, 116, 119], [])
def zb_t268_0 : sf_T := (3997696, 16333553616007998046963562849740359991808, [], zb_h64, [], [(0, 1)])
def zb_t268_1 : sf_T := (3997698, 105228117901436304798911701896198319814493576626688, [], zb_h64, [(1000, 1)], [(0, 0), (1, 0), (0, 0)])
def zb_l268 : List sf_T := [zb_t268_0, zb_t268_1]
noncomputable def zb_b268 : en_T := (fun _ => none)
theorem zb_e268_0 : sf_okb (sf_fin 133 zb_h64 []) zb_b268 61 2 0 133 24 zb_l268 [1] zb_t268_0 = true := by decide +kernel
theorem zb_e268_1 : sf_okb (sf_fin 133 zb_h64 []) zb_b268 61 2 0 133 74 zb_l268 [1] zb_t268_1 = true := by decide +kernel
theorem zb_i268 : (zb_m268.1, zb_m268.2.1, ([] : List Nat), zb_m268.2.2.1, [], [(0, 1)]) ∈ zb_l268 := List.mem_cons_self
theorem zb_k268 (hS : ∀ ρ, en_SA E ρ ω mt_SB) (hX : sf_JX J) (hM : sf_MnB E ω J) : sf_Kok E ω J 2 0 133 zb_m268 := sf_K_of hS sf_TS_n (sf_nL (by decide +kernel)) rfl zb_h64_n zb_h64_n (by decide +kernel) (by decide +kernel) (by decide +kernel) zb_i268 (sf_fc (sf_okb_t zb_h64_n zb_e268_0) (sf_fc (sf_okb_t zb_h64_n zb_e268_1) sf_fn))
/-- X9_ordersOf -/
def zb_m269 : sf_M := (4587520, 4820814134004632201975677951514818796926343767777008297181952, zb_h68, zb_h68, [88, 98, 116, 117, 119], [83010348333840465923])
def zb_t269_0 : sf_T := (4587520, 4820814134004632201975677951514818796926343767777008297181952, [], zb_h68, [(1000, 1), (88, 51), (88, 52)], [(0, 1)])
def zb_t269_1 : sf_T := (4587571, 27606985390376131237988087698914973080737518814384213182516637433070336, [], zb_h68, [(1000, 1), (1000, 2), (88, 51), (88, 52)], [(0, 0)])
def zb_l269 : List sf_T := [zb_t269_0, zb_t269_1]
noncomputable def zb_b269 : en_T := (sf_tc 3997696 (sf_call 133 [(2, 0, zb_m268)]) (sf_tc 5898240 (sf_call 133 [(3, 0, zb_m267)]) (sf_tc 196608 (sf_call 133 [(6, 4, zb_m52)]) (fun _ => none))))
theorem zb_e269_0 : sf_okb (sf_fin 133 zb_h68 [83010348333840465923]) zb_b269 70 3 5 133 78 zb_l269 [1] zb_t269_0 = true := by decide +kernel
theorem zb_e269_1 : sf_okb (sf_fin 133 zb_h68 [83010348333840465923]) zb_b269 70 3 5 133 38 zb_l269 [] zb_t269_1 = true := by decide +kernel
theorem zb_i269 : (zb_m269.1, zb_m269.2.1, ([] : List Nat), zb_m269.2.2.1, [(1000, 1), (88, 51), (88, 52)], [(0, 1)]) ∈ zb_l269 := List.mem_cons_self
theorem zb_k269 (hS : ∀ ρ, en_SA E ρ ω mt_SB) (hX : sf_JX J) (hM : sf_MnB E ω J) : sf_Kok E ω J 3 5 133 zb_m269 := sf_K_of hS (sf_TS_k (q := 3997696) (nx := 133) (l := [(2, 0, zb_m268)]) hX (sf_fc ⟨(rfl : zb_m268.1 = 3997696), (zb_k268 hS hX hM)⟩ sf_fn) (sf_TS_k (q := 5898240) (nx := 133) (l := [(3, 0, zb_m267)]) hX (sf_fc ⟨(rfl : zb_m267.1 = 5898240), (zb_k267 hS hX hM)⟩ sf_fn) (sf_TS_k (q := 196608) (nx := 133) (l := [(6, 4, zb_m52)]) hX (sf_fc ⟨(rfl : zb_m52.1 = 196608), (hM _ (List.mem_of_getElem? (i := 52) rfl))⟩ sf_fn) sf_TS_n))) (sf_nL (by decide +kernel)) rfl zb_h68_n zb_h68_n (by decide +kernel) (by decide +kernel) (by decide +kernel) zb_i269 (sf_fc (sf_okb_t zb_h68_n zb_e269_0) (sf_fc (sf_okb_t zb_h68_n zb_e269_1) sf_fn))
/-- X9_fillsDoing -/
def zb_m270 : sf_M := (1966080, 36582990833331704133769688463878398985241663423791010922004235441607090117855687356087714591454335370296807506695615263104760996201528637261568, zb_h67, zb_h67, [88, 98, 116, 117, 119, 120], [])
def zb_t270_0 : sf_T := (1966080, 36582990833331704133769688463878398985241663423791010922004235441607090117855687356087714591454335370296807506695615263104760996201528637261568, [], zb_h67, [(1000, 1), (1000, 2), (1000, 3), (1000, 4), (1000, 5), (88, 51), (88, 52)], [(0, 1)])
def zb_t270_1 : sf_T := (1966088, 209496998917547409953475300355948448183151193670086816111875925103330289972534760558658065480983846666955816962371948440012616040572829811408636523579136, [], zb_h67, [(1000, 1), (1000, 2), (1000, 3), (1000, 4), (1000, 5), (1000, 6), (88, 51), (88, 52)], [(0, 0)])
def zb_l270 : List sf_T := [zb_t270_0, zb_t270_1]
noncomputable def zb_b270 : en_T := (sf_tc 3997696 (sf_call 133 [(2, 0, zb_m268)]) (sf_tc 5898240 (sf_call 133 [(3, 0, zb_m267)]) (sf_tc 196608 (sf_call 133 [(6, 4, zb_m48), (6, 4, zb_m49), (6, 4, zb_m50), (6, 4, zb_m51)]) (fun _ => none))))
theorem zb_e270_0 : sf_okb (sf_fin 133 zb_h67 []) zb_b270 30 7 5 133 30 zb_l270 [1] zb_t270_0 = true := by decide +kernel
theorem zb_e270_1 : sf_okb (sf_fin 133 zb_h67 []) zb_b270 30 7 5 133 214 zb_l270 [] zb_t270_1 = true := by decide +kernel
theorem zb_i270 : (zb_m270.1, zb_m270.2.1, ([] : List Nat), zb_m270.2.2.1, [(1000, 1), (1000, 2), (1000, 3), (1000, 4), (1000, 5), (88, 51), (88, 52)], [(0, 1)]) ∈ zb_l270 := List.mem_cons_self
theorem zb_k270 (hS : ∀ ρ, en_SA E ρ ω mt_SB) (hX : sf_JX J) (hM : sf_MnB E ω J) : sf_Kok E ω J 7 5 133 zb_m270 := sf_K_of hS (sf_TS_k (q := 3997696) (nx := 133) (l := [(2, 0, zb_m268)]) hX (sf_fc ⟨(rfl : zb_m268.1 = 3997696), (zb_k268 hS hX hM)⟩ sf_fn) (sf_TS_k (q := 5898240) (nx := 133) (l := [(3, 0, zb_m267)]) hX (sf_fc ⟨(rfl : zb_m267.1 = 5898240), (zb_k267 hS hX hM)⟩ sf_fn) (sf_TS_k (q := 196608) (nx := 133) (l := [(6, 4, zb_m48), (6, 4, zb_m49), (6, 4, zb_m50), (6, 4, zb_m51)]) hX (sf_fc ⟨(rfl : zb_m48.1 = 196608), (hM _ (List.mem_of_getElem? (i := 48) rfl))⟩ (sf_fc ⟨(rfl : zb_m49.1 = 196608), (hM _ (List.mem_of_getElem? (i := 49) rfl))⟩ (sf_fc ⟨(rfl : zb_m50.1 = 196608), (hM _ (List.mem_of_getElem? (i := 50) rfl))⟩ (sf_fc ⟨(rfl : zb_m51.1 = 196608), (hM _ (List.mem_of_getElem? (i := 51) rfl))⟩ sf_fn)))) sf_TS_n))) (sf_nL (by decide +kernel)) rfl zb_h67_n zb_h67_n (by decide +kernel) (by decide +kernel) (by decide +kernel) zb_i270 (sf_fc (sf_okb_t zb_h67_n zb_e270_0) (sf_fc (sf_okb_t zb_h67_n zb_e270_1) sf_fn))
/-- X9_at -/
def zb_m271 : sf_M := (262144, 4820814133899404084098741977139641793531744750205104568664832, zb_h1, zb_h1, [], [83010348325250531333])
def zb_t271_0 : sf_T := (262144, 4820814133899404084098741977139641793531744750205104568664832, [], zb_h1, [(1000, 0)], [(0, 1)])
def zb_t271_1 : sf_T := (262156, 31057858561361006067830763032960584723497155613519082123075237680513792, [], zb_h1, [(1000, 0), (1000, 2)], [(0, 0)])
def zb_l271 : List sf_T := [zb_t271_0, zb_t271_1]
noncomputable def zb_b271 : en_T := (fun _ => none)
theorem zb_e271_0 : sf_okb (sf_fin 133 zb_h1 [83010348325250531333]) zb_b271 4 3 1 133 110 zb_l271 [1] zb_t271_0 = true := by decide +kernel
theorem zb_e271_1 : sf_okb (sf_fin 133 zb_h1 [83010348325250531333]) zb_b271 4 3 1 133 36 zb_l271 [] zb_t271_1 = true := by decide +kernel
theorem zb_i271 : (zb_m271.1, zb_m271.2.1, ([] : List Nat), zb_m271.2.2.1, [(1000, 0)], [(0, 1)]) ∈ zb_l271 := List.mem_cons_self
theorem zb_k271 (hS : ∀ ρ, en_SA E ρ ω mt_SB) (hX : sf_JX J) (hM : sf_MnB E ω J) : sf_Kok E ω J 3 1 133 zb_m271 := sf_K_of hS sf_TS_n (sf_nL (by decide +kernel)) rfl zb_h1_n zb_h1_n (by decide +kernel) (by decide +kernel) (by decide +kernel) zb_i271 (sf_fc (sf_okb_t zb_h1_n zb_e271_0) (sf_fc (sf_okb_t zb_h1_n zb_e271_1) sf_fn))
/-- X9_fillsDraw -/
def zb_m272 : sf_M := (2031616, 31057858559754068022554567617836314203128233281242810191791013140366080, zb_h67, zb_h67, [88, 98, 116, 117, 119, 120], [])
def zb_t272_0 : sf_T := (2031616, 31057858559754068022554567617836314203128233281242810191791013140366080, [], zb_h67, [(1000, 1), (1000, 2)], [(0, 0)])
def zb_l272 : List sf_T := [zb_t272_0]
noncomputable def zb_b272 : en_T := (sf_tc 1966080 (sf_call 133 [(7, 5, zb_m270)]) (sf_tc 4587520 (sf_call 133 [(3, 5, zb_m269)]) (sf_tc 262144 (sf_call 133 [(3, 1, zb_m264), (3, 1, zb_m265), (3, 1, zb_m266), (3, 1, zb_m271)]) (fun _ => none))))
theorem zb_e272_0 : sf_okb (sf_fin 133 zb_h67 []) zb_b272 31 3 6 133 72 zb_l272 [] zb_t272_0 = true := by decide +kernel
theorem zb_i272 : (zb_m272.1, zb_m272.2.1, ([] : List Nat), zb_m272.2.2.1, [(1000, 1), (1000, 2)], [(0, 0)]) ∈ zb_l272 := List.mem_cons_self
theorem zb_k272 (hS : ∀ ρ, en_SA E ρ ω mt_SB) (hX : sf_JX J) (hM : sf_MnB E ω J) : sf_Kok E ω J 3 6 133 zb_m272 := sf_K_of hS (sf_TS_k (q := 1966080) (nx := 133) (l := [(7, 5, zb_m270)]) hX (sf_fc ⟨(rfl : zb_m270.1 = 1966080), (zb_k270 hS hX hM)⟩ sf_fn) (sf_TS_k (q := 4587520) (nx := 133) (l := [(3, 5, zb_m269)]) hX (sf_fc ⟨(rfl : zb_m269.1 = 4587520), (zb_k269 hS hX hM)⟩ sf_fn) (sf_TS_k (q := 262144) (nx := 133) (l := [(3, 1, zb_m264), (3, 1, zb_m265), (3, 1, zb_m266), (3, 1, zb_m271)]) hX (sf_fc ⟨(rfl : zb_m264.1 = 262144), (zb_k264 hS hX hM)⟩ (sf_fc ⟨(rfl : zb_m265.1 = 262144), (zb_k265 hS hX hM)⟩ (sf_fc ⟨(rfl : zb_m266.1 = 262144), (zb_k266 hS hX hM)⟩ (sf_fc ⟨(rfl : zb_m271.1 = 262144), (zb_k271 hS hX hM)⟩ sf_fn)))) sf_TS_n))) (sf_nL (by decide +kernel)) rfl zb_h67_n zb_h67_n (by decide +kernel) (by decide +kernel) (by decide +kernel) zb_i272 (sf_fc (sf_okb_t zb_h67_n zb_e272_0) sf_fn)
end SFP
