/-! CONTRACTS, by program (wip/p3/emit.py) -/
section SFP
variable {E : mm_E} {ω : Nat → Value} {J : mm_H → Prop}
/-- X9_copies -/
def zb_m404 : sf_M := (1114112, 16333553616007998046963562849740359991808, zb_h63, zb_h63, [88, 105, 118, 119], [])
def zb_t404_0 : sf_T := (1114112, 16333553616007998046963562849740359991808, [], zb_h63, [], [(0, 0)])
def zb_l404 : List sf_T := [zb_t404_0]
noncomputable def zb_b404 : en_T := (fun _ => none)
theorem zb_e404_0 : sf_okb (sf_fin 133 zb_h63 []) zb_b404 17 2 0 133 1612 zb_l404 [] zb_t404_0 = true := by decide +kernel
theorem zb_i404 : (zb_m404.1, zb_m404.2.1, ([] : List Nat), zb_m404.2.2.1, [], [(0, 0)]) ∈ zb_l404 := List.mem_cons_self
theorem zb_k404 (hS : ∀ ρ, en_SA E ρ ω mt_SB) (hX : sf_JX J) (hM : sf_MnB E ω J) : sf_Kok E ω J 2 0 133 zb_m404 := sf_K_of hS sf_TS_n (sf_nL (by decide +kernel)) rfl zb_h63_n zb_h63_n (by decide +kernel) (by decide +kernel) (by decide +kernel) zb_i404 (sf_fc (sf_okb_t zb_h63_n zb_e404_0) sf_fn)
/-- X9_looks -/
def zb_m405 : sf_M := (3997696, 16333553616007998046963562849740359991808, zb_h64, zb_h64, [88, 116, 119], [])
def zb_t405_0 : sf_T := (3997696, 16333553616007998046963562849740359991808, [], zb_h64, [], [(0, 1)])
def zb_t405_1 : sf_T := (3997698, 105228117901436304798911701896198319814493576626688, [], zb_h64, [(1000, 1)], [(0, 0), (1, 0), (0, 0)])
def zb_l405 : List sf_T := [zb_t405_0, zb_t405_1]
noncomputable def zb_b405 : en_T := (fun _ => none)
theorem zb_e405_0 : sf_okb (sf_fin 133 zb_h64 []) zb_b405 61 2 0 133 24 zb_l405 [1] zb_t405_0 = true := by decide +kernel
theorem zb_e405_1 : sf_okb (sf_fin 133 zb_h64 []) zb_b405 61 2 0 133 74 zb_l405 [1] zb_t405_1 = true := by decide +kernel
theorem zb_i405 : (zb_m405.1, zb_m405.2.1, ([] : List Nat), zb_m405.2.2.1, [], [(0, 1)]) ∈ zb_l405 := List.mem_cons_self
theorem zb_k405 (hS : ∀ ρ, en_SA E ρ ω mt_SB) (hX : sf_JX J) (hM : sf_MnB E ω J) : sf_Kok E ω J 2 0 133 zb_m405 := sf_K_of hS sf_TS_n (sf_nL (by decide +kernel)) rfl zb_h64_n zb_h64_n (by decide +kernel) (by decide +kernel) (by decide +kernel) zb_i405 (sf_fc (sf_okb_t zb_h64_n zb_e405_0) (sf_fc (sf_okb_t zb_h64_n zb_e405_1) sf_fn))
/-- X9_windNow -/
def zb_m406 : sf_M := (7208960, 36893488525376225536, zb_h65, zb_h65, [88, 116, 117, 119], [83010348333840465929])
def zb_t406_0 : sf_T := (7208960, 36893488525376225536, [], zb_h65, [], [(0, 0)])
def zb_l406 : List sf_T := [zb_t406_0]
noncomputable def zb_b406 : en_T := (sf_tc 3997696 (sf_call 133 [(2, 0, zb_m405)]) (sf_tc 196608 (sf_call 133 [(6, 4, zb_m28)]) (fun _ => none)))
theorem zb_e406_0 : sf_okb (sf_fin 133 zb_h65 [83010348333840465929]) zb_b406 110 1 5 133 38 zb_l406 [] zb_t406_0 = true := by decide +kernel
theorem zb_i406 : (zb_m406.1, zb_m406.2.1, ([] : List Nat), zb_m406.2.2.1, [], [(0, 0)]) ∈ zb_l406 := List.mem_cons_self
theorem zb_k406 (hS : ∀ ρ, en_SA E ρ ω mt_SB) (hX : sf_JX J) (hM : sf_MnB E ω J) : sf_Kok E ω J 1 5 133 zb_m406 := sf_K_of hS (sf_TS_k (q := 3997696) (nx := 133) (l := [(2, 0, zb_m405)]) hX (sf_fc ⟨(rfl : zb_m405.1 = 3997696), (zb_k405 hS hX hM)⟩ sf_fn) (sf_TS_k (q := 196608) (nx := 133) (l := [(6, 4, zb_m28)]) hX (sf_fc ⟨(rfl : zb_m28.1 = 196608), (hM _ (List.mem_of_getElem? (i := 28) rfl))⟩ sf_fn) sf_TS_n)) (sf_nL (by decide +kernel)) rfl zb_h65_n zb_h65_n (by decide +kernel) (by decide +kernel) (by decide +kernel) zb_i406 (sf_fc (sf_okb_t zb_h65_n zb_e406_0) sf_fn)
/-- X9_dangerNow -/
def zb_m407 : sf_M := (1310720, 36893488525376225536, zb_h65, zb_h65, [88, 116, 117, 119], [83010348333840465929])
def zb_t407_0 : sf_T := (1310720, 36893488525376225536, [], zb_h65, [], [(0, 0)])
def zb_l407 : List sf_T := [zb_t407_0]
noncomputable def zb_b407 : en_T := (sf_tc 3997696 (sf_call 133 [(2, 0, zb_m405)]) (sf_tc 196608 (sf_call 133 [(6, 4, zb_m28)]) (fun _ => none)))
theorem zb_e407_0 : sf_okb (sf_fin 133 zb_h65 [83010348333840465929]) zb_b407 20 1 5 133 38 zb_l407 [] zb_t407_0 = true := by decide +kernel
theorem zb_i407 : (zb_m407.1, zb_m407.2.1, ([] : List Nat), zb_m407.2.2.1, [], [(0, 0)]) ∈ zb_l407 := List.mem_cons_self
theorem zb_k407 (hS : ∀ ρ, en_SA E ρ ω mt_SB) (hX : sf_JX J) (hM : sf_MnB E ω J) : sf_Kok E ω J 1 5 133 zb_m407 := sf_K_of hS (sf_TS_k (q := 3997696) (nx := 133) (l := [(2, 0, zb_m405)]) hX (sf_fc ⟨(rfl : zb_m405.1 = 3997696), (zb_k405 hS hX hM)⟩ sf_fn) (sf_TS_k (q := 196608) (nx := 133) (l := [(6, 4, zb_m28)]) hX (sf_fc ⟨(rfl : zb_m28.1 = 196608), (hM _ (List.mem_of_getElem? (i := 28) rfl))⟩ sf_fn) sf_TS_n)) (sf_nL (by decide +kernel)) rfl zb_h65_n zb_h65_n (by decide +kernel) (by decide +kernel) (by decide +kernel) zb_i407 (sf_fc (sf_okb_t zb_h65_n zb_e407_0) sf_fn)
/-- X9_weathers -/
def zb_m408 : sf_M := (7077888, 36893488525376225536, zb_h65, zb_h65, [88, 116, 117, 119], [])
def zb_t408_0 : sf_T := (7077888, 36893488525376225536, [], zb_h65, [], [(0, 0)])
def zb_l408 : List sf_T := [zb_t408_0]
noncomputable def zb_b408 : en_T := (sf_tc 1310720 (sf_call 133 [(1, 5, zb_m407)]) (sf_tc 7208960 (sf_call 133 [(1, 5, zb_m406)]) (fun _ => none)))
theorem zb_e408_0 : sf_okb (sf_fin 133 zb_h65 []) zb_b408 108 1 6 133 38 zb_l408 [] zb_t408_0 = true := by decide +kernel
theorem zb_i408 : (zb_m408.1, zb_m408.2.1, ([] : List Nat), zb_m408.2.2.1, [], [(0, 0)]) ∈ zb_l408 := List.mem_cons_self
theorem zb_k408 (hS : ∀ ρ, en_SA E ρ ω mt_SB) (hX : sf_JX J) (hM : sf_MnB E ω J) : sf_Kok E ω J 1 6 133 zb_m408 := sf_K_of hS (sf_TS_k (q := 1310720) (nx := 133) (l := [(1, 5, zb_m407)]) hX (sf_fc ⟨(rfl : zb_m407.1 = 1310720), (zb_k407 hS hX hM)⟩ sf_fn) (sf_TS_k (q := 7208960) (nx := 133) (l := [(1, 5, zb_m406)]) hX (sf_fc ⟨(rfl : zb_m406.1 = 7208960), (zb_k406 hS hX hM)⟩ sf_fn) sf_TS_n)) (sf_nL (by decide +kernel)) rfl zb_h65_n zb_h65_n (by decide +kernel) (by decide +kernel) (by decide +kernel) zb_i408 (sf_fc (sf_okb_t zb_h65_n zb_e408_0) sf_fn)
/-- X9_at -/
def zb_m409 : sf_M := (262144, 4820814133899404084098741977143444745332429438409594678280960, zb_h1, zb_h1, [], [83010348325250531333])
def zb_t409_0 : sf_T := (262144, 4820814133899404084098741977143444745332429438409594678280960, [], zb_h1, [(1000, 0)], [(0, 1)])
def zb_t409_1 : sf_T := (262156, 31057858561361006067830763032960584723500958565319766811279727790129920, [], zb_h1, [(1000, 0), (1000, 2)], [(0, 0)])
def zb_l409 : List sf_T := [zb_t409_0, zb_t409_1]
noncomputable def zb_b409 : en_T := (fun _ => none)
theorem zb_e409_0 : sf_okb (sf_fin 133 zb_h1 [83010348325250531333]) zb_b409 4 3 1 133 56 zb_l409 [1] zb_t409_0 = true := by decide +kernel
theorem zb_e409_1 : sf_okb (sf_fin 133 zb_h1 [83010348325250531333]) zb_b409 4 3 1 133 36 zb_l409 [] zb_t409_1 = true := by decide +kernel
theorem zb_i409 : (zb_m409.1, zb_m409.2.1, ([] : List Nat), zb_m409.2.2.1, [(1000, 0)], [(0, 1)]) ∈ zb_l409 := List.mem_cons_self
theorem zb_k409 (hS : ∀ ρ, en_SA E ρ ω mt_SB) (hX : sf_JX J) (hM : sf_MnB E ω J) : sf_Kok E ω J 3 1 133 zb_m409 := sf_K_of hS sf_TS_n (sf_nL (by decide +kernel)) rfl zb_h1_n zb_h1_n (by decide +kernel) (by decide +kernel) (by decide +kernel) zb_i409 (sf_fc (sf_okb_t zb_h1_n zb_e409_0) (sf_fc (sf_okb_t zb_h1_n zb_e409_1) sf_fn))
/-- X9_skillAt -/
def zb_m410 : sf_M := (5898240, 31057858561361006066813557893367387256691902665387575781551385216025344, zb_h66, zb_h66, [88, 98], [73786976299133173759])
def zb_t410_0 : sf_T := (5898240, 31057858561361006066813557893367387256691902665387575781551385216025344, [], zb_h66, [(1000, 1), (1000, 2)], [(0, 0)])
def zb_l410 : List sf_T := [zb_t410_0]
noncomputable def zb_b410 : en_T := (fun _ => none)
theorem zb_e410_0 : sf_okb (sf_fin 133 zb_h66 [73786976299133173759]) zb_b410 90 3 0 133 58 zb_l410 [] zb_t410_0 = true := by decide +kernel
theorem zb_i410 : (zb_m410.1, zb_m410.2.1, ([] : List Nat), zb_m410.2.2.1, [(1000, 1), (1000, 2)], [(0, 0)]) ∈ zb_l410 := List.mem_cons_self
theorem zb_k410 (hS : ∀ ρ, en_SA E ρ ω mt_SB) (hX : sf_JX J) (hM : sf_MnB E ω J) : sf_Kok E ω J 3 0 133 zb_m410 := sf_K_of hS sf_TS_n (sf_nL (by decide +kernel)) rfl zb_h66_n zb_h66_n (by decide +kernel) (by decide +kernel) (by decide +kernel) zb_i410 (sf_fc (sf_okb_t zb_h66_n zb_e410_0) sf_fn)
/-- X9_fillsDoing -/
def zb_m411 : sf_M := (1966080, 36582990833331704133769688463878398985241663423791010922004235441607090117855687356087714591454335370296807506695615263104760996201528637261568, zb_h67, zb_h67, [88, 98, 116, 117, 119, 120], [])
def zb_t411_0 : sf_T := (1966080, 36582990833331704133769688463878398985241663423791010922004235441607090117855687356087714591454335370296807506695615263104760996201528637261568, [], zb_h67, [(1000, 1), (1000, 2), (1000, 3), (1000, 4), (1000, 5), (88, 51), (88, 52)], [(0, 1)])
def zb_t411_1 : sf_T := (1966088, 209496998917547409953475300355948448183151193670086816111875925103330289972534760558658065480983846666955816962371948440012616040572829811408636523579136, [], zb_h67, [(1000, 1), (1000, 2), (1000, 3), (1000, 4), (1000, 5), (1000, 6), (88, 51), (88, 52)], [(0, 0)])
def zb_l411 : List sf_T := [zb_t411_0, zb_t411_1]
noncomputable def zb_b411 : en_T := (sf_tc 5898240 (sf_call 133 [(3, 0, zb_m410)]) (sf_tc 3997696 (sf_call 133 [(2, 0, zb_m405)]) (sf_tc 196608 (sf_call 133 [(6, 4, zb_m28), (6, 4, zb_m29), (6, 4, zb_m30), (6, 4, zb_m31)]) (fun _ => none))))
theorem zb_e411_0 : sf_okb (sf_fin 133 zb_h67 []) zb_b411 30 7 5 133 30 zb_l411 [1] zb_t411_0 = true := by decide +kernel
theorem zb_e411_1 : sf_okb (sf_fin 133 zb_h67 []) zb_b411 30 7 5 133 214 zb_l411 [] zb_t411_1 = true := by decide +kernel
theorem zb_i411 : (zb_m411.1, zb_m411.2.1, ([] : List Nat), zb_m411.2.2.1, [(1000, 1), (1000, 2), (1000, 3), (1000, 4), (1000, 5), (88, 51), (88, 52)], [(0, 1)]) ∈ zb_l411 := List.mem_cons_self
theorem zb_k411 (hS : ∀ ρ, en_SA E ρ ω mt_SB) (hX : sf_JX J) (hM : sf_MnB E ω J) : sf_Kok E ω J 7 5 133 zb_m411 := sf_K_of hS (sf_TS_k (q := 5898240) (nx := 133) (l := [(3, 0, zb_m410)]) hX (sf_fc ⟨(rfl : zb_m410.1 = 5898240), (zb_k410 hS hX hM)⟩ sf_fn) (sf_TS_k (q := 3997696) (nx := 133) (l := [(2, 0, zb_m405)]) hX (sf_fc ⟨(rfl : zb_m405.1 = 3997696), (zb_k405 hS hX hM)⟩ sf_fn) (sf_TS_k (q := 196608) (nx := 133) (l := [(6, 4, zb_m28), (6, 4, zb_m29), (6, 4, zb_m30), (6, 4, zb_m31)]) hX (sf_fc ⟨(rfl : zb_m28.1 = 196608), (hM _ (List.mem_of_getElem? (i := 28) rfl))⟩ (sf_fc ⟨(rfl : zb_m29.1 = 196608), (hM _ (List.mem_of_getElem? (i := 29) rfl))⟩ (sf_fc ⟨(rfl : zb_m30.1 = 196608), (hM _ (List.mem_of_getElem? (i := 30) rfl))⟩ (sf_fc ⟨(rfl : zb_m31.1 = 196608), (hM _ (List.mem_of_getElem? (i := 31) rfl))⟩ sf_fn)))) sf_TS_n))) (sf_nL (by decide +kernel)) rfl zb_h67_n zb_h67_n (by decide +kernel) (by decide +kernel) (by decide +kernel) zb_i411 (sf_fc (sf_okb_t zb_h67_n zb_e411_0) (sf_fc (sf_okb_t zb_h67_n zb_e411_1) sf_fn))
/-- X9_ordersOf -/
def zb_m412 : sf_M := (4587520, 4820814134004632201975677951514818796926343767777008297181952, zb_h68, zb_h68, [88, 98, 116, 117, 119], [83010348333840465923])
def zb_t412_0 : sf_T := (4587520, 4820814134004632201975677951514818796926343767777008297181952, [], zb_h68, [(1000, 1), (88, 51), (88, 52)], [(0, 1)])
def zb_t412_1 : sf_T := (4587571, 27606985390376131237988087698914973080737518814384213182516637433070336, [], zb_h68, [(1000, 1), (1000, 2), (88, 51), (88, 52)], [(0, 0)])
def zb_l412 : List sf_T := [zb_t412_0, zb_t412_1]
noncomputable def zb_b412 : en_T := (sf_tc 5898240 (sf_call 133 [(3, 0, zb_m410)]) (sf_tc 3997696 (sf_call 133 [(2, 0, zb_m405)]) (sf_tc 196608 (sf_call 133 [(6, 4, zb_m32)]) (fun _ => none))))
theorem zb_e412_0 : sf_okb (sf_fin 133 zb_h68 [83010348333840465923]) zb_b412 70 3 5 133 78 zb_l412 [1] zb_t412_0 = true := by decide +kernel
theorem zb_e412_1 : sf_okb (sf_fin 133 zb_h68 [83010348333840465923]) zb_b412 70 3 5 133 38 zb_l412 [] zb_t412_1 = true := by decide +kernel
theorem zb_i412 : (zb_m412.1, zb_m412.2.1, ([] : List Nat), zb_m412.2.2.1, [(1000, 1), (88, 51), (88, 52)], [(0, 1)]) ∈ zb_l412 := List.mem_cons_self
theorem zb_k412 (hS : ∀ ρ, en_SA E ρ ω mt_SB) (hX : sf_JX J) (hM : sf_MnB E ω J) : sf_Kok E ω J 3 5 133 zb_m412 := sf_K_of hS (sf_TS_k (q := 5898240) (nx := 133) (l := [(3, 0, zb_m410)]) hX (sf_fc ⟨(rfl : zb_m410.1 = 5898240), (zb_k410 hS hX hM)⟩ sf_fn) (sf_TS_k (q := 3997696) (nx := 133) (l := [(2, 0, zb_m405)]) hX (sf_fc ⟨(rfl : zb_m405.1 = 3997696), (zb_k405 hS hX hM)⟩ sf_fn) (sf_TS_k (q := 196608) (nx := 133) (l := [(6, 4, zb_m32)]) hX (sf_fc ⟨(rfl : zb_m32.1 = 196608), (hM _ (List.mem_of_getElem? (i := 32) rfl))⟩ sf_fn) sf_TS_n))) (sf_nL (by decide +kernel)) rfl zb_h68_n zb_h68_n (by decide +kernel) (by decide +kernel) (by decide +kernel) zb_i412 (sf_fc (sf_okb_t zb_h68_n zb_e412_0) (sf_fc (sf_okb_t zb_h68_n zb_e412_1) sf_fn))
/-- X9_at -/
def zb_m413 : sf_M := (262144, 4820814133899404084098741977139641793531744750205104568664832, zb_h1, zb_h1, [], [83010348325250531333])
def zb_t413_0 : sf_T := (262144, 4820814133899404084098741977139641793531744750205104568664832, [], zb_h1, [(1000, 0)], [(0, 1)])
def zb_t413_1 : sf_T := (262156, 31057858561361006067830763032960584723497155613519082123075237680513792, [], zb_h1, [(1000, 0), (1000, 2)], [(0, 0)])
def zb_l413 : List sf_T := [zb_t413_0, zb_t413_1]
noncomputable def zb_b413 : en_T := (fun _ => none)
theorem zb_e413_0 : sf_okb (sf_fin 133 zb_h1 [83010348325250531333]) zb_b413 4 3 1 133 110 zb_l413 [1] zb_t413_0 = true := by decide +kernel
theorem zb_e413_1 : sf_okb (sf_fin 133 zb_h1 [83010348325250531333]) zb_b413 4 3 1 133 36 zb_l413 [] zb_t413_1 = true := by decide +kernel
theorem zb_i413 : (zb_m413.1, zb_m413.2.1, ([] : List Nat), zb_m413.2.2.1, [(1000, 0)], [(0, 1)]) ∈ zb_l413 := List.mem_cons_self
theorem zb_k413 (hS : ∀ ρ, en_SA E ρ ω mt_SB) (hX : sf_JX J) (hM : sf_MnB E ω J) : sf_Kok E ω J 3 1 133 zb_m413 := sf_K_of hS sf_TS_n (sf_nL (by decide +kernel)) rfl zb_h1_n zb_h1_n (by decide +kernel) (by decide +kernel) (by decide +kernel) zb_i413 (sf_fc (sf_okb_t zb_h1_n zb_e413_0) (sf_fc (sf_okb_t zb_h1_n zb_e413_1) sf_fn))
/-- X9_at -/
def zb_m414 : sf_M := (262144, 4820814133899404084098741977142177094732201209008097975075584, zb_h1, zb_h1, [], [83010348325250531333])
def zb_t414_0 : sf_T := (262144, 4820814133899404084098741977142177094732201209008097975075584, [], zb_h1, [(1000, 0)], [(0, 1)])
def zb_t414_1 : sf_T := (262156, 31057858561361006067830763032960584723499690914719538581878231086924544, [], zb_h1, [(1000, 0), (1000, 2)], [(0, 0)])
def zb_l414 : List sf_T := [zb_t414_0, zb_t414_1]
noncomputable def zb_b414 : en_T := (fun _ => none)
theorem zb_e414_0 : sf_okb (sf_fin 133 zb_h1 [83010348325250531333]) zb_b414 4 3 1 133 74 zb_l414 [1] zb_t414_0 = true := by decide +kernel
theorem zb_e414_1 : sf_okb (sf_fin 133 zb_h1 [83010348325250531333]) zb_b414 4 3 1 133 36 zb_l414 [] zb_t414_1 = true := by decide +kernel
theorem zb_i414 : (zb_m414.1, zb_m414.2.1, ([] : List Nat), zb_m414.2.2.1, [(1000, 0)], [(0, 1)]) ∈ zb_l414 := List.mem_cons_self
theorem zb_k414 (hS : ∀ ρ, en_SA E ρ ω mt_SB) (hX : sf_JX J) (hM : sf_MnB E ω J) : sf_Kok E ω J 3 1 133 zb_m414 := sf_K_of hS sf_TS_n (sf_nL (by decide +kernel)) rfl zb_h1_n zb_h1_n (by decide +kernel) (by decide +kernel) (by decide +kernel) zb_i414 (sf_fc (sf_okb_t zb_h1_n zb_e414_0) (sf_fc (sf_okb_t zb_h1_n zb_e414_1) sf_fn))
/-- X9_at -/
def zb_m415 : sf_M := (262144, 4820814133899404084098741977140909444131972979606601271870208, zb_h1, zb_h1, [], [83010348325250531333])
def zb_t415_0 : sf_T := (262144, 4820814133899404084098741977140909444131972979606601271870208, [], zb_h1, [(1000, 0)], [(0, 1)])
def zb_t415_1 : sf_T := (262156, 31057858561361006067830763032960584723498423264119310352476734383719168, [], zb_h1, [(1000, 0), (1000, 2)], [(0, 0)])
def zb_l415 : List sf_T := [zb_t415_0, zb_t415_1]
noncomputable def zb_b415 : en_T := (fun _ => none)
theorem zb_e415_0 : sf_okb (sf_fin 133 zb_h1 [83010348325250531333]) zb_b415 4 3 1 133 92 zb_l415 [1] zb_t415_0 = true := by decide +kernel
theorem zb_e415_1 : sf_okb (sf_fin 133 zb_h1 [83010348325250531333]) zb_b415 4 3 1 133 36 zb_l415 [] zb_t415_1 = true := by decide +kernel
theorem zb_i415 : (zb_m415.1, zb_m415.2.1, ([] : List Nat), zb_m415.2.2.1, [(1000, 0)], [(0, 1)]) ∈ zb_l415 := List.mem_cons_self
theorem zb_k415 (hS : ∀ ρ, en_SA E ρ ω mt_SB) (hX : sf_JX J) (hM : sf_MnB E ω J) : sf_Kok E ω J 3 1 133 zb_m415 := sf_K_of hS sf_TS_n (sf_nL (by decide +kernel)) rfl zb_h1_n zb_h1_n (by decide +kernel) (by decide +kernel) (by decide +kernel) zb_i415 (sf_fc (sf_okb_t zb_h1_n zb_e415_0) (sf_fc (sf_okb_t zb_h1_n zb_e415_1) sf_fn))
/-- X9_fillsDraw -/
def zb_m416 : sf_M := (2031616, 31057858559754068022554567617836314203128233281242810191791013140366080, zb_h67, zb_h67, [88, 98, 116, 117, 119, 120], [])
def zb_t416_0 : sf_T := (2031616, 31057858559754068022554567617836314203128233281242810191791013140366080, [], zb_h67, [(1000, 1), (1000, 2)], [(0, 0)])
def zb_l416 : List sf_T := [zb_t416_0]
noncomputable def zb_b416 : en_T := (sf_tc 4587520 (sf_call 133 [(3, 5, zb_m412)]) (sf_tc 1966080 (sf_call 133 [(7, 5, zb_m411)]) (sf_tc 262144 (sf_call 133 [(3, 1, zb_m409), (3, 1, zb_m413), (3, 1, zb_m414), (3, 1, zb_m415)]) (fun _ => none))))
theorem zb_e416_0 : sf_okb (sf_fin 133 zb_h67 []) zb_b416 31 3 6 133 72 zb_l416 [] zb_t416_0 = true := by decide +kernel
theorem zb_i416 : (zb_m416.1, zb_m416.2.1, ([] : List Nat), zb_m416.2.2.1, [(1000, 1), (1000, 2)], [(0, 0)]) ∈ zb_l416 := List.mem_cons_self
theorem zb_k416 (hS : ∀ ρ, en_SA E ρ ω mt_SB) (hX : sf_JX J) (hM : sf_MnB E ω J) : sf_Kok E ω J 3 6 133 zb_m416 := sf_K_of hS (sf_TS_k (q := 4587520) (nx := 133) (l := [(3, 5, zb_m412)]) hX (sf_fc ⟨(rfl : zb_m412.1 = 4587520), (zb_k412 hS hX hM)⟩ sf_fn) (sf_TS_k (q := 1966080) (nx := 133) (l := [(7, 5, zb_m411)]) hX (sf_fc ⟨(rfl : zb_m411.1 = 1966080), (zb_k411 hS hX hM)⟩ sf_fn) (sf_TS_k (q := 262144) (nx := 133) (l := [(3, 1, zb_m409), (3, 1, zb_m413), (3, 1, zb_m414), (3, 1, zb_m415)]) hX (sf_fc ⟨(rfl : zb_m409.1 = 262144), (zb_k409 hS hX hM)⟩ (sf_fc ⟨(rfl : zb_m413.1 = 262144), (zb_k413 hS hX hM)⟩ (sf_fc ⟨(rfl : zb_m414.1 = 262144), (zb_k414 hS hX hM)⟩ (sf_fc ⟨(rfl : zb_m415.1 = 262144), (zb_k415 hS hX hM)⟩ sf_fn)))) sf_TS_n))) (sf_nL (by decide +kernel)) rfl zb_h67_n zb_h67_n (by decide +kernel) (by decide +kernel) (by decide +kernel) zb_i416 (sf_fc (sf_okb_t zb_h67_n zb_e416_0) sf_fn)
end SFP
