/-! CONTRACTS, by program (wip/p3/emit.py) -/
section SFP
variable {E : mm_E} {ω : Nat → Value} {J : mm_H → Prop}
/-- X9_copies -/
def sb_m404 : sf_M := (1114112, 16333553616007998046963562849740359991808, sb_h63, sb_h63, [88, 105, 118, 119], [])
def sb_t404_0 : sf_T := (1114112, 16333553616007998046963562849740359991808, [], sb_h63, [], [(0, 0)])
def sb_l404 : List sf_T := [sb_t404_0]
noncomputable def sb_b404 : en_T := (fun _ => none)
theorem sb_e404_0 : sf_okb (sf_fin 133 sb_h63 []) sb_b404 17 2 0 133 1612 sb_l404 [] sb_t404_0 = true := by decide +kernel
theorem sb_i404 : (sb_m404.1, sb_m404.2.1, ([] : List Nat), sb_m404.2.2.1, [], [(0, 0)]) ∈ sb_l404 := List.mem_cons_self
theorem sb_k404 (hS : ∀ ρ, en_SA E ρ ω mt_SB) (hX : sf_JX J) (hM : sf_MnB E ω J) : sf_Kok E ω J 2 0 133 sb_m404 := sf_K_of hS sf_TS_n (sf_nL (by decide +kernel)) rfl sb_h63_n sb_h63_n (by decide +kernel) (by decide +kernel) (by decide +kernel) sb_i404 (sf_fc (sf_okb_t sb_h63_n sb_e404_0) sf_fn)
/-- X9_looks -/
def sb_m405 : sf_M := (3997696, 16333553616007998046963562849740359991808, sb_h64, sb_h64, [88, 116, 119], [])
def sb_t405_0 : sf_T := (3997696, 16333553616007998046963562849740359991808, [], sb_h64, [], [(0, 1)])
def sb_t405_1 : sf_T := (3997698, 105228117901436304798911701896198319814493576626688, [], sb_h64, [(1000, 1)], [(0, 0), (1, 0), (0, 0)])
def sb_l405 : List sf_T := [sb_t405_0, sb_t405_1]
noncomputable def sb_b405 : en_T := (fun _ => none)
theorem sb_e405_0 : sf_okb (sf_fin 133 sb_h64 []) sb_b405 61 2 0 133 24 sb_l405 [1] sb_t405_0 = true := by decide +kernel
theorem sb_e405_1 : sf_okb (sf_fin 133 sb_h64 []) sb_b405 61 2 0 133 74 sb_l405 [1] sb_t405_1 = true := by decide +kernel
theorem sb_i405 : (sb_m405.1, sb_m405.2.1, ([] : List Nat), sb_m405.2.2.1, [], [(0, 1)]) ∈ sb_l405 := List.mem_cons_self
theorem sb_k405 (hS : ∀ ρ, en_SA E ρ ω mt_SB) (hX : sf_JX J) (hM : sf_MnB E ω J) : sf_Kok E ω J 2 0 133 sb_m405 := sf_K_of hS sf_TS_n (sf_nL (by decide +kernel)) rfl sb_h64_n sb_h64_n (by decide +kernel) (by decide +kernel) (by decide +kernel) sb_i405 (sf_fc (sf_okb_t sb_h64_n sb_e405_0) (sf_fc (sf_okb_t sb_h64_n sb_e405_1) sf_fn))
/-- X9_windNow -/
def sb_m406 : sf_M := (7208960, 36893488525376225536, sb_h65, sb_h65, [88, 116, 117, 119], [83010348333840465929])
def sb_t406_0 : sf_T := (7208960, 36893488525376225536, [], sb_h65, [], [(0, 0)])
def sb_l406 : List sf_T := [sb_t406_0]
noncomputable def sb_b406 : en_T := (sf_tc 3997696 (sf_call 133 [(2, 0, sb_m405)]) (sf_tc 196608 (sf_call 133 [(6, 4, sb_m28)]) (fun _ => none)))
theorem sb_e406_0 : sf_okb (sf_fin 133 sb_h65 [83010348333840465929]) sb_b406 110 1 5 133 38 sb_l406 [] sb_t406_0 = true := by decide +kernel
theorem sb_i406 : (sb_m406.1, sb_m406.2.1, ([] : List Nat), sb_m406.2.2.1, [], [(0, 0)]) ∈ sb_l406 := List.mem_cons_self
theorem sb_k406 (hS : ∀ ρ, en_SA E ρ ω mt_SB) (hX : sf_JX J) (hM : sf_MnB E ω J) : sf_Kok E ω J 1 5 133 sb_m406 := sf_K_of hS (sf_TS_k (q := 3997696) (nx := 133) (l := [(2, 0, sb_m405)]) hX (sf_fc ⟨(rfl : sb_m405.1 = 3997696), (sb_k405 hS hX hM)⟩ sf_fn) (sf_TS_k (q := 196608) (nx := 133) (l := [(6, 4, sb_m28)]) hX (sf_fc ⟨(rfl : sb_m28.1 = 196608), (hM _ (List.mem_of_getElem? (i := 28) rfl))⟩ sf_fn) sf_TS_n)) (sf_nL (by decide +kernel)) rfl sb_h65_n sb_h65_n (by decide +kernel) (by decide +kernel) (by decide +kernel) sb_i406 (sf_fc (sf_okb_t sb_h65_n sb_e406_0) sf_fn)
/-- X9_dangerNow -/
def sb_m407 : sf_M := (1310720, 36893488525376225536, sb_h65, sb_h65, [88, 116, 117, 119], [83010348333840465929])
def sb_t407_0 : sf_T := (1310720, 36893488525376225536, [], sb_h65, [], [(0, 0)])
def sb_l407 : List sf_T := [sb_t407_0]
noncomputable def sb_b407 : en_T := (sf_tc 3997696 (sf_call 133 [(2, 0, sb_m405)]) (sf_tc 196608 (sf_call 133 [(6, 4, sb_m28)]) (fun _ => none)))
theorem sb_e407_0 : sf_okb (sf_fin 133 sb_h65 [83010348333840465929]) sb_b407 20 1 5 133 38 sb_l407 [] sb_t407_0 = true := by decide +kernel
theorem sb_i407 : (sb_m407.1, sb_m407.2.1, ([] : List Nat), sb_m407.2.2.1, [], [(0, 0)]) ∈ sb_l407 := List.mem_cons_self
theorem sb_k407 (hS : ∀ ρ, en_SA E ρ ω mt_SB) (hX : sf_JX J) (hM : sf_MnB E ω J) : sf_Kok E ω J 1 5 133 sb_m407 := sf_K_of hS (sf_TS_k (q := 3997696) (nx := 133) (l := [(2, 0, sb_m405)]) hX (sf_fc ⟨(rfl : sb_m405.1 = 3997696), (sb_k405 hS hX hM)⟩ sf_fn) (sf_TS_k (q := 196608) (nx := 133) (l := [(6, 4, sb_m28)]) hX (sf_fc ⟨(rfl : sb_m28.1 = 196608), (hM _ (List.mem_of_getElem? (i := 28) rfl))⟩ sf_fn) sf_TS_n)) (sf_nL (by decide +kernel)) rfl sb_h65_n sb_h65_n (by decide +kernel) (by decide +kernel) (by decide +kernel) sb_i407 (sf_fc (sf_okb_t sb_h65_n sb_e407_0) sf_fn)
/-- X9_weathers -/
def sb_m408 : sf_M := (7077888, 36893488525376225536, sb_h65, sb_h65, [88, 116, 117, 119], [])
def sb_t408_0 : sf_T := (7077888, 36893488525376225536, [], sb_h65, [], [(0, 0)])
def sb_l408 : List sf_T := [sb_t408_0]
noncomputable def sb_b408 : en_T := (sf_tc 1310720 (sf_call 133 [(1, 5, sb_m407)]) (sf_tc 7208960 (sf_call 133 [(1, 5, sb_m406)]) (fun _ => none)))
theorem sb_e408_0 : sf_okb (sf_fin 133 sb_h65 []) sb_b408 108 1 6 133 38 sb_l408 [] sb_t408_0 = true := by decide +kernel
theorem sb_i408 : (sb_m408.1, sb_m408.2.1, ([] : List Nat), sb_m408.2.2.1, [], [(0, 0)]) ∈ sb_l408 := List.mem_cons_self
theorem sb_k408 (hS : ∀ ρ, en_SA E ρ ω mt_SB) (hX : sf_JX J) (hM : sf_MnB E ω J) : sf_Kok E ω J 1 6 133 sb_m408 := sf_K_of hS (sf_TS_k (q := 1310720) (nx := 133) (l := [(1, 5, sb_m407)]) hX (sf_fc ⟨(rfl : sb_m407.1 = 1310720), (sb_k407 hS hX hM)⟩ sf_fn) (sf_TS_k (q := 7208960) (nx := 133) (l := [(1, 5, sb_m406)]) hX (sf_fc ⟨(rfl : sb_m406.1 = 7208960), (sb_k406 hS hX hM)⟩ sf_fn) sf_TS_n)) (sf_nL (by decide +kernel)) rfl sb_h65_n sb_h65_n (by decide +kernel) (by decide +kernel) (by decide +kernel) sb_i408 (sf_fc (sf_okb_t sb_h65_n sb_e408_0) sf_fn)
/-- X9_at -/
def sb_m409 : sf_M := (262144, 4820814133899404084098741977143444745332429438409594678280960, sb_h1, sb_h1, [], [83010348325250531333])
def sb_t409_0 : sf_T := (262144, 4820814133899404084098741977143444745332429438409594678280960, [], sb_h1, [(1000, 0)], [(0, 1)])
def sb_t409_1 : sf_T := (262156, 31057858561361006067830763032960584723500958565319766811279727790129920, [], sb_h1, [(1000, 0), (1000, 2)], [(0, 0)])
def sb_l409 : List sf_T := [sb_t409_0, sb_t409_1]
noncomputable def sb_b409 : en_T := (fun _ => none)
theorem sb_e409_0 : sf_okb (sf_fin 133 sb_h1 [83010348325250531333]) sb_b409 4 3 1 133 56 sb_l409 [1] sb_t409_0 = true := by decide +kernel
theorem sb_e409_1 : sf_okb (sf_fin 133 sb_h1 [83010348325250531333]) sb_b409 4 3 1 133 36 sb_l409 [] sb_t409_1 = true := by decide +kernel
theorem sb_i409 : (sb_m409.1, sb_m409.2.1, ([] : List Nat), sb_m409.2.2.1, [(1000, 0)], [(0, 1)]) ∈ sb_l409 := List.mem_cons_self
theorem sb_k409 (hS : ∀ ρ, en_SA E ρ ω mt_SB) (hX : sf_JX J) (hM : sf_MnB E ω J) : sf_Kok E ω J 3 1 133 sb_m409 := sf_K_of hS sf_TS_n (sf_nL (by decide +kernel)) rfl sb_h1_n sb_h1_n (by decide +kernel) (by decide +kernel) (by decide +kernel) sb_i409 (sf_fc (sf_okb_t sb_h1_n sb_e409_0) (sf_fc (sf_okb_t sb_h1_n sb_e409_1) sf_fn))
/-- X9_skillAt -/
def sb_m410 : sf_M := (5898240, 31057858561361006066813557893367387256691902665387575781551385216025344, sb_h66, sb_h66, [88, 98], [73786976299133173759])
def sb_t410_0 : sf_T := (5898240, 31057858561361006066813557893367387256691902665387575781551385216025344, [], sb_h66, [(1000, 1), (1000, 2)], [(0, 0)])
def sb_l410 : List sf_T := [sb_t410_0]
noncomputable def sb_b410 : en_T := (fun _ => none)
theorem sb_e410_0 : sf_okb (sf_fin 133 sb_h66 [73786976299133173759]) sb_b410 90 3 0 133 58 sb_l410 [] sb_t410_0 = true := by decide +kernel
theorem sb_i410 : (sb_m410.1, sb_m410.2.1, ([] : List Nat), sb_m410.2.2.1, [(1000, 1), (1000, 2)], [(0, 0)]) ∈ sb_l410 := List.mem_cons_self
theorem sb_k410 (hS : ∀ ρ, en_SA E ρ ω mt_SB) (hX : sf_JX J) (hM : sf_MnB E ω J) : sf_Kok E ω J 3 0 133 sb_m410 := sf_K_of hS sf_TS_n (sf_nL (by decide +kernel)) rfl sb_h66_n sb_h66_n (by decide +kernel) (by decide +kernel) (by decide +kernel) sb_i410 (sf_fc (sf_okb_t sb_h66_n sb_e410_0) sf_fn)
/-- X9_fillsDoing -/
def sb_m411 : sf_M := (1966080, 36582990833331704133769688463878398985241663423791010922004235441607090117855687356087714591454335370296807506695615263104760996201528637261568, sb_h67, sb_h67, [88, 98, 116, 117, 119, 120], [])
def sb_t411_0 : sf_T := (1966080, 36582990833331704133769688463878398985241663423791010922004235441607090117855687356087714591454335370296807506695615263104760996201528637261568, [], sb_h67, [(1000, 1), (1000, 2), (1000, 3), (1000, 4), (1000, 5), (88, 51), (88, 52)], [(0, 1)])
def sb_t411_1 : sf_T := (1966088, 209496998917547409953475300355948448183151193670086816111875925103330289972534760558658065480983846666955816962371948440012616040572829811408636523579136, [], sb_h67, [(1000, 1), (1000, 2), (1000, 3), (1000, 4), (1000, 5), (1000, 6), (88, 51), (88, 52)], [(0, 0)])
def sb_l411 : List sf_T := [sb_t411_0, sb_t411_1]
noncomputable def sb_b411 : en_T := (sf_tc 5898240 (sf_call 133 [(3, 0, sb_m410)]) (sf_tc 3997696 (sf_call 133 [(2, 0, sb_m405)]) (sf_tc 196608 (sf_call 133 [(6, 4, sb_m28), (6, 4, sb_m29), (6, 4, sb_m30), (6, 4, sb_m31)]) (fun _ => none))))
theorem sb_e411_0 : sf_okb (sf_fin 133 sb_h67 []) sb_b411 30 7 5 133 30 sb_l411 [1] sb_t411_0 = true := by decide +kernel
theorem sb_e411_1 : sf_okb (sf_fin 133 sb_h67 []) sb_b411 30 7 5 133 214 sb_l411 [] sb_t411_1 = true := by decide +kernel
theorem sb_i411 : (sb_m411.1, sb_m411.2.1, ([] : List Nat), sb_m411.2.2.1, [(1000, 1), (1000, 2), (1000, 3), (1000, 4), (1000, 5), (88, 51), (88, 52)], [(0, 1)]) ∈ sb_l411 := List.mem_cons_self
theorem sb_k411 (hS : ∀ ρ, en_SA E ρ ω mt_SB) (hX : sf_JX J) (hM : sf_MnB E ω J) : sf_Kok E ω J 7 5 133 sb_m411 := sf_K_of hS (sf_TS_k (q := 5898240) (nx := 133) (l := [(3, 0, sb_m410)]) hX (sf_fc ⟨(rfl : sb_m410.1 = 5898240), (sb_k410 hS hX hM)⟩ sf_fn) (sf_TS_k (q := 3997696) (nx := 133) (l := [(2, 0, sb_m405)]) hX (sf_fc ⟨(rfl : sb_m405.1 = 3997696), (sb_k405 hS hX hM)⟩ sf_fn) (sf_TS_k (q := 196608) (nx := 133) (l := [(6, 4, sb_m28), (6, 4, sb_m29), (6, 4, sb_m30), (6, 4, sb_m31)]) hX (sf_fc ⟨(rfl : sb_m28.1 = 196608), (hM _ (List.mem_of_getElem? (i := 28) rfl))⟩ (sf_fc ⟨(rfl : sb_m29.1 = 196608), (hM _ (List.mem_of_getElem? (i := 29) rfl))⟩ (sf_fc ⟨(rfl : sb_m30.1 = 196608), (hM _ (List.mem_of_getElem? (i := 30) rfl))⟩ (sf_fc ⟨(rfl : sb_m31.1 = 196608), (hM _ (List.mem_of_getElem? (i := 31) rfl))⟩ sf_fn)))) sf_TS_n))) (sf_nL (by decide +kernel)) rfl sb_h67_n sb_h67_n (by decide +kernel) (by decide +kernel) (by decide +kernel) sb_i411 (sf_fc (sf_okb_t sb_h67_n sb_e411_0) (sf_fc (sf_okb_t sb_h67_n sb_e411_1) sf_fn))
/-- X9_ordersOf -/
def sb_m412 : sf_M := (4587520, 4820814134004632201975677951514818796926343767777008297181952, sb_h68, sb_h68, [88, 98, 116, 117, 119], [83010348333840465923])
def sb_t412_0 : sf_T := (4587520, 4820814134004632201975677951514818796926343767777008297181952, [], sb_h68, [(1000, 1), (88, 51), (88, 52)], [(0, 1)])
def sb_t412_1 : sf_T := (4587571, 27606985390376131237988087698914973080737518814384213182516637433070336, [], sb_h68, [(1000, 1), (1000, 2), (88, 51), (88, 52)], [(0, 0)])
def sb_l412 : List sf_T := [sb_t412_0, sb_t412_1]
noncomputable def sb_b412 : en_T := (sf_tc 5898240 (sf_call 133 [(3, 0, sb_m410)]) (sf_tc 3997696 (sf_call 133 [(2, 0, sb_m405)]) (sf_tc 196608 (sf_call 133 [(6, 4, sb_m32)]) (fun _ => none))))
theorem sb_e412_0 : sf_okb (sf_fin 133 sb_h68 [83010348333840465923]) sb_b412 70 3 5 133 78 sb_l412 [1] sb_t412_0 = true := by decide +kernel
theorem sb_e412_1 : sf_okb (sf_fin 133 sb_h68 [83010348333840465923]) sb_b412 70 3 5 133 38 sb_l412 [] sb_t412_1 = true := by decide +kernel
theorem sb_i412 : (sb_m412.1, sb_m412.2.1, ([] : List Nat), sb_m412.2.2.1, [(1000, 1), (88, 51), (88, 52)], [(0, 1)]) ∈ sb_l412 := List.mem_cons_self
theorem sb_k412 (hS : ∀ ρ, en_SA E ρ ω mt_SB) (hX : sf_JX J) (hM : sf_MnB E ω J) : sf_Kok E ω J 3 5 133 sb_m412 := sf_K_of hS (sf_TS_k (q := 5898240) (nx := 133) (l := [(3, 0, sb_m410)]) hX (sf_fc ⟨(rfl : sb_m410.1 = 5898240), (sb_k410 hS hX hM)⟩ sf_fn) (sf_TS_k (q := 3997696) (nx := 133) (l := [(2, 0, sb_m405)]) hX (sf_fc ⟨(rfl : sb_m405.1 = 3997696), (sb_k405 hS hX hM)⟩ sf_fn) (sf_TS_k (q := 196608) (nx := 133) (l := [(6, 4, sb_m32)]) hX (sf_fc ⟨(rfl : sb_m32.1 = 196608), (hM _ (List.mem_of_getElem? (i := 32) rfl))⟩ sf_fn) sf_TS_n))) (sf_nL (by decide +kernel)) rfl sb_h68_n sb_h68_n (by decide +kernel) (by decide +kernel) (by decide +kernel) sb_i412 (sf_fc (sf_okb_t sb_h68_n sb_e412_0) (sf_fc (sf_okb_t sb_h68_n sb_e412_1) sf_fn))
/-- X9_at -/
def sb_m413 : sf_M := (262144, 4820814133899404084098741977139641793531744750205104568664832, sb_h1, sb_h1, [], [83010348325250531333])
def sb_t413_0 : sf_T := (262144, 4820814133899404084098741977139641793531744750205104568664832, [], sb_h1, [(1000, 0)], [(0, 1)])
def sb_t413_1 : sf_T := (262156, 31057858561361006067830763032960584723497155613519082123075237680513792, [], sb_h1, [(1000, 0), (1000, 2)], [(0, 0)])
def sb_l413 : List sf_T := [sb_t413_0, sb_t413_1]
noncomputable def sb_b413 : en_T := (fun _ => none)
theorem sb_e413_0 : sf_okb (sf_fin 133 sb_h1 [83010348325250531333]) sb_b413 4 3 1 133 110 sb_l413 [1] sb_t413_0 = true := by decide +kernel
theorem sb_e413_1 : sf_okb (sf_fin 133 sb_h1 [83010348325250531333]) sb_b413 4 3 1 133 36 sb_l413 [] sb_t413_1 = true := by decide +kernel
theorem sb_i413 : (sb_m413.1, sb_m413.2.1, ([] : List Nat), sb_m413.2.2.1, [(1000, 0)], [(0, 1)]) ∈ sb_l413 := List.mem_cons_self
theorem sb_k413 (hS : ∀ ρ, en_SA E ρ ω mt_SB) (hX : sf_JX J) (hM : sf_MnB E ω J) : sf_Kok E ω J 3 1 133 sb_m413 := sf_K_of hS sf_TS_n (sf_nL (by decide +kernel)) rfl sb_h1_n sb_h1_n (by decide +kernel) (by decide +kernel) (by decide +kernel) sb_i413 (sf_fc (sf_okb_t sb_h1_n sb_e413_0) (sf_fc (sf_okb_t sb_h1_n sb_e413_1) sf_fn))
/-- X9_at -/
def sb_m414 : sf_M := (262144, 4820814133899404084098741977142177094732201209008097975075584, sb_h1, sb_h1, [], [83010348325250531333])
def sb_t414_0 : sf_T := (262144, 4820814133899404084098741977142177094732201209008097975075584, [], sb_h1, [(1000, 0)], [(0, 1)])
def sb_t414_1 : sf_T := (262156, 31057858561361006067830763032960584723499690914719538581878231086924544, [], sb_h1, [(1000, 0), (1000, 2)], [(0, 0)])
def sb_l414 : List sf_T := [sb_t414_0, sb_t414_1]
noncomputable def sb_b414 : en_T := (fun _ => none)
theorem sb_e414_0 : sf_okb (sf_fin 133 sb_h1 [83010348325250531333]) sb_b414 4 3 1 133 74 sb_l414 [1] sb_t414_0 = true := by decide +kernel
theorem sb_e414_1 : sf_okb (sf_fin 133 sb_h1 [83010348325250531333]) sb_b414 4 3 1 133 36 sb_l414 [] sb_t414_1 = true := by decide +kernel
theorem sb_i414 : (sb_m414.1, sb_m414.2.1, ([] : List Nat), sb_m414.2.2.1, [(1000, 0)], [(0, 1)]) ∈ sb_l414 := List.mem_cons_self
theorem sb_k414 (hS : ∀ ρ, en_SA E ρ ω mt_SB) (hX : sf_JX J) (hM : sf_MnB E ω J) : sf_Kok E ω J 3 1 133 sb_m414 := sf_K_of hS sf_TS_n (sf_nL (by decide +kernel)) rfl sb_h1_n sb_h1_n (by decide +kernel) (by decide +kernel) (by decide +kernel) sb_i414 (sf_fc (sf_okb_t sb_h1_n sb_e414_0) (sf_fc (sf_okb_t sb_h1_n sb_e414_1) sf_fn))
/-- X9_at -/
def sb_m415 : sf_M := (262144, 4820814133899404084098741977140909444131972979606601271870208, sb_h1, sb_h1, [], [83010348325250531333])
def sb_t415_0 : sf_T := (262144, 4820814133899404084098741977140909444131972979606601271870208, [], sb_h1, [(1000, 0)], [(0, 1)])
def sb_t415_1 : sf_T := (262156, 31057858561361006067830763032960584723498423264119310352476734383719168, [], sb_h1, [(1000, 0), (1000, 2)], [(0, 0)])
def sb_l415 : List sf_T := [sb_t415_0, sb_t415_1]
noncomputable def sb_b415 : en_T := (fun _ => none)
theorem sb_e415_0 : sf_okb (sf_fin 133 sb_h1 [83010348325250531333]) sb_b415 4 3 1 133 92 sb_l415 [1] sb_t415_0 = true := by decide +kernel
theorem sb_e415_1 : sf_okb (sf_fin 133 sb_h1 [83010348325250531333]) sb_b415 4 3 1 133 36 sb_l415 [] sb_t415_1 = true := by decide +kernel
theorem sb_i415 : (sb_m415.1, sb_m415.2.1, ([] : List Nat), sb_m415.2.2.1, [(1000, 0)], [(0, 1)]) ∈ sb_l415 := List.mem_cons_self
theorem sb_k415 (hS : ∀ ρ, en_SA E ρ ω mt_SB) (hX : sf_JX J) (hM : sf_MnB E ω J) : sf_Kok E ω J 3 1 133 sb_m415 := sf_K_of hS sf_TS_n (sf_nL (by decide +kernel)) rfl sb_h1_n sb_h1_n (by decide +kernel) (by decide +kernel) (by decide +kernel) sb_i415 (sf_fc (sf_okb_t sb_h1_n sb_e415_0) (sf_fc (sf_okb_t sb_h1_n sb_e415_1) sf_fn))
/-- X9_fillsDraw -/
def sb_m416 : sf_M := (2031616, 31057858559754068022554567617836314203128233281242810191791013140366080, sb_h67, sb_h67, [88, 98, 116, 117, 119, 120], [])
def sb_t416_0 : sf_T := (2031616, 31057858559754068022554567617836314203128233281242810191791013140366080, [], sb_h67, [(1000, 1), (1000, 2)], [(0, 0)])
def sb_l416 : List sf_T := [sb_t416_0]
noncomputable def sb_b416 : en_T := (sf_tc 4587520 (sf_call 133 [(3, 5, sb_m412)]) (sf_tc 1966080 (sf_call 133 [(7, 5, sb_m411)]) (sf_tc 262144 (sf_call 133 [(3, 1, sb_m409), (3, 1, sb_m413), (3, 1, sb_m414), (3, 1, sb_m415)]) (fun _ => none))))
theorem sb_e416_0 : sf_okb (sf_fin 133 sb_h67 []) sb_b416 31 3 6 133 72 sb_l416 [] sb_t416_0 = true := by decide +kernel
theorem sb_i416 : (sb_m416.1, sb_m416.2.1, ([] : List Nat), sb_m416.2.2.1, [(1000, 1), (1000, 2)], [(0, 0)]) ∈ sb_l416 := List.mem_cons_self
theorem sb_k416 (hS : ∀ ρ, en_SA E ρ ω mt_SB) (hX : sf_JX J) (hM : sf_MnB E ω J) : sf_Kok E ω J 3 6 133 sb_m416 := sf_K_of hS (sf_TS_k (q := 4587520) (nx := 133) (l := [(3, 5, sb_m412)]) hX (sf_fc ⟨(rfl : sb_m412.1 = 4587520), (sb_k412 hS hX hM)⟩ sf_fn) (sf_TS_k (q := 1966080) (nx := 133) (l := [(7, 5, sb_m411)]) hX (sf_fc ⟨(rfl : sb_m411.1 = 1966080), (sb_k411 hS hX hM)⟩ sf_fn) (sf_TS_k (q := 262144) (nx := 133) (l := [(3, 1, sb_m409), (3, 1, sb_m413), (3, 1, sb_m414), (3, 1, sb_m415)]) hX (sf_fc ⟨(rfl : sb_m409.1 = 262144), (sb_k409 hS hX hM)⟩ (sf_fc ⟨(rfl : sb_m413.1 = 262144), (sb_k413 hS hX hM)⟩ (sf_fc ⟨(rfl : sb_m414.1 = 262144), (sb_k414 hS hX hM)⟩ (sf_fc ⟨(rfl : sb_m415.1 = 262144), (sb_k415 hS hX hM)⟩ sf_fn)))) sf_TS_n))) (sf_nL (by decide +kernel)) rfl sb_h67_n sb_h67_n (by decide +kernel) (by decide +kernel) (by decide +kernel) sb_i416 (sf_fc (sf_okb_t sb_h67_n sb_e416_0) sf_fn)
end SFP
