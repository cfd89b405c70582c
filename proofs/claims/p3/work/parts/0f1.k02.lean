/-! CONTRACTS, by program (wip/p3/emit.py) -/
section SFP
variable {E : mm_E} {ω : Nat → Value} {J : mm_H → Prop}
def sa_h32 : en_H := (((((((0, 0), 0), 0), ((0, 0), (0, 0))), ((((((0, (0, 0)), 0), 0), ((((0, 0), (0, (0, 0))), (((0, 0), 0), (0, (0, (0, 0))))), 0)), ((sa_r18, 0), 0)), (0, ((((0, 0), ((0, 0), ((0, 0), 0))), (((sa_r10, (sa_r26, sa_r18)), ((sa_r18, sa_r18), (sa_r18, sa_r18))), (((sa_r18, sa_r18), (sa_r18, sa_r18)), ((sa_r18, sa_r18), (sa_r18, sa_r18))))), (((((sa_r18, sa_r18), (sa_r18, sa_r18)), ((sa_r18, sa_r18), (sa_r18, sa_r18))), (((sa_r18, sa_r18), (sa_r18, sa_r18)), ((sa_r18, sa_r18), (sa_r18, sa_r18)))), ((((sa_r18, sa_r18), (sa_r18, sa_r18)), ((sa_r18, sa_r18), (sa_r18, (sa_r18, sa_r18)))), ((((sa_r18, sa_r18), (0, 0)), ((0, 0), 0)), (0, (0, (0, 0)))))))))), 0), ((((((0, 0), 0), (0, (0, 0))), (0, 0)), 0), ((((((((0, 0), 0), (0, 0)), (0, (0, 0))), 0), (0, (((0, 0), (0, 0)), ((0, 0), (0, 0))))), 0), (((0, 0), 0), (0, ((0, ((0, 0), (0, 0))), (((0, 0), (0, 0)), ((0, 0), ((0, 0), (0, 0))))))))))
theorem sa_h32_n : sf_nlh sa_h32 136 = true := by decide +kernel
/-- X3_save -/
def sa_m69 : sf_M := (10354688, 10889035774428946436798845365037199000064, sa_h32, sa_h32, [26, 37, 38, 39, 40, 41, 42, 43, 44, 45, 46, 47, 48, 49, 50, 51, 52, 53, 54, 55, 56, 57, 58, 59, 60, 61, 62, 63, 64, 65, 66, 67, 68, 69, 70, 71, 72, 73, 74, 75, 76, 77, 78], [])
def sa_t69_0 : sf_T := (10354688, 10889035774428946436798845365037199000064, [], sa_h32, [(37, 3), (37, 4)], [(0, 0)])
def sa_l69 : List sf_T := [sa_t69_0]
noncomputable def sa_b69 : en_T := (fun _ => none)
theorem sa_e69_0 : sf_okb (sf_fin 133 sa_h32 []) sa_b69 158 2 1 133 1266 sa_l69 [] sa_t69_0 = true := by decide +kernel
theorem sa_i69 : (sa_m69.1, sa_m69.2.1, ([] : List Nat), sa_m69.2.2.1, [(37, 3), (37, 4)], [(0, 0)]) ∈ sa_l69 := List.mem_cons_self
theorem sa_k69 (hS : ∀ ρ, en_SA E ρ ω mt_SB) (hX : sf_JX J) (hM : sf_MnA E ω J) : sf_Kok E ω J 2 1 133 sa_m69 := sf_K_of hS sf_TS_n (sf_nL (by decide +kernel)) rfl sa_h32_n sa_h32_n (by decide +kernel) (by decide +kernel) (by decide +kernel) sa_i69 (sf_fc (sf_okb_t sa_h32_n sa_e69_0) sf_fn)
def sa_h33 : en_H := (((((((sa_r23, 0), sa_r0), 0), ((0, 0), (0, 0))), ((((((0, (0, 0)), 0), 0), ((((0, 0), (0, (0, 0))), (((0, 0), 0), (0, (0, (0, 0))))), sa_r19)), ((sa_r18, 0), 0)), (0, ((((0, 0), ((0, 0), ((0, 0), 0))), (((sa_r10, (sa_r26, sa_r18)), ((sa_r18, sa_r18), (sa_r18, sa_r18))), (((sa_r18, sa_r18), (sa_r18, sa_r18)), ((sa_r18, sa_r18), (sa_r18, sa_r18))))), (((((sa_r18, sa_r18), (sa_r18, sa_r18)), ((sa_r18, sa_r18), (sa_r18, sa_r18))), (((sa_r18, sa_r18), (sa_r18, sa_r18)), ((sa_r18, sa_r18), (sa_r18, sa_r18)))), ((((sa_r18, sa_r18), (sa_r18, sa_r18)), ((sa_r18, sa_r18), (sa_r18, (sa_r18, sa_r18)))), ((((sa_r18, sa_r18), (0, 0)), ((0, 0), 0)), (0, (0, (0, 0)))))))))), 0), ((((((0, 0), 0), (0, (0, 0))), (0, 0)), 0), ((((((((0, 0), 0), (0, 0)), (0, (0, 0))), 0), (0, (((0, 0), (0, 0)), ((0, 0), (0, 0))))), 0), (((0, 0), 0), (0, ((0, ((0, 0), (0, 0))), (((0, 0), (0, 0)), ((0, 0), ((0, 0), (0, 0))))))))))
theorem sa_h33_n : sf_nlh sa_h33 136 = true := by decide +kernel
/-- X8_hide -/
def sa_m70 : sf_M := (15400960, 31057858561361006066053577041968929033895218187312274219218212845781760, sa_h33, sa_h33, [0, 2, 25, 26, 37, 38, 39, 40, 41, 42, 43, 44, 45, 46, 47, 48, 49, 50, 51, 52, 53, 54, 55, 56, 57, 58, 59, 60, 61, 62, 63, 64, 65, 66, 67, 68, 69, 70, 71, 72, 73, 74, 75, 76, 77, 78], [83010348333840465921])
def sa_t70_0 : sf_T := (15400960, 31057858561361006066053577041968929033895218187312274219218212845781760, [], sa_h33, [(1000, 1), (1000, 2), (2, 4)], [(0, 0)])
def sa_l70 : List sf_T := [sa_t70_0]
noncomputable def sa_b70 : en_T := (sf_tc 10354688 (sf_call 133 [(2, 1, sa_m69)]) (fun _ => none))
theorem sa_e70_0 : sf_okb (sf_fin 133 sa_h33 [83010348333840465921]) sa_b70 235 3 2 133 122 sa_l70 [] sa_t70_0 = true := by decide +kernel
theorem sa_i70 : (sa_m70.1, sa_m70.2.1, ([] : List Nat), sa_m70.2.2.1, [(1000, 1), (1000, 2), (2, 4)], [(0, 0)]) ∈ sa_l70 := List.mem_cons_self
theorem sa_k70 (hS : ∀ ρ, en_SA E ρ ω mt_SB) (hX : sf_JX J) (hM : sf_MnA E ω J) : sf_Kok E ω J 3 2 133 sa_m70 := sf_K_of hS (sf_TS_k hX (sf_fc ⟨rfl, (sa_k69 hS hX hM)⟩ sf_fn) sf_TS_n) (sf_nL (by decide +kernel)) rfl sa_h33_n sa_h33_n (by decide +kernel) (by decide +kernel) (by decide +kernel) sa_i70 (sf_fc (sf_okb_t sa_h33_n sa_e70_0) sf_fn)
/-- J9_max_7cf53 -/
def sa_m71 : sf_M := (18939904, 93536104794622304634503194109037100947428125704704, sa_h0, sa_h0, [], [83010348335987949567])
def sa_t71_0 : sf_T := (18939904, 93536104794622304634503194109037100947428125704704, [], sa_h0, [(1000, 1)], [(0, 0)])
def sa_l71 : List sf_T := [sa_t71_0]
noncomputable def sa_b71 : en_T := (fun _ => none)
theorem sa_e71_0 : sf_okb (sf_fin 133 sa_h0 [83010348335987949567]) sa_b71 289 2 0 133 16 sa_l71 [] sa_t71_0 = true := by decide +kernel
theorem sa_i71 : (sa_m71.1, sa_m71.2.1, ([] : List Nat), sa_m71.2.2.1, [(1000, 1)], [(0, 0)]) ∈ sa_l71 := List.mem_cons_self
theorem sa_k71 (hS : ∀ ρ, en_SA E ρ ω mt_SB) (hX : sf_JX J) (hM : sf_MnA E ω J) : sf_Kok E ω J 2 0 133 sa_m71 := sf_K_of hS sf_TS_n (sf_nL (by decide +kernel)) rfl sa_h0_n sa_h0_n (by decide +kernel) (by decide +kernel) (by decide +kernel) sa_i71 (sf_fc (sf_okb_t sa_h0_n sa_e71_0) sf_fn)
/-- X8_within -/
def sa_m72 : sf_M := (17891328, 27606985388769193193623869305496075014021139594386163262354868735574784, sa_h0, sa_h0, [], [73786976299133173759])
def sa_t72_0 : sf_T := (17891328, 27606985388769193193623869305496075014021139594386163262354868735574784, [], sa_h0, [(1000, 0), (1000, 2)], [(0, 0)])
def sa_l72 : List sf_T := [sa_t72_0]
noncomputable def sa_b72 : en_T := (fun _ => none)
theorem sa_e72_0 : sf_okb (sf_fin 133 sa_h0 [73786976299133173759]) sa_b72 273 3 1 133 27 sa_l72 [] sa_t72_0 = true := by decide +kernel
theorem sa_i72 : (sa_m72.1, sa_m72.2.1, ([] : List Nat), sa_m72.2.2.1, [(1000, 0), (1000, 2)], [(0, 0)]) ∈ sa_l72 := List.mem_cons_self
theorem sa_k72 (hS : ∀ ρ, en_SA E ρ ω mt_SB) (hX : sf_JX J) (hM : sf_MnA E ω J) : sf_Kok E ω J 3 1 133 sa_m72 := sf_K_of hS sf_TS_n (sf_nL (by decide +kernel)) rfl sa_h0_n sa_h0_n (by decide +kernel) (by decide +kernel) (by decide +kernel) sa_i72 (sf_fc (sf_okb_t sa_h0_n sa_e72_0) sf_fn)
def sa_h34 : en_H := (((((((0, 0), sa_r0), 0), ((0, 0), (0, 0))), ((((((sa_r4, (0, 0)), 0), 0), ((((0, 0), (0, (0, 0))), (((0, 0), 0), (0, (0, (0, 0))))), 0)), ((0, 0), 0)), (0, ((((0, 0), ((0, 0), ((0, 0), 0))), (((0, (0, 0)), ((0, 0), (0, 0))), (((0, 0), (0, 0)), ((0, 0), (0, 0))))), (((((0, 0), (0, 0)), ((0, 0), (0, 0))), (((0, 0), (0, 0)), ((0, 0), (0, 0)))), ((((0, 0), (0, 0)), ((0, 0), (0, (0, 0)))), ((((0, 0), (0, 0)), ((0, 0), 0)), (0, (0, (0, 0)))))))))), 0), ((((((0, 0), 0), (0, (0, 0))), (0, 0)), 0), ((((((((0, 0), 0), (0, 0)), (0, (0, 0))), 0), (0, (((0, 0), (0, 0)), ((0, 0), (0, 0))))), 0), (((0, 0), 0), (0, ((0, ((0, 0), (0, 0))), (((0, 0), (0, 0)), ((0, 0), ((0, 0), (0, 0))))))))))
theorem sa_h34_n : sf_nlh sa_h34 136 = true := by decide +kernel
/-- X6_skillOf -/
def sa_m73 : sf_M := (13631488, 27606985388769193193717405410287975059719958368137445532464518279463680, sa_h34, sa_h34, [2, 8], [73786976299133173759])
def sa_t73_0 : sf_T := (13631488, 27606985388769193193717405410287975059719958368137445532464518279463680, [], sa_h34, [(1000, 1), (1000, 2), (2, 4)], [(0, 0)])
def sa_l73 : List sf_T := [sa_t73_0]
noncomputable def sa_b73 : en_T := (fun _ => none)
theorem sa_e73_0 : sf_okb (sf_fin 133 sa_h34 [73786976299133173759]) sa_b73 208 3 1 133 62 sa_l73 [] sa_t73_0 = true := by decide +kernel
theorem sa_i73 : (sa_m73.1, sa_m73.2.1, ([] : List Nat), sa_m73.2.2.1, [(1000, 1), (1000, 2), (2, 4)], [(0, 0)]) ∈ sa_l73 := List.mem_cons_self
theorem sa_k73 (hS : ∀ ρ, en_SA E ρ ω mt_SB) (hX : sf_JX J) (hM : sf_MnA E ω J) : sf_Kok E ω J 3 1 133 sa_m73 := sf_K_of hS sf_TS_n (sf_nL (by decide +kernel)) rfl sa_h34_n sa_h34_n (by decide +kernel) (by decide +kernel) (by decide +kernel) sa_i73 (sf_fc (sf_okb_t sa_h34_n sa_e73_0) sf_fn)
def sa_h35 : en_H := (((((((0, 0), sa_r0), sa_r1), ((sa_r24, 0), (0, 0))), ((((((sa_r4, (0, 0)), 0), 0), ((((0, 0), (0, (0, 0))), (((0, 0), 0), (0, (0, (0, 0))))), 0)), ((sa_r18, 0), 0)), (0, ((((0, 0), ((0, 0), ((0, 0), 0))), (((0, (0, 0)), ((0, 0), (0, 0))), (((0, 0), (0, 0)), ((0, 0), (0, 0))))), (((((0, 0), (0, 0)), ((0, 0), (0, 0))), (((0, 0), (0, 0)), ((0, 0), (0, 0)))), ((((0, 0), (0, 0)), ((0, 0), (0, (0, 0)))), ((((0, 0), (0, 0)), ((0, 0), 0)), (0, (0, (0, 0)))))))))), 0), ((((((0, 0), 0), (0, (0, 0))), (0, 0)), 0), ((((((((0, 0), 0), (0, 0)), (0, (0, 0))), 0), (0, (((0, 0), (0, 0)), ((0, 0), (0, 0))))), 0), (((0, 0), 0), (0, ((0, ((0, 0), (0, 0))), (((0, 0), (0, 0)), ((0, 0), ((0, 0), (0, 0))))))))))
theorem sa_h35_n : sf_nlh sa_h35 136 = true := by decide +kernel
/-- X6_notePosts -/
def sa_m74 : sf_M := (13500416, 31057858561361006602857282427065691796340804086293738394322940018557696, sa_h35, sa_h35, [2, 3, 4, 8, 26], [])
def sa_t74_0 : sf_T := (13500416, 31057858561361006602857282427065691796340804086293738394322940018557696, [], sa_h35, [(1000, 2), (2, 4)], [(0, 0)])
def sa_l74 : List sf_T := [sa_t74_0]
noncomputable def sa_b74 : en_T := (sf_tc 13631488 (sf_call 133 [(3, 1, sa_m73)]) (fun _ => none))
theorem sa_e74_0 : sf_okb (sf_fin 133 sa_h35 []) sa_b74 206 3 2 133 68 sa_l74 [] sa_t74_0 = true := by decide +kernel
theorem sa_i74 : (sa_m74.1, sa_m74.2.1, ([] : List Nat), sa_m74.2.2.1, [(1000, 2), (2, 4)], [(0, 0)]) ∈ sa_l74 := List.mem_cons_self
theorem sa_k74 (hS : ∀ ρ, en_SA E ρ ω mt_SB) (hX : sf_JX J) (hM : sf_MnA E ω J) : sf_Kok E ω J 3 2 133 sa_m74 := sf_K_of hS (sf_TS_k hX (sf_fc ⟨rfl, (sa_k73 hS hX hM)⟩ sf_fn) sf_TS_n) (sf_nL (by decide +kernel)) rfl sa_h35_n sa_h35_n (by decide +kernel) (by decide +kernel) (by decide +kernel) sa_i74 (sf_fc (sf_okb_t sa_h35_n sa_e74_0) sf_fn)
/-- X5_sailNow -/
def sa_m75 : sf_M := (12517376, 36893488254793285888, sa_h30, sa_h30, [2, 3, 4, 5, 6, 7, 25, 26], [73786976299133173759])
def sa_t75_0 : sf_T := (12517376, 36893488254793285888, [], sa_h30, [], [(0, 0)])
def sa_l75 : List sf_T := [sa_t75_0]
noncomputable def sa_b75 : en_T := (sf_tc 9043968 (sf_call 133 [(3, 2, sa_m64)]) (fun _ => none))
theorem sa_e75_0 : sf_okb (sf_fin 133 sa_h30 [73786976299133173759]) sa_b75 191 1 3 133 29 sa_l75 [] sa_t75_0 = true := by decide +kernel
theorem sa_i75 : (sa_m75.1, sa_m75.2.1, ([] : List Nat), sa_m75.2.2.1, [], [(0, 0)]) ∈ sa_l75 := List.mem_cons_self
theorem sa_k75 (hS : ∀ ρ, en_SA E ρ ω mt_SB) (hX : sf_JX J) (hM : sf_MnA E ω J) : sf_Kok E ω J 1 3 133 sa_m75 := sf_K_of hS (sf_TS_k hX (sf_fc ⟨rfl, (sa_k64 hS hX hM)⟩ sf_fn) sf_TS_n) (sf_nL (by decide +kernel)) rfl sa_h30_n sa_h30_n (by decide +kernel) (by decide +kernel) (by decide +kernel) sa_i75 (sf_fc (sf_okb_t sa_h30_n sa_e75_0) sf_fn)
def sa_h36 : en_H := (((((((0, 0), sa_r0), sa_r1), ((sa_r24, sa_r2), (sa_r3, sa_r25))), ((((((sa_r4, (0, 0)), 0), 0), ((((0, 0), (0, (0, 0))), (((0, 0), 0), (0, (0, (0, 0))))), sa_r19)), ((sa_r18, 0), 0)), (0, ((((0, 0), ((0, 0), ((0, 0), 0))), (((0, (0, 0)), ((0, 0), (0, 0))), (((0, 0), (0, 0)), ((0, 0), (0, 0))))), (((((0, 0), (0, 0)), ((0, 0), (0, 0))), (((0, 0), (0, 0)), ((0, 0), (0, 0)))), ((((0, 0), (0, 0)), ((0, 0), (0, (0, 0)))), ((((0, 0), (0, 0)), ((0, 0), 0)), (0, (0, (0, 0)))))))))), 0), ((((((0, 0), 0), (0, (0, 0))), (0, 0)), 0), ((((((((0, 0), 0), (0, 0)), (0, (0, 0))), 0), (0, (((0, 0), (0, 0)), ((0, 0), (0, 0))))), 0), (((0, 0), 0), (0, ((0, ((0, 0), (0, 0))), (((0, 0), (0, 0)), ((0, 0), ((0, 0), (0, 0))))))))))
theorem sa_h36_n : sf_nlh sa_h36 136 = true := by decide +kernel
/-- X5_keepWatch -/
def sa_m76 : sf_M := (12124160, 4820814133899404084112353271819925757139677903293604475962112, sa_h36, sa_h36, [2, 3, 4, 5, 6, 7, 8, 25, 26], [73786976299133173759])
def sa_t76_0 : sf_T := (12124160, 4820814133899404084112353271819925757139677903293604475962112, [], sa_h36, [(2, 4)], [(0, 2)])
def sa_t76_1 : sf_T := (12124203, 27606985388769193193623869305504241790830728156659930330531532485165824, [], sa_h36, [(1000, 2), (2, 4)], [(0, 1)])
def sa_t76_2 : sf_T := (12124320, 27606985388769193193623869305504241790830728156659930330531532485165824, [], sa_h36, [(1000, 2), (2, 4), (26, 11)], [(0, 0)])
def sa_l76 : List sf_T := [sa_t76_0, sa_t76_1, sa_t76_2]
noncomputable def sa_b76 : en_T := (sf_tc 12517376 (sf_call 133 [(1, 3, sa_m75)]) (sf_tc 13500416 (sf_call 133 [(3, 2, sa_m74)]) (sf_tc 18939904 (sf_call 133 [(2, 0, sa_m71)]) (sf_tc 9175040 (sf_call 133 [(3, 3, sa_m65)]) (sf_tc 9043968 (sf_call 133 [(3, 2, sa_m64)]) (sf_tc 17891328 (sf_call 133 [(3, 1, sa_m63), (3, 1, sa_m72)]) (fun _ => none)))))))
theorem sa_e76_0 : sf_okb (sf_fin 133 sa_h36 [73786976299133173759]) sa_b76 185 3 4 133 31 sa_l76 [1] sa_t76_0 = true := by decide +kernel
theorem sa_e76_1 : sf_okb (sf_fin 133 sa_h36 [73786976299133173759]) sa_b76 185 3 4 133 81 sa_l76 [2] sa_t76_1 = true := by decide +kernel
theorem sa_e76_2 : sf_okb (sf_fin 133 sa_h36 [73786976299133173759]) sa_b76 185 3 4 133 3337 sa_l76 [] sa_t76_2 = true := by decide +kernel
theorem sa_i76 : (sa_m76.1, sa_m76.2.1, ([] : List Nat), sa_m76.2.2.1, [(2, 4)], [(0, 2)]) ∈ sa_l76 := List.mem_cons_self
theorem sa_k76 (hS : ∀ ρ, en_SA E ρ ω mt_SB) (hX : sf_JX J) (hM : sf_MnA E ω J) : sf_Kok E ω J 3 4 133 sa_m76 := sf_K_of hS (sf_TS_k hX (sf_fc ⟨rfl, (sa_k75 hS hX hM)⟩ sf_fn) (sf_TS_k hX (sf_fc ⟨rfl, (sa_k74 hS hX hM)⟩ sf_fn) (sf_TS_k hX (sf_fc ⟨rfl, (sa_k71 hS hX hM)⟩ sf_fn) (sf_TS_k hX (sf_fc ⟨rfl, (sa_k65 hS hX hM)⟩ sf_fn) (sf_TS_k hX (sf_fc ⟨rfl, (sa_k64 hS hX hM)⟩ sf_fn) (sf_TS_k hX (sf_fc ⟨rfl, (sa_k63 hS hX hM)⟩ (sf_fc ⟨rfl, (sa_k72 hS hX hM)⟩ sf_fn)) sf_TS_n)))))) (sf_nL (by decide +kernel)) rfl sa_h36_n sa_h36_n (by decide +kernel) (by decide +kernel) (by decide +kernel) sa_i76 (sf_fc (sf_okb_t sa_h36_n sa_e76_0) (sf_fc (sf_okb_t sa_h36_n sa_e76_1) (sf_fc (sf_okb_t sa_h36_n sa_e76_2) sf_fn)))
def sa_h37 : en_H := (((((((sa_r23, 0), sa_r0), sa_r1), ((sa_r24, sa_r2), (sa_r3, sa_r25))), ((((((sa_r4, (0, 0)), 0), 0), ((((0, 0), (0, (0, 0))), (((0, 0), 0), (0, (0, (0, 0))))), sa_r19)), ((sa_r18, 0), 0)), (0, ((((0, 0), ((0, 0), ((0, 0), 0))), (((sa_r10, (sa_r26, sa_r18)), ((sa_r18, sa_r18), (sa_r18, sa_r18))), (((sa_r18, sa_r18), (sa_r18, sa_r18)), ((sa_r18, sa_r18), (sa_r18, sa_r18))))), (((((sa_r18, sa_r18), (sa_r18, sa_r18)), ((sa_r18, sa_r18), (sa_r18, sa_r18))), (((sa_r18, sa_r18), (sa_r18, sa_r18)), ((sa_r18, sa_r18), (sa_r18, sa_r18)))), ((((sa_r18, sa_r18), (sa_r18, sa_r18)), ((sa_r18, sa_r18), (sa_r18, (sa_r18, sa_r18)))), ((((sa_r18, sa_r18), (0, 0)), ((0, 0), 0)), (0, (0, (0, 0)))))))))), 0), ((((((0, 0), 0), (0, (0, 0))), (0, 0)), 0), ((((((((0, 0), 0), (0, 0)), (0, (0, 0))), 0), (0, (((0, 0), (0, 0)), ((0, 0), (0, 0))))), 0), (((0, 0), 0), (0, ((0, ((0, 0), (0, 0))), (((0, 0), (0, 0)), ((0, 0), ((0, 0), (0, 0))))))))))
theorem sa_h37_n : sf_nlh sa_h37 136 = true := by decide +kernel
/-- X8_stand -/
def sa_m77 : sf_M := (17170432, 2404907604900389271720496462556581709930438575384104920176004277038420974944973318628454287359894231061090010368, sa_h37, sa_h37, [0, 2, 3, 4, 5, 6, 7, 8, 25, 26, 37, 38, 39, 40, 41, 42, 43, 44, 45, 46, 47, 48, 49, 50, 51, 52, 53, 54, 55, 56, 57, 58, 59, 60, 61, 62, 63, 64, 65, 66, 67, 68, 69, 70, 71, 72, 73, 74, 75, 76, 77, 78], [73786976299133173759])
def sa_t77_0 : sf_T := (17170432, 2404907604900389271720496462556581709930438575384104920176004277038420974944973318628454287359894231061090010368, [], sa_h37, [(1000, 1), (1000, 2), (1000, 3), (1000, 4), (2, 4)], [(0, 0)])
def sa_l77 : List sf_T := [sa_t77_0]
noncomputable def sa_b77 : en_T := (sf_tc 12124160 (sf_call 133 [(3, 4, sa_m76)]) (sf_tc 10354688 (sf_call 133 [(2, 1, sa_m69)]) (fun _ => none)))
theorem sa_e77_0 : sf_okb (sf_fin 133 sa_h37 [73786976299133173759]) sa_b77 262 5 5 133 3868 sa_l77 [] sa_t77_0 = true := by decide +kernel
theorem sa_i77 : (sa_m77.1, sa_m77.2.1, ([] : List Nat), sa_m77.2.2.1, [(1000, 1), (1000, 2), (1000, 3), (1000, 4), (2, 4)], [(0, 0)]) ∈ sa_l77 := List.mem_cons_self
theorem sa_k77 (hS : ∀ ρ, en_SA E ρ ω mt_SB) (hX : sf_JX J) (hM : sf_MnA E ω J) : sf_Kok E ω J 5 5 133 sa_m77 := sf_K_of hS (sf_TS_k hX (sf_fc ⟨rfl, (sa_k76 hS hX hM)⟩ sf_fn) (sf_TS_k hX (sf_fc ⟨rfl, (sa_k69 hS hX hM)⟩ sf_fn) sf_TS_n)) (sf_nL (by decide +kernel)) rfl sa_h37_n sa_h37_n (by decide +kernel) (by decide +kernel) (by decide +kernel) sa_i77 (sf_fc (sf_okb_t sa_h37_n sa_e77_0) sf_fn)
def sa_h38 : en_H := (((((((0, 0), 0), 0), ((0, 0), (0, 0))), ((((((0, (0, 0)), 0), 0), ((((0, 0), (0, (0, 0))), (((0, 0), 0), (0, (0, (0, 0))))), 0)), ((0, sa_r5), 0)), (0, ((((0, 0), ((0, 0), ((0, 0), 0))), (((0, (0, 0)), ((0, 0), (0, 0))), (((0, 0), (0, 0)), ((0, 0), (0, 0))))), (((((0, 0), (0, 0)), ((0, 0), (0, 0))), (((0, 0), (0, 0)), ((0, 0), (0, 0)))), ((((0, 0), (0, 0)), ((0, 0), (0, (0, 0)))), ((((0, 0), (0, 0)), ((0, 0), 0)), (0, (0, (0, 0)))))))))), 0), ((((((0, 0), 0), (0, (0, 0))), (0, 0)), 0), ((((((((0, 0), 0), (0, 0)), (0, (0, 0))), 0), (0, (((0, 0), (0, 0)), ((0, 0), (0, 0))))), 0), (((0, 0), 0), (0, ((0, ((0, 0), (0, 0))), (((0, 0), (0, 0)), ((0, 0), ((0, 0), (0, 0))))))))))
theorem sa_h38_n : sf_nlh sa_h38 136 = true := by decide +kernel
/-- X8_takeOut -/
def sa_m78 : sf_M := (17367040, 419952139256116016344998612940375727410858238980744613388213463229594481855239650440024194210640954624, sa_h38, sa_h38, [27], [73786976299133173759])
def sa_t78_0 : sf_T := (17367040, 419952139256116016344998612940375727410858238980744613388213463229594481855239650440024194210640954624, [], sa_h38, [(1000, 1), (1000, 2)], [(0, 2)])
def sa_t78_1 : sf_T := (17367062, 419952139264264160249387988489979154998563853846237335687878900056845950881455481708720023683649766656, [], sa_h38, [(1000, 1), (1000, 2), (1000, 3)], [(0, 1)])
def sa_t78_2 : sf_T := (17367065, 2705521055425447901892849051093807442448536294913541337111769533662170359983638892259076781724638235850618963200, [], sa_h38, [(1000, 1), (1000, 2), (1000, 3), (1000, 4)], [(0, 0), (1, 3), (0, 0)])
def sa_l78 : List sf_T := [sa_t78_0, sa_t78_1, sa_t78_2]
noncomputable def sa_b78 : en_T := (fun _ => none)
theorem sa_e78_0 : sf_okb (sf_fin 133 sa_h38 [73786976299133173759]) sa_b78 265 5 0 133 27 sa_l78 [1] sa_t78_0 = true := by decide +kernel
theorem sa_e78_1 : sf_okb (sf_fin 133 sa_h38 [73786976299133173759]) sa_b78 265 5 0 133 10 sa_l78 [2] sa_t78_1 = true := by decide +kernel
theorem sa_e78_2 : sf_okb (sf_fin 133 sa_h38 [73786976299133173759]) sa_b78 265 5 0 133 25 sa_l78 [2] sa_t78_2 = true := by decide +kernel
theorem sa_i78 : (sa_m78.1, sa_m78.2.1, ([] : List Nat), sa_m78.2.2.1, [(1000, 1), (1000, 2)], [(0, 2)]) ∈ sa_l78 := List.mem_cons_self
theorem sa_k78 (hS : ∀ ρ, en_SA E ρ ω mt_SB) (hX : sf_JX J) (hM : sf_MnA E ω J) : sf_Kok E ω J 5 0 133 sa_m78 := sf_K_of hS sf_TS_n (sf_nL (by decide +kernel)) rfl sa_h38_n sa_h38_n (by decide +kernel) (by decide +kernel) (by decide +kernel) sa_i78 (sf_fc (sf_okb_t sa_h38_n sa_e78_0) (sf_fc (sf_okb_t sa_h38_n sa_e78_1) (sf_fc (sf_okb_t sa_h38_n sa_e78_2) sf_fn)))
def sa_h39 : en_H := (((((((0, 0), sa_r0), 0), ((0, 0), (0, 0))), ((((((0, (0, 0)), 0), 0), ((((0, 0), (0, (0, 0))), (((0, 0), 0), (0, (0, (0, 0))))), sa_r19)), ((sa_r18, 0), 0)), (0, ((((0, 0), ((0, 0), ((0, 0), 0))), (((0, (0, 0)), ((0, 0), (0, 0))), (((0, 0), (0, 0)), ((0, 0), (0, 0))))), (((((0, 0), (0, 0)), ((0, 0), (0, 0))), (((0, 0), (0, 0)), ((0, 0), (0, 0)))), ((((0, 0), (0, 0)), ((0, 0), (0, (0, 0)))), ((((0, 0), (0, 0)), ((0, 0), 0)), (0, (0, (0, 0)))))))))), 0), ((((((0, 0), 0), (0, (0, 0))), (0, 0)), 0), ((((((((0, 0), 0), (0, 0)), (0, (0, 0))), 0), (0, (((0, 0), (0, 0)), ((0, 0), (0, 0))))), 0), (((0, 0), 0), (0, ((0, ((0, 0), (0, 0))), (((0, 0), (0, 0)), ((0, 0), ((0, 0), (0, 0))))))))))
theorem sa_h39_n : sf_nlh sa_h39 136 = true := by decide +kernel
/-- X5_hideCaptain -/
def sa_m79 : sf_M := (11927552, 4820814133899404084112353271819925757139677903293604475962112, sa_h39, sa_h39, [2, 25, 26], [])
def sa_t79_0 : sf_T := (11927552, 4820814133899404084112353271819925757139677903293604475962112, [], sa_h39, [(2, 4)], [(0, 2)])
def sa_t79_1 : sf_T := (11927560, 4820814133992940188890642022838420953201779111507780763124480, [], sa_h39, [(1000, 1), (2, 4)], [(0, 1)])
def sa_t79_2 : sf_T := (11927568, 27606985388769193193717405410287975059719958368137445532464617063711488, [], sa_h39, [(1000, 1), (1000, 2), (2, 4)], [(0, 0)])
def sa_l79 : List sf_T := [sa_t79_0, sa_t79_1, sa_t79_2]
noncomputable def sa_b79 : en_T := (fun _ => none)
theorem sa_e79_0 : sf_okb (sf_fin 133 sa_h39 []) sa_b79 182 3 1 133 13 sa_l79 [1] sa_t79_0 = true := by decide +kernel
theorem sa_e79_1 : sf_okb (sf_fin 133 sa_h39 []) sa_b79 182 3 1 133 13 sa_l79 [2] sa_t79_1 = true := by decide +kernel
theorem sa_e79_2 : sf_okb (sf_fin 133 sa_h39 []) sa_b79 182 3 1 133 102 sa_l79 [] sa_t79_2 = true := by decide +kernel
theorem sa_i79 : (sa_m79.1, sa_m79.2.1, ([] : List Nat), sa_m79.2.2.1, [(2, 4)], [(0, 2)]) ∈ sa_l79 := List.mem_cons_self
theorem sa_k79 (hS : ∀ ρ, en_SA E ρ ω mt_SB) (hX : sf_JX J) (hM : sf_MnA E ω J) : sf_Kok E ω J 3 1 133 sa_m79 := sf_K_of hS sf_TS_n (sf_nL (by decide +kernel)) rfl sa_h39_n sa_h39_n (by decide +kernel) (by decide +kernel) (by decide +kernel) sa_i79 (sf_fc (sf_okb_t sa_h39_n sa_e79_0) (sf_fc (sf_okb_t sa_h39_n sa_e79_1) (sf_fc (sf_okb_t sa_h39_n sa_e79_2) sf_fn)))
/-- X5_stirred -/
def sa_m80 : sf_M := (12976128, 4820814133992940188890642022838737865851817722113969560224512, sa_h0, sa_h0, [], [73786976299133173759])
def sa_t80_0 : sf_T := (12976128, 4820814133992940188890642022838737865851817722113969560224512, [], sa_h0, [(1000, 0), (1000, 1)], [(0, 1)])
def sa_t80_1 : sf_T := (12976139, 27606985388769193193717405410287975059720275280787484143070805860811520, [], sa_h0, [(1000, 0), (1000, 1), (1000, 2)], [(0, 0)])
def sa_l80 : List sf_T := [sa_t80_0, sa_t80_1]
noncomputable def sa_b80 : en_T := (fun _ => none)
theorem sa_e80_0 : sf_okb (sf_fin 133 sa_h0 [73786976299133173759]) sa_b80 198 3 0 133 16 sa_l80 [1] sa_t80_0 = true := by decide +kernel
theorem sa_e80_1 : sf_okb (sf_fin 133 sa_h0 [73786976299133173759]) sa_b80 198 3 0 133 14 sa_l80 [] sa_t80_1 = true := by decide +kernel
theorem sa_i80 : (sa_m80.1, sa_m80.2.1, ([] : List Nat), sa_m80.2.2.1, [(1000, 0), (1000, 1)], [(0, 1)]) ∈ sa_l80 := List.mem_cons_self
theorem sa_k80 (hS : ∀ ρ, en_SA E ρ ω mt_SB) (hX : sf_JX J) (hM : sf_MnA E ω J) : sf_Kok E ω J 3 0 133 sa_m80 := sf_K_of hS sf_TS_n (sf_nL (by decide +kernel)) rfl sa_h0_n sa_h0_n (by decide +kernel) (by decide +kernel) (by decide +kernel) sa_i80 (sf_fc (sf_okb_t sa_h0_n sa_e80_0) (sf_fc (sf_okb_t sa_h0_n sa_e80_1) sf_fn))
def sa_h40 : en_H := (((((((0, 0), 0), 0), ((0, 0), (0, 0))), ((((((0, (0, 0)), 0), 0), ((((0, 0), (0, (0, 0))), (((0, 0), 0), (0, (0, (0, 0))))), sa_r19)), ((0, 0), 0)), (0, ((((0, 0), ((0, 0), ((0, 0), 0))), (((0, (0, 0)), ((0, 0), (0, 0))), (((0, 0), (0, 0)), ((0, 0), (0, 0))))), (((((0, 0), (0, 0)), ((0, 0), (0, 0))), (((0, 0), (0, 0)), ((0, 0), (0, 0)))), ((((0, 0), (0, 0)), ((0, 0), (0, (0, 0)))), ((((0, 0), (0, 0)), ((0, 0), 0)), (0, (0, (0, 0)))))))))), 0), ((((((0, 0), 0), (0, (0, 0))), (0, 0)), 0), ((((((((0, 0), 0), (0, 0)), (0, (0, 0))), 0), (0, (((0, 0), (0, 0)), ((0, 0), (0, 0))))), 0), (((0, 0), 0), (0, ((0, ((0, 0), (0, 0))), (((0, 0), (0, 0)), ((0, 0), ((0, 0), (0, 0))))))))))
theorem sa_h40_n : sf_nlh sa_h40 136 = true := by decide +kernel
/-- X5_lot -/
def sa_m81 : sf_M := (12189696, 1422853192907032219399556518777342698500566768348764439949170792469502316821611520, sa_h40, sa_h40, [25], [83010348335987949566])
def sa_t81_0 : sf_T := (12189696, 1422853192907032219399556518777342698500566768348764439949170792469502316821611520, [], sa_h40, [(1000, 1), (1000, 2)], [(0, 1)])
def sa_t81_1 : sf_T := (12189710, 8148143905812228742507008933932579571396220556844594427555527762536554723799623233221690368, [], sa_h40, [(1000, 1), (1000, 2), (1000, 3)], [(0, 0)])
def sa_l81 : List sf_T := [sa_t81_0, sa_t81_1]
noncomputable def sa_b81 : en_T := (sf_tc 12976128 (sf_call 133 [(3, 0, sa_m80)]) (fun _ => none))
theorem sa_e81_0 : sf_okb (sf_fin 133 sa_h40 [83010348335987949566]) sa_b81 186 4 1 133 15 sa_l81 [1] sa_t81_0 = true := by decide +kernel
theorem sa_e81_1 : sf_okb (sf_fin 133 sa_h40 [83010348335987949566]) sa_b81 186 4 1 133 19 sa_l81 [] sa_t81_1 = true := by decide +kernel
theorem sa_i81 : (sa_m81.1, sa_m81.2.1, ([] : List Nat), sa_m81.2.2.1, [(1000, 1), (1000, 2)], [(0, 1)]) ∈ sa_l81 := List.mem_cons_self
theorem sa_k81 (hS : ∀ ρ, en_SA E ρ ω mt_SB) (hX : sf_JX J) (hM : sf_MnA E ω J) : sf_Kok E ω J 4 1 133 sa_m81 := sf_K_of hS (sf_TS_k hX (sf_fc ⟨rfl, (sa_k80 hS hX hM)⟩ sf_fn) sf_TS_n) (sf_nL (by decide +kernel)) rfl sa_h40_n sa_h40_n (by decide +kernel) (by decide +kernel) (by decide +kernel) sa_i81 (sf_fc (sf_okb_t sa_h40_n sa_e81_0) (sf_fc (sf_okb_t sa_h40_n sa_e81_1) sf_fn))
def sa_h41 : en_H := (((((((0, 0), sa_r0), 0), ((0, 0), (0, 0))), ((((((0, (0, 0)), 0), 0), ((((0, 0), (0, (0, 0))), (((0, 0), 0), (0, (0, (0, 0))))), sa_r19)), ((sa_r18, sa_r5), 0)), (0, ((((0, 0), ((0, 0), ((0, 0), 0))), (((0, (0, 0)), ((0, 0), (0, 0))), (((0, 0), (0, 0)), ((0, 0), (0, 0))))), (((((0, 0), (0, 0)), ((0, 0), (0, 0))), (((0, 0), (0, 0)), ((0, 0), (0, 0)))), ((((0, 0), (0, 0)), ((0, 0), (0, (0, 0)))), ((((0, 0), (0, 0)), ((0, 0), 0)), (0, (0, (0, 0)))))))))), 0), ((((((0, 0), 0), (0, (0, 0))), (0, 0)), 0), ((((((((0, 0), 0), (0, 0)), (0, (0, 0))), 0), (0, (((0, 0), (0, 0)), ((0, 0), (0, 0))))), 0), (((0, 0), 0), (0, ((0, ((0, 0), (0, 0))), (((0, 0), (0, 0)), ((0, 0), ((0, 0), (0, 0))))))))))
theorem sa_h41_n : sf_nlh sa_h41 136 = true := by decide +kernel
/-- X5_drawStraws -/
def sa_m82 : sf_M := (11730944, 1422853192879425234015608139717524697174391146560864407338173024840331304233862144, sa_h41, sa_h41, [2, 25, 26, 27], [])
def sa_t82_0 : sf_T := (11730944, 1422853192879425234015608139717524697174391146560864407338173024840331304233862144, [], sa_h41, [(2, 4)], [(0, 2)])
def sa_t82_1 : sf_T := (11730975, 1422853192910483092572148331651561284241127203022659551879378084294523883869963264, [], sa_h41, [(1000, 1), (1000, 2), (2, 4)], [(0, 1), (1, 1), (0, 0)])
def sa_t82_2 : sf_T := (11731001, 1422853192910483092572148331650812995402813780728539265245027347388460046407959552, [], sa_h41, [(1000, 1), (1000, 2), (2, 4)], [(0, 0), (1, 1), (0, 1)])
def sa_t82_3 : sf_T := (11731010, 9166661892319476395111513264558089967903193715751201204614213748005845929987977483716133888, [], sa_h41, [(1000, 1), (1000, 2), (1000, 3), (2, 4)], [(0, 0), (1, 1), (0, 0)])
def sa_l82 : List sf_T := [sa_t82_0, sa_t82_1, sa_t82_2, sa_t82_3]
noncomputable def sa_b82 : en_T := (sf_tc 12189696 (sf_call 133 [(4, 1, sa_m81)]) (sf_tc 11927552 (sf_call 133 [(3, 1, sa_m79)]) (sf_tc 17367040 (sf_call 133 [(5, 0, sa_m78)]) (fun _ => none))))
theorem sa_e82_0 : sf_okb (sf_fin 133 sa_h41 []) sa_b82 179 4 2 133 29 sa_l82 [1] sa_t82_0 = true := by decide +kernel
theorem sa_e82_1 : sf_okb (sf_fin 133 sa_h41 []) sa_b82 179 4 2 133 23 sa_l82 [1, 2] sa_t82_1 = true := by decide +kernel
theorem sa_e82_2 : sf_okb (sf_fin 133 sa_h41 []) sa_b82 179 4 2 133 18 sa_l82 [3] sa_t82_2 = true := by decide +kernel
theorem sa_e82_3 : sf_okb (sf_fin 133 sa_h41 []) sa_b82 179 4 2 133 38 sa_l82 [2] sa_t82_3 = true := by decide +kernel
theorem sa_i82 : (sa_m82.1, sa_m82.2.1, ([] : List Nat), sa_m82.2.2.1, [(2, 4)], [(0, 2)]) ∈ sa_l82 := List.mem_cons_self
theorem sa_k82 (hS : ∀ ρ, en_SA E ρ ω mt_SB) (hX : sf_JX J) (hM : sf_MnA E ω J) : sf_Kok E ω J 4 2 133 sa_m82 := sf_K_of hS (sf_TS_k hX (sf_fc ⟨rfl, (sa_k81 hS hX hM)⟩ sf_fn) (sf_TS_k hX (sf_fc ⟨rfl, (sa_k79 hS hX hM)⟩ sf_fn) (sf_TS_k hX (sf_fc ⟨rfl, (sa_k78 hS hX hM)⟩ sf_fn) sf_TS_n))) (sf_nL (by decide +kernel)) rfl sa_h41_n sa_h41_n (by decide +kernel) (by decide +kernel) (by decide +kernel) sa_i82 (sf_fc (sf_okb_t sa_h41_n sa_e82_0) (sf_fc (sf_okb_t sa_h41_n sa_e82_1) (sf_fc (sf_okb_t sa_h41_n sa_e82_2) (sf_fc (sf_okb_t sa_h41_n sa_e82_3) sf_fn))))
def sa_h42 : en_H := (((((((0, 0), sa_r0), sa_r1), ((sa_r24, sa_r2), (sa_r3, sa_r25))), ((((((sa_r4, (0, 0)), 0), 0), ((((0, 0), (0, (0, 0))), (((0, 0), 0), (0, (0, (0, 0))))), sa_r19)), ((sa_r18, sa_r5), 0)), (0, ((((0, 0), ((0, 0), ((0, 0), 0))), (((0, (0, 0)), ((0, 0), (0, 0))), (((0, 0), (0, 0)), ((0, 0), (0, 0))))), (((((0, 0), (0, 0)), ((0, 0), (0, 0))), (((0, 0), (0, 0)), ((0, 0), (0, 0)))), ((((0, 0), (0, 0)), ((0, 0), (0, (0, 0)))), ((((0, 0), (0, 0)), ((0, 0), 0)), (0, (0, (0, 0)))))))))), 0), ((((((0, 0), 0), (0, (0, 0))), (0, 0)), 0), ((((((((0, 0), 0), (0, 0)), (0, (0, 0))), 0), (0, (((0, 0), (0, 0)), ((0, 0), (0, 0))))), 0), (((0, 0), 0), (0, ((0, ((0, 0), (0, 0))), (((0, 0), (0, 0)), ((0, 0), ((0, 0), (0, 0))))))))))
theorem sa_h42_n : sf_nlh sa_h42 136 = true := by decide +kernel
/-- X5_sailOn -/
def sa_m83 : sf_M := (12582912, 4820814133992940188890642022838420953201779111507780763124480, sa_h42, sa_h42, [2, 3, 4, 5, 6, 7, 8, 25, 26, 27], [83010348335987949567])
def sa_t83_0 : sf_T := (12582912, 4820814133992940188890642022838420953201779111507780763124480, [], sa_h42, [(1000, 1)], [(0, 1)])
def sa_t83_1 : sf_T := (12582914, 31057858562164475087434783341426487785945512854222638810045879175611136, [], sa_h42, [(1000, 1), (1000, 2)], [(0, 0), (1, 1), (0, 0)])
def sa_l83 : List sf_T := [sa_t83_0, sa_t83_1]
noncomputable def sa_b83 : en_T := (sf_tc 11730944 (sf_call 133 [(4, 2, sa_m82)]) (sf_tc 12124160 (sf_call 133 [(3, 4, sa_m76)]) (fun _ => none)))
theorem sa_e83_0 : sf_okb (sf_fin 133 sa_h42 [83010348335987949567]) sa_b83 192 3 5 133 10 sa_l83 [1] sa_t83_0 = true := by decide +kernel
theorem sa_e83_1 : sf_okb (sf_fin 133 sa_h42 [83010348335987949567]) sa_b83 192 3 5 133 27 sa_l83 [1] sa_t83_1 = true := by decide +kernel
theorem sa_i83 : (sa_m83.1, sa_m83.2.1, ([] : List Nat), sa_m83.2.2.1, [(1000, 1)], [(0, 1)]) ∈ sa_l83 := List.mem_cons_self
theorem sa_k83 (hS : ∀ ρ, en_SA E ρ ω mt_SB) (hX : sf_JX J) (hM : sf_MnA E ω J) : sf_Kok E ω J 3 5 133 sa_m83 := sf_K_of hS (sf_TS_k hX (sf_fc ⟨rfl, (sa_k82 hS hX hM)⟩ sf_fn) (sf_TS_k hX (sf_fc ⟨rfl, (sa_k76 hS hX hM)⟩ sf_fn) sf_TS_n)) (sf_nL (by decide +kernel)) rfl sa_h42_n sa_h42_n (by decide +kernel) (by decide +kernel) (by decide +kernel) sa_i83 (sf_fc (sf_okb_t sa_h42_n sa_e83_0) (sf_fc (sf_okb_t sa_h42_n sa_e83_1) sf_fn))
def sa_h43 : en_H := (((((((sa_r23, 0), sa_r0), sa_r1), ((sa_r24, sa_r2), (sa_r3, sa_r25))), ((((((sa_r4, (0, 0)), 0), 0), ((((0, 0), (0, (0, 0))), (((0, 0), 0), (0, (0, (0, 0))))), sa_r19)), ((sa_r18, sa_r5), 0)), (0, ((((0, 0), ((0, 0), ((0, 0), 0))), (((sa_r10, (sa_r26, sa_r18)), ((sa_r18, sa_r18), (sa_r18, sa_r18))), (((sa_r18, sa_r18), (sa_r18, sa_r18)), ((sa_r18, sa_r18), (sa_r18, sa_r18))))), (((((sa_r18, sa_r18), (sa_r18, sa_r18)), ((sa_r18, sa_r18), (sa_r18, sa_r18))), (((sa_r18, sa_r18), (sa_r18, sa_r18)), ((sa_r18, sa_r18), (sa_r18, sa_r18)))), ((((sa_r18, sa_r18), (sa_r18, sa_r18)), ((sa_r18, sa_r18), (sa_r18, (sa_r18, sa_r18)))), ((((sa_r18, sa_r18), (0, 0)), ((0, 0), 0)), (0, (0, (0, 0)))))))))), 0), ((((((0, 0), 0), (0, (0, 0))), (0, 0)), 0), ((((((((0, 0), 0), (0, 0)), (0, (0, 0))), 0), (0, (((0, 0), (0, 0)), ((0, 0), (0, 0))))), 0), (((0, 0), 0), (0, ((0, ((0, 0), (0, 0))), (((0, 0), (0, 0)), ((0, 0), ((0, 0), (0, 0))))))))))
theorem sa_h43_n : sf_nlh sa_h43 136 = true := by decide +kernel
/-- X8_watches -/
def sa_m84 : sf_M := (17760256, 93536104794622304634503194109064771063538690032128, sa_h43, sa_h43, [0, 2, 3, 4, 5, 6, 7, 8, 25, 26, 27, 37, 38, 39, 40, 41, 42, 43, 44, 45, 46, 47, 48, 49, 50, 51, 52, 53, 54, 55, 56, 57, 58, 59, 60, 61, 62, 63, 64, 65, 66, 67, 68, 69, 70, 71, 72, 73, 74, 75, 76, 77, 78], [83010348327398014975])
def sa_t84_0 : sf_T := (17760256, 93536104794622304634503194109064771063538690032128, [], sa_h43, [(1000, 1)], [(0, 0)])
def sa_l84 : List sf_T := [sa_t84_0]
noncomputable def sa_b84 : en_T := (sf_tc 12582912 (sf_call 133 [(3, 5, sa_m83)]) (sf_tc 10354688 (sf_call 133 [(2, 1, sa_m69)]) (fun _ => none)))
theorem sa_e84_0 : sf_okb (sf_fin 133 sa_h43 [83010348327398014975]) sa_b84 271 2 6 133 43 sa_l84 [] sa_t84_0 = true := by decide +kernel
theorem sa_i84 : (sa_m84.1, sa_m84.2.1, ([] : List Nat), sa_m84.2.2.1, [(1000, 1)], [(0, 0)]) ∈ sa_l84 := List.mem_cons_self
theorem sa_k84 (hS : ∀ ρ, en_SA E ρ ω mt_SB) (hX : sf_JX J) (hM : sf_MnA E ω J) : sf_Kok E ω J 2 6 133 sa_m84 := sf_K_of hS (sf_TS_k hX (sf_fc ⟨rfl, (sa_k83 hS hX hM)⟩ sf_fn) (sf_TS_k hX (sf_fc ⟨rfl, (sa_k69 hS hX hM)⟩ sf_fn) sf_TS_n)) (sf_nL (by decide +kernel)) rfl sa_h43_n sa_h43_n (by decide +kernel) (by decide +kernel) (by decide +kernel) sa_i84 (sf_fc (sf_okb_t sa_h43_n sa_e84_0) sf_fn)
def sa_h44 : en_H := (((((((sa_r23, 0), 0), 0), ((0, 0), (0, 0))), ((((((0, (0, 0)), 0), 0), ((((0, 0), (0, (0, 0))), (((0, 0), 0), (0, (0, (0, 0))))), sa_r19)), ((sa_r18, 0), 0)), (0, ((((0, 0), ((0, 0), ((0, 0), 0))), (((sa_r10, (sa_r26, sa_r18)), ((sa_r18, sa_r18), (sa_r18, sa_r18))), (((sa_r18, sa_r18), (sa_r18, sa_r18)), ((sa_r18, sa_r18), (sa_r18, sa_r18))))), (((((sa_r18, sa_r18), (sa_r18, sa_r18)), ((sa_r18, sa_r18), (sa_r18, sa_r18))), (((sa_r18, sa_r18), (sa_r18, sa_r18)), ((sa_r18, sa_r18), (sa_r18, sa_r18)))), ((((sa_r18, sa_r18), (sa_r18, sa_r18)), ((sa_r18, sa_r18), (sa_r18, (sa_r18, sa_r18)))), ((((sa_r18, sa_r18), (0, 0)), ((0, 0), 0)), (0, (0, (0, 0)))))))))), 0), ((((((0, 0), 0), (0, (0, 0))), (0, 0)), 0), ((((((((0, 0), 0), (0, 0)), (0, (0, 0))), 0), (0, (((0, 0), (0, 0)), ((0, 0), (0, 0))))), 0), (((0, 0), 0), (0, ((0, ((0, 0), (0, 0))), (((0, 0), (0, 0)), ((0, 0), ((0, 0), (0, 0))))))))))
theorem sa_h44_n : sf_nlh sa_h44 136 = true := by decide +kernel
/-- X8_undo -/
def sa_m85 : sf_M := (17629184, 36893488147419103488, sa_h44, sa_h44, [0, 25, 26, 37, 38, 39, 40, 41, 42, 43, 44, 45, 46, 47, 48, 49, 50, 51, 52, 53, 54, 55, 56, 57, 58, 59, 60, 61, 62, 63, 64, 65, 66, 67, 68, 69, 70, 71, 72, 73, 74, 75, 76, 77, 78], [83010348333840465921])
def sa_t85_0 : sf_T := (17629184, 36893488147419103488, [], sa_h44, [(37, 3), (37, 4)], [(0, 0)])
def sa_l85 : List sf_T := [sa_t85_0]
noncomputable def sa_b85 : en_T := (fun _ => none)
theorem sa_e85_0 : sf_okb (sf_fin 133 sa_h44 [83010348333840465921]) sa_b85 269 1 2 133 417 sa_l85 [] sa_t85_0 = true := by decide +kernel
theorem sa_i85 : (sa_m85.1, sa_m85.2.1, ([] : List Nat), sa_m85.2.2.1, [(37, 3), (37, 4)], [(0, 0)]) ∈ sa_l85 := List.mem_cons_self
theorem sa_k85 (hS : ∀ ρ, en_SA E ρ ω mt_SB) (hX : sf_JX J) (hM : sf_MnA E ω J) : sf_Kok E ω J 1 2 133 sa_m85 := sf_K_of hS sf_TS_n (sf_nL (by decide +kernel)) rfl sa_h44_n sa_h44_n (by decide +kernel) (by decide +kernel) (by decide +kernel) sa_i85 (sf_fc (sf_okb_t sa_h44_n sa_e85_0) sf_fn)
/-- X8_commonDivisor -/
def sa_m86 : sf_M := (14811136, 123947994177030503561028935099706623557518250061135463897282557975803962203919153908727843111363286565887603921102844200448, sa_h0, sa_h0, [], [73786976299133173759])
def sa_t86_0 : sf_T := (14811136, 123947994177030503561028935099706623557518250061135463897282557975803962203919153908727843111363286565887603921102844200448, [], sa_h0, [(1000, 0), (1000, 1)], [(0, 1)])
def sa_t86_1 : sf_T := (14811143, 123947994179736024616034430865439651276295477741771686067279707235299404962589233894613813180619569761141545004421278074368, [], sa_h0, [(1000, 0), (1000, 1), (1000, 2), (1000, 3), (1000, 4)], [(0, 0), (1, 4), (0, 1)])
def sa_t86_2 : sf_T := (14811159, 709803441736244602094550459211507961835297319920536085980975828281713199811993761784401395981636970883688394670979694071736585684480, [], sa_h0, [(1000, 0), (1000, 1), (1000, 2), (1000, 3), (1000, 4), (1000, 5)], [(0, 0), (1, 4), (0, 0)])
def sa_l86 : List sf_T := [sa_t86_0, sa_t86_1, sa_t86_2]
noncomputable def sa_b86 : en_T := (sf_tc 14811143 (sf_spl 6 (1000, 3) [2147483648, 2147483649]) (fun _ => none))
theorem sa_e86_0 : sf_okb (sf_fin 133 sa_h0 [73786976299133173759]) sa_b86 226 6 0 133 14 sa_l86 [1] sa_t86_0 = true := by decide +kernel
theorem sa_e86_1 : sf_okb (sf_fin 133 sa_h0 [73786976299133173759]) sa_b86 226 6 0 133 39 sa_l86 [2] sa_t86_1 = true := by decide +kernel
theorem sa_e86_2 : sf_okb (sf_fin 133 sa_h0 [73786976299133173759]) sa_b86 226 6 0 133 14 sa_l86 [1] sa_t86_2 = true := by decide +kernel
theorem sa_i86 : (sa_m86.1, sa_m86.2.1, ([] : List Nat), sa_m86.2.2.1, [(1000, 0), (1000, 1)], [(0, 1)]) ∈ sa_l86 := List.mem_cons_self
theorem sa_k86 (hS : ∀ ρ, en_SA E ρ ω mt_SB) (hX : sf_JX J) (hM : sf_MnA E ω J) : sf_Kok E ω J 6 0 133 sa_m86 := sf_K_of hS (sf_TS_s (sf_nL (by decide +kernel)) sf_TS_n) (sf_nL (by decide +kernel)) rfl sa_h0_n sa_h0_n (by decide +kernel) (by decide +kernel) (by decide +kernel) sa_i86 (sf_fc (sf_okb_t sa_h0_n sa_e86_0) (sf_fc (sf_okb_t sa_h0_n sa_e86_1) (sf_fc (sf_okb_t sa_h0_n sa_e86_2) sf_fn)))
/-- X8_fraction -/
def sa_m87 : sf_M := (15269888, 1422853192910483092572148331649678870132247722322940016680995659766862208774964224, sa_h0, sa_h0, [], [73786976299133173759])
def sa_t87_0 : sf_T := (15269888, 1422853192910483092572148331649678870132247722322940016680995659766862208774964224, [], sa_h0, [(1000, 0), (1000, 1), (1000, 2)], [(0, 1)])
def sa_t87_1 : sf_T := (15269897, 8148143905812228742510459807105171384268556728476275381529703339268379591096983125175043072, [], sa_h0, [(1000, 0), (1000, 1), (1000, 2), (1000, 3)], [(0, 0)])
def sa_l87 : List sf_T := [sa_t87_0, sa_t87_1]
noncomputable def sa_b87 : en_T := (sf_tc 14811136 (sf_call 133 [(6, 0, sa_m86)]) (fun _ => none))
theorem sa_e87_0 : sf_okb (sf_fin 133 sa_h0 [73786976299133173759]) sa_b87 233 4 1 133 24 sa_l87 [1] sa_t87_0 = true := by decide +kernel
theorem sa_e87_1 : sf_okb (sf_fin 133 sa_h0 [73786976299133173759]) sa_b87 233 4 1 133 29 sa_l87 [] sa_t87_1 = true := by decide +kernel
theorem sa_i87 : (sa_m87.1, sa_m87.2.1, ([] : List Nat), sa_m87.2.2.1, [(1000, 0), (1000, 1), (1000, 2)], [(0, 1)]) ∈ sa_l87 := List.mem_cons_self
theorem sa_k87 (hS : ∀ ρ, en_SA E ρ ω mt_SB) (hX : sf_JX J) (hM : sf_MnA E ω J) : sf_Kok E ω J 4 1 133 sa_m87 := sf_K_of hS (sf_TS_k hX (sf_fc ⟨rfl, (sa_k86 hS hX hM)⟩ sf_fn) sf_TS_n) (sf_nL (by decide +kernel)) rfl sa_h0_n sa_h0_n (by decide +kernel) (by decide +kernel) (by decide +kernel) sa_i87 (sf_fc (sf_okb_t sa_h0_n sa_e87_0) (sf_fc (sf_okb_t sa_h0_n sa_e87_1) sf_fn))
def sa_h45 : en_H := (((((((sa_r23, 0), sa_r0), 0), ((0, 0), (0, 0))), ((((((0, (0, 0)), 0), 0), ((((0, 0), (0, (0, 0))), (((0, 0), 0), (0, (0, (0, 0))))), 0)), ((0, 0), 0)), (0, ((((0, 0), ((0, 0), ((0, 0), 0))), (((0, (0, 0)), ((0, 0), (0, 0))), (((0, 0), (0, 0)), ((0, 0), (0, 0))))), (((((0, 0), (0, 0)), ((0, 0), (0, 0))), (((0, 0), (0, 0)), ((0, 0), (0, 0)))), ((((0, 0), (0, 0)), ((0, 0), (0, (0, 0)))), ((((0, 0), (0, 0)), ((0, 0), 0)), (0, (0, (0, 0)))))))))), 0), ((((((0, 0), 0), (0, (0, 0))), (0, 0)), 0), ((((((((0, 0), 0), (0, 0)), (0, (0, 0))), 0), (0, (((0, 0), (0, 0)), ((0, 0), (0, 0))))), 0), (((0, 0), 0), (0, ((0, ((0, 0), (0, 0))), (((0, 0), (0, 0)), ((0, 0), ((0, 0), (0, 0))))))))))
theorem sa_h45_n : sf_nlh sa_h45 136 = true := by decide +kernel
/-- X8_likely -/
def sa_m88 : sf_M := (15859712, 9166661893742329587104064093007093315822074105986930438756801599170388611398286164598195200, sa_h45, sa_h45, [0, 2], [73786976299133173759])
def sa_t88_0 : sf_T := (15859712, 9166661893742329587104064093007093315822074105986930438756801599170388611398286164598195200, [], sa_h45, [(1000, 1), (1000, 2), (1000, 3), (2, 4)], [(0, 0)])
def sa_l88 : List sf_T := [sa_t88_0]
noncomputable def sa_b88 : en_T := (sf_tc 15269888 (sf_call 133 [(4, 1, sa_m87)]) (fun _ => none))
theorem sa_e88_0 : sf_okb (sf_fin 133 sa_h45 [73786976299133173759]) sa_b88 242 4 2 133 73 sa_l88 [] sa_t88_0 = true := by decide +kernel
theorem sa_i88 : (sa_m88.1, sa_m88.2.1, ([] : List Nat), sa_m88.2.2.1, [(1000, 1), (1000, 2), (1000, 3), (2, 4)], [(0, 0)]) ∈ sa_l88 := List.mem_cons_self
theorem sa_k88 (hS : ∀ ρ, en_SA E ρ ω mt_SB) (hX : sf_JX J) (hM : sf_MnA E ω J) : sf_Kok E ω J 4 2 133 sa_m88 := sf_K_of hS (sf_TS_k hX (sf_fc ⟨rfl, (sa_k87 hS hX hM)⟩ sf_fn) sf_TS_n) (sf_nL (by decide +kernel)) rfl sa_h45_n sa_h45_n (by decide +kernel) (by decide +kernel) (by decide +kernel) sa_i88 (sf_fc (sf_okb_t sa_h45_n sa_e88_0) sf_fn)
/-- X1_sailBy -/
def sa_m89 : sf_M := (9306112, 93536104794622304634503194109064771063551574934016, sa_h29, sa_h29, [3, 4, 5, 6, 7], [83010348295185760355])
def sa_t89_0 : sf_T := (9306112, 93536104794622304634503194109064771063551574934016, [], sa_h29, [(1000, 1)], [(0, 0)])
def sa_l89 : List sf_T := [sa_t89_0]
noncomputable def sa_b89 : en_T := (sf_tc 9043968 (sf_call 133 [(3, 2, sa_m64)]) (fun _ => none))
theorem sa_e89_0 : sf_okb (sf_fin 133 sa_h29 [83010348295185760355]) sa_b89 142 2 3 133 17 sa_l89 [] sa_t89_0 = true := by decide +kernel
theorem sa_i89 : (sa_m89.1, sa_m89.2.1, ([] : List Nat), sa_m89.2.2.1, [(1000, 1)], [(0, 0)]) ∈ sa_l89 := List.mem_cons_self
theorem sa_k89 (hS : ∀ ρ, en_SA E ρ ω mt_SB) (hX : sf_JX J) (hM : sf_MnA E ω J) : sf_Kok E ω J 2 3 133 sa_m89 := sf_K_of hS (sf_TS_k hX (sf_fc ⟨rfl, (sa_k64 hS hX hM)⟩ sf_fn) sf_TS_n) (sf_nL (by decide +kernel)) rfl sa_h29_n sa_h29_n (by decide +kernel) (by decide +kernel) (by decide +kernel) sa_i89 (sf_fc (sf_okb_t sa_h29_n sa_e89_0) sf_fn)
def sa_h46 : en_H := (((((((sa_r23, 0), sa_r0), sa_r1), ((sa_r24, sa_r2), (sa_r3, sa_r25))), ((((((sa_r4, (0, 0)), 0), 0), ((((0, 0), (0, (0, 0))), (((0, 0), 0), (0, (0, (0, 0))))), sa_r19)), ((sa_r18, 0), 0)), (0, ((((0, 0), ((0, 0), ((0, 0), 0))), (((0, (0, 0)), ((0, 0), (0, 0))), (((0, 0), (0, 0)), ((0, 0), (0, 0))))), (((((0, 0), (0, 0)), ((0, 0), (0, 0))), (((0, 0), (0, 0)), ((0, 0), (0, 0)))), ((((0, 0), (0, 0)), ((0, 0), (0, (0, 0)))), ((((0, 0), (0, 0)), ((0, 0), 0)), (0, (0, (0, 0)))))))))), 0), ((((((0, 0), 0), (0, (0, 0))), (0, 0)), 0), ((((((((0, 0), 0), (0, 0)), (0, (0, 0))), 0), (0, (((0, 0), (0, 0)), ((0, 0), (0, 0))))), 0), (((0, 0), 0), (0, ((0, ((0, 0), (0, 0))), (((0, 0), (0, 0)), ((0, 0), ((0, 0), (0, 0))))))))))
theorem sa_h46_n : sf_nlh sa_h46 136 = true := by decide +kernel
/-- X8_orders -/
def sa_m90 : sf_M := (16318464, 93536104794622304634503194109064771063538690032128, sa_h46, sa_h46, [0, 2, 3, 4, 5, 6, 7, 8, 25, 26], [83010348295185760355])
def sa_t90_0 : sf_T := (16318464, 93536104794622304634503194109064771063538690032128, [], sa_h46, [(1000, 1), (2, 4)], [(0, 0)])
def sa_l90 : List sf_T := [sa_t90_0]
noncomputable def sa_b90 : en_T := (sf_tc 9306112 (sf_call 133 [(2, 3, sa_m89)]) (sf_tc 12320768 (sf_call 133 [(1, 4, sa_m66)]) (fun _ => none)))
theorem sa_e90_0 : sf_okb (sf_fin 133 sa_h46 [83010348295185760355]) sa_b90 249 2 5 133 86 sa_l90 [] sa_t90_0 = true := by decide +kernel
theorem sa_i90 : (sa_m90.1, sa_m90.2.1, ([] : List Nat), sa_m90.2.2.1, [(1000, 1), (2, 4)], [(0, 0)]) ∈ sa_l90 := List.mem_cons_self
theorem sa_k90 (hS : ∀ ρ, en_SA E ρ ω mt_SB) (hX : sf_JX J) (hM : sf_MnA E ω J) : sf_Kok E ω J 2 5 133 sa_m90 := sf_K_of hS (sf_TS_k hX (sf_fc ⟨rfl, (sa_k89 hS hX hM)⟩ sf_fn) (sf_TS_k hX (sf_fc ⟨rfl, (sa_k66 hS hX hM)⟩ sf_fn) sf_TS_n)) (sf_nL (by decide +kernel)) rfl sa_h46_n sa_h46_n (by decide +kernel) (by decide +kernel) (by decide +kernel) sa_i90 (sf_fc (sf_okb_t sa_h46_n sa_e90_0) sf_fn)
def sa_h47 : en_H := (((((((0, 0), sa_r0), sa_r1), ((sa_r24, 0), (0, 0))), ((((((sa_r4, (0, 0)), 0), 0), ((((0, 0), (0, (0, 0))), (((0, 0), 0), (0, (0, (0, 0))))), 0)), ((0, 0), 0)), (0, ((((0, 0), ((sa_r9, 0), ((0, 0), 0))), (((0, (0, 0)), ((0, 0), (0, 0))), (((0, 0), (0, 0)), ((0, 0), (0, 0))))), (((((0, 0), (0, 0)), ((0, 0), (0, 0))), (((0, 0), (0, 0)), ((0, 0), (0, 0)))), ((((0, 0), (0, 0)), ((0, 0), (0, (0, 0)))), ((((0, 0), (0, 0)), ((0, 0), 0)), (0, (0, (0, 0)))))))))), 0), ((((((0, 0), 0), (0, (0, 0))), (0, 0)), 0), ((((((((0, 0), 0), (0, 0)), (0, (0, 0))), 0), (0, (((0, 0), (0, 0)), ((0, 0), (0, 0))))), 0), (((0, 0), 0), (0, ((0, ((0, 0), (0, 0))), (((0, 0), (0, 0)), ((0, 0), ((0, 0), (0, 0))))))))))
theorem sa_h47_n : sf_nlh sa_h47 136 = true := by decide +kernel
/-- X6_notePosts -/
def sa_m91 : sf_M := (13500416, 31057858561361006602857282427065691796348409989895107770731920237789952, sa_h47, sa_h47, [2, 3, 4, 8, 32], [])
def sa_t91_0 : sf_T := (13500416, 31057858561361006602857282427065691796348409989895107770731920237789952, [], sa_h47, [(1000, 2), (2, 4)], [(0, 0)])
def sa_l91 : List sf_T := [sa_t91_0]
noncomputable def sa_b91 : en_T := (sf_tc 13631488 (sf_call 133 [(3, 1, sa_m73)]) (fun _ => none))
theorem sa_e91_0 : sf_okb (sf_fin 133 sa_h47 []) sa_b91 206 3 2 133 67 sa_l91 [] sa_t91_0 = true := by decide +kernel
theorem sa_i91 : (sa_m91.1, sa_m91.2.1, ([] : List Nat), sa_m91.2.2.1, [(1000, 2), (2, 4)], [(0, 0)]) ∈ sa_l91 := List.mem_cons_self
theorem sa_k91 (hS : ∀ ρ, en_SA E ρ ω mt_SB) (hX : sf_JX J) (hM : sf_MnA E ω J) : sf_Kok E ω J 3 2 133 sa_m91 := sf_K_of hS (sf_TS_k hX (sf_fc ⟨rfl, (sa_k73 hS hX hM)⟩ sf_fn) sf_TS_n) (sf_nL (by decide +kernel)) rfl sa_h47_n sa_h47_n (by decide +kernel) (by decide +kernel) (by decide +kernel) sa_i91 (sf_fc (sf_okb_t sa_h47_n sa_e91_0) sf_fn)
def sa_h48 : en_H := (((((((0, 0), sa_r0), sa_r1), ((sa_r24, sa_r2), (sa_r3, sa_r25))), ((((((sa_r4, (0, 0)), 0), 0), ((((0, 0), (0, (0, 0))), (((0, 0), 0), (0, (0, (0, 0))))), 0)), ((0, 0), 0)), (0, ((((0, sa_r8), ((sa_r9, 0), ((0, 0), 0))), (((0, (0, 0)), ((0, 0), (0, 0))), (((0, 0), (0, 0)), ((0, 0), (0, 0))))), (((((0, 0), (0, 0)), ((0, 0), (0, 0))), (((0, 0), (0, 0)), ((0, 0), (0, 0)))), ((((0, 0), (0, 0)), ((0, 0), (0, (0, 0)))), ((((0, 0), (0, 0)), ((0, 0), 0)), (0, (0, (0, 0)))))))))), 0), ((((((0, 0), 0), (0, (0, 0))), (0, 0)), 0), ((((((((0, 0), 0), (0, 0)), (0, (0, 0))), 0), (0, (((0, 0), (0, 0)), ((0, 0), (0, 0))))), 0), (((0, 0), 0), (0, ((0, ((0, 0), (0, 0))), (((0, 0), (0, 0)), ((0, 0), ((0, 0), (0, 0))))))))))
theorem sa_h48_n : sf_nlh sa_h48 136 = true := by decide +kernel
/-- X0_noteDraw -/
def sa_m92 : sf_M := (7995392, 27606985388769193193729097423383900024586574555173631384301249302102784, sa_h48, sa_h48, [2, 3, 4, 5, 6, 7, 8, 31, 32], [])
def sa_t92_0 : sf_T := (7995392, 27606985388769193193729097423383900024586574555173631384301249302102784, [], sa_h48, [(1000, 1), (1000, 2)], [(0, 0)])
def sa_l92 : List sf_T := [sa_t92_0]
noncomputable def sa_b92 : en_T := (sf_tc 13500416 (sf_call 133 [(3, 2, sa_m91)]) (sf_tc 9043968 (sf_call 133 [(3, 2, sa_m64)]) (fun _ => none)))
theorem sa_e92_0 : sf_okb (sf_fin 133 sa_h48 []) sa_b92 122 3 3 133 35 sa_l92 [] sa_t92_0 = true := by decide +kernel
theorem sa_i92 : (sa_m92.1, sa_m92.2.1, ([] : List Nat), sa_m92.2.2.1, [(1000, 1), (1000, 2)], [(0, 0)]) ∈ sa_l92 := List.mem_cons_self
theorem sa_k92 (hS : ∀ ρ, en_SA E ρ ω mt_SB) (hX : sf_JX J) (hM : sf_MnA E ω J) : sf_Kok E ω J 3 3 133 sa_m92 := sf_K_of hS (sf_TS_k hX (sf_fc ⟨rfl, (sa_k91 hS hX hM)⟩ sf_fn) (sf_TS_k hX (sf_fc ⟨rfl, (sa_k64 hS hX hM)⟩ sf_fn) sf_TS_n)) (sf_nL (by decide +kernel)) rfl sa_h48_n sa_h48_n (by decide +kernel) (by decide +kernel) (by decide +kernel) sa_i92 (sf_fc (sf_okb_t sa_h48_n sa_e92_0) sf_fn)
end SFP
