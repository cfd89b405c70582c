/-! CONTRACTS, by program (wip/p3/emit.py) -/
section SFP
variable {E : mm_E} {ω : Nat → Value} {J : mm_H → Prop}
def sb_h4 : en_H := (((((((0, 0), 0), 0), ((0, 0), (0, 0))), ((((((0, (0, 0)), 0), 0), ((((0, 0), (0, (0, 0))), (((0, 0), 0), (0, (0, (0, 0))))), 0)), ((0, 0), 0)), (0, ((((0, 0), ((0, 0), ((0, 0), 0))), (((0, (0, 0)), ((0, 0), (0, 0))), (((0, 0), (0, 0)), ((0, 0), (0, 0))))), (((((0, 0), (0, 0)), ((0, 0), (0, 0))), (((0, 0), (0, 0)), ((0, 0), (0, 0)))), ((((0, 0), (0, 0)), ((0, 0), (0, (0, 0)))), ((((0, 0), (0, 0)), ((0, 0), 0)), (0, (0, (0, 0)))))))))), sb_r0), ((((((0, 0), 0), (0, (0, 0))), (0, 0)), 0), ((((((((0, 0), 0), (0, 0)), (0, (0, 0))), 0), (0, (((0, 0), (0, 0)), ((0, 0), (0, 0))))), 0), (((0, 0), 0), (0, ((0, ((0, 0), (0, 0))), (((0, 0), (0, 0)), ((0, 0), ((0, 0), (0, 0))))))))))
theorem sb_h4_n : sf_nlh sb_h4 136 = true := by decide +kernel
/-- X9_place -/
def sb_m88 : sf_M := (4653056, 36893488525376225536, sb_h4, sb_h4, [88], [73786976299133173759])
def sb_t88_0 : sf_T := (4653056, 36893488525376225536, [], sb_h4, [], [(0, 0)])
def sb_l88 : List sf_T := [sb_t88_0]
noncomputable def sb_b88 : en_T := (fun _ => none)
theorem sb_e88_0 : sf_okb (sf_fin 133 sb_h4 [73786976299133173759]) sb_b88 71 1 0 133 26 sb_l88 [] sb_t88_0 = true := by decide +kernel
theorem sb_i88 : (sb_m88.1, sb_m88.2.1, ([] : List Nat), sb_m88.2.2.1, [], [(0, 0)]) ∈ sb_l88 := List.mem_cons_self
theorem sb_k88 (hS : ∀ ρ, en_SA E ρ ω mt_SB) (hX : sf_JX J) (hM : sf_MnB E ω J) : sf_Kok E ω J 1 0 133 sb_m88 := sf_K_of hS sf_TS_n (sf_nL (by decide +kernel)) rfl sb_h4_n sb_h4_n (by decide +kernel) (by decide +kernel) (by decide +kernel) sb_i88 (sf_fc (sf_okb_t sb_h4_n sb_e88_0) sf_fn)
def sb_h5 : en_H := (((((((0, 0), 0), 0), ((0, 0), (0, 0))), ((((((0, (0, 0)), 0), 0), ((((0, 0), (0, (0, 0))), (((0, 0), 0), (0, (0, (0, 0))))), 0)), ((0, 0), 0)), (0, ((((0, 0), ((0, 0), ((0, 0), 0))), (((0, (0, 0)), ((0, 0), (0, 0))), (((0, 0), (0, 0)), ((0, 0), (0, 0))))), (((((0, 0), (0, 0)), ((0, 0), (0, 0))), (((0, 0), (0, 0)), ((0, 0), (0, 0)))), ((((0, 0), (0, 0)), ((0, 0), (0, (0, 0)))), ((((0, 0), (0, 0)), ((0, 0), 0)), (0, (0, (0, 0)))))))))), sb_r0), ((((((0, 0), 0), (0, (0, 0))), (0, 0)), 0), ((((((((0, 0), 0), (0, 0)), (0, (0, sb_r5))), 0), (0, (((0, 0), (0, 0)), ((0, 0), (0, 0))))), 0), (((0, sb_r6), sb_r6), (0, ((0, ((0, 0), (0, 0))), (((0, 0), (0, 0)), ((0, 0), ((0, 0), (0, 0))))))))))
theorem sb_h5_n : sf_nlh sb_h5 136 = true := by decide +kernel
/-- X9_copies -/
def sb_m89 : sf_M := (1114112, 16333553616007998046963562849740359991808, sb_h5, sb_h5, [88, 105, 118, 119], [])
def sb_t89_0 : sf_T := (1114112, 16333553616007998046963562849740359991808, [], sb_h5, [(88, 18)], [(0, 0)])
def sb_l89 : List sf_T := [sb_t89_0]
noncomputable def sb_b89 : en_T := (fun _ => none)
theorem sb_e89_0 : sf_okb (sf_fin 133 sb_h5 []) sb_b89 17 2 0 133 1612 sb_l89 [] sb_t89_0 = true := by decide +kernel
theorem sb_i89 : (sb_m89.1, sb_m89.2.1, ([] : List Nat), sb_m89.2.2.1, [(88, 18)], [(0, 0)]) ∈ sb_l89 := List.mem_cons_self
theorem sb_k89 (hS : ∀ ρ, en_SA E ρ ω mt_SB) (hX : sf_JX J) (hM : sf_MnB E ω J) : sf_Kok E ω J 2 0 133 sb_m89 := sf_K_of hS sf_TS_n (sf_nL (by decide +kernel)) rfl sb_h5_n sb_h5_n (by decide +kernel) (by decide +kernel) (by decide +kernel) sb_i89 (sf_fc (sf_okb_t sb_h5_n sb_e89_0) sf_fn)
def sb_h6 : en_H := (((((((0, 0), 0), 0), ((0, 0), (0, 0))), ((((((0, (0, 0)), 0), 0), ((((0, 0), (0, (0, 0))), (((0, 0), 0), (0, (0, (0, 0))))), 0)), ((0, 0), 0)), (0, ((((0, 0), ((0, 0), ((0, 0), 0))), (((0, (0, 0)), ((0, 0), (0, 0))), (((0, 0), (0, 0)), ((0, 0), (0, 0))))), (((((0, 0), (0, 0)), ((0, 0), (0, 0))), (((0, 0), (0, 0)), ((0, 0), (0, 0)))), ((((0, 0), (0, 0)), ((0, 0), (0, (0, 0)))), ((((0, 0), (0, 0)), ((0, 0), 0)), (0, (0, (0, 0)))))))))), sb_r0), ((((((0, 0), 0), (0, (0, 0))), (0, 0)), 0), ((((((((sb_r7, 0), 0), (0, 0)), (0, (0, 0))), 0), (0, (((0, 0), (0, 0)), ((0, 0), (0, 0))))), 0), (((0, 0), 0), (0, ((0, ((0, 0), (0, 0))), (((0, 0), (0, 0)), ((0, 0), ((0, 0), (0, 0))))))))))
theorem sb_h6_n : sf_nlh sb_h6 136 = true := by decide +kernel
/-- X9_skillAt -/
def sb_m90 : sf_M := (5898240, 31057858561361006066813557893367387256691902665387575781551385216025344, sb_h6, sb_h6, [88, 98], [73786976299133173759])
def sb_t90_0 : sf_T := (5898240, 31057858561361006066813557893367387256691902665387575781551385216025344, [], sb_h6, [(1000, 1), (1000, 2), (88, 18)], [(0, 0)])
def sb_l90 : List sf_T := [sb_t90_0]
noncomputable def sb_b90 : en_T := (fun _ => none)
theorem sb_e90_0 : sf_okb (sf_fin 133 sb_h6 [73786976299133173759]) sb_b90 90 3 0 133 58 sb_l90 [] sb_t90_0 = true := by decide +kernel
theorem sb_i90 : (sb_m90.1, sb_m90.2.1, ([] : List Nat), sb_m90.2.2.1, [(1000, 1), (1000, 2), (88, 18)], [(0, 0)]) ∈ sb_l90 := List.mem_cons_self
theorem sb_k90 (hS : ∀ ρ, en_SA E ρ ω mt_SB) (hX : sf_JX J) (hM : sf_MnB E ω J) : sf_Kok E ω J 3 0 133 sb_m90 := sf_K_of hS sf_TS_n (sf_nL (by decide +kernel)) rfl sb_h6_n sb_h6_n (by decide +kernel) (by decide +kernel) (by decide +kernel) sb_i90 (sf_fc (sf_okb_t sb_h6_n sb_e90_0) sf_fn)
def sb_h7 : en_H := (((((((0, 0), 0), 0), ((0, 0), (0, 0))), ((((((0, (0, 0)), 0), 0), ((((0, 0), (0, (0, 0))), (((0, 0), 0), (0, (0, (0, 0))))), 0)), ((0, 0), 0)), (0, ((((0, 0), ((0, 0), ((0, 0), 0))), (((0, (0, 0)), ((0, 0), (0, 0))), (((0, 0), (0, 0)), ((0, 0), (0, 0))))), (((((0, 0), (0, 0)), ((0, 0), (0, 0))), (((0, 0), (0, 0)), ((0, 0), (0, 0)))), ((((0, 0), (0, 0)), ((0, 0), (0, (0, 0)))), ((((0, 0), (0, 0)), ((0, 0), 0)), (0, (0, (0, 0)))))))))), sb_r0), ((((((0, 0), 0), (0, (0, 0))), (0, 0)), 0), ((((((((0, 0), 0), (0, 0)), (0, (0, 0))), 0), (0, (((0, 0), (0, 0)), ((0, 0), (0, 0))))), 0), (((0, 0), sb_r6), (0, ((0, ((0, 0), (0, 0))), (((0, 0), (0, 0)), ((0, 0), ((0, 0), (0, 0))))))))))
theorem sb_h7_n : sf_nlh sb_h7 136 = true := by decide +kernel
/-- X9_postOf -/
def sb_m91 : sf_M := (4849664, 4820814133992940188890642022838420953201779111508051346064128, sb_h7, sb_h7, [88, 119], [83010348325250531331])
def sb_t91_0 : sf_T := (4849664, 4820814133992940188890642022838420953201779111508051346064128, [], sb_h7, [(1000, 1)], [(0, 1)])
def sb_t91_1 : sf_T := (4849666, 31057858561361006067176010299439062475075648138838379578314346995909376, [], sb_h7, [(1000, 1), (1000, 2)], [(0, 0), (1, 1), (0, 0)])
def sb_l91 : List sf_T := [sb_t91_0, sb_t91_1]
noncomputable def sb_b91 : en_T := (fun _ => none)
theorem sb_e91_0 : sf_okb (sf_fin 133 sb_h7 [83010348325250531331]) sb_b91 74 3 0 133 24 sb_l91 [1] sb_t91_0 = true := by decide +kernel
theorem sb_e91_1 : sf_okb (sf_fin 133 sb_h7 [83010348325250531331]) sb_b91 74 3 0 133 98 sb_l91 [1] sb_t91_1 = true := by decide +kernel
theorem sb_i91 : (sb_m91.1, sb_m91.2.1, ([] : List Nat), sb_m91.2.2.1, [(1000, 1)], [(0, 1)]) ∈ sb_l91 := List.mem_cons_self
theorem sb_k91 (hS : ∀ ρ, en_SA E ρ ω mt_SB) (hX : sf_JX J) (hM : sf_MnB E ω J) : sf_Kok E ω J 3 0 133 sb_m91 := sf_K_of hS sf_TS_n (sf_nL (by decide +kernel)) rfl sb_h7_n sb_h7_n (by decide +kernel) (by decide +kernel) (by decide +kernel) sb_i91 (sf_fc (sf_okb_t sb_h7_n sb_e91_0) (sf_fc (sf_okb_t sb_h7_n sb_e91_1) sf_fn))
def sb_h8 : en_H := (((((((0, 0), 0), 0), ((0, 0), (0, 0))), ((((((0, (0, 0)), 0), 0), ((((0, 0), (0, (0, 0))), (((0, 0), 0), (0, (0, (0, 0))))), 0)), ((0, 0), 0)), (0, ((((0, 0), ((0, 0), ((0, 0), 0))), (((0, (0, 0)), ((0, 0), (0, 0))), (((0, 0), (0, 0)), ((0, 0), (0, 0))))), (((((0, 0), (0, 0)), ((0, 0), (0, 0))), (((0, 0), (0, 0)), ((0, 0), (0, 0)))), ((((0, 0), (0, 0)), ((0, 0), (0, (0, 0)))), ((((0, 0), (0, 0)), ((0, 0), 0)), (0, (0, (0, 0)))))))))), sb_r0), ((((((0, 0), 0), (0, (0, 0))), (0, 0)), sb_r8), ((((((((sb_r7, 0), 0), (0, 0)), (0, (0, sb_r5))), 0), (0, (((0, 0), (0, 0)), ((0, 0), (0, 0))))), 0), (((0, sb_r6), sb_r6), (0, ((0, ((0, 0), (0, 0))), (((0, 0), (0, 0)), ((0, 0), ((0, 0), (0, 0))))))))))
theorem sb_h8_n : sf_nlh sb_h8 136 = true := by decide +kernel
/-- X9_man -/
def sb_m92 : sf_M := (4128768, 27606985388769193193717405410287975059719958368137445532464887646651136, sb_h8, sb_h8, [88, 97, 98, 105, 118, 119], [73786976299133173759])
def sb_t92_0 : sf_T := (4128768, 27606985388769193193717405410287975059719958368137445532464887646651136, [], sb_h8, [(1000, 1), (1000, 2), (88, 18)], [(0, 0)])
def sb_l92 : List sf_T := [sb_t92_0]
noncomputable def sb_b92 : en_T := (sf_tc 4849664 (sf_call 133 [(3, 0, sb_m91)]) (sf_tc 5898240 (sf_call 133 [(3, 0, sb_m90)]) (sf_tc 1114112 (sf_call 133 [(2, 0, sb_m89)]) (fun _ => none))))
theorem sb_e92_0 : sf_okb (sf_fin 133 sb_h8 [73786976299133173759]) sb_b92 63 3 2 133 300 sb_l92 [] sb_t92_0 = true := by decide +kernel
theorem sb_i92 : (sb_m92.1, sb_m92.2.1, ([] : List Nat), sb_m92.2.2.1, [(1000, 1), (1000, 2), (88, 18)], [(0, 0)]) ∈ sb_l92 := List.mem_cons_self
theorem sb_k92 (hS : ∀ ρ, en_SA E ρ ω mt_SB) (hX : sf_JX J) (hM : sf_MnB E ω J) : sf_Kok E ω J 3 2 133 sb_m92 := sf_K_of hS (sf_TS_k (q := 4849664) (nx := 133) (l := [(3, 0, sb_m91)]) hX (sf_fc ⟨(rfl : sb_m91.1 = 4849664), (sb_k91 hS hX hM)⟩ sf_fn) (sf_TS_k (q := 5898240) (nx := 133) (l := [(3, 0, sb_m90)]) hX (sf_fc ⟨(rfl : sb_m90.1 = 5898240), (sb_k90 hS hX hM)⟩ sf_fn) (sf_TS_k (q := 1114112) (nx := 133) (l := [(2, 0, sb_m89)]) hX (sf_fc ⟨(rfl : sb_m89.1 = 1114112), (sb_k89 hS hX hM)⟩ sf_fn) sf_TS_n))) (sf_nL (by decide +kernel)) rfl sb_h8_n sb_h8_n (by decide +kernel) (by decide +kernel) (by decide +kernel) sb_i92 (sf_fc (sf_okb_t sb_h8_n sb_e92_0) sf_fn)
def sb_h9 : en_H := (((((((0, 0), 0), 0), ((0, 0), (0, 0))), ((((((0, (0, 0)), 0), 0), ((((0, 0), (0, (0, 0))), (((0, 0), 0), (0, (0, (0, 0))))), 0)), ((0, 0), 0)), (0, ((((0, 0), ((0, 0), ((0, 0), 0))), (((0, (0, 0)), ((0, 0), (0, 0))), (((0, 0), (0, 0)), ((0, 0), (0, 0))))), (((((0, 0), (0, 0)), ((0, 0), (0, 0))), (((0, 0), (0, 0)), ((0, 0), (0, 0)))), ((((0, 0), (0, 0)), ((0, 0), (0, (0, 0)))), ((((0, 0), (0, 0)), ((0, 0), 0)), (0, (0, (0, 0)))))))))), sb_r0), ((((((0, 0), 0), (0, (0, 0))), (0, 0)), 0), ((((((((0, 0), 0), (0, 0)), (0, (0, 0))), 0), (0, (((0, 0), (0, 0)), ((0, 0), (0, 0))))), 0), (((0, sb_r6), 0), (0, ((0, ((0, 0), (0, 0))), (((0, 0), (0, 0)), ((0, 0), ((0, 0), (0, 0))))))))))
theorem sb_h9_n : sf_nlh sb_h9 136 = true := by decide +kernel
/-- X9_post -/
def sb_m93 : sf_M := (4784128, 93536104794622304634503194109064771063916647154176, sb_h9, sb_h9, [88, 118], [83010348325250531333])
def sb_t93_0 : sf_T := (4784128, 93536104794622304634503194109064771063916647154176, [], sb_h9, [(1000, 1)], [(0, 0)])
def sb_l93 : List sf_T := [sb_t93_0]
noncomputable def sb_b93 : en_T := (fun _ => none)
theorem sb_e93_0 : sf_okb (sf_fin 133 sb_h9 [83010348325250531333]) sb_b93 73 2 1 133 104 sb_l93 [] sb_t93_0 = true := by decide +kernel
theorem sb_i93 : (sb_m93.1, sb_m93.2.1, ([] : List Nat), sb_m93.2.2.1, [(1000, 1)], [(0, 0)]) ∈ sb_l93 := List.mem_cons_self
theorem sb_k93 (hS : ∀ ρ, en_SA E ρ ω mt_SB) (hX : sf_JX J) (hM : sf_MnB E ω J) : sf_Kok E ω J 2 1 133 sb_m93 := sf_K_of hS sf_TS_n (sf_nL (by decide +kernel)) rfl sb_h9_n sb_h9_n (by decide +kernel) (by decide +kernel) (by decide +kernel) sb_i93 (sf_fc (sf_okb_t sb_h9_n sb_e93_0) sf_fn)
def sb_h10 : en_H := (((((((0, 0), 0), 0), ((0, 0), (0, 0))), ((((((0, (0, 0)), 0), 0), ((((0, 0), (0, (0, 0))), (((0, 0), 0), (0, (0, (0, 0))))), 0)), ((0, 0), 0)), (0, ((((0, 0), ((0, 0), ((0, 0), 0))), (((0, (0, 0)), ((0, 0), (0, 0))), (((0, 0), (0, 0)), ((0, 0), (0, 0))))), (((((0, 0), (0, 0)), ((0, 0), (0, 0))), (((0, 0), (0, 0)), ((0, 0), (0, 0)))), ((((0, 0), (0, 0)), ((0, 0), (0, (0, 0)))), ((((0, 0), (0, 0)), ((0, 0), 0)), (0, (0, (0, 0)))))))))), sb_r0), ((((((0, 0), 0), (0, (0, 0))), (0, 0)), 0), ((((((((0, 0), 0), (0, 0)), (0, (0, 0))), 0), (0, (((0, 0), (0, 0)), ((0, 0), (0, 0))))), sb_r1), (((0, 0), sb_r6), (0, ((0, ((0, 0), (0, 0))), (((0, 0), (0, 0)), ((0, 0), ((0, 0), (0, 0))))))))))
theorem sb_h10_n : sf_nlh sb_h10 136 = true := by decide +kernel
/-- X9_looks -/
def sb_m94 : sf_M := (3997696, 16333553616007998046963562849740359991808, sb_h10, sb_h10, [88, 116, 119], [])
def sb_t94_0 : sf_T := (3997696, 16333553616007998046963562849740359991808, [], sb_h10, [], [(0, 1)])
def sb_t94_1 : sf_T := (3997698, 105228117901436304798911701896198319814493576626688, [], sb_h10, [(1000, 1)], [(0, 0), (1, 0), (0, 0)])
def sb_l94 : List sf_T := [sb_t94_0, sb_t94_1]
noncomputable def sb_b94 : en_T := (fun _ => none)
theorem sb_e94_0 : sf_okb (sf_fin 133 sb_h10 []) sb_b94 61 2 0 133 24 sb_l94 [1] sb_t94_0 = true := by decide +kernel
theorem sb_e94_1 : sf_okb (sf_fin 133 sb_h10 []) sb_b94 61 2 0 133 74 sb_l94 [1] sb_t94_1 = true := by decide +kernel
theorem sb_i94 : (sb_m94.1, sb_m94.2.1, ([] : List Nat), sb_m94.2.2.1, [], [(0, 1)]) ∈ sb_l94 := List.mem_cons_self
theorem sb_k94 (hS : ∀ ρ, en_SA E ρ ω mt_SB) (hX : sf_JX J) (hM : sf_MnB E ω J) : sf_Kok E ω J 2 0 133 sb_m94 := sf_K_of hS sf_TS_n (sf_nL (by decide +kernel)) rfl sb_h10_n sb_h10_n (by decide +kernel) (by decide +kernel) (by decide +kernel) sb_i94 (sf_fc (sf_okb_t sb_h10_n sb_e94_0) (sf_fc (sf_okb_t sb_h10_n sb_e94_1) sf_fn))
def sb_h11 : en_H := (((((((0, 0), 0), 0), ((0, 0), (0, 0))), ((((((0, (0, 0)), 0), 0), ((((0, 0), (0, (0, 0))), (((0, 0), 0), (0, (0, (0, 0))))), 0)), ((0, 0), 0)), (0, ((((0, 0), ((0, 0), ((0, 0), 0))), (((0, (0, 0)), ((0, 0), (0, 0))), (((0, 0), (0, 0)), ((0, 0), (0, 0))))), (((((0, 0), (0, 0)), ((0, 0), (0, 0))), (((0, 0), (0, 0)), ((0, 0), (0, 0)))), ((((0, 0), (0, 0)), ((0, 0), (0, (0, 0)))), ((((0, 0), (0, 0)), ((0, 0), 0)), (0, (0, (0, 0)))))))))), sb_r0), ((((((0, 0), 0), (0, (0, 0))), (0, 0)), 0), ((((((((0, 0), 0), (0, 0)), (0, (0, 0))), 0), (0, (((0, 0), (0, 0)), ((0, 0), (0, 0))))), sb_r1), (((sb_r2, 0), sb_r6), (0, ((0, ((0, 0), (0, 0))), (((0, 0), (0, 0)), ((0, 0), ((0, 0), (0, 0))))))))))
theorem sb_h11_n : sf_nlh sb_h11 136 = true := by decide +kernel
/-- X9_windNow -/
def sb_m95 : sf_M := (7208960, 36893488525376225536, sb_h11, sb_h11, [88, 116, 117, 119], [83010348333840465929])
def sb_t95_0 : sf_T := (7208960, 36893488525376225536, [], sb_h11, [], [(0, 0)])
def sb_l95 : List sf_T := [sb_t95_0]
noncomputable def sb_b95 : en_T := (sf_tc 3997696 (sf_call 133 [(2, 0, sb_m94)]) (sf_tc 196608 (sf_call 133 [(6, 4, sb_m0)]) (fun _ => none)))
theorem sb_e95_0 : sf_okb (sf_fin 133 sb_h11 [83010348333840465929]) sb_b95 110 1 5 133 38 sb_l95 [] sb_t95_0 = true := by decide +kernel
theorem sb_i95 : (sb_m95.1, sb_m95.2.1, ([] : List Nat), sb_m95.2.2.1, [], [(0, 0)]) ∈ sb_l95 := List.mem_cons_self
theorem sb_k95 (hS : ∀ ρ, en_SA E ρ ω mt_SB) (hX : sf_JX J) (hM : sf_MnB E ω J) : sf_Kok E ω J 1 5 133 sb_m95 := sf_K_of hS (sf_TS_k (q := 3997696) (nx := 133) (l := [(2, 0, sb_m94)]) hX (sf_fc ⟨(rfl : sb_m94.1 = 3997696), (sb_k94 hS hX hM)⟩ sf_fn) (sf_TS_k (q := 196608) (nx := 133) (l := [(6, 4, sb_m0)]) hX (sf_fc ⟨(rfl : sb_m0.1 = 196608), (hM _ (List.mem_of_getElem? (i := 0) rfl))⟩ sf_fn) sf_TS_n)) (sf_nL (by decide +kernel)) rfl sb_h11_n sb_h11_n (by decide +kernel) (by decide +kernel) (by decide +kernel) sb_i95 (sf_fc (sf_okb_t sb_h11_n sb_e95_0) sf_fn)
/-- X9_dangerNow -/
def sb_m96 : sf_M := (1310720, 36893488525376225536, sb_h11, sb_h11, [88, 116, 117, 119], [83010348333840465929])
def sb_t96_0 : sf_T := (1310720, 36893488525376225536, [], sb_h11, [], [(0, 0)])
def sb_l96 : List sf_T := [sb_t96_0]
noncomputable def sb_b96 : en_T := (sf_tc 3997696 (sf_call 133 [(2, 0, sb_m94)]) (sf_tc 196608 (sf_call 133 [(6, 4, sb_m0)]) (fun _ => none)))
theorem sb_e96_0 : sf_okb (sf_fin 133 sb_h11 [83010348333840465929]) sb_b96 20 1 5 133 38 sb_l96 [] sb_t96_0 = true := by decide +kernel
theorem sb_i96 : (sb_m96.1, sb_m96.2.1, ([] : List Nat), sb_m96.2.2.1, [], [(0, 0)]) ∈ sb_l96 := List.mem_cons_self
theorem sb_k96 (hS : ∀ ρ, en_SA E ρ ω mt_SB) (hX : sf_JX J) (hM : sf_MnB E ω J) : sf_Kok E ω J 1 5 133 sb_m96 := sf_K_of hS (sf_TS_k (q := 3997696) (nx := 133) (l := [(2, 0, sb_m94)]) hX (sf_fc ⟨(rfl : sb_m94.1 = 3997696), (sb_k94 hS hX hM)⟩ sf_fn) (sf_TS_k (q := 196608) (nx := 133) (l := [(6, 4, sb_m0)]) hX (sf_fc ⟨(rfl : sb_m0.1 = 196608), (hM _ (List.mem_of_getElem? (i := 0) rfl))⟩ sf_fn) sf_TS_n)) (sf_nL (by decide +kernel)) rfl sb_h11_n sb_h11_n (by decide +kernel) (by decide +kernel) (by decide +kernel) sb_i96 (sf_fc (sf_okb_t sb_h11_n sb_e96_0) sf_fn)
/-- X9_shipIs -/
def sb_m97 : sf_M := (5767168, 93536104794622304634503194109064771063916647154176, sb_h11, sb_h11, [88, 116, 117, 119], [73786976299133173759])
def sb_t97_0 : sf_T := (5767168, 93536104794622304634503194109064771063916647154176, [], sb_h11, [(1000, 1)], [(0, 0)])
def sb_l97 : List sf_T := [sb_t97_0]
noncomputable def sb_b97 : en_T := (sf_tc 1310720 (sf_call 133 [(1, 5, sb_m96)]) (sf_tc 7208960 (sf_call 133 [(1, 5, sb_m95)]) (fun _ => none)))
theorem sb_e97_0 : sf_okb (sf_fin 133 sb_h11 [73786976299133173759]) sb_b97 88 2 6 133 176 sb_l97 [] sb_t97_0 = true := by decide +kernel
theorem sb_i97 : (sb_m97.1, sb_m97.2.1, ([] : List Nat), sb_m97.2.2.1, [(1000, 1)], [(0, 0)]) ∈ sb_l97 := List.mem_cons_self
theorem sb_k97 (hS : ∀ ρ, en_SA E ρ ω mt_SB) (hX : sf_JX J) (hM : sf_MnB E ω J) : sf_Kok E ω J 2 6 133 sb_m97 := sf_K_of hS (sf_TS_k (q := 1310720) (nx := 133) (l := [(1, 5, sb_m96)]) hX (sf_fc ⟨(rfl : sb_m96.1 = 1310720), (sb_k96 hS hX hM)⟩ sf_fn) (sf_TS_k (q := 7208960) (nx := 133) (l := [(1, 5, sb_m95)]) hX (sf_fc ⟨(rfl : sb_m95.1 = 7208960), (sb_k95 hS hX hM)⟩ sf_fn) sf_TS_n)) (sf_nL (by decide +kernel)) rfl sb_h11_n sb_h11_n (by decide +kernel) (by decide +kernel) (by decide +kernel) sb_i97 (sf_fc (sf_okb_t sb_h11_n sb_e97_0) sf_fn)
def sb_h12 : en_H := (((((((0, 0), 0), 0), ((0, 0), (0, 0))), ((((((0, (0, 0)), 0), 0), ((((0, 0), (0, (0, 0))), (((0, 0), 0), (0, (0, (0, 0))))), 0)), ((0, 0), 0)), (0, ((((0, 0), ((0, 0), ((0, 0), 0))), (((0, (0, 0)), ((0, 0), (0, 0))), (((0, 0), (0, 0)), ((0, 0), (0, 0))))), (((((0, 0), (0, 0)), ((0, 0), (0, 0))), (((0, 0), (0, 0)), ((0, 0), (0, 0)))), ((((0, 0), (0, 0)), ((0, 0), (0, (0, 0)))), ((((0, 0), (0, 0)), ((0, 0), 0)), (0, (0, (0, 0)))))))))), sb_r0), ((((((0, 0), 0), (0, (0, 0))), (0, 0)), 0), ((((((((0, 0), 0), (0, 0)), (0, (0, sb_r5))), 0), (0, (((0, 0), (0, 0)), ((0, 0), (0, 0))))), sb_r1), (((sb_r2, sb_r6), sb_r6), (0, ((0, ((0, 0), (0, 0))), (((0, 0), (0, 0)), ((0, 0), ((0, 0), (0, 0))))))))))
theorem sb_h12_n : sf_nlh sb_h12 136 = true := by decide +kernel
/-- X9_ship -/
def sb_m98 : sf_M := (5701632, 93536104794622304634503194109064771063916647154176, sb_h12, sb_h12, [88, 105, 116, 117, 118, 119], [73786976299133173759])
def sb_t98_0 : sf_T := (5701632, 93536104794622304634503194109064771063916647154176, [], sb_h12, [(1000, 1)], [(0, 0)])
def sb_l98 : List sf_T := [sb_t98_0]
noncomputable def sb_b98 : en_T := (sf_tc 5767168 (sf_call 133 [(2, 6, sb_m97)]) (sf_tc 1114112 (sf_call 133 [(2, 0, sb_m89)]) (fun _ => none)))
theorem sb_e98_0 : sf_okb (sf_fin 133 sb_h12 [73786976299133173759]) sb_b98 87 2 7 133 32 sb_l98 [] sb_t98_0 = true := by decide +kernel
theorem sb_i98 : (sb_m98.1, sb_m98.2.1, ([] : List Nat), sb_m98.2.2.1, [(1000, 1)], [(0, 0)]) ∈ sb_l98 := List.mem_cons_self
theorem sb_k98 (hS : ∀ ρ, en_SA E ρ ω mt_SB) (hX : sf_JX J) (hM : sf_MnB E ω J) : sf_Kok E ω J 2 7 133 sb_m98 := sf_K_of hS (sf_TS_k (q := 5767168) (nx := 133) (l := [(2, 6, sb_m97)]) hX (sf_fc ⟨(rfl : sb_m97.1 = 5767168), (sb_k97 hS hX hM)⟩ sf_fn) (sf_TS_k (q := 1114112) (nx := 133) (l := [(2, 0, sb_m89)]) hX (sf_fc ⟨(rfl : sb_m89.1 = 1114112), (sb_k89 hS hX hM)⟩ sf_fn) sf_TS_n)) (sf_nL (by decide +kernel)) rfl sb_h12_n sb_h12_n (by decide +kernel) (by decide +kernel) (by decide +kernel) sb_i98 (sf_fc (sf_okb_t sb_h12_n sb_e98_0) sf_fn)
def sb_h13 : en_H := (((((((0, 0), 0), 0), ((0, 0), (0, 0))), ((((((0, (0, 0)), 0), 0), ((((0, 0), (0, (0, 0))), (((0, 0), 0), (0, (0, (0, 0))))), 0)), ((0, 0), 0)), (0, ((((0, 0), ((0, 0), ((0, 0), 0))), (((0, (0, 0)), ((0, 0), (0, 0))), (((0, 0), (0, 0)), ((0, 0), (0, 0))))), (((((0, 0), (0, 0)), ((0, 0), (0, 0))), (((0, 0), (0, 0)), ((0, 0), (0, 0)))), ((((0, 0), (0, 0)), ((0, 0), (0, (0, 0)))), ((((0, 0), (0, 0)), ((0, 0), 0)), (0, (0, (0, 0)))))))))), sb_r0), ((((((0, 0), 0), (0, (0, 0))), (0, 0)), 0), ((((((((0, 0), 0), (0, 0)), (0, (0, 0))), 0), (0, (((0, 0), (0, 0)), ((0, 0), (0, 0))))), 0), (((0, sb_r6), sb_r6), (0, ((0, ((0, 0), (0, 0))), (((0, 0), (0, 0)), ((0, 0), ((0, 0), (0, 0))))))))))
theorem sb_h13_n : sf_nlh sb_h13 136 = true := by decide +kernel
/-- X9_keepsRow -/
def sb_m99 : sf_M := (3670016, 16333553616007998046963562849740359991808, sb_h13, sb_h13, [88, 118, 119], [])
def sb_t99_0 : sf_T := (3670016, 16333553616007998046963562849740359991808, [], sb_h13, [], [(0, 0)])
def sb_l99 : List sf_T := [sb_t99_0]
noncomputable def sb_b99 : en_T := (fun _ => none)
theorem sb_e99_0 : sf_okb (sf_fin 133 sb_h13 []) sb_b99 56 2 0 133 1592 sb_l99 [] sb_t99_0 = true := by decide +kernel
theorem sb_i99 : (sb_m99.1, sb_m99.2.1, ([] : List Nat), sb_m99.2.2.1, [], [(0, 0)]) ∈ sb_l99 := List.mem_cons_self
theorem sb_k99 (hS : ∀ ρ, en_SA E ρ ω mt_SB) (hX : sf_JX J) (hM : sf_MnB E ω J) : sf_Kok E ω J 2 0 133 sb_m99 := sf_K_of hS sf_TS_n (sf_nL (by decide +kernel)) rfl sb_h13_n sb_h13_n (by decide +kernel) (by decide +kernel) (by decide +kernel) sb_i99 (sf_fc (sf_okb_t sb_h13_n sb_e99_0) sf_fn)
end SFP
