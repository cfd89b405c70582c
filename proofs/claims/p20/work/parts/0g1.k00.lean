/-! CONTRACTS, by program (wip/p3/emit.py) -/
section SFP
variable {E : mm_E} {ω : Nat → Value} {J : mm_H → Prop}
def zb_h4 : en_H := (((((((0, 0), 0), 0), ((0, 0), (0, 0))), ((((((0, (0, 0)), 0), 0), ((((0, 0), (0, (0, 0))), (((0, 0), 0), (0, (0, (0, 0))))), 0)), ((0, 0), 0)), (0, ((((0, 0), ((0, 0), ((0, 0), 0))), (((0, (0, 0)), ((0, 0), (0, 0))), (((0, 0), (0, 0)), ((0, 0), (0, 0))))), (((((0, 0), (0, 0)), ((0, 0), (0, 0))), (((0, 0), (0, 0)), ((0, 0), (0, 0)))), ((((0, 0), (0, 0)), ((0, 0), (0, (0, 0)))), ((((0, 0), (0, 0)), ((0, 0), 0)), (0, (0, (0, 0)))))))))), zb_r0), ((((((0, 0), 0), (0, (0, 0))), (0, 0)), 0), ((((((((0, 0), 0), (0, 0)), (0, (0, 0))), 0), (0, (((0, 0), (0, 0)), ((0, 0), (0, 0))))), 0), (((0, 0), 0), (0, ((0, ((0, 0), (0, 0))), (((0, 0), (0, 0)), ((0, 0), ((0, 0), (0, 0))))))))))
theorem zb_h4_n : sf_nlh zb_h4 136 = true := by decide +kernel
/-- X9_place -/
def zb_m88 : sf_M := (4653056, 36893488525376225536, zb_h4, zb_h4, [88], [73786976299133173759])
def zb_t88_0 : sf_T := (4653056, 36893488525376225536, [], zb_h4, [], [(0, 0)])
def zb_l88 : List sf_T := [zb_t88_0]
noncomputable def zb_b88 : en_T := (fun _ => none)
theorem zb_e88_0 : sf_okb (sf_fin 133 zb_h4 [73786976299133173759]) zb_b88 71 1 0 133 26 zb_l88 [] zb_t88_0 = true := by decide +kernel
theorem zb_i88 : (zb_m88.1, zb_m88.2.1, ([] : List Nat), zb_m88.2.2.1, [], [(0, 0)]) ∈ zb_l88 := List.mem_cons_self
theorem zb_k88 (hS : ∀ ρ, en_SA E ρ ω mt_SB) (hX : sf_JX J) (hM : sf_MnB E ω J) : sf_Kok E ω J 1 0 133 zb_m88 := sf_K_of hS sf_TS_n (sf_nL (by decide +kernel)) rfl zb_h4_n zb_h4_n (by decide +kernel) (by decide +kernel) (by decide +kernel) zb_i88 (sf_fc (sf_okb_t zb_h4_n zb_e88_0) sf_fn)
def zb_h5 : en_H := (((((((0, 0), 0), 0), ((0, 0), (0, 0))), ((((((0, (0, 0)), 0), 0), ((((0, 0), (0, (0, 0))), (((0, 0), 0), (0, (0, (0, 0))))), 0)), ((0, 0), 0)), (0, ((((0, 0), ((0, 0), ((0, 0), 0))), (((0, (0, 0)), ((0, 0), (0, 0))), (((0, 0), (0, 0)), ((0, 0), (0, 0))))), (((((0, 0), (0, 0)), ((0, 0), (0, 0))), (((0, 0), (0, 0)), ((0, 0), (0, 0)))), ((((0, 0), (0, 0)), ((0, 0), (0, (0, 0)))), ((((0, 0), (0, 0)), ((0, 0), 0)), (0, (0, (0, 0)))))))))), zb_r0), ((((((0, 0), 0), (0, (0, 0))), (0, 0)), 0), ((((((((0, 0), 0), (0, 0)), (0, (0, zb_r5))), 0), (0, (((0, 0), (0, 0)), ((0, 0), (0, 0))))), 0), (((0, zb_r6), zb_r6), (0, ((0, ((0, 0), (0, 0))), (((0, 0), (0, 0)), ((0, 0), ((0, 0), (0, 0))))))))))
theorem zb_h5_n : sf_nlh zb_h5 136 = true := by decide +kernel
/-- X9_copies -/
def zb_m89 : sf_M := (1114112, 16333553616007998046963562849740359991808, zb_h5, zb_h5, [88, 105, 118, 119], [])
def zb_t89_0 : sf_T := (1114112, 16333553616007998046963562849740359991808, [], zb_h5, [(88, 18)], [(0, 0)])
def zb_l89 : List sf_T := [zb_t89_0]
noncomputable def zb_b89 : en_T := (fun _ => none)
theorem zb_e89_0 : sf_okb (sf_fin 133 zb_h5 []) zb_b89 17 2 0 133 1612 zb_l89 [] zb_t89_0 = true := by decide +kernel
theorem zb_i89 : (zb_m89.1, zb_m89.2.1, ([] : List Nat), zb_m89.2.2.1, [(88, 18)], [(0, 0)]) ∈ zb_l89 := List.mem_cons_self
theorem zb_k89 (hS : ∀ ρ, en_SA E ρ ω mt_SB) (hX : sf_JX J) (hM : sf_MnB E ω J) : sf_Kok E ω J 2 0 133 zb_m89 := sf_K_of hS sf_TS_n (sf_nL (by decide +kernel)) rfl zb_h5_n zb_h5_n (by decide +kernel) (by decide +kernel) (by decide +kernel) zb_i89 (sf_fc (sf_okb_t zb_h5_n zb_e89_0) sf_fn)
def zb_h6 : en_H := (((((((0, 0), 0), 0), ((0, 0), (0, 0))), ((((((0, (0, 0)), 0), 0), ((((0, 0), (0, (0, 0))), (((0, 0), 0), (0, (0, (0, 0))))), 0)), ((0, 0), 0)), (0, ((((0, 0), ((0, 0), ((0, 0), 0))), (((0, (0, 0)), ((0, 0), (0, 0))), (((0, 0), (0, 0)), ((0, 0), (0, 0))))), (((((0, 0), (0, 0)), ((0, 0), (0, 0))), (((0, 0), (0, 0)), ((0, 0), (0, 0)))), ((((0, 0), (0, 0)), ((0, 0), (0, (0, 0)))), ((((0, 0), (0, 0)), ((0, 0), 0)), (0, (0, (0, 0)))))))))), zb_r0), ((((((0, 0), 0), (0, (0, 0))), (0, 0)), 0), ((((((((zb_r7, 0), 0), (0, 0)), (0, (0, 0))), 0), (0, (((0, 0), (0, 0)), ((0, 0), (0, 0))))), 0), (((0, 0), 0), (0, ((0, ((0, 0), (0, 0))), (((0, 0), (0, 0)), ((0, 0), ((0, 0), (0, 0))))))))))
theorem zb_h6_n : sf_nlh zb_h6 136 = true := by decide +kernel
/-- X9_skillAt -/
def zb_m90 : sf_M := (5898240, 31057858561361006066813557893367387256691902665387575781551385216025344, zb_h6, zb_h6, [88, 98], [73786976299133173759])
def zb_t90_0 : sf_T := (5898240, 31057858561361006066813557893367387256691902665387575781551385216025344, [], zb_h6, [(1000, 1), (1000, 2), (88, 18)], [(0, 0)])
def zb_l90 : List sf_T := [zb_t90_0]
noncomputable def zb_b90 : en_T := (fun _ => none)
theorem zb_e90_0 : sf_okb (sf_fin 133 zb_h6 [73786976299133173759]) zb_b90 90 3 0 133 58 zb_l90 [] zb_t90_0 = true := by decide +kernel
theorem zb_i90 : (zb_m90.1, zb_m90.2.1, ([] : List Nat), zb_m90.2.2.1, [(1000, 1), (1000, 2), (88, 18)], [(0, 0)]) ∈ zb_l90 := List.mem_cons_self
theorem zb_k90 (hS : ∀ ρ, en_SA E ρ ω mt_SB) (hX : sf_JX J) (hM : sf_MnB E ω J) : sf_Kok E ω J 3 0 133 zb_m90 := sf_K_of hS sf_TS_n (sf_nL (by decide +kernel)) rfl zb_h6_n zb_h6_n (by decide +kernel) (by decide +kernel) (by decide +kernel) zb_i90 (sf_fc (sf_okb_t zb_h6_n zb_e90_0) sf_fn)
def zb_h7 : en_H := (((((((0, 0), 0), 0), ((0, 0), (0, 0))), ((((((0, (0, 0)), 0), 0), ((((0, 0), (0, (0, 0))), (((0, 0), 0), (0, (0, (0, 0))))), 0)), ((0, 0), 0)), (0, ((((0, 0), ((0, 0), ((0, 0), 0))), (((0, (0, 0)), ((0, 0), (0, 0))), (((0, 0), (0, 0)), ((0, 0), (0, 0))))), (((((0, 0), (0, 0)), ((0, 0), (0, 0))), (((0, 0), (0, 0)), ((0, 0), (0, 0)))), ((((0, 0), (0, 0)), ((0, 0), (0, (0, 0)))), ((((0, 0), (0, 0)), ((0, 0), 0)), (0, (0, (0, 0)))))))))), zb_r0), ((((((0, 0), 0), (0, (0, 0))), (0, 0)), 0), ((((((((0, 0), 0), (0, 0)), (0, (0, 0))), 0), (0, (((0, 0), (0, 0)), ((0, 0), (0, 0))))), 0), (((0, 0), zb_r6), (0, ((0, ((0, 0), (0, 0))), (((0, 0), (0, 0)), ((0, 0), ((0, 0), (0, 0))))))))))
theorem zb_h7_n : sf_nlh zb_h7 136 = true := by decide +kernel
/-- X9_postOf -/
def zb_m91 : sf_M := (4849664, 4820814133992940188890642022838420953201779111508051346064128, zb_h7, zb_h7, [88, 119], [83010348325250531331])
def zb_t91_0 : sf_T := (4849664, 4820814133992940188890642022838420953201779111508051346064128, [], zb_h7, [(1000, 1)], [(0, 1)])
def zb_t91_1 : sf_T := (4849666, 31057858561361006067176010299439062475075648138838379578314346995909376, [], zb_h7, [(1000, 1), (1000, 2)], [(0, 0), (1, 1), (0, 0)])
def zb_l91 : List sf_T := [zb_t91_0, zb_t91_1]
noncomputable def zb_b91 : en_T := (fun _ => none)
theorem zb_e91_0 : sf_okb (sf_fin 133 zb_h7 [83010348325250531331]) zb_b91 74 3 0 133 24 zb_l91 [1] zb_t91_0 = true := by decide +kernel
theorem zb_e91_1 : sf_okb (sf_fin 133 zb_h7 [83010348325250531331]) zb_b91 74 3 0 133 98 zb_l91 [1] zb_t91_1 = true := by decide +kernel
theorem zb_i91 : (zb_m91.1, zb_m91.2.1, ([] : List Nat), zb_m91.2.2.1, [(1000, 1)], [(0, 1)]) ∈ zb_l91 := List.mem_cons_self
theorem zb_k91 (hS : ∀ ρ, en_SA E ρ ω mt_SB) (hX : sf_JX J) (hM : sf_MnB E ω J) : sf_Kok E ω J 3 0 133 zb_m91 := sf_K_of hS sf_TS_n (sf_nL (by decide +kernel)) rfl zb_h7_n zb_h7_n (by decide +kernel) (by decide +kernel) (by decide +kernel) zb_i91 (sf_fc (sf_okb_t zb_h7_n zb_e91_0) (sf_fc (sf_okb_t zb_h7_n zb_e91_1) sf_fn))
def zb_h8 : en_H := (((((((0, 0), 0), 0), ((0, 0), (0, 0))), ((((((0, (0, 0)), 0), 0), ((((0, 0), (0, (0, 0))), (((0, 0), 0), (0, (0, (0, 0))))), 0)), ((0, 0), 0)), (0, ((((0, 0), ((0, 0), ((0, 0), 0))), (((0, (0, 0)), ((0, 0), (0, 0))), (((0, 0), (0, 0)), ((0, 0), (0, 0))))), (((((0, 0), (0, 0)), ((0, 0), (0, 0))), (((0, 0), (0, 0)), ((0, 0), (0, 0)))), ((((0, 0), (0, 0)), ((0, 0), (0, (0, 0)))), ((((0, 0), (0, 0)), ((0, 0), 0)), (0, (0, (0, 0)))))))))), zb_r0), ((((((0, 0), 0), (0, (0, 0))), (0, 0)), zb_r8), ((((((((zb_r7, 0), 0), (0, 0)), (0, (0, zb_r5))), 0), (0, (((0, 0), (0, 0)), ((0, 0), (0, 0))))), 0), (((0, zb_r6), zb_r6), (0, ((0, ((0, 0), (0, 0))), (((0, 0), (0, 0)), ((0, 0), ((0, 0), (0, 0))))))))))
theorem zb_h8_n : sf_nlh zb_h8 136 = true := by decide +kernel
/-- X9_man -/
def zb_m92 : sf_M := (4128768, 27606985388769193193717405410287975059719958368137445532464887646651136, zb_h8, zb_h8, [88, 97, 98, 105, 118, 119], [73786976299133173759])
def zb_t92_0 : sf_T := (4128768, 27606985388769193193717405410287975059719958368137445532464887646651136, [], zb_h8, [(1000, 1), (1000, 2), (88, 18)], [(0, 0)])
def zb_l92 : List sf_T := [zb_t92_0]
noncomputable def zb_b92 : en_T := (sf_tc 4849664 (sf_call 133 [(3, 0, zb_m91)]) (sf_tc 5898240 (sf_call 133 [(3, 0, zb_m90)]) (sf_tc 1114112 (sf_call 133 [(2, 0, zb_m89)]) (fun _ => none))))
theorem zb_e92_0 : sf_okb (sf_fin 133 zb_h8 [73786976299133173759]) zb_b92 63 3 2 133 300 zb_l92 [] zb_t92_0 = true := by decide +kernel
theorem zb_i92 : (zb_m92.1, zb_m92.2.1, ([] : List Nat), zb_m92.2.2.1, [(1000, 1), (1000, 2), (88, 18)], [(0, 0)]) ∈ zb_l92 := List.mem_cons_self
theorem zb_k92 (hS : ∀ ρ, en_SA E ρ ω mt_SB) (hX : sf_JX J) (hM : sf_MnB E ω J) : sf_Kok E ω J 3 2 133 zb_m92 := sf_K_of hS (sf_TS_k (q := 4849664) (nx := 133) (l := [(3, 0, zb_m91)]) hX (sf_fc ⟨(rfl : zb_m91.1 = 4849664), (zb_k91 hS hX hM)⟩ sf_fn) (sf_TS_k (q := 5898240) (nx := 133) (l := [(3, 0, zb_m90)]) hX (sf_fc ⟨(rfl : zb_m90.1 = 5898240), (zb_k90 hS hX hM)⟩ sf_fn) (sf_TS_k (q := 1114112) (nx := 133) (l := [(2, 0, zb_m89)]) hX (sf_fc ⟨(rfl : zb_m89.1 = 1114112), (zb_k89 hS hX hM)⟩ sf_fn) sf_TS_n))) (sf_nL (by decide +kernel)) rfl zb_h8_n zb_h8_n (by decide +kernel) (by decide +kernel) (by decide +kernel) zb_i92 (sf_fc (sf_okb_t zb_h8_n zb_e92_0) sf_fn)
def zb_h9 : en_H := (((((((0, 0), 0), 0), ((0, 0), (0, 0))), ((((((0, (0, 0)), 0), 0), ((((0, 0), (0, (0, 0))), (((0, 0), 0), (0, (0, (0, 0))))), 0)), ((0, 0), 0)), (0, ((((0, 0), ((0, 0), ((0, 0), 0))), (((0, (0, 0)), ((0, 0), (0, 0))), (((0, 0), (0, 0)), ((0, 0), (0, 0))))), (((((0, 0), (0, 0)), ((0, 0), (0, 0))), (((0, 0), (0, 0)), ((0, 0), (0, 0)))), ((((0, 0), (0, 0)), ((0, 0), (0, (0, 0)))), ((((0, 0), (0, 0)), ((0, 0), 0)), (0, (0, (0, 0)))))))))), zb_r0), ((((((0, 0), 0), (0, (0, 0))), (0, 0)), 0), ((((((((0, 0), 0), (0, 0)), (0, (0, 0))), 0), (0, (((0, 0), (0, 0)), ((0, 0), (0, 0))))), 0), (((0, zb_r6), 0), (0, ((0, ((0, 0), (0, 0))), (((0, 0), (0, 0)), ((0, 0), ((0, 0), (0, 0))))))))))
theorem zb_h9_n : sf_nlh zb_h9 136 = true := by decide +kernel
/-- X9_post -/
def zb_m93 : sf_M := (4784128, 93536104794622304634503194109064771063916647154176, zb_h9, zb_h9, [88, 118], [83010348325250531333])
def zb_t93_0 : sf_T := (4784128, 93536104794622304634503194109064771063916647154176, [], zb_h9, [(1000, 1)], [(0, 0)])
def zb_l93 : List sf_T := [zb_t93_0]
noncomputable def zb_b93 : en_T := (fun _ => none)
theorem zb_e93_0 : sf_okb (sf_fin 133 zb_h9 [83010348325250531333]) zb_b93 73 2 1 133 104 zb_l93 [] zb_t93_0 = true := by decide +kernel
theorem zb_i93 : (zb_m93.1, zb_m93.2.1, ([] : List Nat), zb_m93.2.2.1, [(1000, 1)], [(0, 0)]) ∈ zb_l93 := List.mem_cons_self
theorem zb_k93 (hS : ∀ ρ, en_SA E ρ ω mt_SB) (hX : sf_JX J) (hM : sf_MnB E ω J) : sf_Kok E ω J 2 1 133 zb_m93 := sf_K_of hS sf_TS_n (sf_nL (by decide +kernel)) rfl zb_h9_n zb_h9_n (by decide +kernel) (by decide +kernel) (by decide +kernel) zb_i93 (sf_fc (sf_okb_t zb_h9_n zb_e93_0) sf_fn)
def zb_h10 : en_H := (((((((0, 0), 0), 0), ((0, 0), (0, 0))), ((((((0, (0, 0)), 0), 0), ((((0, 0), (0, (0, 0))), (((0, 0), 0), (0, (0, (0, 0))))), 0)), ((0, 0), 0)), (0, ((((0, 0), ((0, 0), ((0, 0), 0))), (((0, (0, 0)), ((0, 0), (0, 0))), (((0, 0), (0, 0)), ((0, 0), (0, 0))))), (((((0, 0), (0, 0)), ((0, 0), (0, 0))), (((0, 0), (0, 0)), ((0, 0), (0, 0)))), ((((0, 0), (0, 0)), ((0, 0), (0, (0, 0)))), ((((0, 0), (0, 0)), ((0, 0), 0)), (0, (0, (0, 0)))))))))), zb_r0), ((((((0, 0), 0), (0, (0, 0))), (0, 0)), 0), ((((((((0, 0), 0), (0, 0)), (0, (0, 0))), 0), (0, (((0, 0), (0, 0)), ((0, 0), (0, 0))))), zb_r1), (((0, 0), zb_r6), (0, ((0, ((0, 0), (0, 0))), (((0, 0), (0, 0)), ((0, 0), ((0, 0), (0, 0))))))))))
theorem zb_h10_n : sf_nlh zb_h10 136 = true := by decide +kernel
/-- X9_looks -/
def zb_m94 : sf_M := (3997696, 16333553616007998046963562849740359991808, zb_h10, zb_h10, [88, 116, 119], [])
def zb_t94_0 : sf_T := (3997696, 16333553616007998046963562849740359991808, [], zb_h10, [], [(0, 1)])
def zb_t94_1 : sf_T := (3997698, 105228117901436304798911701896198319814493576626688, [], zb_h10, [(1000, 1)], [(0, 0), (1, 0), (0, 0)])
def zb_l94 : List sf_T := [zb_t94_0, zb_t94_1]
noncomputable def zb_b94 : en_T := (fun _ => none)
theorem zb_e94_0 : sf_okb (sf_fin 133 zb_h10 []) zb_b94 61 2 0 133 24 zb_l94 [1] zb_t94_0 = true := by decide +kernel
theorem zb_e94_1 : sf_okb (sf_fin 133 zb_h10 []) zb_b94 61 2 0 133 74 zb_l94 [1] zb_t94_1 = true := by decide +kernel
theorem zb_i94 : (zb_m94.1, zb_m94.2.1, ([] : List Nat), zb_m94.2.2.1, [], [(0, 1)]) ∈ zb_l94 := List.mem_cons_self
theorem zb_k94 (hS : ∀ ρ, en_SA E ρ ω mt_SB) (hX : sf_JX J) (hM : sf_MnB E ω J) : sf_Kok E ω J 2 0 133 zb_m94 := sf_K_of hS sf_TS_n (sf_nL (by decide +kernel)) rfl zb_h10_n zb_h10_n (by decide +kernel) (by decide +kernel) (by decide +kernel) zb_i94 (sf_fc (sf_okb_t zb_h10_n zb_e94_0) (sf_fc (sf_okb_t zb_h10_n zb_e94_1) sf_fn))
def zb_h11 : en_H := (((((((0, 0), 0), 0), ((0, 0), (0, 0))), ((((((0, (0, 0)), 0), 0), ((((0, 0), (0, (0, 0))), (((0, 0), 0), (0, (0, (0, 0))))), 0)), ((0, 0), 0)), (0, ((((0, 0), ((0, 0), ((0, 0), 0))), (((0, (0, 0)), ((0, 0), (0, 0))), (((0, 0), (0, 0)), ((0, 0), (0, 0))))), (((((0, 0), (0, 0)), ((0, 0), (0, 0))), (((0, 0), (0, 0)), ((0, 0), (0, 0)))), ((((0, 0), (0, 0)), ((0, 0), (0, (0, 0)))), ((((0, 0), (0, 0)), ((0, 0), 0)), (0, (0, (0, 0)))))))))), zb_r0), ((((((0, 0), 0), (0, (0, 0))), (0, 0)), 0), ((((((((0, 0), 0), (0, 0)), (0, (0, 0))), 0), (0, (((0, 0), (0, 0)), ((0, 0), (0, 0))))), zb_r1), (((zb_r2, 0), zb_r6), (0, ((0, ((0, 0), (0, 0))), (((0, 0), (0, 0)), ((0, 0), ((0, 0), (0, 0))))))))))
theorem zb_h11_n : sf_nlh zb_h11 136 = true := by decide +kernel
/-- X9_windNow -/
def zb_m95 : sf_M := (7208960, 36893488525376225536, zb_h11, zb_h11, [88, 116, 117, 119], [83010348333840465929])
def zb_t95_0 : sf_T := (7208960, 36893488525376225536, [], zb_h11, [], [(0, 0)])
def zb_l95 : List sf_T := [zb_t95_0]
noncomputable def zb_b95 : en_T := (sf_tc 3997696 (sf_call 133 [(2, 0, zb_m94)]) (sf_tc 196608 (sf_call 133 [(6, 4, zb_m0)]) (fun _ => none)))
theorem zb_e95_0 : sf_okb (sf_fin 133 zb_h11 [83010348333840465929]) zb_b95 110 1 5 133 38 zb_l95 [] zb_t95_0 = true := by decide +kernel
theorem zb_i95 : (zb_m95.1, zb_m95.2.1, ([] : List Nat), zb_m95.2.2.1, [], [(0, 0)]) ∈ zb_l95 := List.mem_cons_self
theorem zb_k95 (hS : ∀ ρ, en_SA E ρ ω mt_SB) (hX : sf_JX J) (hM : sf_MnB E ω J) : sf_Kok E ω J 1 5 133 zb_m95 := sf_K_of hS (sf_TS_k (q := 3997696) (nx := 133) (l := [(2, 0, zb_m94)]) hX (sf_fc ⟨(rfl : zb_m94.1 = 3997696), (zb_k94 hS hX hM)⟩ sf_fn) (sf_TS_k (q := 196608) (nx := 133) (l := [(6, 4, zb_m0)]) hX (sf_fc ⟨(rfl : zb_m0.1 = 196608), (hM _ (List.mem_of_getElem? (i := 0) rfl))⟩ sf_fn) sf_TS_n)) (sf_nL (by decide +kernel)) rfl zb_h11_n zb_h11_n (by decide +kernel) (by decide +kernel) (by decide +kernel) zb_i95 (sf_fc (sf_okb_t zb_h11_n zb_e95_0) sf_fn)
/-- X9_dangerNow -/
def zb_m96 : sf_M := (1310720, 36893488525376225536, zb_h11, zb_h11, [88, 116, 117, 119], [83010348333840465929])
def zb_t96_0 : sf_T := (1310720, 36893488525376225536, [], zb_h11, [], [(0, 0)])
def zb_l96 : List sf_T := [zb_t96_0]
noncomputable def zb_b96 : en_T := (sf_tc 3997696 (sf_call 133 [(2, 0, zb_m94)]) (sf_tc 196608 (sf_call 133 [(6, 4, zb_m0)]) (fun _ => none)))
theorem zb_e96_0 : sf_okb (sf_fin 133 zb_h11 [83010348333840465929]) zb_b96 20 1 5 133 38 zb_l96 [] zb_t96_0 = true := by decide +kernel
theorem zb_i96 : (zb_m96.1, zb_m96.2.1, ([] : List Nat), zb_m96.2.2.1, [], [(0, 0)]) ∈ zb_l96 := List.mem_cons_self
theorem zb_k96 (hS : ∀ ρ, en_SA E ρ ω mt_SB) (hX : sf_JX J) (hM : sf_MnB E ω J) : sf_Kok E ω J 1 5 133 zb_m96 := sf_K_of hS (sf_TS_k (q := 3997696) (nx := 133) (l := [(2, 0, zb_m94)]) hX (sf_fc ⟨(rfl : zb_m94.1 = 3997696), (zb_k94 hS hX hM)⟩ sf_fn) (sf_TS_k (q := 196608) (nx := 133) (l := [(6, 4, zb_m0)]) hX (sf_fc ⟨(rfl : zb_m0.1 = 196608), (hM _ (List.mem_of_getElem? (i := 0) rfl))⟩ sf_fn) sf_TS_n)) (sf_nL (by decide +kernel)) rfl zb_h11_n zb_h11_n (by decide +kernel) (by decide +kernel) (by decide +kernel) zb_i96 (sf_fc (sf_okb_t zb_h11_n zb_e96_0) sf_fn)
/-- X9_shipIs -/
def zb_m97 : sf_M := (5767168, 93536104794622304634503194109064771063916647154176, zb_h11, zb_h11, [88, 116, 117, 119], [73786976299133173759])
def zb_t97_0 : sf_T := (5767168, 93536104794622304634503194109064771063916647154176, [], zb_h11, [(1000, 1)], [(0, 0)])
def zb_l97 : List sf_T := [zb_t97_0]
noncomputable def zb_b97 : en_T := (sf_tc 1310720 (sf_call 133 [(1, 5, zb_m96)]) (sf_tc 7208960 (sf_call 133 [(1, 5, zb_m95)]) (fun _ => none)))
theorem zb_e97_0 : sf_okb (sf_fin 133 zb_h11 [73786976299133173759]) zb_b97 88 2 6 133 176 zb_l97 [] zb_t97_0 = true := by decide +kernel
theorem zb_i97 : (zb_m97.1, zb_m97.2.1, ([] : List Nat), zb_m97.2.2.1, [(1000, 1)], [(0, 0)]) ∈ zb_l97 := List.mem_cons_self
theorem zb_k97 (hS : ∀ ρ, en_SA E ρ ω mt_SB) (hX : sf_JX J) (hM : sf_MnB E ω J) : sf_Kok E ω J 2 6 133 zb_m97 := sf_K_of hS (sf_TS_k (q := 1310720) (nx := 133) (l := [(1, 5, zb_m96)]) hX (sf_fc ⟨(rfl : zb_m96.1 = 1310720), (zb_k96 hS hX hM)⟩ sf_fn) (sf_TS_k (q := 7208960) (nx := 133) (l := [(1, 5, zb_m95)]) hX (sf_fc ⟨(rfl : zb_m95.1 = 7208960), (zb_k95 hS hX hM)⟩ sf_fn) sf_TS_n)) (sf_nL (by decide +kernel)) rfl zb_h11_n zb_h11_n (by decide +kernel) (by decide +kernel) (by decide +kernel) zb_i97 (sf_fc (sf_okb_t zb_h11_n zb_e97_0) sf_fn)
def zb_h12 : en_H := (((((((0, 0), 0), 0), ((0, 0), (0, 0))), ((((((0, (0, 0)), 0), 0), ((((0, 0), (0, (0, 0))), (((0, 0), 0), (0, (0, (0, 0))))), 0)), ((0, 0), 0)), (0, ((((0, 0), ((0, 0), ((0, 0), 0))), (((0, (0, 0)), ((0, 0), (0, 0))), (((0, 0), (0, 0)), ((0, 0), (0, 0))))), (((((0, 0), (0, 0)), ((0, 0), (0, 0))), (((0, 0), (0, 0)), ((0, 0), (0, 0)))), ((((0, 0), (0, 0)), ((0, 0), (0, (0, 0)))), ((((0, 0), (0, 0)), ((0, 0), 0)), (0, (0, (0, 0)))))))))), zb_r0), ((((((0, 0), 0), (0, (0, 0))), (0, 0)), 0), ((((((((0, 0), 0), (0, 0)), (0, (0, zb_r5))), 0), (0, (((0, 0), (0, 0)), ((0, 0), (0, 0))))), zb_r1), (((zb_r2, zb_r6), zb_r6), (0, ((0, ((0, 0), (0, 0))), (((0, 0), (0, 0)), ((0, 0), ((0, 0), (0, 0))))))))))
theorem zb_h12_n : sf_nlh zb_h12 136 = true := by decide +kernel
/-- X9_ship -/
def zb_m98 : sf_M := (5701632, 93536104794622304634503194109064771063916647154176, zb_h12, zb_h12, [88, 105, 116, 117, 118, 119], [73786976299133173759])
def zb_t98_0 : sf_T := (5701632, 93536104794622304634503194109064771063916647154176, [], zb_h12, [(1000, 1)], [(0, 0)])
def zb_l98 : List sf_T := [zb_t98_0]
noncomputable def zb_b98 : en_T := (sf_tc 5767168 (sf_call 133 [(2, 6, zb_m97)]) (sf_tc 1114112 (sf_call 133 [(2, 0, zb_m89)]) (fun _ => none)))
theorem zb_e98_0 : sf_okb (sf_fin 133 zb_h12 [73786976299133173759]) zb_b98 87 2 7 133 32 zb_l98 [] zb_t98_0 = true := by decide +kernel
theorem zb_i98 : (zb_m98.1, zb_m98.2.1, ([] : List Nat), zb_m98.2.2.1, [(1000, 1)], [(0, 0)]) ∈ zb_l98 := List.mem_cons_self
theorem zb_k98 (hS : ∀ ρ, en_SA E ρ ω mt_SB) (hX : sf_JX J) (hM : sf_MnB E ω J) : sf_Kok E ω J 2 7 133 zb_m98 := sf_K_of hS (sf_TS_k (q := 5767168) (nx := 133) (l := [(2, 6, zb_m97)]) hX (sf_fc ⟨(rfl : zb_m97.1 = 5767168), (zb_k97 hS hX hM)⟩ sf_fn) (sf_TS_k (q := 1114112) (nx := 133) (l := [(2, 0, zb_m89)]) hX (sf_fc ⟨(rfl : zb_m89.1 = 1114112), (zb_k89 hS hX hM)⟩ sf_fn) sf_TS_n)) (sf_nL (by decide +kernel)) rfl zb_h12_n zb_h12_n (by decide +kernel) (by decide +kernel) (by decide +kernel) zb_i98 (sf_fc (sf_okb_t zb_h12_n zb_e98_0) sf_fn)
def zb_h13 : en_H := (((((((0, 0), 0), 0), ((0, 0), (0, 0))), ((((((0, (0, 0)), 0), 0), ((((0, 0), (0, (0, 0))), (((0, 0), 0), (0, (0, (0, 0))))), 0)), ((0, 0), 0)), (0, ((((0, 0), ((0, 0), ((0, 0), 0))), (((0, (0, 0)), ((0, 0), (0, 0))), (((0, 0), (0, 0)), ((0, 0), (0, 0))))), (((((0, 0), (0, 0)), ((0, 0), (0, 0))), (((0, 0), (0, 0)), ((0, 0), (0, 0)))), ((((0, 0), (0, 0)), ((0, 0), (0, (0, 0)))), ((((0, 0), (0, 0)), ((0, 0), 0)), (0, (0, (0, 0)))))))))), zb_r0), ((((((0, 0), 0), (0, (0, 0))), (0, 0)), 0), ((((((((0, 0), 0), (0, 0)), (0, (0, 0))), 0), (0, (((0, 0), (0, 0)), ((0, 0), (0, 0))))), 0), (((0, zb_r6), zb_r6), (0, ((0, ((0, 0), (0, 0))), (((0, 0), (0, 0)), ((0, 0), ((0, 0), (0, 0))))))))))
theorem zb_h13_n : sf_nlh zb_h13 136 = true := by decide +kernel
/-- X9_keepsRow -/
def zb_m99 : sf_M := (3670016, 16333553616007998046963562849740359991808, zb_h13, zb_h13, [88, 118, 119], [])
def zb_t99_0 : sf_T := (3670016, 16333553616007998046963562849740359991808, [], zb_h13, [], [(0, 0)])
def zb_l99 : List sf_T := [zb_t99_0]
noncomputable def zb_b99 : en_T := (fun _ => none)
theorem zb_e99_0 : sf_okb (sf_fin 133 zb_h13 []) zb_b99 56 2 0 133 1592 zb_l99 [] zb_t99_0 = true := by decide +kernel
theorem zb_i99 : (zb_m99.1, zb_m99.2.1, ([] : List Nat), zb_m99.2.2.1, [], [(0, 0)]) ∈ zb_l99 := List.mem_cons_self
theorem zb_k99 (hS : ∀ ρ, en_SA E ρ ω mt_SB) (hX : sf_JX J) (hM : sf_MnB E ω J) : sf_Kok E ω J 2 0 133 zb_m99 := sf_K_of hS sf_TS_n (sf_nL (by decide +kernel)) rfl zb_h13_n zb_h13_n (by decide +kernel) (by decide +kernel) (by decide +kernel) zb_i99 (sf_fc (sf_okb_t zb_h13_n zb_e99_0) sf_fn)
end SFP
