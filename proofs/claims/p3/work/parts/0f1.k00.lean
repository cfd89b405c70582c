/-! CONTRACTS, by program (wip/p3/emit.py) -/
section SFP
variable {E : mm_E} {ω : Nat → Value} {J : mm_H → Prop}
def sa_h1 : en_H := (((((((0, 0), sa_r0), sa_r1), ((0, sa_r2), (sa_r3, 0))), ((((((sa_r4, (sa_r5, 0)), sa_r6), sa_r7), ((((0, sa_r2), (sa_r3, (0, sa_r4))), (((sa_r5, 0), 0), (0, (0, (0, 0))))), 0)), ((0, 0), 0)), (0, ((((0, 0), ((0, 0), ((0, 0), 0))), (((0, (0, 0)), ((0, 0), (0, 0))), (((0, 0), (0, 0)), ((0, 0), (0, 0))))), (((((0, 0), (0, 0)), ((0, 0), (0, 0))), (((0, 0), (0, 0)), ((0, 0), (0, 0)))), ((((0, 0), (0, 0)), ((0, 0), (0, (0, 0)))), ((((0, 0), (0, 0)), ((0, 0), 0)), (0, (0, (0, 0)))))))))), 0), ((((((0, 0), 0), (0, (0, 0))), (0, 0)), 0), ((((((((0, 0), 0), (0, 0)), (0, (0, 0))), 0), (0, (((0, 0), (0, 0)), ((0, 0), (0, 0))))), 0), (((0, 0), 0), (0, ((0, ((0, 0), (0, 0))), (((0, 0), (0, 0)), ((0, 0), ((0, 0), (0, 0))))))))))
theorem sa_h1_n : sf_nlh sa_h1 136 = true := by decide +kernel
/-- X6_become -/
def sa_m1 : sf_M := (13172736, 10889035755414187433375404342436327064064, sa_h1, sa_h1, [2, 3, 5, 6, 8, 9, 11, 12, 14, 15, 17, 18], [])
def sa_t1_0 : sf_T := (13172736, 10889035755414187433375404342436327064064, [], sa_h1, [(2, 4), (3, 4), (11, 4), (12, 4)], [(0, 0)])
def sa_l1 : List sf_T := [sa_t1_0]
noncomputable def sa_b1 : en_T := (fun _ => none)
theorem sa_e1_0 : sf_okb (sf_fin 133 sa_h1 []) sa_b1 201 2 2 133 79 sa_l1 [] sa_t1_0 = true := by decide +kernel
theorem sa_i1 : (sa_m1.1, sa_m1.2.1, ([] : List Nat), sa_m1.2.2.1, [(2, 4), (3, 4), (11, 4), (12, 4)], [(0, 0)]) ∈ sa_l1 := List.mem_cons_self
theorem sa_k1 (hS : ∀ ρ, en_SA E ρ ω mt_SB) (hX : sf_JX J) (hM : sf_MnA E ω J) : sf_Kok E ω J 2 2 133 sa_m1 := sf_K_of hS sf_TS_n (sf_nL (by decide +kernel)) rfl sa_h1_n sa_h1_n (by decide +kernel) (by decide +kernel) (by decide +kernel) sa_i1 (sf_fc (sf_okb_t sa_h1_n sa_e1_0) sf_fn)
/-- J9_max_7cf53 -/
def sa_m2 : sf_M := (18939904, 93536104794622304634503194109037100947432420672000, sa_h0, sa_h0, [], [83010348340282916863])
def sa_t2_0 : sf_T := (18939904, 93536104794622304634503194109037100947432420672000, [], sa_h0, [(1000, 1)], [(0, 0)])
def sa_l2 : List sf_T := [sa_t2_0]
noncomputable def sa_b2 : en_T := (fun _ => none)
theorem sa_e2_0 : sf_okb (sf_fin 133 sa_h0 [83010348340282916863]) sa_b2 289 2 0 133 16 sa_l2 [] sa_t2_0 = true := by decide +kernel
theorem sa_i2 : (sa_m2.1, sa_m2.2.1, ([] : List Nat), sa_m2.2.2.1, [(1000, 1)], [(0, 0)]) ∈ sa_l2 := List.mem_cons_self
theorem sa_k2 (hS : ∀ ρ, en_SA E ρ ω mt_SB) (hX : sf_JX J) (hM : sf_MnA E ω J) : sf_Kok E ω J 2 0 133 sa_m2 := sf_K_of hS sf_TS_n (sf_nL (by decide +kernel)) rfl sa_h0_n sa_h0_n (by decide +kernel) (by decide +kernel) (by decide +kernel) sa_i2 (sf_fc (sf_okb_t sa_h0_n sa_e2_0) sf_fn)
def sa_h2 : en_H := (((((((0, 0), 0), 0), ((0, 0), (0, 0))), ((((((0, (0, 0)), 0), 0), ((((0, 0), (0, (0, 0))), (((0, 0), 0), (0, (0, (0, 0))))), 0)), ((0, 0), 0)), (0, ((((0, 0), ((0, sa_r5), ((0, 0), 0))), (((0, (0, 0)), ((0, 0), (0, 0))), (((0, 0), (0, 0)), ((0, 0), (0, 0))))), (((((0, 0), (0, 0)), ((0, 0), (0, 0))), (((0, 0), (0, 0)), ((0, 0), (0, 0)))), ((((0, 0), (0, 0)), ((0, 0), (0, (0, 0)))), ((((0, 0), (0, 0)), ((0, 0), 0)), (0, (0, (0, 0)))))))))), 0), ((((((0, 0), 0), (0, (0, 0))), (0, 0)), 0), ((((((((0, 0), 0), (0, 0)), (0, (0, 0))), 0), (0, (((0, 0), (0, 0)), ((0, 0), (0, 0))))), 0), (((0, 0), 0), (0, ((0, ((0, 0), (0, 0))), (((0, 0), (0, 0)), ((0, 0), ((0, 0), (0, 0))))))))))
theorem sa_h2_n : sf_nlh sa_h2 136 = true := by decide +kernel
/-- X8_takeOut -/
def sa_m3 : sf_M := (17367040, 419952139256116016344998612940375727410858238980744613388213463229594481855239650440024194236410758400, sa_h2, sa_h2, [33], [73786976299133173759])
def sa_t3_0 : sf_T := (17367040, 419952139256116016344998612940375727410858238980744613388213463229594481855239650440024194236410758400, [], sa_h2, [(1000, 1), (1000, 2)], [(0, 2)])
def sa_t3_1 : sf_T := (17367062, 419952139264264160249387988489979154998563853846237335687878900056845950881455481708720023709419570432, [], sa_h2, [(1000, 1), (1000, 2), (1000, 3)], [(0, 1)])
def sa_t3_2 : sf_T := (17367065, 2705521055425447901892849051093807442448536294913541337111769533662170359983638892259076781724638235876388766976, [], sa_h2, [(1000, 1), (1000, 2), (1000, 3), (1000, 4)], [(0, 0), (1, 3), (0, 0)])
def sa_l3 : List sf_T := [sa_t3_0, sa_t3_1, sa_t3_2]
noncomputable def sa_b3 : en_T := (fun _ => none)
theorem sa_e3_0 : sf_okb (sf_fin 133 sa_h2 [73786976299133173759]) sa_b3 265 5 0 133 27 sa_l3 [1] sa_t3_0 = true := by decide +kernel
theorem sa_e3_1 : sf_okb (sf_fin 133 sa_h2 [73786976299133173759]) sa_b3 265 5 0 133 10 sa_l3 [2] sa_t3_1 = true := by decide +kernel
theorem sa_e3_2 : sf_okb (sf_fin 133 sa_h2 [73786976299133173759]) sa_b3 265 5 0 133 25 sa_l3 [2] sa_t3_2 = true := by decide +kernel
theorem sa_i3 : (sa_m3.1, sa_m3.2.1, ([] : List Nat), sa_m3.2.2.1, [(1000, 1), (1000, 2)], [(0, 2)]) ∈ sa_l3 := List.mem_cons_self
theorem sa_k3 (hS : ∀ ρ, en_SA E ρ ω mt_SB) (hX : sf_JX J) (hM : sf_MnA E ω J) : sf_Kok E ω J 5 0 133 sa_m3 := sf_K_of hS sf_TS_n (sf_nL (by decide +kernel)) rfl sa_h2_n sa_h2_n (by decide +kernel) (by decide +kernel) (by decide +kernel) sa_i3 (sf_fc (sf_okb_t sa_h2_n sa_e3_0) (sf_fc (sf_okb_t sa_h2_n sa_e3_1) (sf_fc (sf_okb_t sa_h2_n sa_e3_2) sf_fn)))
def sa_h3 : en_H := (((((((0, 0), sa_r0), 0), ((0, 0), (0, 0))), ((((((0, (0, 0)), 0), 0), ((((0, 0), (0, (0, 0))), (((0, 0), 0), (0, (0, (0, 0))))), 0)), ((0, 0), 0)), (0, ((((0, sa_r8), ((sa_r9, sa_r5), ((0, 0), 0))), (((0, (0, 0)), ((0, 0), (0, 0))), (((0, 0), (0, 0)), ((0, 0), (0, 0))))), (((((0, 0), (0, 0)), ((0, 0), (0, 0))), (((0, 0), (0, 0)), ((0, 0), (0, 0)))), ((((0, 0), (0, 0)), ((0, 0), (0, (0, 0)))), ((((0, 0), (0, 0)), ((0, 0), 0)), (0, (0, (0, 0)))))))))), 0), ((((((0, 0), 0), (0, (0, 0))), (0, 0)), 0), ((((((((0, 0), 0), (0, 0)), (0, (0, 0))), 0), (0, (((0, 0), (0, 0)), ((0, 0), (0, 0))))), 0), (((0, 0), 0), (0, ((0, ((0, 0), (0, 0))), (((0, 0), (0, 0)), ((0, 0), ((0, 0), (0, 0))))))))))
theorem sa_h3_n : sf_nlh sa_h3 136 = true := by decide +kernel
/-- X0_dealOne -/
def sa_m4 : sf_M := (7667712, 36582990832533175261966183779440586522739966556411571993242772389594673799839527576339523021469709079585791440971832223081497582801814491760384, sa_h3, sa_h3, [2, 31, 32, 33], [])
def sa_t4_0 : sf_T := (7667712, 36582990832533175261966183779440586522739966556411571993242772389594673799839527576339523021469709079585791440971832223081497582801814491760384, [], sa_h3, [(1000, 1), (2, 4), (31, 6)], [(0, 2)])
def sa_t4_1 : sf_T := (7667714, 36582990832533175261966183779440586522739966556411571993242772389594673830897386132879714955401068028447634187329346043068834955671947603609344, [], sa_h3, [(1000, 1), (1000, 2), (2, 4), (31, 6)], [(0, 1), (1, 1), (0, 0)])
def sa_t4_2 : sf_T := (7667743, 36582990832533175261966183779443292043794972052174177152219887776747685823141234586608982198887204753308977959103626491015786879670282847520512, [], sa_h3, [(1000, 1), (1000, 2), (1000, 3), (1000, 4), (2, 4), (31, 6)], [(0, 0), (1, 3), (0, 4)])
def sa_t4_3 : sf_T := (7667779, 6097165132456023665326521933716278086544820662782905368908800484269518330421645853268533725664119583005577285331914563173819831407841598506752, [], sa_h3, [(1000, 1), (1000, 2), (1000, 3), (1000, 4), (1000, 5), (2, 4), (31, 6)], [(0, 0), (1, 3), (0, 2)])
def sa_t4_4 : sf_T := (7667761, 36582990833331704133645740469759086264195584134331879329984834862242824365259118384402099755549124486660159496813115293797667453658983108183808, [], sa_h3, [(1000, 1), (1000, 2), (1000, 3), (1000, 4), (1000, 5), (2, 4), (31, 6)], [(0, 0), (1, 3), (0, 3)])
def sa_t4_5 : sf_T := (7667793, 209496998917547409953475300355989764181229443098778715649424986271267990563911565110882658708116833278859683915191597732740044892477634071872346834077440, [], sa_h3, [(1000, 1), (1000, 2), (1000, 3), (1000, 4), (1000, 5), (1000, 6), (2, 4), (31, 6)], [(0, 0), (1, 3), (0, 1)])
def sa_t4_6 : sf_T := (7667797, 209496998917547409953475300355824500189031880949040736822416793511310889393170494806061496509298231831050606078735300430130116071265736268866090994501376, [], sa_h3, [(1000, 1), (1000, 2), (1000, 3), (1000, 4), (1000, 5), (1000, 6), (2, 4), (31, 6)], [(0, 0), (1, 3), (0, 0)])
def sa_l4 : List sf_T := [sa_t4_0, sa_t4_1, sa_t4_2, sa_t4_3, sa_t4_4, sa_t4_5, sa_t4_6]
noncomputable def sa_b4 : en_T := (sf_tc 17367040 (sf_call 133 [(5, 0, sa_m3)]) (sf_tc 18939904 (sf_call 133 [(2, 0, sa_m2)]) (fun _ => none)))
theorem sa_e4_0 : sf_okb (sf_fin 133 sa_h3 []) sa_b4 117 7 1 133 10 sa_l4 [1] sa_t4_0 = true := by decide +kernel
theorem sa_e4_1 : sf_okb (sf_fin 133 sa_h3 []) sa_b4 117 7 1 133 25 sa_l4 [1, 2] sa_t4_1 = true := by decide +kernel
theorem sa_e4_2 : sf_okb (sf_fin 133 sa_h3 []) sa_b4 117 7 1 133 18 sa_l4 [4] sa_t4_2 = true := by decide +kernel
theorem sa_e4_3 : sf_okb (sf_fin 133 sa_h3 []) sa_b4 117 7 1 133 16 sa_l4 [5] sa_t4_3 = true := by decide +kernel
theorem sa_e4_4 : sf_okb (sf_fin 133 sa_h3 []) sa_b4 117 7 1 133 18 sa_l4 [3, 6] sa_t4_4 = true := by decide +kernel
theorem sa_e4_5 : sf_okb (sf_fin 133 sa_h3 []) sa_b4 117 7 1 133 12 sa_l4 [6] sa_t4_5 = true := by decide +kernel
theorem sa_e4_6 : sf_okb (sf_fin 133 sa_h3 []) sa_b4 117 7 1 133 19 sa_l4 [2] sa_t4_6 = true := by decide +kernel
theorem sa_i4 : (sa_m4.1, sa_m4.2.1, ([] : List Nat), sa_m4.2.2.1, [(1000, 1), (2, 4), (31, 6)], [(0, 2)]) ∈ sa_l4 := List.mem_cons_self
theorem sa_k4 (hS : ∀ ρ, en_SA E ρ ω mt_SB) (hX : sf_JX J) (hM : sf_MnA E ω J) : sf_Kok E ω J 7 1 133 sa_m4 := sf_K_of hS (sf_TS_k hX (sf_fc ⟨rfl, (sa_k3 hS hX hM)⟩ sf_fn) (sf_TS_k hX (sf_fc ⟨rfl, (sa_k2 hS hX hM)⟩ sf_fn) sf_TS_n)) (sf_nL (by decide +kernel)) rfl sa_h3_n sa_h3_n (by decide +kernel) (by decide +kernel) (by decide +kernel) sa_i4 (sf_fc (sf_okb_t sa_h3_n sa_e4_0) (sf_fc (sf_okb_t sa_h3_n sa_e4_1) (sf_fc (sf_okb_t sa_h3_n sa_e4_2) (sf_fc (sf_okb_t sa_h3_n sa_e4_3) (sf_fc (sf_okb_t sa_h3_n sa_e4_4) (sf_fc (sf_okb_t sa_h3_n sa_e4_5) (sf_fc (sf_okb_t sa_h3_n sa_e4_6) sf_fn)))))))
/-- X0_deal -/
def sa_m5 : sf_M := (7602176, 16333553616007998046963562849495546855936, sa_h3, sa_h3, [2, 31, 32, 33], [])
def sa_t5_0 : sf_T := (7602176, 16333553616007998046963562849495546855936, [], sa_h3, [(2, 4), (31, 6)], [(0, 1)])
def sa_t5_1 : sf_T := (7602218, 105228117890547269502387031745478852301775005811200, [], sa_h3, [(1000, 1), (2, 4), (31, 6)], [(0, 0), (1, 0), (0, 0)])
def sa_l5 : List sf_T := [sa_t5_0, sa_t5_1]
noncomputable def sa_b5 : en_T := (sf_tc 7667712 (sf_call 133 [(7, 1, sa_m4)]) (fun _ => none))
theorem sa_e5_0 : sf_okb (sf_fin 133 sa_h3 []) sa_b5 116 2 2 133 292 sa_l5 [1] sa_t5_0 = true := by decide +kernel
theorem sa_e5_1 : sf_okb (sf_fin 133 sa_h3 []) sa_b5 116 2 2 133 21 sa_l5 [1] sa_t5_1 = true := by decide +kernel
theorem sa_i5 : (sa_m5.1, sa_m5.2.1, ([] : List Nat), sa_m5.2.2.1, [(2, 4), (31, 6)], [(0, 1)]) ∈ sa_l5 := List.mem_cons_self
theorem sa_k5 (hS : ∀ ρ, en_SA E ρ ω mt_SB) (hX : sf_JX J) (hM : sf_MnA E ω J) : sf_Kok E ω J 2 2 133 sa_m5 := sf_K_of hS (sf_TS_k hX (sf_fc ⟨rfl, (sa_k4 hS hX hM)⟩ sf_fn) sf_TS_n) (sf_nL (by decide +kernel)) rfl sa_h3_n sa_h3_n (by decide +kernel) (by decide +kernel) (by decide +kernel) sa_i5 (sf_fc (sf_okb_t sa_h3_n sa_e5_0) (sf_fc (sf_okb_t sa_h3_n sa_e5_1) sf_fn))
def sa_h4 : en_H := (((((((0, 0), 0), 0), ((0, 0), (0, 0))), ((((((0, (0, 0)), 0), 0), ((((0, 0), (0, (0, 0))), (((0, 0), 0), (0, (0, (0, 0))))), 0)), ((0, 0), 0)), (0, ((((0, 0), ((0, 0), ((0, 0), 0))), (((sa_r10, (0, 0)), ((0, 0), (0, 0))), (((0, 0), (0, 0)), ((0, 0), (0, 0))))), (((((0, 0), (0, 0)), ((0, 0), (0, 0))), (((0, 0), (0, 0)), ((0, 0), (0, 0)))), ((((0, 0), (0, 0)), ((0, 0), (0, (0, 0)))), ((((0, 0), (0, 0)), ((0, 0), sa_r11)), (0, (0, (0, 0)))))))))), 0), ((((((0, 0), 0), (0, (0, 0))), (0, 0)), 0), ((((((((0, 0), 0), (0, 0)), (0, (0, 0))), 0), (0, (((0, 0), (0, 0)), ((0, 0), (0, 0))))), 0), (((0, 0), 0), (0, ((0, ((0, 0), (0, 0))), (((0, 0), (0, 0)), ((0, 0), ((0, 0), (0, 0))))))))))
theorem sa_h4_n : sf_nlh sa_h4 136 = true := by decide +kernel
/-- X3_forgetSlots -/
def sa_m6 : sf_M := (10027008, 16333553616007998046963562849521316659712, sa_h4, sa_h4, [37, 83], [])
def sa_t6_0 : sf_T := (10027008, 16333553616007998046963562849521316659712, [], sa_h4, [], [(0, 1)])
def sa_t6_1 : sf_T := (10027010, 105228117890547269049835767464000955967477731295744, [], sa_h4, [(1000, 1)], [(0, 0), (1, 0), (0, 0)])
def sa_l6 : List sf_T := [sa_t6_0, sa_t6_1]
noncomputable def sa_b6 : en_T := (fun _ => none)
theorem sa_e6_0 : sf_okb (sf_fin 133 sa_h4 []) sa_b6 153 2 0 133 10 sa_l6 [1] sa_t6_0 = true := by decide +kernel
theorem sa_e6_1 : sf_okb (sf_fin 133 sa_h4 []) sa_b6 153 2 0 133 19 sa_l6 [1] sa_t6_1 = true := by decide +kernel
theorem sa_i6 : (sa_m6.1, sa_m6.2.1, ([] : List Nat), sa_m6.2.2.1, [], [(0, 1)]) ∈ sa_l6 := List.mem_cons_self
theorem sa_k6 (hS : ∀ ρ, en_SA E ρ ω mt_SB) (hX : sf_JX J) (hM : sf_MnA E ω J) : sf_Kok E ω J 2 0 133 sa_m6 := sf_K_of hS sf_TS_n (sf_nL (by decide +kernel)) rfl sa_h4_n sa_h4_n (by decide +kernel) (by decide +kernel) (by decide +kernel) sa_i6 (sf_fc (sf_okb_t sa_h4_n sa_e6_0) (sf_fc (sf_okb_t sa_h4_n sa_e6_1) sf_fn))
/-- X7_isBlank -/
def sa_m7 : sf_M := (13762560, 316912650075504094443590385920, sa_h0, sa_h0, [], [83010348333840465921])
def sa_t7_0 : sf_T := (13762560, 316912650075504094443590385920, [], sa_h0, [(1000, 0)], [(0, 0)])
def sa_l7 : List sf_T := [sa_t7_0]
noncomputable def sa_b7 : en_T := (fun _ => none)
theorem sa_e7_0 : sf_okb (sf_fin 133 sa_h0 [83010348333840465921]) sa_b7 210 1 0 133 34 sa_l7 [] sa_t7_0 = true := by decide +kernel
theorem sa_i7 : (sa_m7.1, sa_m7.2.1, ([] : List Nat), sa_m7.2.2.1, [(1000, 0)], [(0, 0)]) ∈ sa_l7 := List.mem_cons_self
theorem sa_k7 (hS : ∀ ρ, en_SA E ρ ω mt_SB) (hX : sf_JX J) (hM : sf_MnA E ω J) : sf_Kok E ω J 1 0 133 sa_m7 := sf_K_of hS sf_TS_n (sf_nL (by decide +kernel)) rfl sa_h0_n sa_h0_n (by decide +kernel) (by decide +kernel) (by decide +kernel) sa_i7 (sf_fc (sf_okb_t sa_h0_n sa_e7_0) sf_fn)
/-- X7_isDigit -/
def sa_m8 : sf_M := (13828096, 316912650075504094443590385920, sa_h0, sa_h0, [], [83010348333840465921])
def sa_t8_0 : sf_T := (13828096, 316912650075504094443590385920, [], sa_h0, [(1000, 0)], [(0, 0)])
def sa_l8 : List sf_T := [sa_t8_0]
noncomputable def sa_b8 : en_T := (fun _ => none)
theorem sa_e8_0 : sf_okb (sf_fin 133 sa_h0 [83010348333840465921]) sa_b8 211 1 0 133 21 sa_l8 [] sa_t8_0 = true := by decide +kernel
theorem sa_i8 : (sa_m8.1, sa_m8.2.1, ([] : List Nat), sa_m8.2.2.1, [(1000, 0)], [(0, 0)]) ∈ sa_l8 := List.mem_cons_self
theorem sa_k8 (hS : ∀ ρ, en_SA E ρ ω mt_SB) (hX : sf_JX J) (hM : sf_MnA E ω J) : sf_Kok E ω J 1 0 133 sa_m8 := sf_K_of hS sf_TS_n (sf_nL (by decide +kernel)) rfl sa_h0_n sa_h0_n (by decide +kernel) (by decide +kernel) (by decide +kernel) sa_i8 (sf_fc (sf_okb_t sa_h0_n sa_e8_0) sf_fn)
/-- X7_isLetter -/
def sa_m9 : sf_M := (13893632, 316912650075504094443590385920, sa_h0, sa_h0, [], [83010348333840465921])
def sa_t9_0 : sf_T := (13893632, 316912650075504094443590385920, [], sa_h0, [(1000, 0)], [(0, 0)])
def sa_l9 : List sf_T := [sa_t9_0]
noncomputable def sa_b9 : en_T := (fun _ => none)
theorem sa_e9_0 : sf_okb (sf_fin 133 sa_h0 [83010348333840465921]) sa_b9 212 1 0 133 21 sa_l9 [] sa_t9_0 = true := by decide +kernel
theorem sa_i9 : (sa_m9.1, sa_m9.2.1, ([] : List Nat), sa_m9.2.2.1, [(1000, 0)], [(0, 0)]) ∈ sa_l9 := List.mem_cons_self
theorem sa_k9 (hS : ∀ ρ, en_SA E ρ ω mt_SB) (hX : sf_JX J) (hM : sf_MnA E ω J) : sf_Kok E ω J 1 0 133 sa_m9 := sf_K_of hS sf_TS_n (sf_nL (by decide +kernel)) rfl sa_h0_n sa_h0_n (by decide +kernel) (by decide +kernel) (by decide +kernel) sa_i9 (sf_fc (sf_okb_t sa_h0_n sa_e9_0) sf_fn)
def sa_h5 : en_H := (((((((0, sa_r12), 0), 0), ((0, 0), (0, 0))), ((((((0, (0, 0)), 0), 0), ((((0, 0), (0, (0, 0))), (((0, 0), 0), (sa_r13, (sa_r14, (sa_r14, sa_r15))))), 0)), ((0, 0), 0)), (0, ((((0, 0), ((0, 0), ((0, 0), 0))), (((0, (0, 0)), ((0, 0), (0, 0))), (((0, 0), (0, 0)), ((0, 0), (0, 0))))), (((((0, 0), (0, 0)), ((0, 0), (0, 0))), (((0, 0), (0, 0)), ((0, 0), (0, 0)))), ((((0, 0), (0, 0)), ((0, 0), (0, (0, 0)))), ((((0, 0), (0, 0)), ((0, 0), 0)), (0, (0, (0, 0)))))))))), 0), ((((((0, 0), 0), (0, (0, 0))), (0, 0)), 0), ((((((((0, 0), 0), (0, 0)), (0, (0, 0))), 0), (0, (((0, 0), (0, 0)), ((0, 0), (0, 0))))), 0), (((0, 0), 0), (0, ((0, ((0, 0), (0, 0))), (((0, 0), (0, 0)), ((0, 0), ((0, 0), (0, 0))))))))))
theorem sa_h5_n : sf_nlh sa_h5 136 = true := by decide +kernel
/-- X7_scanDigits -/
def sa_m10 : sf_M := (14155776, 1422853192879425234015608139717524697174391146560864407338173024840331287053992960, sa_h5, sa_h5, [1, 21, 22, 23, 24], [83010348333840465921])
def sa_t10_0 : sf_T := (14155776, 1422853192879425234015608139717524697174391146560864407338173024840331287053992960, [], sa_h5, [(21, 3), (21, 5), (21, 6)], [(0, 1)])
def sa_t10_1 : sf_T := (14155783, 1422853192907032219399556518777354390513662693315711270771181502769194996070351872, [], sa_h5, [(1000, 1), (1000, 2), (21, 3), (21, 5), (21, 6)], [(0, 0), (1, 4), (0, 0)])
def sa_l10 : List sf_T := [sa_t10_0, sa_t10_1]
noncomputable def sa_b10 : en_T := (sf_tc 13828096 (sf_call 133 [(1, 0, sa_m8)]) (fun _ => none))
theorem sa_e10_0 : sf_okb (sf_fin 133 sa_h5 [83010348333840465921]) sa_b10 216 4 1 133 13 sa_l10 [1] sa_t10_0 = true := by decide +kernel
theorem sa_e10_1 : sf_okb (sf_fin 133 sa_h5 [83010348333840465921]) sa_b10 216 4 1 133 231 sa_l10 [1] sa_t10_1 = true := by decide +kernel
theorem sa_i10 : (sa_m10.1, sa_m10.2.1, ([] : List Nat), sa_m10.2.2.1, [(21, 3), (21, 5), (21, 6)], [(0, 1)]) ∈ sa_l10 := List.mem_cons_self
theorem sa_k10 (hS : ∀ ρ, en_SA E ρ ω mt_SB) (hX : sf_JX J) (hM : sf_MnA E ω J) : sf_Kok E ω J 4 1 133 sa_m10 := sf_K_of hS (sf_TS_k hX (sf_fc ⟨rfl, (sa_k8 hS hX hM)⟩ sf_fn) sf_TS_n) (sf_nL (by decide +kernel)) rfl sa_h5_n sa_h5_n (by decide +kernel) (by decide +kernel) (by decide +kernel) sa_i10 (sf_fc (sf_okb_t sa_h5_n sa_e10_0) (sf_fc (sf_okb_t sa_h5_n sa_e10_1) sf_fn))
/-- J0_charAt_5068e -/
def sa_m11 : sf_M := (18022400, 105228117890547269288154080306926530192858629014016, sa_h0, sa_h0, [], [83010348333840531455])
def sa_t11_0 : sf_T := (18022400, 105228117890547269288154080306926530192858629014016, [], sa_h0, [(1000, 1)], [(0, 0)])
def sa_l11 : List sf_T := [sa_t11_0]
noncomputable def sa_b11 : en_T := (sf_tc 18087936 (sf_call 133 [(2, 4, sa_m0)]) (fun _ => none))
theorem sa_e11_0 : sf_okb (sf_fin 133 sa_h0 [83010348333840531455]) sa_b11 275 2 6 133 35 sa_l11 [] sa_t11_0 = true := by decide +kernel
theorem sa_i11 : (sa_m11.1, sa_m11.2.1, ([] : List Nat), sa_m11.2.2.1, [(1000, 1)], [(0, 0)]) ∈ sa_l11 := List.mem_cons_self
theorem sa_k11 (hS : ∀ ρ, en_SA E ρ ω mt_SB) (hX : sf_JX J) (hM : sf_MnA E ω J) : sf_Kok E ω J 2 6 133 sa_m11 := sf_K_of hS (sf_TS_k hX (sf_fc ⟨rfl, (hM _ (List.mem_of_getElem? (i := 0) rfl))⟩ sf_fn) sf_TS_n) (sf_nL (by decide +kernel)) rfl sa_h0_n sa_h0_n (by decide +kernel) (by decide +kernel) (by decide +kernel) sa_i11 (sf_fc (sf_okb_t sa_h0_n sa_e11_0) sf_fn)
def sa_h6 : en_H := (((((((0, sa_r12), 0), 0), ((0, 0), (0, 0))), ((((((0, (0, 0)), 0), 0), ((((0, 0), (0, (0, 0))), (((0, 0), 0), (sa_r13, (0, (0, 0))))), 0)), ((0, 0), 0)), (0, ((((0, 0), ((0, 0), ((0, 0), 0))), (((0, (0, 0)), ((0, 0), (0, 0))), (((0, 0), (0, 0)), ((0, 0), (0, 0))))), (((((0, 0), (0, 0)), ((0, 0), (0, 0))), (((0, 0), (0, 0)), ((0, 0), (0, 0)))), ((((0, 0), (0, 0)), ((0, 0), (0, (0, 0)))), ((((0, 0), (0, 0)), ((0, 0), 0)), (0, (0, (0, 0)))))))))), 0), ((((((0, 0), 0), (0, (0, 0))), (0, 0)), 0), ((((((((0, 0), 0), (0, 0)), (0, (0, 0))), 0), (0, (((0, 0), (0, 0)), ((0, 0), (0, 0))))), 0), (((0, 0), 0), (0, ((0, ((0, 0), (0, 0))), (((0, 0), (0, 0)), ((0, 0), ((0, 0), (0, 0))))))))))
theorem sa_h6_n : sf_nlh sa_h6 136 = true := by decide +kernel
/-- X7_isWord -/
def sa_m12 : sf_M := (13959168, 36582990832533175261966183779440586522739966556411580141386676778970223430874100665902768320322898170957320631592512476460776552535878394709760, sa_h6, sa_h6, [1, 21], [83010348333840465921])
def sa_t12_0 : sf_T := (13959168, 36582990832533175261966183779440586522739966556411580141386676778970223430874100665902768320322898170957320631592512476460776552535878394709760, [], sa_h6, [(1000, 1), (1000, 2), (1000, 3), (21, 5)], [(0, 9)])
def sa_t12_1 : sf_T := (13959174, 36582990832533175261966183779443292043794972052180042797313743166575254816465620102439285258000331703839069330780841045803314667074554613991168, [], sa_h6, [(1000, 1), (1000, 2), (1000, 3), (1000, 4), (21, 5)], [(0, 8)])
def sa_t12_2 : sf_T := (13959217, 209496998917547409952676771484041653503631088906730054456990578772282394605173720149906066425471294804844446341601773556178177220037028930881841189095168, [], sa_h6, [(1000, 1), (1000, 2), (1000, 3), (1000, 4), (1000, 6), (21, 5)], [(0, 0)])
def sa_t12_3 : sf_T := (13959217, 209496998917547409952676771484041653503621469276311012836089143459757945480709589354185737947280877741025050413434904119993749908939644918274222383433472, [], sa_h6, [(1000, 1), (1000, 2), (1000, 3), (1000, 4), (1000, 6), (21, 5)], [(0, 1)])
def sa_t12_4 : sf_T := (13959217, 209496998917547409952676771484041653503611849645891971215187708147233496356245458558465409469090460677205654485268034683809322597842260905666603577771776, [], sa_h6, [(1000, 1), (1000, 2), (1000, 3), (1000, 4), (1000, 6), (21, 5)], [(0, 2)])
def sa_t12_5 : sf_T := (13959217, 209496998917547409952676771484041653503602230015472929594286272834709047231781327762745080990900043613386258557101165247624895286744876893058984772110080, [], sa_h6, [(1000, 1), (1000, 2), (1000, 3), (1000, 4), (1000, 6), (21, 5)], [(0, 3)])
def sa_t12_6 : sf_T := (13959217, 209496998917547409952676771484041653503592610385053887973384837522184598107317196967024752512709626549566862628934295811440467975647492880451365966448384, [], sa_h6, [(1000, 1), (1000, 2), (1000, 3), (1000, 4), (1000, 6), (21, 5)], [(0, 4)])
def sa_t12_7 : sf_T := (13959217, 209496998917547409952676771484041653503582990754634846352483402209660148982853066171304424034519209485747466700767426375256040664550108867843747160786688, [], sa_h6, [(1000, 1), (1000, 2), (1000, 3), (1000, 4), (1000, 6), (21, 5)], [(0, 5)])
def sa_t12_8 : sf_T := (13959217, 209496998917547409952676771484041653503573371124215804731581966897135699858388935375584095556328792421928070772600556939071613353452724855236128355124992, [], sa_h6, [(1000, 1), (1000, 2), (1000, 3), (1000, 4), (1000, 6), (21, 5)], [(0, 6)])
def sa_t12_9 : sf_T := (13959217, 209496998917547409952676771484041653503563751493796763110680531584611250733924804579863767078138375358108674844433687502887186042355340842628509549463296, [], sa_h6, [(1000, 1), (1000, 2), (1000, 3), (1000, 4), (1000, 6), (21, 5)], [(0, 7)])
def sa_l12 : List sf_T := [sa_t12_0, sa_t12_1, sa_t12_2, sa_t12_3, sa_t12_4, sa_t12_5, sa_t12_6, sa_t12_7, sa_t12_8, sa_t12_9]
noncomputable def sa_b12 : en_T := (sf_tc 18022400 (sf_call 133 [(2, 6, sa_m11)]) (fun _ => none))
theorem sa_e12_0 : sf_okb (sf_fin 133 sa_h6 [83010348333840465921]) sa_b12 213 7 7 133 12 sa_l12 [1] sa_t12_0 = true := by decide +kernel
theorem sa_e12_1 : sf_okb (sf_fin 133 sa_h6 [83010348333840465921]) sa_b12 213 7 7 133 1791 sa_l12 [2, 3, 4, 5, 6, 7, 8, 9] sa_t12_1 = true := by decide +kernel
theorem sa_e12_2 : sf_okb (sf_fin 133 sa_h6 [83010348333840465921]) sa_b12 213 7 7 133 43 sa_l12 [] sa_t12_2 = true := by decide +kernel
theorem sa_e12_3 : sf_okb (sf_fin 133 sa_h6 [83010348333840465921]) sa_b12 213 7 7 133 62 sa_l12 [2] sa_t12_3 = true := by decide +kernel
theorem sa_e12_4 : sf_okb (sf_fin 133 sa_h6 [83010348333840465921]) sa_b12 213 7 7 133 62 sa_l12 [3] sa_t12_4 = true := by decide +kernel
theorem sa_e12_5 : sf_okb (sf_fin 133 sa_h6 [83010348333840465921]) sa_b12 213 7 7 133 62 sa_l12 [4] sa_t12_5 = true := by decide +kernel
theorem sa_e12_6 : sf_okb (sf_fin 133 sa_h6 [83010348333840465921]) sa_b12 213 7 7 133 62 sa_l12 [5] sa_t12_6 = true := by decide +kernel
theorem sa_e12_7 : sf_okb (sf_fin 133 sa_h6 [83010348333840465921]) sa_b12 213 7 7 133 62 sa_l12 [6] sa_t12_7 = true := by decide +kernel
theorem sa_e12_8 : sf_okb (sf_fin 133 sa_h6 [83010348333840465921]) sa_b12 213 7 7 133 62 sa_l12 [7] sa_t12_8 = true := by decide +kernel
theorem sa_e12_9 : sf_okb (sf_fin 133 sa_h6 [83010348333840465921]) sa_b12 213 7 7 133 62 sa_l12 [8] sa_t12_9 = true := by decide +kernel
theorem sa_i12 : (sa_m12.1, sa_m12.2.1, ([] : List Nat), sa_m12.2.2.1, [(1000, 1), (1000, 2), (1000, 3), (21, 5)], [(0, 9)]) ∈ sa_l12 := List.mem_cons_self
theorem sa_k12 (hS : ∀ ρ, en_SA E ρ ω mt_SB) (hX : sf_JX J) (hM : sf_MnA E ω J) : sf_Kok E ω J 7 7 133 sa_m12 := sf_K_of hS (sf_TS_k hX (sf_fc ⟨rfl, (sa_k11 hS hX hM)⟩ sf_fn) sf_TS_n) (sf_nL (by decide +kernel)) rfl sa_h6_n sa_h6_n (by decide +kernel) (by decide +kernel) (by decide +kernel) sa_i12 (sf_fc (sf_okb_t sa_h6_n sa_e12_0) (sf_fc (sf_okb_t sa_h6_n sa_e12_1) (sf_fc (sf_okb_t sa_h6_n sa_e12_2) (sf_fc (sf_okb_t sa_h6_n sa_e12_3) (sf_fc (sf_okb_t sa_h6_n sa_e12_4) (sf_fc (sf_okb_t sa_h6_n sa_e12_5) (sf_fc (sf_okb_t sa_h6_n sa_e12_6) (sf_fc (sf_okb_t sa_h6_n sa_e12_7) (sf_fc (sf_okb_t sa_h6_n sa_e12_8) (sf_fc (sf_okb_t sa_h6_n sa_e12_9) sf_fn))))))))))
/-- X7_wordAt -/
def sa_m13 : sf_M := (14352384, 1422853192907032219399556518777354390513662693315711270771181502769194996070351872, sa_h6, sa_h6, [1, 21], [83010348329545498647])
def sa_t13_0 : sf_T := (14352384, 1422853192907032219399556518777354390513662693315711270771181502769194996070351872, [], sa_h6, [(1000, 1), (1000, 2)], [(0, 1)])
def sa_t13_1 : sf_T := (14352386, 9166661893742329589643906748626020789598075955317971730225756531751101573997787865579258880, [], sa_h6, [(1000, 1), (1000, 2), (1000, 3)], [(0, 0), (1, 2), (0, 0)])
def sa_l13 : List sf_T := [sa_t13_0, sa_t13_1]
noncomputable def sa_b13 : en_T := (sf_tc 13959168 (sf_call 133 [(7, 7, sa_m12)]) (fun _ => none))
theorem sa_e13_0 : sf_okb (sf_fin 133 sa_h6 [83010348329545498647]) sa_b13 219 4 8 133 10 sa_l13 [1] sa_t13_0 = true := by decide +kernel
theorem sa_e13_1 : sf_okb (sf_fin 133 sa_h6 [83010348329545498647]) sa_b13 219 4 8 133 23 sa_l13 [1] sa_t13_1 = true := by decide +kernel
theorem sa_i13 : (sa_m13.1, sa_m13.2.1, ([] : List Nat), sa_m13.2.2.1, [(1000, 1), (1000, 2)], [(0, 1)]) ∈ sa_l13 := List.mem_cons_self
theorem sa_k13 (hS : ∀ ρ, en_SA E ρ ω mt_SB) (hX : sf_JX J) (hM : sf_MnA E ω J) : sf_Kok E ω J 4 8 133 sa_m13 := sf_K_of hS (sf_TS_k hX (sf_fc ⟨rfl, (sa_k12 hS hX hM)⟩ sf_fn) sf_TS_n) (sf_nL (by decide +kernel)) rfl sa_h6_n sa_h6_n (by decide +kernel) (by decide +kernel) (by decide +kernel) sa_i13 (sf_fc (sf_okb_t sa_h6_n sa_e13_0) (sf_fc (sf_okb_t sa_h6_n sa_e13_1) sf_fn))
/-- X7_scanLetters -/
def sa_m14 : sf_M := (14221312, 419952139256116016344998612940348120425474290601684795386887287607806581822628652672395023172283401472, sa_h5, sa_h5, [1, 21, 22, 23, 24], [83010348333840465921])
def sa_t14_0 : sf_T := (14221312, 419952139256116016344998612940348120425474290601684795386887287607806581822628652672395023172283401472, [], sa_h5, [(21, 3), (21, 5), (21, 6)], [(0, 2)])
def sa_t14_1 : sf_T := (14221319, 419952139256116016344998612940348120425474290601684526470586005110377487005329550115449898126268171520, [], sa_h5, [(1000, 1), (21, 3), (21, 5), (21, 6)], [(0, 1), (1, 3), (0, 0)])
def sa_t14_2 : sf_T := (14221413, 2705521055285463856085254505213909917208689851219749840672874025889417786410141885848252605376904238344580367616, [], sa_h5, [(1000, 1), (1000, 4), (21, 3), (21, 5), (21, 6)], [(0, 0)])
def sa_l14 : List sf_T := [sa_t14_0, sa_t14_1, sa_t14_2]
noncomputable def sa_b14 : en_T := (sf_tc 14352384 (sf_call 133 [(4, 8, sa_m13)]) (sf_tc 13893632 (sf_call 133 [(1, 0, sa_m9)]) (fun _ => none)))
theorem sa_e14_0 : sf_okb (sf_fin 133 sa_h5 [83010348333840465921]) sa_b14 217 5 9 133 13 sa_l14 [1] sa_t14_0 = true := by decide +kernel
theorem sa_e14_1 : sf_okb (sf_fin 133 sa_h5 [83010348333840465921]) sa_b14 217 5 9 133 148 sa_l14 [1, 2] sa_t14_1 = true := by decide +kernel
theorem sa_e14_2 : sf_okb (sf_fin 133 sa_h5 [83010348333840465921]) sa_b14 217 5 9 133 92 sa_l14 [] sa_t14_2 = true := by decide +kernel
theorem sa_i14 : (sa_m14.1, sa_m14.2.1, ([] : List Nat), sa_m14.2.2.1, [(21, 3), (21, 5), (21, 6)], [(0, 2)]) ∈ sa_l14 := List.mem_cons_self
theorem sa_k14 (hS : ∀ ρ, en_SA E ρ ω mt_SB) (hX : sf_JX J) (hM : sf_MnA E ω J) : sf_Kok E ω J 5 9 133 sa_m14 := sf_K_of hS (sf_TS_k hX (sf_fc ⟨rfl, (sa_k13 hS hX hM)⟩ sf_fn) (sf_TS_k hX (sf_fc ⟨rfl, (sa_k9 hS hX hM)⟩ sf_fn) sf_TS_n)) (sf_nL (by decide +kernel)) rfl sa_h5_n sa_h5_n (by decide +kernel) (by decide +kernel) (by decide +kernel) sa_i14 (sf_fc (sf_okb_t sa_h5_n sa_e14_0) (sf_fc (sf_okb_t sa_h5_n sa_e14_1) (sf_fc (sf_okb_t sa_h5_n sa_e14_2) sf_fn)))
/-- J1_indexOfChar_4cfef -/
def sa_m15 : sf_M := (18612224, 123947994177030503561028935099715790219410569537530575410547111244957733637869218063632352428097804456608161611924268647936, sa_h0, sa_h0, [], [83010348329545498632])
def sa_t15_0 : sf_T := (18612224, 123947994177030503561028935099715790219410569537530575410547111244957733637869218063632352428097804456608161611924268647936, [], sa_h0, [(1000, 1), (1000, 2), (1000, 3)], [(0, 2)])
def sa_t15_1 : sf_T := (18612228, 123947994179736024598116472928898235651600367587337584309264030920718535861079504277090556557173890490715093128388372596224, [], sa_h0, [(1000, 1), (1000, 2), (1000, 3), (1000, 4)], [(0, 1)])
def sa_t15_2 : sf_T := (18612231, 798528871927452678672560748559337538047083513533342056308051537335019462449615193332294054451113558024580912574467270581935864284672, [], sa_h0, [(1000, 1), (1000, 2), (1000, 3), (1000, 4), (1000, 5)], [(0, 0), (1, 4), (0, 0)])
def sa_l15 : List sf_T := [sa_t15_0, sa_t15_1, sa_t15_2]
noncomputable def sa_b15 : en_T := (fun _ => none)
theorem sa_e15_0 : sf_okb (sf_fin 133 sa_h0 [83010348329545498632]) sa_b15 284 6 0 133 11 sa_l15 [1] sa_t15_0 = true := by decide +kernel
theorem sa_e15_1 : sf_okb (sf_fin 133 sa_h0 [83010348329545498632]) sa_b15 284 6 0 133 10 sa_l15 [2] sa_t15_1 = true := by decide +kernel
theorem sa_e15_2 : sf_okb (sf_fin 133 sa_h0 [83010348329545498632]) sa_b15 284 6 0 133 22 sa_l15 [2] sa_t15_2 = true := by decide +kernel
theorem sa_i15 : (sa_m15.1, sa_m15.2.1, ([] : List Nat), sa_m15.2.2.1, [(1000, 1), (1000, 2), (1000, 3)], [(0, 2)]) ∈ sa_l15 := List.mem_cons_self
theorem sa_k15 (hS : ∀ ρ, en_SA E ρ ω mt_SB) (hX : sf_JX J) (hM : sf_MnA E ω J) : sf_Kok E ω J 6 0 133 sa_m15 := sf_K_of hS sf_TS_n (sf_nL (by decide +kernel)) rfl sa_h0_n sa_h0_n (by decide +kernel) (by decide +kernel) (by decide +kernel) sa_i15 (sf_fc (sf_okb_t sa_h0_n sa_e15_0) (sf_fc (sf_okb_t sa_h0_n sa_e15_1) (sf_fc (sf_okb_t sa_h0_n sa_e15_2) sf_fn)))
/-- J1_indexOf_4cfef -/
def sa_m16 : sf_M := (18677760, 9166661893742329587990938498568877293489052183343324339821199953964775885216842490742572032, sa_h0, sa_h0, [], [83010348329545498632])
def sa_t16_0 : sf_T := (18677760, 9166661893742329587990938498568877293489052183343324339821199953964775885216842490742572032, [], sa_h0, [(1000, 1), (1000, 2), (1000, 3)], [(0, 0)])
def sa_l16 : List sf_T := [sa_t16_0]
noncomputable def sa_b16 : en_T := (sf_tc 18612224 (sf_call 133 [(6, 0, sa_m15)]) (fun _ => none))
theorem sa_e16_0 : sf_okb (sf_fin 133 sa_h0 [83010348329545498632]) sa_b16 285 4 1 133 61 sa_l16 [] sa_t16_0 = true := by decide +kernel
theorem sa_i16 : (sa_m16.1, sa_m16.2.1, ([] : List Nat), sa_m16.2.2.1, [(1000, 1), (1000, 2), (1000, 3)], [(0, 0)]) ∈ sa_l16 := List.mem_cons_self
theorem sa_k16 (hS : ∀ ρ, en_SA E ρ ω mt_SB) (hX : sf_JX J) (hM : sf_MnA E ω J) : sf_Kok E ω J 4 1 133 sa_m16 := sf_K_of hS (sf_TS_k hX (sf_fc ⟨rfl, (sa_k15 hS hX hM)⟩ sf_fn) sf_TS_n) (sf_nL (by decide +kernel)) rfl sa_h0_n sa_h0_n (by decide +kernel) (by decide +kernel) (by decide +kernel) sa_i16 (sf_fc (sf_okb_t sa_h0_n sa_e16_0) sf_fn)
/-- X7_scan -/
def sa_m17 : sf_M := (14090240, 4820814133899404084112353271819925757139677903293587296092928, sa_h5, sa_h5, [1, 21, 22, 23, 24], [83010348333840465921])
def sa_t17_0 : sf_T := (14090240, 4820814133899404084112353271819925757139677903293587296092928, [], sa_h5, [(21, 3), (21, 5), (21, 6)], [(0, 0), (1, 2), (0, 0)])
def sa_l17 : List sf_T := [sa_t17_0]
noncomputable def sa_b17 : en_T := (sf_tc 18677760 (sf_call 133 [(4, 1, sa_m16)]) (sf_tc 14221312 (sf_call 133 [(5, 9, sa_m14)]) (sf_tc 14155776 (sf_call 133 [(4, 1, sa_m10)]) (sf_tc 13893632 (sf_call 133 [(1, 0, sa_m9)]) (sf_tc 13828096 (sf_call 133 [(1, 0, sa_m8)]) (sf_tc 13762560 (sf_call 133 [(1, 0, sa_m7)]) (fun _ => none)))))))
theorem sa_e17_0 : sf_okb (sf_fin 133 sa_h5 [83010348333840465921]) sa_b17 215 3 10 133 563 sa_l17 [0] sa_t17_0 = true := by decide +kernel
theorem sa_i17 : (sa_m17.1, sa_m17.2.1, ([] : List Nat), sa_m17.2.2.1, [(21, 3), (21, 5), (21, 6)], [(0, 0), (1, 2), (0, 0)]) ∈ sa_l17 := List.mem_cons_self
theorem sa_k17 (hS : ∀ ρ, en_SA E ρ ω mt_SB) (hX : sf_JX J) (hM : sf_MnA E ω J) : sf_Kok E ω J 3 10 133 sa_m17 := sf_K_of hS (sf_TS_k hX (sf_fc ⟨rfl, (sa_k16 hS hX hM)⟩ sf_fn) (sf_TS_k hX (sf_fc ⟨rfl, (sa_k14 hS hX hM)⟩ sf_fn) (sf_TS_k hX (sf_fc ⟨rfl, (sa_k10 hS hX hM)⟩ sf_fn) (sf_TS_k hX (sf_fc ⟨rfl, (sa_k9 hS hX hM)⟩ sf_fn) (sf_TS_k hX (sf_fc ⟨rfl, (sa_k8 hS hX hM)⟩ sf_fn) (sf_TS_k hX (sf_fc ⟨rfl, (sa_k7 hS hX hM)⟩ sf_fn) sf_TS_n)))))) (sf_nL (by decide +kernel)) rfl sa_h5_n sa_h5_n (by decide +kernel) (by decide +kernel) (by decide +kernel) sa_i17 (sf_fc (sf_okb_t sa_h5_n sa_e17_0) sf_fn)
/-- X7_split -/
def sa_m18 : sf_M := (14286848, 1422853192879425234015608139717629925292265360278829733356245836348238159769764864, sa_h5, sa_h5, [1, 21, 22, 23, 24], [])
def sa_t18_0 : sf_T := (14286848, 1422853192879425234015608139717629925292265360278829733356245836348238159769764864, [], sa_h5, [(1000, 1)], [(0, 1)])
def sa_t18_1 : sf_T := (14286875, 9166661893742329631278691585639293368276859488204670213385021111702048103424887686692865024, [], sa_h5, [(1000, 1), (1000, 2), (1000, 3)], [(0, 0), (1, 2), (0, 1)])
def sa_t18_2 : sf_T := (14286891, 9166661893742329631168263644090644347677903394408237806145803368147321918542287299112076288, [], sa_h5, [(1000, 1), (1000, 2), (1000, 3)], [(0, 0), (1, 2), (0, 0)])
def sa_l18 : List sf_T := [sa_t18_0, sa_t18_1, sa_t18_2]
noncomputable def sa_b18 : en_T := (sf_tc 14090240 (sf_call 133 [(3, 10, sa_m17)]) (fun _ => none))
theorem sa_e18_0 : sf_okb (sf_fin 133 sa_h5 []) sa_b18 218 4 11 133 31 sa_l18 [1] sa_t18_0 = true := by decide +kernel
theorem sa_e18_1 : sf_okb (sf_fin 133 sa_h5 []) sa_b18 218 4 11 133 18 sa_l18 [2] sa_t18_1 = true := by decide +kernel
theorem sa_e18_2 : sf_okb (sf_fin 133 sa_h5 []) sa_b18 218 4 11 133 10 sa_l18 [1] sa_t18_2 = true := by decide +kernel
theorem sa_i18 : (sa_m18.1, sa_m18.2.1, ([] : List Nat), sa_m18.2.2.1, [(1000, 1)], [(0, 1)]) ∈ sa_l18 := List.mem_cons_self
theorem sa_k18 (hS : ∀ ρ, en_SA E ρ ω mt_SB) (hX : sf_JX J) (hM : sf_MnA E ω J) : sf_Kok E ω J 4 11 133 sa_m18 := sf_K_of hS (sf_TS_k hX (sf_fc ⟨rfl, (sa_k17 hS hX hM)⟩ sf_fn) sf_TS_n) (sf_nL (by decide +kernel)) rfl sa_h5_n sa_h5_n (by decide +kernel) (by decide +kernel) (by decide +kernel) sa_i18 (sf_fc (sf_okb_t sa_h5_n sa_e18_0) (sf_fc (sf_okb_t sa_h5_n sa_e18_1) (sf_fc (sf_okb_t sa_h5_n sa_e18_2) sf_fn)))
def sa_h7 : en_H := (((((((0, 0), 0), 0), ((0, 0), (0, 0))), ((((((0, (0, 0)), sa_r6), 0), ((((0, 0), (0, (0, 0))), (((0, sa_r16), 0), (0, (0, (0, 0))))), 0)), ((0, 0), 0)), (0, ((((0, 0), ((0, 0), ((0, 0), 0))), (((0, (0, 0)), ((0, 0), (0, 0))), (((0, 0), (0, 0)), ((0, 0), (0, 0))))), (((((0, 0), (0, 0)), ((0, 0), (0, 0))), (((0, 0), (0, 0)), ((0, 0), (0, 0)))), ((((0, 0), (0, 0)), ((0, 0), (0, (0, 0)))), ((((0, 0), (0, 0)), ((0, 0), 0)), (0, (0, (0, 0)))))))))), 0), ((((((0, 0), 0), (0, (0, 0))), (0, 0)), 0), ((((((((0, 0), 0), (0, 0)), (0, (0, 0))), 0), (0, (((0, 0), (0, 0)), ((0, 0), (0, 0))))), 0), (((0, 0), 0), (0, ((0, ((0, 0), (0, 0))), (((0, 0), (0, 0)), ((0, 0), ((0, 0), (0, 0))))))))))
theorem sa_h7_n : sf_nlh sa_h7 136 = true := by decide +kernel
/-- X6_knows -/
def sa_m19 : sf_M := (13434880, 1422853192879425234015608139717524697174391146560863139687572796610929747401114624, sa_h7, sa_h7, [11, 19], [83010348333840465921])
def sa_t19_0 : sf_T := (13434880, 1422853192879425234015608139717524697174391146560863139687572796610929747401114624, [], sa_h7, [(11, 4)], [(0, 1)])
def sa_t19_1 : sf_T := (13434882, 9166661893742329587628596815366390039757036573642916853164989016682421539952715640455824384, [], sa_h7, [(1000, 3), (11, 4)], [(0, 0), (1, 0), (0, 0)])
def sa_l19 : List sf_T := [sa_t19_0, sa_t19_1]
noncomputable def sa_b19 : en_T := (fun _ => none)
theorem sa_e19_0 : sf_okb (sf_fin 133 sa_h7 [83010348333840465921]) sa_b19 205 4 0 133 10 sa_l19 [1] sa_t19_0 = true := by decide +kernel
theorem sa_e19_1 : sf_okb (sf_fin 133 sa_h7 [83010348333840465921]) sa_b19 205 4 0 133 28 sa_l19 [1] sa_t19_1 = true := by decide +kernel
theorem sa_i19 : (sa_m19.1, sa_m19.2.1, ([] : List Nat), sa_m19.2.2.1, [(11, 4)], [(0, 1)]) ∈ sa_l19 := List.mem_cons_self
theorem sa_k19 (hS : ∀ ρ, en_SA E ρ ω mt_SB) (hX : sf_JX J) (hM : sf_MnA E ω J) : sf_Kok E ω J 4 0 133 sa_m19 := sf_K_of hS sf_TS_n (sf_nL (by decide +kernel)) rfl sa_h7_n sa_h7_n (by decide +kernel) (by decide +kernel) (by decide +kernel) sa_i19 (sf_fc (sf_okb_t sa_h7_n sa_e19_0) (sf_fc (sf_okb_t sa_h7_n sa_e19_1) sf_fn))
def sa_h8 : en_H := (((((((0, 0), 0), 0), ((0, 0), (0, 0))), ((((((0, (0, 0)), 0), 0), ((((0, 0), (0, (0, 0))), (((0, 0), sa_r17), (sa_r13, (sa_r14, (sa_r14, sa_r15))))), 0)), ((0, 0), 0)), (0, ((((0, 0), ((0, 0), ((0, 0), 0))), (((0, (0, 0)), ((0, 0), (0, 0))), (((0, 0), (0, 0)), ((0, 0), (0, 0))))), (((((0, 0), (0, 0)), ((0, 0), (0, 0))), (((0, 0), (0, 0)), ((0, 0), (0, 0)))), ((((0, 0), (0, 0)), ((0, 0), (0, (0, 0)))), ((((0, 0), (0, 0)), ((0, 0), 0)), (0, (0, (0, 0)))))))))), 0), ((((((0, 0), 0), (0, (0, 0))), (0, 0)), 0), ((((((((0, 0), 0), (0, 0)), (0, (0, 0))), 0), (0, (((0, 0), (0, 0)), ((0, 0), (0, 0))))), 0), (((0, 0), 0), (0, ((0, ((0, 0), (0, 0))), (((0, 0), (0, 0)), ((0, 0), ((0, 0), (0, 0))))))))))
theorem sa_h8_n : sf_nlh sa_h8 136 = true := by decide +kernel
/-- X4_accept -/
def sa_m20 : sf_M := (10551296, 36893488233318449408, sa_h8, sa_h8, [20, 21, 22, 23, 24], [])
def sa_t20_0 : sf_T := (10551296, 36893488233318449408, [], sa_h8, [(20, 2), (21, 3)], [(0, 0)])
def sa_l20 : List sf_T := [sa_t20_0]
noncomputable def sa_b20 : en_T := (fun _ => none)
theorem sa_e20_0 : sf_okb (sf_fin 133 sa_h8 []) sa_b20 161 1 0 133 64 sa_l20 [] sa_t20_0 = true := by decide +kernel
theorem sa_i20 : (sa_m20.1, sa_m20.2.1, ([] : List Nat), sa_m20.2.2.1, [(20, 2), (21, 3)], [(0, 0)]) ∈ sa_l20 := List.mem_cons_self
theorem sa_k20 (hS : ∀ ρ, en_SA E ρ ω mt_SB) (hX : sf_JX J) (hM : sf_MnA E ω J) : sf_Kok E ω J 1 0 133 sa_m20 := sf_K_of hS sf_TS_n (sf_nL (by decide +kernel)) rfl sa_h8_n sa_h8_n (by decide +kernel) (by decide +kernel) (by decide +kernel) sa_i20 (sf_fc (sf_okb_t sa_h8_n sa_e20_0) sf_fn)
/-- X4_number -/
def sa_m21 : sf_M := (10878976, 1422853192907032219399556518777342698500566768348764439949170792469502295346775040, sa_h8, sa_h8, [20, 21, 22, 23, 24], [73786976299133173759])
def sa_t21_0 : sf_T := (10878976, 1422853192907032219399556518777342698500566768348764439949170792469502295346775040, [], sa_h8, [(1000, 1), (1000, 2)], [(0, 1)])
def sa_t21_1 : sf_T := (10878997, 8148143905812228742507008933932579571396220556844594427555527762536554723799623211746853888, [], sa_h8, [(1000, 1), (1000, 2), (1000, 3)], [(0, 0)])
def sa_l21 : List sf_T := [sa_t21_0, sa_t21_1]
noncomputable def sa_b21 : en_T := (sf_tc 10551296 (sf_call 133 [(1, 0, sa_m20)]) (fun _ => none))
theorem sa_e21_0 : sf_okb (sf_fin 133 sa_h8 [73786976299133173759]) sa_b21 166 4 1 133 41 sa_l21 [1] sa_t21_0 = true := by decide +kernel
theorem sa_e21_1 : sf_okb (sf_fin 133 sa_h8 [73786976299133173759]) sa_b21 166 4 1 133 64 sa_l21 [] sa_t21_1 = true := by decide +kernel
theorem sa_i21 : (sa_m21.1, sa_m21.2.1, ([] : List Nat), sa_m21.2.2.1, [(1000, 1), (1000, 2)], [(0, 1)]) ∈ sa_l21 := List.mem_cons_self
theorem sa_k21 (hS : ∀ ρ, en_SA E ρ ω mt_SB) (hX : sf_JX J) (hM : sf_MnA E ω J) : sf_Kok E ω J 4 1 133 sa_m21 := sf_K_of hS (sf_TS_k hX (sf_fc ⟨rfl, (sa_k20 hS hX hM)⟩ sf_fn) sf_TS_n) (sf_nL (by decide +kernel)) rfl sa_h8_n sa_h8_n (by decide +kernel) (by decide +kernel) (by decide +kernel) sa_i21 (sf_fc (sf_okb_t sa_h8_n sa_e21_0) (sf_fc (sf_okb_t sa_h8_n sa_e21_1) sf_fn))
/-- X6_addMan -/
def sa_m22 : sf_M := (13107200, 4820814133899404084112353271818658106539449673892047643214592, sa_h7, sa_h7, [11, 19], [])
def sa_t22_0 : sf_T := (13107200, 4820814133899404084112353271818658106539449673892047643214592, [], sa_h7, [(11, 4)], [(0, 0)])
def sa_l22 : List sf_T := [sa_t22_0]
noncomputable def sa_b22 : en_T := (fun _ => none)
theorem sa_e22_0 : sf_okb (sf_fin 133 sa_h7 []) sa_b22 200 3 0 133 26 sa_l22 [] sa_t22_0 = true := by decide +kernel
theorem sa_i22 : (sa_m22.1, sa_m22.2.1, ([] : List Nat), sa_m22.2.2.1, [(11, 4)], [(0, 0)]) ∈ sa_l22 := List.mem_cons_self
theorem sa_k22 (hS : ∀ ρ, en_SA E ρ ω mt_SB) (hX : sf_JX J) (hM : sf_MnA E ω J) : sf_Kok E ω J 3 0 133 sa_m22 := sf_K_of hS sf_TS_n (sf_nL (by decide +kernel)) rfl sa_h7_n sa_h7_n (by decide +kernel) (by decide +kernel) (by decide +kernel) sa_i22 (sf_fc (sf_okb_t sa_h7_n sa_e22_0) sf_fn)
def sa_h9 : en_H := (((((((0, 0), 0), 0), ((0, 0), (0, 0))), ((((((0, (0, 0)), sa_r6), 0), ((((0, 0), (0, (0, sa_r4))), (((sa_r5, 0), 0), (0, (0, (0, 0))))), 0)), ((0, 0), 0)), (0, ((((0, 0), ((0, 0), ((0, 0), 0))), (((0, (0, 0)), ((0, 0), (0, 0))), (((0, 0), (0, 0)), ((0, 0), (0, 0))))), (((((0, 0), (0, 0)), ((0, 0), (0, 0))), (((0, 0), (0, 0)), ((0, 0), (0, 0)))), ((((0, 0), (0, 0)), ((0, 0), (0, (0, 0)))), ((((0, 0), (0, 0)), ((0, 0), 0)), (0, (0, (0, 0)))))))))), 0), ((((((0, 0), 0), (0, (0, 0))), (0, 0)), 0), ((((((((0, 0), 0), (0, 0)), (0, (0, 0))), 0), (0, (((0, 0), (0, 0)), ((0, 0), (0, 0))))), 0), (((0, 0), 0), (0, ((0, ((0, 0), (0, 0))), (((0, 0), (0, 0)), ((0, 0), ((0, 0), (0, 0))))))))))
theorem sa_h9_n : sf_nlh sa_h9 136 = true := by decide +kernel
/-- X6_setLastMan -/
def sa_m23 : sf_M := (13565952, 1422853192907032219399556518777342698500566768348764439949170792469502256692069376, sa_h9, sa_h9, [11, 17, 18], [])
def sa_t23_0 : sf_T := (13565952, 1422853192907032219399556518777342698500566768348764439949170792469502256692069376, [], sa_h9, [(1000, 1), (1000, 2), (11, 4)], [(0, 0)])
def sa_l23 : List sf_T := [sa_t23_0]
noncomputable def sa_b23 : en_T := (fun _ => none)
theorem sa_e23_0 : sf_okb (sf_fin 133 sa_h9 []) sa_b23 207 4 0 133 43 sa_l23 [] sa_t23_0 = true := by decide +kernel
theorem sa_i23 : (sa_m23.1, sa_m23.2.1, ([] : List Nat), sa_m23.2.2.1, [(1000, 1), (1000, 2), (11, 4)], [(0, 0)]) ∈ sa_l23 := List.mem_cons_self
theorem sa_k23 (hS : ∀ ρ, en_SA E ρ ω mt_SB) (hX : sf_JX J) (hM : sf_MnA E ω J) : sf_Kok E ω J 4 0 133 sa_m23 := sf_K_of hS sf_TS_n (sf_nL (by decide +kernel)) rfl sa_h9_n sa_h9_n (by decide +kernel) (by decide +kernel) (by decide +kernel) sa_i23 (sf_fc (sf_okb_t sa_h9_n sa_e23_0) sf_fn)
/-- X4_sign -/
def sa_m24 : sf_M := (11599872, 93536104794622304634503194109064771063624589378048, sa_h8, sa_h8, [20, 21, 22, 23, 24], [])
def sa_t24_0 : sf_T := (11599872, 93536104794622304634503194109064771063624589378048, [], sa_h8, [(1000, 1)], [(0, 0)])
def sa_l24 : List sf_T := [sa_t24_0]
noncomputable def sa_b24 : en_T := (sf_tc 10551296 (sf_call 133 [(1, 0, sa_m20)]) (fun _ => none))
theorem sa_e24_0 : sf_okb (sf_fin 133 sa_h8 []) sa_b24 177 2 1 133 81 sa_l24 [] sa_t24_0 = true := by decide +kernel
theorem sa_i24 : (sa_m24.1, sa_m24.2.1, ([] : List Nat), sa_m24.2.2.1, [(1000, 1)], [(0, 0)]) ∈ sa_l24 := List.mem_cons_self
theorem sa_k24 (hS : ∀ ρ, en_SA E ρ ω mt_SB) (hX : sf_JX J) (hM : sf_MnA E ω J) : sf_Kok E ω J 2 1 133 sa_m24 := sf_K_of hS (sf_TS_k hX (sf_fc ⟨rfl, (sa_k20 hS hX hM)⟩ sf_fn) sf_TS_n) (sf_nL (by decide +kernel)) rfl sa_h8_n sa_h8_n (by decide +kernel) (by decide +kernel) (by decide +kernel) sa_i24 (sf_fc (sf_okb_t sa_h8_n sa_e24_0) sf_fn)
def sa_h10 : en_H := (((((((0, 0), 0), 0), ((0, 0), (0, 0))), ((((((0, (0, 0)), sa_r6), 0), ((((0, 0), (0, (0, sa_r4))), (((sa_r5, sa_r16), sa_r17), (sa_r13, (sa_r14, (sa_r14, sa_r15))))), 0)), ((0, 0), 0)), (0, ((((0, 0), ((0, 0), ((0, 0), 0))), (((0, (0, 0)), ((0, 0), (0, 0))), (((0, 0), (0, 0)), ((0, 0), (0, 0))))), (((((0, 0), (0, 0)), ((0, 0), (0, 0))), (((0, 0), (0, 0)), ((0, 0), (0, 0)))), ((((0, 0), (0, 0)), ((0, 0), (0, (0, 0)))), ((((0, 0), (0, 0)), ((0, 0), 0)), (0, (0, (0, 0)))))))))), 0), ((((((0, 0), 0), (0, (0, 0))), (0, 0)), 0), ((((((((0, 0), 0), (0, 0)), (0, (0, 0))), 0), (0, (((0, 0), (0, 0)), ((0, 0), (0, 0))))), 0), (((0, 0), 0), (0, ((0, ((0, 0), (0, 0))), (((0, 0), (0, 0)), ((0, 0), ((0, 0), (0, 0))))))))))
theorem sa_h10_n : sf_nlh sa_h10 136 = true := by decide +kernel
/-- X4_readMan -/
def sa_m25 : sf_M := (11141120, 16333553616007998046963562849448302215680, sa_h10, sa_h10, [11, 17, 18, 19, 20, 21, 22, 23, 24], [])
def sa_t25_0 : sf_T := (11141120, 16333553616007998046963562849448302215680, [], sa_h10, [(11, 4)], [(0, 1)])
def sa_t25_1 : sf_T := (11141192, 105228117890547269052371068664457414770398123262464, [], sa_h10, [(1000, 1), (11, 4)], [(0, 0), (1, 0), (0, 0)])
def sa_l25 : List sf_T := [sa_t25_0, sa_t25_1]
noncomputable def sa_b25 : en_T := (sf_tc 11599872 (sf_call 133 [(2, 1, sa_m24)]) (sf_tc 13565952 (sf_call 133 [(4, 0, sa_m23)]) (sf_tc 13107200 (sf_call 133 [(3, 0, sa_m22)]) (sf_tc 10878976 (sf_call 133 [(4, 1, sa_m21)]) (sf_tc 10551296 (sf_call 133 [(1, 0, sa_m20)]) (sf_tc 13434880 (sf_call 133 [(4, 0, sa_m19)]) (fun _ => none)))))))
theorem sa_e25_0 : sf_okb (sf_fin 133 sa_h10 []) sa_b25 170 2 2 133 113 sa_l25 [1] sa_t25_0 = true := by decide +kernel
theorem sa_e25_1 : sf_okb (sf_fin 133 sa_h10 []) sa_b25 170 2 2 133 25 sa_l25 [1] sa_t25_1 = true := by decide +kernel
theorem sa_i25 : (sa_m25.1, sa_m25.2.1, ([] : List Nat), sa_m25.2.2.1, [(11, 4)], [(0, 1)]) ∈ sa_l25 := List.mem_cons_self
theorem sa_k25 (hS : ∀ ρ, en_SA E ρ ω mt_SB) (hX : sf_JX J) (hM : sf_MnA E ω J) : sf_Kok E ω J 2 2 133 sa_m25 := sf_K_of hS (sf_TS_k hX (sf_fc ⟨rfl, (sa_k24 hS hX hM)⟩ sf_fn) (sf_TS_k hX (sf_fc ⟨rfl, (sa_k23 hS hX hM)⟩ sf_fn) (sf_TS_k hX (sf_fc ⟨rfl, (sa_k22 hS hX hM)⟩ sf_fn) (sf_TS_k hX (sf_fc ⟨rfl, (sa_k21 hS hX hM)⟩ sf_fn) (sf_TS_k hX (sf_fc ⟨rfl, (sa_k20 hS hX hM)⟩ sf_fn) (sf_TS_k hX (sf_fc ⟨rfl, (sa_k19 hS hX hM)⟩ sf_fn) sf_TS_n)))))) (sf_nL (by decide +kernel)) rfl sa_h10_n sa_h10_n (by decide +kernel) (by decide +kernel) (by decide +kernel) sa_i25 (sf_fc (sf_okb_t sa_h10_n sa_e25_0) (sf_fc (sf_okb_t sa_h10_n sa_e25_1) sf_fn))
def sa_h11 : en_H := (((((((0, 0), 0), 0), ((0, 0), (0, 0))), ((((((0, (0, 0)), sa_r6), 0), ((((0, 0), (0, (0, 0))), (((0, 0), sa_r17), (sa_r13, (sa_r14, (sa_r14, sa_r15))))), 0)), ((0, 0), 0)), (0, ((((0, 0), ((0, 0), ((0, 0), 0))), (((0, (0, 0)), ((0, 0), (0, 0))), (((0, 0), (0, 0)), ((0, 0), (0, 0))))), (((((0, 0), (0, 0)), ((0, 0), (0, 0))), (((0, 0), (0, 0)), ((0, 0), (0, 0)))), ((((0, 0), (0, 0)), ((0, 0), (0, (0, 0)))), ((((0, 0), (0, 0)), ((0, 0), 0)), (0, (0, (0, 0)))))))))), 0), ((((((0, 0), 0), (0, (0, 0))), (0, 0)), 0), ((((((((0, 0), 0), (0, 0)), (0, (0, 0))), 0), (0, (((0, 0), (0, 0)), ((0, 0), (0, 0))))), 0), (((0, 0), 0), (0, ((0, ((0, 0), (0, 0))), (((0, 0), (0, 0)), ((0, 0), ((0, 0), (0, 0))))))))))
theorem sa_h11_n : sf_nlh sa_h11 136 = true := by decide +kernel
/-- X4_readNumbers -/
def sa_m26 : sf_M := (11206656, 93536104794622304634503194109064771063624589378048, sa_h11, sa_h11, [11, 20, 21, 22, 23, 24], [])
def sa_t26_0 : sf_T := (11206656, 93536104794622304634503194109064771063624589378048, [], sa_h11, [(1000, 1)], [(0, 0)])
def sa_l26 : List sf_T := [sa_t26_0]
noncomputable def sa_b26 : en_T := (sf_tc 11599872 (sf_call 133 [(2, 1, sa_m24)]) (sf_tc 10878976 (sf_call 133 [(4, 1, sa_m21)]) (sf_tc 10551296 (sf_call 133 [(1, 0, sa_m20)]) (fun _ => none))))
theorem sa_e26_0 : sf_okb (sf_fin 133 sa_h11 []) sa_b26 171 2 2 133 80 sa_l26 [] sa_t26_0 = true := by decide +kernel
theorem sa_i26 : (sa_m26.1, sa_m26.2.1, ([] : List Nat), sa_m26.2.2.1, [(1000, 1)], [(0, 0)]) ∈ sa_l26 := List.mem_cons_self
theorem sa_k26 (hS : ∀ ρ, en_SA E ρ ω mt_SB) (hX : sf_JX J) (hM : sf_MnA E ω J) : sf_Kok E ω J 2 2 133 sa_m26 := sf_K_of hS (sf_TS_k hX (sf_fc ⟨rfl, (sa_k24 hS hX hM)⟩ sf_fn) (sf_TS_k hX (sf_fc ⟨rfl, (sa_k21 hS hX hM)⟩ sf_fn) (sf_TS_k hX (sf_fc ⟨rfl, (sa_k20 hS hX hM)⟩ sf_fn) sf_TS_n))) (sf_nL (by decide +kernel)) rfl sa_h11_n sa_h11_n (by decide +kernel) (by decide +kernel) (by decide +kernel) sa_i26 (sf_fc (sf_okb_t sa_h11_n sa_e26_0) sf_fn)
def sa_h12 : en_H := (((((((0, 0), 0), 0), ((0, 0), (0, 0))), ((((((0, (0, 0)), 0), sa_r7), ((((0, sa_r2), (0, (0, 0))), (((0, 0), 0), (0, (0, (0, 0))))), 0)), ((0, 0), 0)), (0, ((((0, 0), ((0, 0), ((0, 0), 0))), (((0, (0, 0)), ((0, 0), (0, 0))), (((0, 0), (0, 0)), ((0, 0), (0, 0))))), (((((0, 0), (0, 0)), ((0, 0), (0, 0))), (((0, 0), (0, 0)), ((0, 0), (0, 0)))), ((((0, 0), (0, 0)), ((0, 0), (0, (0, 0)))), ((((0, 0), (0, 0)), ((0, 0), 0)), (0, (0, (0, 0)))))))))), 0), ((((((0, 0), 0), (0, (0, 0))), (0, 0)), 0), ((((((((0, 0), 0), (0, 0)), (0, (0, 0))), 0), (0, (((0, 0), (0, 0)), ((0, 0), (0, 0))))), 0), (((0, 0), 0), (0, ((0, ((0, 0), (0, 0))), (((0, 0), (0, 0)), ((0, 0), ((0, 0), (0, 0))))))))))
theorem sa_h12_n : sf_nlh sa_h12 136 = true := by decide +kernel
/-- X1_emit -/
def sa_m27 : sf_M := (8912896, 27606985388769193193717405410287975059719958368137445532464561229136640, sa_h12, sa_h12, [12, 14], [])
def sa_t27_0 : sf_T := (8912896, 27606985388769193193717405410287975059719958368137445532464561229136640, [], sa_h12, [(1000, 1), (1000, 2), (12, 4)], [(0, 0)])
def sa_l27 : List sf_T := [sa_t27_0]
noncomputable def sa_b27 : en_T := (fun _ => none)
theorem sa_e27_0 : sf_okb (sf_fin 133 sa_h12 []) sa_b27 136 3 0 133 30 sa_l27 [] sa_t27_0 = true := by decide +kernel
theorem sa_i27 : (sa_m27.1, sa_m27.2.1, ([] : List Nat), sa_m27.2.2.1, [(1000, 1), (1000, 2), (12, 4)], [(0, 0)]) ∈ sa_l27 := List.mem_cons_self
theorem sa_k27 (hS : ∀ ρ, en_SA E ρ ω mt_SB) (hX : sf_JX J) (hM : sf_MnA E ω J) : sf_Kok E ω J 3 0 133 sa_m27 := sf_K_of hS sf_TS_n (sf_nL (by decide +kernel)) rfl sa_h12_n sa_h12_n (by decide +kernel) (by decide +kernel) (by decide +kernel) sa_i27 (sf_fc (sf_okb_t sa_h12_n sa_e27_0) sf_fn)
/-- X1_emitVar -/
def sa_m28 : sf_M := (8978432, 27606985388769193193717405410287975059719958368137445532464561229136640, sa_h12, sa_h12, [12, 14], [])
def sa_t28_0 : sf_T := (8978432, 27606985388769193193717405410287975059719958368137445532464561229136640, [], sa_h12, [(1000, 1), (1000, 2)], [(0, 0)])
def sa_l28 : List sf_T := [sa_t28_0]
noncomputable def sa_b28 : en_T := (sf_tc 8912896 (sf_call 133 [(3, 0, sa_m27)]) (fun _ => none))
theorem sa_e28_0 : sf_okb (sf_fin 133 sa_h12 []) sa_b28 137 3 1 133 152 sa_l28 [] sa_t28_0 = true := by decide +kernel
theorem sa_i28 : (sa_m28.1, sa_m28.2.1, ([] : List Nat), sa_m28.2.2.1, [(1000, 1), (1000, 2)], [(0, 0)]) ∈ sa_l28 := List.mem_cons_self
theorem sa_k28 (hS : ∀ ρ, en_SA E ρ ω mt_SB) (hX : sf_JX J) (hM : sf_MnA E ω J) : sf_Kok E ω J 3 1 133 sa_m28 := sf_K_of hS (sf_TS_k hX (sf_fc ⟨rfl, (sa_k27 hS hX hM)⟩ sf_fn) sf_TS_n) (sf_nL (by decide +kernel)) rfl sa_h12_n sa_h12_n (by decide +kernel) (by decide +kernel) (by decide +kernel) sa_i28 (sf_fc (sf_okb_t sa_h12_n sa_e28_0) sf_fn)
def sa_h13 : en_H := (((((((0, 0), 0), 0), ((0, 0), (0, 0))), ((((((0, (0, 0)), 0), 0), ((((0, 0), (0, (0, 0))), (((0, 0), sa_r17), (0, (0, (0, 0))))), 0)), ((0, 0), 0)), (0, ((((0, 0), ((0, 0), ((0, 0), 0))), (((0, (0, 0)), ((0, 0), (0, 0))), (((0, 0), (0, 0)), ((0, 0), (0, 0))))), (((((0, 0), (0, 0)), ((0, 0), (0, 0))), (((0, 0), (0, 0)), ((0, 0), (0, 0)))), ((((0, 0), (0, 0)), ((0, 0), (0, (0, 0)))), ((((0, 0), (0, 0)), ((0, 0), 0)), (0, (0, (0, 0)))))))))), 0), ((((((0, 0), 0), (0, (0, 0))), (0, 0)), 0), ((((((((0, 0), 0), (0, 0)), (0, (0, 0))), 0), (0, (((0, 0), (0, 0)), ((0, 0), (0, 0))))), 0), (((0, 0), 0), (0, ((0, ((0, 0), (0, 0))), (((0, 0), (0, 0)), ((0, 0), ((0, 0), (0, 0))))))))))
theorem sa_h13_n : sf_nlh sa_h13 136 = true := by decide +kernel
/-- X4_operator -/
def sa_m29 : sf_M := (10944512, 36893488233318449408, sa_h13, sa_h13, [20], [83010348329545498631])
def sa_t29_0 : sf_T := (10944512, 36893488233318449408, [], sa_h13, [], [(0, 0)])
def sa_l29 : List sf_T := [sa_t29_0]
noncomputable def sa_b29 : en_T := (fun _ => none)
theorem sa_e29_0 : sf_okb (sf_fin 133 sa_h13 [83010348329545498631]) sa_b29 167 1 1 133 423 sa_l29 [] sa_t29_0 = true := by decide +kernel
theorem sa_i29 : (sa_m29.1, sa_m29.2.1, ([] : List Nat), sa_m29.2.2.1, [], [(0, 0)]) ∈ sa_l29 := List.mem_cons_self
theorem sa_k29 (hS : ∀ ρ, en_SA E ρ ω mt_SB) (hX : sf_JX J) (hM : sf_MnA E ω J) : sf_Kok E ω J 1 1 133 sa_m29 := sf_K_of hS sf_TS_n (sf_nL (by decide +kernel)) rfl sa_h13_n sa_h13_n (by decide +kernel) (by decide +kernel) (by decide +kernel) sa_i29 (sf_fc (sf_okb_t sa_h13_n sa_e29_0) sf_fn)
def sa_h14 : en_H := (((((((0, 0), 0), 0), ((0, 0), (0, 0))), ((((((0, (0, 0)), sa_r6), sa_r7), ((((0, sa_r2), (0, (0, 0))), (((0, 0), sa_r17), (sa_r13, (sa_r14, (sa_r14, sa_r15))))), 0)), ((0, 0), 0)), (0, ((((0, 0), ((0, 0), ((0, 0), 0))), (((0, (0, 0)), ((0, 0), (0, 0))), (((0, 0), (0, 0)), ((0, 0), (0, 0))))), (((((0, 0), (0, 0)), ((0, 0), (0, 0))), (((0, 0), (0, 0)), ((0, 0), (0, 0)))), ((((0, 0), (0, 0)), ((0, 0), (0, (0, 0)))), ((((0, 0), (0, 0)), ((0, 0), 0)), (0, (0, (0, 0)))))))))), 0), ((((((0, 0), 0), (0, (0, 0))), (0, 0)), 0), ((((((((0, 0), 0), (0, 0)), (0, (0, 0))), 0), (0, (((0, 0), (0, 0)), ((0, 0), (0, 0))))), 0), (((0, 0), 0), (0, ((0, ((0, 0), (0, 0))), (((0, 0), (0, 0)), ((0, 0), ((0, 0), (0, 0))))))))))
theorem sa_h14_n : sf_nlh sa_h14 136 = true := by decide +kernel
/-- X4_readUnit -/
def sa_m30 : sf_M := (11468800, 803469024467897757505870233165944398422376986146533393040128, sa_h14, sa_h14, [11, 12, 14, 20, 21, 22, 23, 24], [])
def sa_t30_0 : sf_T := (11468800, 803469024467897757505870233165944398422376986146533393040128, [], sa_h14, [(1000, 1)], [(0, 0)])
def sa_l30 : List sf_T := [sa_t30_0]
noncomputable def sa_b30 : en_T := (sf_tc 8978432 (sf_call 133 [(3, 1, sa_m28)]) (sf_tc 8912896 (sf_call 133 [(3, 0, sa_m27)]) (sf_tc 10551296 (sf_call 133 [(1, 0, sa_m20)]) (fun _ => none))))
theorem sa_e30_0 : sf_okb (sf_fin 133 sa_h14 []) sa_b30 175 3 2 133 355 sa_l30 [] sa_t30_0 = true := by decide +kernel
theorem sa_i30 : (sa_m30.1, sa_m30.2.1, ([] : List Nat), sa_m30.2.2.1, [(1000, 1)], [(0, 0)]) ∈ sa_l30 := List.mem_cons_self
theorem sa_k30 (hS : ∀ ρ, en_SA E ρ ω mt_SB) (hX : sf_JX J) (hM : sf_MnA E ω J) : sf_Kok E ω J 3 2 133 sa_m30 := sf_K_of hS (sf_TS_k hX (sf_fc ⟨rfl, (sa_k28 hS hX hM)⟩ sf_fn) (sf_TS_k hX (sf_fc ⟨rfl, (sa_k27 hS hX hM)⟩ sf_fn) (sf_TS_k hX (sf_fc ⟨rfl, (sa_k20 hS hX hM)⟩ sf_fn) sf_TS_n))) (sf_nL (by decide +kernel)) rfl sa_h14_n sa_h14_n (by decide +kernel) (by decide +kernel) (by decide +kernel) sa_i30 (sf_fc (sf_okb_t sa_h14_n sa_e30_0) sf_fn)
/-- X4_readSum -/
def sa_m31 : sf_M := (11272192, 10797393109417635305646112365449019323712835416606421597325627099147989536302644416794082378599529015638426756124264096340771067754697911762126327904636637324249088, sa_h14, sa_h14, [11, 12, 14, 20, 21, 22, 23, 24], [])
def sa_t31_0 : sf_T := (11272192, 10797393109417635305646112365449019323712835416606421597325627099147989536302644416794082378599529015638426756124264096340771067754697911762126327904636637324249088, [], sa_h14, [(1000, 1)], [(0, 2)])
def sa_t31_1 : sf_T := (11272215, 10797393109417635305646112365449817852584597605292845792251315392304436707113277599459439306862770646339453348879196400433178019215171293063078836837457173040596992, [], sa_h14, [(1000, 1), (1000, 5)], [(0, 1)])
def sa_t31_2 : sf_T := (11272218, 10797393109653319429384148755534094978299925171456149692958777168385030217788993144547390930995419509673680356402087542851417135647768491234203004734872210255120384, [], sa_h14, [(1000, 1), (1000, 4), (1000, 5), (1000, 6)], [(0, 0), (1, 3), (0, 1)])
def sa_t31_3 : sf_T := (11272304, 69561675416110215723407284709296019300093230856733850430331421929185998894445678606067099862451748018921199224450821835228370252438612986055461284027075629348830461548300288, [], sa_h14, [(1000, 1), (1000, 4), (1000, 5), (1000, 6), (1000, 7)], [(0, 0), (1, 3), (0, 0)])
def sa_l31 : List sf_T := [sa_t31_0, sa_t31_1, sa_t31_2, sa_t31_3]
noncomputable def sa_b31 : en_T := (sf_tc 11468800 (sf_call 133 [(3, 2, sa_m30)]) (sf_tc 10944512 (sf_call 133 [(1, 1, sa_m29)]) (sf_tc 8912896 (sf_call 133 [(3, 0, sa_m27)]) (sf_tc 10551296 (sf_call 133 [(1, 0, sa_m20)]) (fun _ => none)))))
theorem sa_e31_0 : sf_okb (sf_fin 133 sa_h14 []) sa_b31 172 8 3 133 21 sa_l31 [1] sa_t31_0 = true := by decide +kernel
theorem sa_e31_1 : sf_okb (sf_fin 133 sa_h14 []) sa_b31 172 8 3 133 10 sa_l31 [2] sa_t31_1 = true := by decide +kernel
theorem sa_e31_2 : sf_okb (sf_fin 133 sa_h14 []) sa_b31 172 8 3 133 137 sa_l31 [3] sa_t31_2 = true := by decide +kernel
theorem sa_e31_3 : sf_okb (sf_fin 133 sa_h14 []) sa_b31 172 8 3 133 10 sa_l31 [2] sa_t31_3 = true := by decide +kernel
theorem sa_i31 : (sa_m31.1, sa_m31.2.1, ([] : List Nat), sa_m31.2.2.1, [(1000, 1)], [(0, 2)]) ∈ sa_l31 := List.mem_cons_self
theorem sa_k31 (hS : ∀ ρ, en_SA E ρ ω mt_SB) (hX : sf_JX J) (hM : sf_MnA E ω J) : sf_Kok E ω J 8 3 133 sa_m31 := sf_K_of hS (sf_TS_k hX (sf_fc ⟨rfl, (sa_k30 hS hX hM)⟩ sf_fn) (sf_TS_k hX (sf_fc ⟨rfl, (sa_k29 hS hX hM)⟩ sf_fn) (sf_TS_k hX (sf_fc ⟨rfl, (sa_k27 hS hX hM)⟩ sf_fn) (sf_TS_k hX (sf_fc ⟨rfl, (sa_k20 hS hX hM)⟩ sf_fn) sf_TS_n)))) (sf_nL (by decide +kernel)) rfl sa_h14_n sa_h14_n (by decide +kernel) (by decide +kernel) (by decide +kernel) sa_i31 (sf_fc (sf_okb_t sa_h14_n sa_e31_0) (sf_fc (sf_okb_t sa_h14_n sa_e31_1) (sf_fc (sf_okb_t sa_h14_n sa_e31_2) (sf_fc (sf_okb_t sa_h14_n sa_e31_3) sf_fn))))
/-- X4_readUnit -/
def sa_m32 : sf_M := (11468800, 803469024093753338349159086105801081247008533114614662038272, sa_h14, sa_h14, [11, 12, 14, 20, 21, 22, 23, 24], [])
def sa_t32_0 : sf_T := (11468800, 803469024093753338349159086105801081247008533114614662038272, [], sa_h14, [(1000, 1)], [(0, 0)])
def sa_l32 : List sf_T := [sa_t32_0]
noncomputable def sa_b32 : en_T := (sf_tc 11272192 (sf_call 133 [(8, 3, sa_m31)]) (sf_tc 8978432 (sf_call 133 [(3, 1, sa_m28)]) (sf_tc 8912896 (sf_call 133 [(3, 0, sa_m27)]) (sf_tc 11599872 (sf_call 133 [(2, 1, sa_m24)]) (sf_tc 10551296 (sf_call 133 [(1, 0, sa_m20)]) (fun _ => none))))))
theorem sa_e32_0 : sf_okb (sf_fin 133 sa_h14 []) sa_b32 175 3 4 133 316 sa_l32 [] sa_t32_0 = true := by decide +kernel
theorem sa_i32 : (sa_m32.1, sa_m32.2.1, ([] : List Nat), sa_m32.2.2.1, [(1000, 1)], [(0, 0)]) ∈ sa_l32 := List.mem_cons_self
theorem sa_k32 (hS : ∀ ρ, en_SA E ρ ω mt_SB) (hX : sf_JX J) (hM : sf_MnA E ω J) : sf_Kok E ω J 3 4 133 sa_m32 := sf_K_of hS (sf_TS_k hX (sf_fc ⟨rfl, (sa_k31 hS hX hM)⟩ sf_fn) (sf_TS_k hX (sf_fc ⟨rfl, (sa_k28 hS hX hM)⟩ sf_fn) (sf_TS_k hX (sf_fc ⟨rfl, (sa_k27 hS hX hM)⟩ sf_fn) (sf_TS_k hX (sf_fc ⟨rfl, (sa_k24 hS hX hM)⟩ sf_fn) (sf_TS_k hX (sf_fc ⟨rfl, (sa_k20 hS hX hM)⟩ sf_fn) sf_TS_n))))) (sf_nL (by decide +kernel)) rfl sa_h14_n sa_h14_n (by decide +kernel) (by decide +kernel) (by decide +kernel) sa_i32 (sf_fc (sf_okb_t sa_h14_n sa_e32_0) sf_fn)
/-- X4_readSum -/
def sa_m33 : sf_M := (11272192, 10797393109417635305646112365449019323712835416606421597325627099147989536302644416794082378599529015638426756123889951921614356607637768444950959451604718593247232, sa_h14, sa_h14, [11, 12, 14, 20, 21, 22, 23, 24], [])
def sa_t33_0 : sf_T := (11272192, 10797393109417635305646112365449019323712835416606421597325627099147989536302644416794082378599529015638426756123889951921614356607637768444950959451604718593247232, [], sa_h14, [(1000, 1)], [(0, 2)])
def sa_t33_1 : sf_T := (11272215, 10797393109417635305646112365449817852584597605292845792251315392304436707113277599459439306862770646339453348878822256014021308068111149745903468384425254309595136, [], sa_h14, [(1000, 1), (1000, 5)], [(0, 1)])
def sa_t33_2 : sf_T := (11272218, 10797393109653319429384148755534094978299925171456149692958777168385030217788993144547390930995419509673680356401713398432260424500708347917027636281840291524118528, [], sa_h14, [(1000, 1), (1000, 4), (1000, 5), (1000, 6)], [(0, 0), (1, 3), (0, 1)])
def sa_t33_3 : sf_T := (11272304, 69561675416110215723407284709296019300093230856733850430331421929185998894445678606067099862451748018921199224450821835227996108019456274908401140709900260895798542817298432, [], sa_h14, [(1000, 1), (1000, 4), (1000, 5), (1000, 6), (1000, 7)], [(0, 0), (1, 3), (0, 0)])
def sa_l33 : List sf_T := [sa_t33_0, sa_t33_1, sa_t33_2, sa_t33_3]
noncomputable def sa_b33 : en_T := (sf_tc 11468800 (sf_call 133 [(3, 4, sa_m32)]) (sf_tc 10944512 (sf_call 133 [(1, 1, sa_m29)]) (sf_tc 8912896 (sf_call 133 [(3, 0, sa_m27)]) (sf_tc 10551296 (sf_call 133 [(1, 0, sa_m20)]) (fun _ => none)))))
theorem sa_e33_0 : sf_okb (sf_fin 133 sa_h14 []) sa_b33 172 8 5 133 21 sa_l33 [1] sa_t33_0 = true := by decide +kernel
theorem sa_e33_1 : sf_okb (sf_fin 133 sa_h14 []) sa_b33 172 8 5 133 10 sa_l33 [2] sa_t33_1 = true := by decide +kernel
theorem sa_e33_2 : sf_okb (sf_fin 133 sa_h14 []) sa_b33 172 8 5 133 137 sa_l33 [3] sa_t33_2 = true := by decide +kernel
theorem sa_e33_3 : sf_okb (sf_fin 133 sa_h14 []) sa_b33 172 8 5 133 10 sa_l33 [2] sa_t33_3 = true := by decide +kernel
theorem sa_i33 : (sa_m33.1, sa_m33.2.1, ([] : List Nat), sa_m33.2.2.1, [(1000, 1)], [(0, 2)]) ∈ sa_l33 := List.mem_cons_self
theorem sa_k33 (hS : ∀ ρ, en_SA E ρ ω mt_SB) (hX : sf_JX J) (hM : sf_MnA E ω J) : sf_Kok E ω J 8 5 133 sa_m33 := sf_K_of hS (sf_TS_k hX (sf_fc ⟨rfl, (sa_k32 hS hX hM)⟩ sf_fn) (sf_TS_k hX (sf_fc ⟨rfl, (sa_k29 hS hX hM)⟩ sf_fn) (sf_TS_k hX (sf_fc ⟨rfl, (sa_k27 hS hX hM)⟩ sf_fn) (sf_TS_k hX (sf_fc ⟨rfl, (sa_k20 hS hX hM)⟩ sf_fn) sf_TS_n)))) (sf_nL (by decide +kernel)) rfl sa_h14_n sa_h14_n (by decide +kernel) (by decide +kernel) (by decide +kernel) sa_i33 (sf_fc (sf_okb_t sa_h14_n sa_e33_0) (sf_fc (sf_okb_t sa_h14_n sa_e33_1) (sf_fc (sf_okb_t sa_h14_n sa_e33_2) (sf_fc (sf_okb_t sa_h14_n sa_e33_3) sf_fn))))
end SFP
