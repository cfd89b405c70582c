/-! CONTRACTS, by program (wip/p3/emit.py) -/
section SFP
variable {E : mm_E} {ω : Nat → Value} {J : mm_H → Prop}
/-- X4_readUnit -/
def sa_m34 : sf_M := (11468800, 803469023719608919192447939045657764071640080082695931036416, sa_h14, sa_h14, [11, 12, 14, 20, 21, 22, 23, 24], [])
def sa_t34_0 : sf_T := (11468800, 803469023719608919192447939045657764071640080082695931036416, [], sa_h14, [(1000, 1)], [(0, 0)])
def sa_l34 : List sf_T := [sa_t34_0]
noncomputable def sa_b34 : en_T := (sf_tc 11272192 (sf_call 133 [(8, 5, sa_m33)]) (sf_tc 8978432 (sf_call 133 [(3, 1, sa_m28)]) (sf_tc 8912896 (sf_call 133 [(3, 0, sa_m27)]) (sf_tc 11599872 (sf_call 133 [(2, 1, sa_m24)]) (sf_tc 10551296 (sf_call 133 [(1, 0, sa_m20)]) (fun _ => none))))))
theorem sa_e34_0 : sf_okb (sf_fin 133 sa_h14 []) sa_b34 175 3 6 133 636 sa_l34 [] sa_t34_0 = true := by decide +kernel
theorem sa_i34 : (sa_m34.1, sa_m34.2.1, ([] : List Nat), sa_m34.2.2.1, [(1000, 1)], [(0, 0)]) ∈ sa_l34 := List.mem_cons_self
theorem sa_k34 (hS : ∀ ρ, en_SA E ρ ω mt_SB) (hX : sf_JX J) (hM : sf_MnA E ω J) : sf_Kok E ω J 3 6 133 sa_m34 := sf_K_of hS (sf_TS_k (q := 11272192) (nx := 133) (l := [(8, 5, sa_m33)]) hX (sf_fc ⟨(rfl : sa_m33.1 = 11272192), (sa_k33 hS hX hM)⟩ sf_fn) (sf_TS_k (q := 8978432) (nx := 133) (l := [(3, 1, sa_m28)]) hX (sf_fc ⟨(rfl : sa_m28.1 = 8978432), (sa_k28 hS hX hM)⟩ sf_fn) (sf_TS_k (q := 8912896) (nx := 133) (l := [(3, 0, sa_m27)]) hX (sf_fc ⟨(rfl : sa_m27.1 = 8912896), (sa_k27 hS hX hM)⟩ sf_fn) (sf_TS_k (q := 11599872) (nx := 133) (l := [(2, 1, sa_m24)]) hX (sf_fc ⟨(rfl : sa_m24.1 = 11599872), (sa_k24 hS hX hM)⟩ sf_fn) (sf_TS_k (q := 10551296) (nx := 133) (l := [(1, 0, sa_m20)]) hX (sf_fc ⟨(rfl : sa_m20.1 = 10551296), (sa_k20 hS hX hM)⟩ sf_fn) sf_TS_n))))) (sf_nL (by decide +kernel)) rfl sa_h14_n sa_h14_n (by decide +kernel) (by decide +kernel) (by decide +kernel) sa_i34 (sf_fc (sf_okb_t sa_h14_n sa_e34_0) sf_fn)
/-- X4_readSum -/
def sa_m35 : sf_M := (11272192, 10797393109417635305646112365449019323712835416606421597325627099147989536302644416794082378599529015638426756123515807502457645460577625127775590998572799862245376, sa_h14, sa_h14, [11, 12, 14, 20, 21, 22, 23, 24], [])
def sa_t35_0 : sf_T := (11272192, 10797393109417635305646112365449019323712835416606421597325627099147989536302644416794082378599529015638426756123515807502457645460577625127775590998572799862245376, [], sa_h14, [(1000, 1)], [(0, 2)])
def sa_t35_1 : sf_T := (11272215, 10797393109417635305646112365449817852584597605292845792251315392304436707113277599459439306862770646339453348878448111594864596921051006428728099931393335578593280, [], sa_h14, [(1000, 1), (1000, 5)], [(0, 1)])
def sa_t35_2 : sf_T := (11272218, 10797393109653319429384148755534094978299925171456149692958777168385030217788993144547390930995419509673680356401339254013103713353648204599852267828808372793116672, [], sa_h14, [(1000, 1), (1000, 4), (1000, 5), (1000, 6)], [(0, 0), (1, 3), (0, 1)])
def sa_t35_3 : sf_T := (11272304, 69561675416110215723407284709296019300093230856733850430331421929185998894445678606067099862451748018921199224450821835227621963600299563761340997392724892442766624086296576, [], sa_h14, [(1000, 1), (1000, 4), (1000, 5), (1000, 6), (1000, 7)], [(0, 0), (1, 3), (0, 0)])
def sa_l35 : List sf_T := [sa_t35_0, sa_t35_1, sa_t35_2, sa_t35_3]
noncomputable def sa_b35 : en_T := (sf_tc 11468800 (sf_call 133 [(3, 6, sa_m34)]) (sf_tc 10944512 (sf_call 133 [(1, 1, sa_m29)]) (sf_tc 8912896 (sf_call 133 [(3, 0, sa_m27)]) (sf_tc 10551296 (sf_call 133 [(1, 0, sa_m20)]) (fun _ => none)))))
theorem sa_e35_0 : sf_okb (sf_fin 133 sa_h14 []) sa_b35 172 8 7 133 46 sa_l35 [1] sa_t35_0 = true := by decide +kernel
theorem sa_e35_1 : sf_okb (sf_fin 133 sa_h14 []) sa_b35 172 8 7 133 24 sa_l35 [2] sa_t35_1 = true := by decide +kernel
theorem sa_e35_2 : sf_okb (sf_fin 133 sa_h14 []) sa_b35 172 8 7 133 278 sa_l35 [3] sa_t35_2 = true := by decide +kernel
theorem sa_e35_3 : sf_okb (sf_fin 133 sa_h14 []) sa_b35 172 8 7 133 24 sa_l35 [2] sa_t35_3 = true := by decide +kernel
theorem sa_i35 : (sa_m35.1, sa_m35.2.1, ([] : List Nat), sa_m35.2.2.1, [(1000, 1)], [(0, 2)]) ∈ sa_l35 := List.mem_cons_self
theorem sa_k35 (hS : ∀ ρ, en_SA E ρ ω mt_SB) (hX : sf_JX J) (hM : sf_MnA E ω J) : sf_Kok E ω J 8 7 133 sa_m35 := sf_K_of hS (sf_TS_k (q := 11468800) (nx := 133) (l := [(3, 6, sa_m34)]) hX (sf_fc ⟨(rfl : sa_m34.1 = 11468800), (sa_k34 hS hX hM)⟩ sf_fn) (sf_TS_k (q := 10944512) (nx := 133) (l := [(1, 1, sa_m29)]) hX (sf_fc ⟨(rfl : sa_m29.1 = 10944512), (sa_k29 hS hX hM)⟩ sf_fn) (sf_TS_k (q := 8912896) (nx := 133) (l := [(3, 0, sa_m27)]) hX (sf_fc ⟨(rfl : sa_m27.1 = 8912896), (sa_k27 hS hX hM)⟩ sf_fn) (sf_TS_k (q := 10551296) (nx := 133) (l := [(1, 0, sa_m20)]) hX (sf_fc ⟨(rfl : sa_m20.1 = 10551296), (sa_k20 hS hX hM)⟩ sf_fn) sf_TS_n)))) (sf_nL (by decide +kernel)) rfl sa_h14_n sa_h14_n (by decide +kernel) (by decide +kernel) (by decide +kernel) sa_i35 (sf_fc (sf_okb_t sa_h14_n sa_e35_0) (sf_fc (sf_okb_t sa_h14_n sa_e35_1) (sf_fc (sf_okb_t sa_h14_n sa_e35_2) (sf_fc (sf_okb_t sa_h14_n sa_e35_3) sf_fn))))
/-- X4_readUnit -/
def sa_m36 : sf_M := (11468800, 803469023345464500035736791985514446896271627050777200034560, sa_h14, sa_h14, [11, 12, 14, 20, 21, 22, 23, 24], [])
def sa_t36_0 : sf_T := (11468800, 803469023345464500035736791985514446896271627050777200034560, [], sa_h14, [(1000, 1)], [(0, 0)])
def sa_l36 : List sf_T := [sa_t36_0]
noncomputable def sa_b36 : en_T := (sf_tc 11272192 (sf_call 133 [(8, 7, sa_m35)]) (sf_tc 8978432 (sf_call 133 [(3, 1, sa_m28)]) (sf_tc 8912896 (sf_call 133 [(3, 0, sa_m27)]) (sf_tc 11599872 (sf_call 133 [(2, 1, sa_m24)]) (sf_tc 10551296 (sf_call 133 [(1, 0, sa_m20)]) (fun _ => none))))))
theorem sa_e36_0 : sf_okb (sf_fin 133 sa_h14 []) sa_b36 175 3 8 133 636 sa_l36 [] sa_t36_0 = true := by decide +kernel
theorem sa_i36 : (sa_m36.1, sa_m36.2.1, ([] : List Nat), sa_m36.2.2.1, [(1000, 1)], [(0, 0)]) ∈ sa_l36 := List.mem_cons_self
theorem sa_k36 (hS : ∀ ρ, en_SA E ρ ω mt_SB) (hX : sf_JX J) (hM : sf_MnA E ω J) : sf_Kok E ω J 3 8 133 sa_m36 := sf_K_of hS (sf_TS_k (q := 11272192) (nx := 133) (l := [(8, 7, sa_m35)]) hX (sf_fc ⟨(rfl : sa_m35.1 = 11272192), (sa_k35 hS hX hM)⟩ sf_fn) (sf_TS_k (q := 8978432) (nx := 133) (l := [(3, 1, sa_m28)]) hX (sf_fc ⟨(rfl : sa_m28.1 = 8978432), (sa_k28 hS hX hM)⟩ sf_fn) (sf_TS_k (q := 8912896) (nx := 133) (l := [(3, 0, sa_m27)]) hX (sf_fc ⟨(rfl : sa_m27.1 = 8912896), (sa_k27 hS hX hM)⟩ sf_fn) (sf_TS_k (q := 11599872) (nx := 133) (l := [(2, 1, sa_m24)]) hX (sf_fc ⟨(rfl : sa_m24.1 = 11599872), (sa_k24 hS hX hM)⟩ sf_fn) (sf_TS_k (q := 10551296) (nx := 133) (l := [(1, 0, sa_m20)]) hX (sf_fc ⟨(rfl : sa_m20.1 = 10551296), (sa_k20 hS hX hM)⟩ sf_fn) sf_TS_n))))) (sf_nL (by decide +kernel)) rfl sa_h14_n sa_h14_n (by decide +kernel) (by decide +kernel) (by decide +kernel) sa_i36 (sf_fc (sf_okb_t sa_h14_n sa_e36_0) sf_fn)
/-- X4_readSum -/
def sa_m37 : sf_M := (11272192, 10797393109417635305646112365449019323712835416606421597325627099147989536302644416794082378599529015638426756123141663083300934313517481810600222545540881131243520, sa_h14, sa_h14, [11, 12, 14, 20, 21, 22, 23, 24], [])
def sa_t37_0 : sf_T := (11272192, 10797393109417635305646112365449019323712835416606421597325627099147989536302644416794082378599529015638426756123141663083300934313517481810600222545540881131243520, [], sa_h14, [(1000, 1)], [(0, 2)])
def sa_t37_1 : sf_T := (11272215, 10797393109417635305646112365449817852584597605292845792251315392304436707113277599459439306862770646339453348878073967175707885773990863111552731478361416847591424, [], sa_h14, [(1000, 1), (1000, 5)], [(0, 1)])
def sa_t37_2 : sf_T := (11272218, 10797393109653319429384148755534094978299925171456149692958777168385030217788993144547390930995419509673680356400965109593947002206588061282676899375776454062114816, [], sa_h14, [(1000, 1), (1000, 4), (1000, 5), (1000, 6)], [(0, 0), (1, 3), (0, 1)])
def sa_t37_3 : sf_T := (11272304, 69561675416110215723407284709296019300093230856733850430331421929185998894445678606067099862451748018921199224450821835227247819181142852614280854075549523989734705355294720, [], sa_h14, [(1000, 1), (1000, 4), (1000, 5), (1000, 6), (1000, 7)], [(0, 0), (1, 3), (0, 0)])
def sa_l37 : List sf_T := [sa_t37_0, sa_t37_1, sa_t37_2, sa_t37_3]
noncomputable def sa_b37 : en_T := (sf_tc 11468800 (sf_call 133 [(3, 8, sa_m36)]) (sf_tc 10944512 (sf_call 133 [(1, 1, sa_m29)]) (sf_tc 8912896 (sf_call 133 [(3, 0, sa_m27)]) (sf_tc 10551296 (sf_call 133 [(1, 0, sa_m20)]) (fun _ => none)))))
theorem sa_e37_0 : sf_okb (sf_fin 133 sa_h14 []) sa_b37 172 8 9 133 46 sa_l37 [1] sa_t37_0 = true := by decide +kernel
theorem sa_e37_1 : sf_okb (sf_fin 133 sa_h14 []) sa_b37 172 8 9 133 24 sa_l37 [2] sa_t37_1 = true := by decide +kernel
theorem sa_e37_2 : sf_okb (sf_fin 133 sa_h14 []) sa_b37 172 8 9 133 278 sa_l37 [3] sa_t37_2 = true := by decide +kernel
theorem sa_e37_3 : sf_okb (sf_fin 133 sa_h14 []) sa_b37 172 8 9 133 24 sa_l37 [2] sa_t37_3 = true := by decide +kernel
theorem sa_i37 : (sa_m37.1, sa_m37.2.1, ([] : List Nat), sa_m37.2.2.1, [(1000, 1)], [(0, 2)]) ∈ sa_l37 := List.mem_cons_self
theorem sa_k37 (hS : ∀ ρ, en_SA E ρ ω mt_SB) (hX : sf_JX J) (hM : sf_MnA E ω J) : sf_Kok E ω J 8 9 133 sa_m37 := sf_K_of hS (sf_TS_k (q := 11468800) (nx := 133) (l := [(3, 8, sa_m36)]) hX (sf_fc ⟨(rfl : sa_m36.1 = 11468800), (sa_k36 hS hX hM)⟩ sf_fn) (sf_TS_k (q := 10944512) (nx := 133) (l := [(1, 1, sa_m29)]) hX (sf_fc ⟨(rfl : sa_m29.1 = 10944512), (sa_k29 hS hX hM)⟩ sf_fn) (sf_TS_k (q := 8912896) (nx := 133) (l := [(3, 0, sa_m27)]) hX (sf_fc ⟨(rfl : sa_m27.1 = 8912896), (sa_k27 hS hX hM)⟩ sf_fn) (sf_TS_k (q := 10551296) (nx := 133) (l := [(1, 0, sa_m20)]) hX (sf_fc ⟨(rfl : sa_m20.1 = 10551296), (sa_k20 hS hX hM)⟩ sf_fn) sf_TS_n)))) (sf_nL (by decide +kernel)) rfl sa_h14_n sa_h14_n (by decide +kernel) (by decide +kernel) (by decide +kernel) sa_i37 (sf_fc (sf_okb_t sa_h14_n sa_e37_0) (sf_fc (sf_okb_t sa_h14_n sa_e37_1) (sf_fc (sf_okb_t sa_h14_n sa_e37_2) (sf_fc (sf_okb_t sa_h14_n sa_e37_3) sf_fn))))
/-- X4_readUnit -/
def sa_m38 : sf_M := (11468800, 803469022971320080879025644925371129720903174018858469032704, sa_h14, sa_h14, [11, 12, 14, 20, 21, 22, 23, 24], [])
def sa_t38_0 : sf_T := (11468800, 803469022971320080879025644925371129720903174018858469032704, [], sa_h14, [(1000, 1)], [(0, 0)])
def sa_l38 : List sf_T := [sa_t38_0]
noncomputable def sa_b38 : en_T := (sf_tc 11272192 (sf_call 133 [(8, 9, sa_m37)]) (sf_tc 8978432 (sf_call 133 [(3, 1, sa_m28)]) (sf_tc 8912896 (sf_call 133 [(3, 0, sa_m27)]) (sf_tc 11599872 (sf_call 133 [(2, 1, sa_m24)]) (sf_tc 10551296 (sf_call 133 [(1, 0, sa_m20)]) (fun _ => none))))))
theorem sa_e38_0 : sf_okb (sf_fin 133 sa_h14 []) sa_b38 175 3 10 133 636 sa_l38 [] sa_t38_0 = true := by decide +kernel
theorem sa_i38 : (sa_m38.1, sa_m38.2.1, ([] : List Nat), sa_m38.2.2.1, [(1000, 1)], [(0, 0)]) ∈ sa_l38 := List.mem_cons_self
theorem sa_k38 (hS : ∀ ρ, en_SA E ρ ω mt_SB) (hX : sf_JX J) (hM : sf_MnA E ω J) : sf_Kok E ω J 3 10 133 sa_m38 := sf_K_of hS (sf_TS_k (q := 11272192) (nx := 133) (l := [(8, 9, sa_m37)]) hX (sf_fc ⟨(rfl : sa_m37.1 = 11272192), (sa_k37 hS hX hM)⟩ sf_fn) (sf_TS_k (q := 8978432) (nx := 133) (l := [(3, 1, sa_m28)]) hX (sf_fc ⟨(rfl : sa_m28.1 = 8978432), (sa_k28 hS hX hM)⟩ sf_fn) (sf_TS_k (q := 8912896) (nx := 133) (l := [(3, 0, sa_m27)]) hX (sf_fc ⟨(rfl : sa_m27.1 = 8912896), (sa_k27 hS hX hM)⟩ sf_fn) (sf_TS_k (q := 11599872) (nx := 133) (l := [(2, 1, sa_m24)]) hX (sf_fc ⟨(rfl : sa_m24.1 = 11599872), (sa_k24 hS hX hM)⟩ sf_fn) (sf_TS_k (q := 10551296) (nx := 133) (l := [(1, 0, sa_m20)]) hX (sf_fc ⟨(rfl : sa_m20.1 = 10551296), (sa_k20 hS hX hM)⟩ sf_fn) sf_TS_n))))) (sf_nL (by decide +kernel)) rfl sa_h14_n sa_h14_n (by decide +kernel) (by decide +kernel) (by decide +kernel) sa_i38 (sf_fc (sf_okb_t sa_h14_n sa_e38_0) sf_fn)
/-- X4_readSum -/
def sa_m39 : sf_M := (11272192, 10797393109417635305646112365449019323712835416606421597325627099147989536302644416794082378599529015638426756122767518664144223166457338493424854092508962400241664, sa_h14, sa_h14, [11, 12, 14, 20, 21, 22, 23, 24], [])
def sa_t39_0 : sf_T := (11272192, 10797393109417635305646112365449019323712835416606421597325627099147989536302644416794082378599529015638426756122767518664144223166457338493424854092508962400241664, [], sa_h14, [(1000, 1)], [(0, 2)])
def sa_t39_1 : sf_T := (11272215, 10797393109417635305646112365449817852584597605292845792251315392304436707113277599459439306862770646339453348877699822756551174626930719794377363025329498116589568, [], sa_h14, [(1000, 1), (1000, 5)], [(0, 1)])
def sa_t39_2 : sf_T := (11272218, 10797393109653319429384148755534094978299925171456149692958777168385030217788993144547390930995419509673680356400590965174790291059527917965501530922744535331112960, [], sa_h14, [(1000, 1), (1000, 4), (1000, 5), (1000, 6)], [(0, 0), (1, 3), (0, 1)])
def sa_t39_3 : sf_T := (11272304, 69561675416110215723407284709296019300093230856733850430331421929185998894445678606067099862451748018921199224450821835226873674761986141467220710758374155536702786624292864, [], sa_h14, [(1000, 1), (1000, 4), (1000, 5), (1000, 6), (1000, 7)], [(0, 0), (1, 3), (0, 0)])
def sa_l39 : List sf_T := [sa_t39_0, sa_t39_1, sa_t39_2, sa_t39_3]
noncomputable def sa_b39 : en_T := (sf_tc 11468800 (sf_call 133 [(3, 10, sa_m38)]) (sf_tc 10944512 (sf_call 133 [(1, 1, sa_m29)]) (sf_tc 8912896 (sf_call 133 [(3, 0, sa_m27)]) (sf_tc 10551296 (sf_call 133 [(1, 0, sa_m20)]) (fun _ => none)))))
theorem sa_e39_0 : sf_okb (sf_fin 133 sa_h14 []) sa_b39 172 8 11 133 46 sa_l39 [1] sa_t39_0 = true := by decide +kernel
theorem sa_e39_1 : sf_okb (sf_fin 133 sa_h14 []) sa_b39 172 8 11 133 24 sa_l39 [2] sa_t39_1 = true := by decide +kernel
theorem sa_e39_2 : sf_okb (sf_fin 133 sa_h14 []) sa_b39 172 8 11 133 278 sa_l39 [3] sa_t39_2 = true := by decide +kernel
theorem sa_e39_3 : sf_okb (sf_fin 133 sa_h14 []) sa_b39 172 8 11 133 24 sa_l39 [2] sa_t39_3 = true := by decide +kernel
theorem sa_i39 : (sa_m39.1, sa_m39.2.1, ([] : List Nat), sa_m39.2.2.1, [(1000, 1)], [(0, 2)]) ∈ sa_l39 := List.mem_cons_self
theorem sa_k39 (hS : ∀ ρ, en_SA E ρ ω mt_SB) (hX : sf_JX J) (hM : sf_MnA E ω J) : sf_Kok E ω J 8 11 133 sa_m39 := sf_K_of hS (sf_TS_k (q := 11468800) (nx := 133) (l := [(3, 10, sa_m38)]) hX (sf_fc ⟨(rfl : sa_m38.1 = 11468800), (sa_k38 hS hX hM)⟩ sf_fn) (sf_TS_k (q := 10944512) (nx := 133) (l := [(1, 1, sa_m29)]) hX (sf_fc ⟨(rfl : sa_m29.1 = 10944512), (sa_k29 hS hX hM)⟩ sf_fn) (sf_TS_k (q := 8912896) (nx := 133) (l := [(3, 0, sa_m27)]) hX (sf_fc ⟨(rfl : sa_m27.1 = 8912896), (sa_k27 hS hX hM)⟩ sf_fn) (sf_TS_k (q := 10551296) (nx := 133) (l := [(1, 0, sa_m20)]) hX (sf_fc ⟨(rfl : sa_m20.1 = 10551296), (sa_k20 hS hX hM)⟩ sf_fn) sf_TS_n)))) (sf_nL (by decide +kernel)) rfl sa_h14_n sa_h14_n (by decide +kernel) (by decide +kernel) (by decide +kernel) sa_i39 (sf_fc (sf_okb_t sa_h14_n sa_e39_0) (sf_fc (sf_okb_t sa_h14_n sa_e39_1) (sf_fc (sf_okb_t sa_h14_n sa_e39_2) (sf_fc (sf_okb_t sa_h14_n sa_e39_3) sf_fn))))
/-- X4_readUnit -/
def sa_m40 : sf_M := (11468800, 803469022597175661722314497865227812545534720986939738030848, sa_h14, sa_h14, [11, 12, 14, 20, 21, 22, 23, 24], [])
def sa_t40_0 : sf_T := (11468800, 803469022597175661722314497865227812545534720986939738030848, [], sa_h14, [(1000, 1)], [(0, 0)])
def sa_l40 : List sf_T := [sa_t40_0]
noncomputable def sa_b40 : en_T := (sf_tc 11272192 (sf_call 133 [(8, 11, sa_m39)]) (sf_tc 8978432 (sf_call 133 [(3, 1, sa_m28)]) (sf_tc 8912896 (sf_call 133 [(3, 0, sa_m27)]) (sf_tc 11599872 (sf_call 133 [(2, 1, sa_m24)]) (sf_tc 10551296 (sf_call 133 [(1, 0, sa_m20)]) (fun _ => none))))))
theorem sa_e40_0 : sf_okb (sf_fin 133 sa_h14 []) sa_b40 175 3 12 133 636 sa_l40 [] sa_t40_0 = true := by decide +kernel
theorem sa_i40 : (sa_m40.1, sa_m40.2.1, ([] : List Nat), sa_m40.2.2.1, [(1000, 1)], [(0, 0)]) ∈ sa_l40 := List.mem_cons_self
theorem sa_k40 (hS : ∀ ρ, en_SA E ρ ω mt_SB) (hX : sf_JX J) (hM : sf_MnA E ω J) : sf_Kok E ω J 3 12 133 sa_m40 := sf_K_of hS (sf_TS_k (q := 11272192) (nx := 133) (l := [(8, 11, sa_m39)]) hX (sf_fc ⟨(rfl : sa_m39.1 = 11272192), (sa_k39 hS hX hM)⟩ sf_fn) (sf_TS_k (q := 8978432) (nx := 133) (l := [(3, 1, sa_m28)]) hX (sf_fc ⟨(rfl : sa_m28.1 = 8978432), (sa_k28 hS hX hM)⟩ sf_fn) (sf_TS_k (q := 8912896) (nx := 133) (l := [(3, 0, sa_m27)]) hX (sf_fc ⟨(rfl : sa_m27.1 = 8912896), (sa_k27 hS hX hM)⟩ sf_fn) (sf_TS_k (q := 11599872) (nx := 133) (l := [(2, 1, sa_m24)]) hX (sf_fc ⟨(rfl : sa_m24.1 = 11599872), (sa_k24 hS hX hM)⟩ sf_fn) (sf_TS_k (q := 10551296) (nx := 133) (l := [(1, 0, sa_m20)]) hX (sf_fc ⟨(rfl : sa_m20.1 = 10551296), (sa_k20 hS hX hM)⟩ sf_fn) sf_TS_n))))) (sf_nL (by decide +kernel)) rfl sa_h14_n sa_h14_n (by decide +kernel) (by decide +kernel) (by decide +kernel) sa_i40 (sf_fc (sf_okb_t sa_h14_n sa_e40_0) sf_fn)
/-- X4_readSum -/
def sa_m41 : sf_M := (11272192, 10797393109417635305646112365449019323712835416606421597325627099147989536302644416794082378599529015638426756122393374244987512019397195176249485639477043669239808, sa_h14, sa_h14, [11, 12, 14, 20, 21, 22, 23, 24], [])
def sa_t41_0 : sf_T := (11272192, 10797393109417635305646112365449019323712835416606421597325627099147989536302644416794082378599529015638426756122393374244987512019397195176249485639477043669239808, [], sa_h14, [(1000, 1)], [(0, 2)])
def sa_t41_1 : sf_T := (11272215, 10797393109417635305646112365449817852584597605292845792251315392304436707113277599459439306862770646339453348877325678337394463479870576477201994572297579385587712, [], sa_h14, [(1000, 1), (1000, 5)], [(0, 1)])
def sa_t41_2 : sf_T := (11272218, 10797393109653319429384148755534094978299925171456149692958777168385030217788993144547390930995419509673680356400216820755633579912467774648326162469712616600111104, [], sa_h14, [(1000, 1), (1000, 4), (1000, 5), (1000, 6)], [(0, 0), (1, 3), (0, 1)])
def sa_t41_3 : sf_T := (11272304, 69561675416110215723407284709296019300093230856733850430331421929185998894445678606067099862451748018921199224450821835226499530342829430320160567441198787083670867893291008, [], sa_h14, [(1000, 1), (1000, 4), (1000, 5), (1000, 6), (1000, 7)], [(0, 0), (1, 3), (0, 0)])
def sa_l41 : List sf_T := [sa_t41_0, sa_t41_1, sa_t41_2, sa_t41_3]
noncomputable def sa_b41 : en_T := (sf_tc 11468800 (sf_call 133 [(3, 12, sa_m40)]) (sf_tc 10944512 (sf_call 133 [(1, 1, sa_m29)]) (sf_tc 8912896 (sf_call 133 [(3, 0, sa_m27)]) (sf_tc 10551296 (sf_call 133 [(1, 0, sa_m20)]) (fun _ => none)))))
theorem sa_e41_0 : sf_okb (sf_fin 133 sa_h14 []) sa_b41 172 8 13 133 46 sa_l41 [1] sa_t41_0 = true := by decide +kernel
theorem sa_e41_1 : sf_okb (sf_fin 133 sa_h14 []) sa_b41 172 8 13 133 24 sa_l41 [2] sa_t41_1 = true := by decide +kernel
theorem sa_e41_2 : sf_okb (sf_fin 133 sa_h14 []) sa_b41 172 8 13 133 278 sa_l41 [3] sa_t41_2 = true := by decide +kernel
theorem sa_e41_3 : sf_okb (sf_fin 133 sa_h14 []) sa_b41 172 8 13 133 24 sa_l41 [2] sa_t41_3 = true := by decide +kernel
theorem sa_i41 : (sa_m41.1, sa_m41.2.1, ([] : List Nat), sa_m41.2.2.1, [(1000, 1)], [(0, 2)]) ∈ sa_l41 := List.mem_cons_self
theorem sa_k41 (hS : ∀ ρ, en_SA E ρ ω mt_SB) (hX : sf_JX J) (hM : sf_MnA E ω J) : sf_Kok E ω J 8 13 133 sa_m41 := sf_K_of hS (sf_TS_k (q := 11468800) (nx := 133) (l := [(3, 12, sa_m40)]) hX (sf_fc ⟨(rfl : sa_m40.1 = 11468800), (sa_k40 hS hX hM)⟩ sf_fn) (sf_TS_k (q := 10944512) (nx := 133) (l := [(1, 1, sa_m29)]) hX (sf_fc ⟨(rfl : sa_m29.1 = 10944512), (sa_k29 hS hX hM)⟩ sf_fn) (sf_TS_k (q := 8912896) (nx := 133) (l := [(3, 0, sa_m27)]) hX (sf_fc ⟨(rfl : sa_m27.1 = 8912896), (sa_k27 hS hX hM)⟩ sf_fn) (sf_TS_k (q := 10551296) (nx := 133) (l := [(1, 0, sa_m20)]) hX (sf_fc ⟨(rfl : sa_m20.1 = 10551296), (sa_k20 hS hX hM)⟩ sf_fn) sf_TS_n)))) (sf_nL (by decide +kernel)) rfl sa_h14_n sa_h14_n (by decide +kernel) (by decide +kernel) (by decide +kernel) sa_i41 (sf_fc (sf_okb_t sa_h14_n sa_e41_0) (sf_fc (sf_okb_t sa_h14_n sa_e41_1) (sf_fc (sf_okb_t sa_h14_n sa_e41_2) (sf_fc (sf_okb_t sa_h14_n sa_e41_3) sf_fn))))
/-- X4_readUnit -/
def sa_m42 : sf_M := (11468800, 803469022223031242565603350805084495370166267955021007028992, sa_h14, sa_h14, [11, 12, 14, 20, 21, 22, 23, 24], [])
def sa_t42_0 : sf_T := (11468800, 803469022223031242565603350805084495370166267955021007028992, [], sa_h14, [(1000, 1)], [(0, 0)])
def sa_l42 : List sf_T := [sa_t42_0]
noncomputable def sa_b42 : en_T := (sf_tc 11272192 (sf_call 133 [(8, 13, sa_m41)]) (sf_tc 8978432 (sf_call 133 [(3, 1, sa_m28)]) (sf_tc 8912896 (sf_call 133 [(3, 0, sa_m27)]) (sf_tc 11599872 (sf_call 133 [(2, 1, sa_m24)]) (sf_tc 10551296 (sf_call 133 [(1, 0, sa_m20)]) (fun _ => none))))))
theorem sa_e42_0 : sf_okb (sf_fin 133 sa_h14 []) sa_b42 175 3 14 133 636 sa_l42 [] sa_t42_0 = true := by decide +kernel
theorem sa_i42 : (sa_m42.1, sa_m42.2.1, ([] : List Nat), sa_m42.2.2.1, [(1000, 1)], [(0, 0)]) ∈ sa_l42 := List.mem_cons_self
theorem sa_k42 (hS : ∀ ρ, en_SA E ρ ω mt_SB) (hX : sf_JX J) (hM : sf_MnA E ω J) : sf_Kok E ω J 3 14 133 sa_m42 := sf_K_of hS (sf_TS_k (q := 11272192) (nx := 133) (l := [(8, 13, sa_m41)]) hX (sf_fc ⟨(rfl : sa_m41.1 = 11272192), (sa_k41 hS hX hM)⟩ sf_fn) (sf_TS_k (q := 8978432) (nx := 133) (l := [(3, 1, sa_m28)]) hX (sf_fc ⟨(rfl : sa_m28.1 = 8978432), (sa_k28 hS hX hM)⟩ sf_fn) (sf_TS_k (q := 8912896) (nx := 133) (l := [(3, 0, sa_m27)]) hX (sf_fc ⟨(rfl : sa_m27.1 = 8912896), (sa_k27 hS hX hM)⟩ sf_fn) (sf_TS_k (q := 11599872) (nx := 133) (l := [(2, 1, sa_m24)]) hX (sf_fc ⟨(rfl : sa_m24.1 = 11599872), (sa_k24 hS hX hM)⟩ sf_fn) (sf_TS_k (q := 10551296) (nx := 133) (l := [(1, 0, sa_m20)]) hX (sf_fc ⟨(rfl : sa_m20.1 = 10551296), (sa_k20 hS hX hM)⟩ sf_fn) sf_TS_n))))) (sf_nL (by decide +kernel)) rfl sa_h14_n sa_h14_n (by decide +kernel) (by decide +kernel) (by decide +kernel) sa_i42 (sf_fc (sf_okb_t sa_h14_n sa_e42_0) sf_fn)
/-- X4_readSum -/
def sa_m43 : sf_M := (11272192, 10797393109417635305646112365449019323712835416606421597325627099147989536302644416794082378599529015638426756122019229825830800872337051859074117186445124938237952, sa_h14, sa_h14, [11, 12, 14, 20, 21, 22, 23, 24], [])
def sa_t43_0 : sf_T := (11272192, 10797393109417635305646112365449019323712835416606421597325627099147989536302644416794082378599529015638426756122019229825830800872337051859074117186445124938237952, [], sa_h14, [(1000, 1)], [(0, 2)])
def sa_t43_1 : sf_T := (11272215, 10797393109417635305646112365449817852584597605292845792251315392304436707113277599459439306862770646339453348876951533918237752332810433160026626119265660654585856, [], sa_h14, [(1000, 1), (1000, 5)], [(0, 1)])
def sa_t43_2 : sf_T := (11272218, 10797393109653319429384148755534094978299925171456149692958777168385030217788993144547390930995419509673680356399842676336476868765407631331150794016680697869109248, [], sa_h14, [(1000, 1), (1000, 4), (1000, 5), (1000, 6)], [(0, 0), (1, 3), (0, 1)])
def sa_t43_3 : sf_T := (11272304, 69561675416110215723407284709296019300093230856733850430331421929185998894445678606067099862451748018921199224450821835226125385923672719173100424124023418630638949162289152, [], sa_h14, [(1000, 1), (1000, 4), (1000, 5), (1000, 6), (1000, 7)], [(0, 0), (1, 3), (0, 0)])
def sa_l43 : List sf_T := [sa_t43_0, sa_t43_1, sa_t43_2, sa_t43_3]
noncomputable def sa_b43 : en_T := (sf_tc 11468800 (sf_call 133 [(3, 14, sa_m42)]) (sf_tc 10944512 (sf_call 133 [(1, 1, sa_m29)]) (sf_tc 8912896 (sf_call 133 [(3, 0, sa_m27)]) (sf_tc 10551296 (sf_call 133 [(1, 0, sa_m20)]) (fun _ => none)))))
theorem sa_e43_0 : sf_okb (sf_fin 133 sa_h14 []) sa_b43 172 8 15 133 46 sa_l43 [1] sa_t43_0 = true := by decide +kernel
theorem sa_e43_1 : sf_okb (sf_fin 133 sa_h14 []) sa_b43 172 8 15 133 24 sa_l43 [2] sa_t43_1 = true := by decide +kernel
theorem sa_e43_2 : sf_okb (sf_fin 133 sa_h14 []) sa_b43 172 8 15 133 278 sa_l43 [3] sa_t43_2 = true := by decide +kernel
theorem sa_e43_3 : sf_okb (sf_fin 133 sa_h14 []) sa_b43 172 8 15 133 24 sa_l43 [2] sa_t43_3 = true := by decide +kernel
theorem sa_i43 : (sa_m43.1, sa_m43.2.1, ([] : List Nat), sa_m43.2.2.1, [(1000, 1)], [(0, 2)]) ∈ sa_l43 := List.mem_cons_self
theorem sa_k43 (hS : ∀ ρ, en_SA E ρ ω mt_SB) (hX : sf_JX J) (hM : sf_MnA E ω J) : sf_Kok E ω J 8 15 133 sa_m43 := sf_K_of hS (sf_TS_k (q := 11468800) (nx := 133) (l := [(3, 14, sa_m42)]) hX (sf_fc ⟨(rfl : sa_m42.1 = 11468800), (sa_k42 hS hX hM)⟩ sf_fn) (sf_TS_k (q := 10944512) (nx := 133) (l := [(1, 1, sa_m29)]) hX (sf_fc ⟨(rfl : sa_m29.1 = 10944512), (sa_k29 hS hX hM)⟩ sf_fn) (sf_TS_k (q := 8912896) (nx := 133) (l := [(3, 0, sa_m27)]) hX (sf_fc ⟨(rfl : sa_m27.1 = 8912896), (sa_k27 hS hX hM)⟩ sf_fn) (sf_TS_k (q := 10551296) (nx := 133) (l := [(1, 0, sa_m20)]) hX (sf_fc ⟨(rfl : sa_m20.1 = 10551296), (sa_k20 hS hX hM)⟩ sf_fn) sf_TS_n)))) (sf_nL (by decide +kernel)) rfl sa_h14_n sa_h14_n (by decide +kernel) (by decide +kernel) (by decide +kernel) sa_i43 (sf_fc (sf_okb_t sa_h14_n sa_e43_0) (sf_fc (sf_okb_t sa_h14_n sa_e43_1) (sf_fc (sf_okb_t sa_h14_n sa_e43_2) (sf_fc (sf_okb_t sa_h14_n sa_e43_3) sf_fn))))
/-- X4_word -/
def sa_m44 : sf_M := (11665408, 93536104794622304634503194109064771063624589378048, sa_h8, sa_h8, [20, 21, 22, 23, 24], [])
def sa_t44_0 : sf_T := (11665408, 93536104794622304634503194109064771063624589378048, [], sa_h8, [(1000, 1)], [(0, 0)])
def sa_l44 : List sf_T := [sa_t44_0]
noncomputable def sa_b44 : en_T := (sf_tc 10551296 (sf_call 133 [(1, 0, sa_m20)]) (fun _ => none))
theorem sa_e44_0 : sf_okb (sf_fin 133 sa_h8 []) sa_b44 178 2 1 133 166 sa_l44 [] sa_t44_0 = true := by decide +kernel
theorem sa_i44 : (sa_m44.1, sa_m44.2.1, ([] : List Nat), sa_m44.2.2.1, [(1000, 1)], [(0, 0)]) ∈ sa_l44 := List.mem_cons_self
theorem sa_k44 (hS : ∀ ρ, en_SA E ρ ω mt_SB) (hX : sf_JX J) (hM : sf_MnA E ω J) : sf_Kok E ω J 2 1 133 sa_m44 := sf_K_of hS (sf_TS_k (q := 10551296) (nx := 133) (l := [(1, 0, sa_m20)]) hX (sf_fc ⟨(rfl : sa_m20.1 = 10551296), (sa_k20 hS hX hM)⟩ sf_fn) sf_TS_n) (sf_nL (by decide +kernel)) rfl sa_h8_n sa_h8_n (by decide +kernel) (by decide +kernel) (by decide +kernel) sa_i44 (sf_fc (sf_okb_t sa_h8_n sa_e44_0) sf_fn)
def sa_h15 : en_H := (((((((0, 0), 0), 0), ((0, 0), (0, 0))), ((((((0, (0, 0)), sa_r6), sa_r7), ((((0, sa_r2), (sa_r3, (0, 0))), (((0, 0), sa_r17), (sa_r13, (sa_r14, (sa_r14, sa_r15))))), 0)), ((0, 0), 0)), (0, ((((0, 0), ((0, 0), ((0, 0), 0))), (((0, (0, 0)), ((0, 0), (0, 0))), (((0, 0), (0, 0)), ((0, 0), (0, 0))))), (((((0, 0), (0, 0)), ((0, 0), (0, 0))), (((0, 0), (0, 0)), ((0, 0), (0, 0)))), ((((0, 0), (0, 0)), ((0, 0), (0, (0, 0)))), ((((0, 0), (0, 0)), ((0, 0), 0)), (0, (0, (0, 0)))))))))), 0), ((((((0, 0), 0), (0, (0, 0))), (0, 0)), 0), ((((((((0, 0), 0), (0, 0)), (0, (0, 0))), 0), (0, (((0, 0), (0, 0)), ((0, 0), (0, 0))))), 0), (((0, 0), 0), (0, ((0, ((0, 0), (0, 0))), (((0, 0), (0, 0)), ((0, 0), ((0, 0), (0, 0))))))))))
theorem sa_h15_n : sf_nlh sa_h15 136 = true := by decide +kernel
/-- X4_readLaw -/
def sa_m45 : sf_M := (11075584, 123947994177030503561028935099706623557518250061135463897282557975803962203919153908727843111046373915848993314892572263936, sa_h15, sa_h15, [11, 12, 14, 15, 20, 21, 22, 23, 24], [])
def sa_t45_0 : sf_T := (11075584, 123947994177030503561028935099706623557518250061135463897282557975803962203919153908727843111046373915848993314892572263936, [], sa_h15, [(1000, 1), (12, 4)], [(0, 1)])
def sa_t45_1 : sf_T := (11075610, 123947994179736024616034430862311782534633637214155517380864059066229824823738035988273199889992885374685111195238821529088, [], sa_h15, [(1000, 1), (1000, 3), (1000, 4), (12, 4)], [(0, 0), (1, 2), (0, 1)])
def sa_t45_2 : sf_T := (11075653, 798528871927452682741664415831861137287601665682733622484815764974551215090967654405131545768057529122962831551078408284242173756928, [], sa_h15, [(1000, 1), (1000, 3), (1000, 4), (1000, 5), (12, 4)], [(0, 0), (1, 2), (0, 0)])
def sa_l45 : List sf_T := [sa_t45_0, sa_t45_1, sa_t45_2]
noncomputable def sa_b45 : en_T := (sf_tc 11665408 (sf_call 133 [(2, 1, sa_m44)]) (sf_tc 11272192 (sf_call 133 [(8, 15, sa_m43)]) (sf_tc 8912896 (sf_call 133 [(3, 0, sa_m27)]) (sf_tc 11599872 (sf_call 133 [(2, 1, sa_m24)]) (sf_tc 10551296 (sf_call 133 [(1, 0, sa_m20)]) (fun _ => none))))))
theorem sa_e45_0 : sf_okb (sf_fin 133 sa_h15 []) sa_b45 169 6 16 133 54 sa_l45 [1] sa_t45_0 = true := by decide +kernel
theorem sa_e45_1 : sf_okb (sf_fin 133 sa_h15 []) sa_b45 169 6 16 133 1262 sa_l45 [2] sa_t45_1 = true := by decide +kernel
theorem sa_e45_2 : sf_okb (sf_fin 133 sa_h15 []) sa_b45 169 6 16 133 112 sa_l45 [1] sa_t45_2 = true := by decide +kernel
theorem sa_i45 : (sa_m45.1, sa_m45.2.1, ([] : List Nat), sa_m45.2.2.1, [(1000, 1), (12, 4)], [(0, 1)]) ∈ sa_l45 := List.mem_cons_self
theorem sa_k45 (hS : ∀ ρ, en_SA E ρ ω mt_SB) (hX : sf_JX J) (hM : sf_MnA E ω J) : sf_Kok E ω J 6 16 133 sa_m45 := sf_K_of hS (sf_TS_k (q := 11665408) (nx := 133) (l := [(2, 1, sa_m44)]) hX (sf_fc ⟨(rfl : sa_m44.1 = 11665408), (sa_k44 hS hX hM)⟩ sf_fn) (sf_TS_k (q := 11272192) (nx := 133) (l := [(8, 15, sa_m43)]) hX (sf_fc ⟨(rfl : sa_m43.1 = 11272192), (sa_k43 hS hX hM)⟩ sf_fn) (sf_TS_k (q := 8912896) (nx := 133) (l := [(3, 0, sa_m27)]) hX (sf_fc ⟨(rfl : sa_m27.1 = 8912896), (sa_k27 hS hX hM)⟩ sf_fn) (sf_TS_k (q := 11599872) (nx := 133) (l := [(2, 1, sa_m24)]) hX (sf_fc ⟨(rfl : sa_m24.1 = 11599872), (sa_k24 hS hX hM)⟩ sf_fn) (sf_TS_k (q := 10551296) (nx := 133) (l := [(1, 0, sa_m20)]) hX (sf_fc ⟨(rfl : sa_m20.1 = 10551296), (sa_k20 hS hX hM)⟩ sf_fn) sf_TS_n))))) (sf_nL (by decide +kernel)) rfl sa_h15_n sa_h15_n (by decide +kernel) (by decide +kernel) (by decide +kernel) sa_i45 (sf_fc (sf_okb_t sa_h15_n sa_e45_0) (sf_fc (sf_okb_t sa_h15_n sa_e45_1) (sf_fc (sf_okb_t sa_h15_n sa_e45_2) sf_fn)))
def sa_h16 : en_H := (((((((0, 0), 0), 0), ((0, 0), (0, 0))), ((((((0, (0, 0)), sa_r6), sa_r7), ((((0, sa_r2), (sa_r3, (0, sa_r4))), (((sa_r5, sa_r16), sa_r17), (sa_r13, (sa_r14, (sa_r14, sa_r15))))), 0)), ((0, 0), 0)), (0, ((((0, 0), ((0, 0), ((0, 0), 0))), (((0, (0, 0)), ((0, 0), (0, 0))), (((0, 0), (0, 0)), ((0, 0), (0, 0))))), (((((0, 0), (0, 0)), ((0, 0), (0, 0))), (((0, 0), (0, 0)), ((0, 0), (0, 0)))), ((((0, 0), (0, 0)), ((0, 0), (0, (0, 0)))), ((((0, 0), (0, 0)), ((0, 0), 0)), (0, (0, (0, 0)))))))))), 0), ((((((0, 0), 0), (0, (0, 0))), (0, 0)), 0), ((((((((0, 0), 0), (0, 0)), (0, (0, 0))), 0), (0, (((0, 0), (0, 0)), ((0, 0), (0, 0))))), 0), (((0, 0), 0), (0, ((0, ((0, 0), (0, 0))), (((0, 0), (0, 0)), ((0, 0), ((0, 0), (0, 0))))))))))
theorem sa_h16_n : sf_nlh sa_h16 136 = true := by decide +kernel
/-- X4_readTell -/
def sa_m46 : sf_M := (11403264, 16333553616007998046963562849448302215680, sa_h16, sa_h16, [11, 12, 14, 15, 17, 18, 19, 20, 21, 22, 23, 24], [])
def sa_t46_0 : sf_T := (11403264, 16333553616007998046963562849448302215680, [], sa_h16, [], [(0, 1)])
def sa_t46_1 : sf_T := (11403282, 93536104794622304634503194109064771063624589378048, [], sa_h16, [(1000, 1)], [(0, 0)])
def sa_l46 : List sf_T := [sa_t46_0, sa_t46_1]
noncomputable def sa_b46 : en_T := (sf_tc 11075584 (sf_call 133 [(6, 16, sa_m45)]) (sf_tc 11206656 (sf_call 133 [(2, 2, sa_m26)]) (sf_tc 11141120 (sf_call 133 [(2, 2, sa_m25)]) (fun _ => none))))
theorem sa_e46_0 : sf_okb (sf_fin 133 sa_h16 []) sa_b46 174 2 17 133 104 sa_l46 [1] sa_t46_0 = true := by decide +kernel
theorem sa_e46_1 : sf_okb (sf_fin 133 sa_h16 []) sa_b46 174 2 17 133 178 sa_l46 [] sa_t46_1 = true := by decide +kernel
theorem sa_i46 : (sa_m46.1, sa_m46.2.1, ([] : List Nat), sa_m46.2.2.1, [], [(0, 1)]) ∈ sa_l46 := List.mem_cons_self
theorem sa_k46 (hS : ∀ ρ, en_SA E ρ ω mt_SB) (hX : sf_JX J) (hM : sf_MnA E ω J) : sf_Kok E ω J 2 17 133 sa_m46 := sf_K_of hS (sf_TS_k (q := 11075584) (nx := 133) (l := [(6, 16, sa_m45)]) hX (sf_fc ⟨(rfl : sa_m45.1 = 11075584), (sa_k45 hS hX hM)⟩ sf_fn) (sf_TS_k (q := 11206656) (nx := 133) (l := [(2, 2, sa_m26)]) hX (sf_fc ⟨(rfl : sa_m26.1 = 11206656), (sa_k26 hS hX hM)⟩ sf_fn) (sf_TS_k (q := 11141120) (nx := 133) (l := [(2, 2, sa_m25)]) hX (sf_fc ⟨(rfl : sa_m25.1 = 11141120), (sa_k25 hS hX hM)⟩ sf_fn) sf_TS_n))) (sf_nL (by decide +kernel)) rfl sa_h16_n sa_h16_n (by decide +kernel) (by decide +kernel) (by decide +kernel) sa_i46 (sf_fc (sf_okb_t sa_h16_n sa_e46_0) (sf_fc (sf_okb_t sa_h16_n sa_e46_1) sf_fn))
def sa_h17 : en_H := (((((((0, 0), 0), 0), ((0, 0), (0, 0))), ((((((0, (0, 0)), 0), sa_r7), ((((0, sa_r2), (sa_r3, (0, 0))), (((0, 0), 0), (0, (0, (0, 0))))), 0)), ((0, 0), 0)), (0, ((((0, 0), ((0, 0), ((0, 0), 0))), (((0, (0, 0)), ((0, 0), (0, 0))), (((0, 0), (0, 0)), ((0, 0), (0, 0))))), (((((0, 0), (0, 0)), ((0, 0), (0, 0))), (((0, 0), (0, 0)), ((0, 0), (0, 0)))), ((((0, 0), (0, 0)), ((0, 0), (0, (0, 0)))), ((((0, 0), (0, 0)), ((0, 0), 0)), (0, (0, (0, 0)))))))))), 0), ((((((0, 0), 0), (0, (0, 0))), (0, 0)), 0), ((((((((0, 0), 0), (0, 0)), (0, (0, 0))), 0), (0, (((0, 0), (0, 0)), ((0, 0), (0, 0))))), 0), (((0, 0), 0), (0, ((0, ((0, 0), (0, 0))), (((0, 0), (0, 0)), ((0, 0), ((0, 0), (0, 0))))))))))
theorem sa_h17_n : sf_nlh sa_h17 136 = true := by decide +kernel
/-- X1_setNumber -/
def sa_m47 : sf_M := (9371648, 27606985388769193193729097423383900024139093893293066405572831466226432, sa_h17, sa_h17, [12, 14, 15], [])
def sa_t47_0 : sf_T := (9371648, 27606985388769193193729097423383900024139093893293066405572831466226432, [], sa_h17, [(1000, 1), (1000, 2), (12, 4)], [(0, 0)])
def sa_l47 : List sf_T := [sa_t47_0]
noncomputable def sa_b47 : en_T := (sf_tc 8912896 (sf_call 133 [(3, 0, sa_m27)]) (fun _ => none))
theorem sa_e47_0 : sf_okb (sf_fin 133 sa_h17 []) sa_b47 143 3 1 133 50 sa_l47 [] sa_t47_0 = true := by decide +kernel
theorem sa_i47 : (sa_m47.1, sa_m47.2.1, ([] : List Nat), sa_m47.2.2.1, [(1000, 1), (1000, 2), (12, 4)], [(0, 0)]) ∈ sa_l47 := List.mem_cons_self
theorem sa_k47 (hS : ∀ ρ, en_SA E ρ ω mt_SB) (hX : sf_JX J) (hM : sf_MnA E ω J) : sf_Kok E ω J 3 1 133 sa_m47 := sf_K_of hS (sf_TS_k (q := 8912896) (nx := 133) (l := [(3, 0, sa_m27)]) hX (sf_fc ⟨(rfl : sa_m27.1 = 8912896), (sa_k27 hS hX hM)⟩ sf_fn) sf_TS_n) (sf_nL (by decide +kernel)) rfl sa_h17_n sa_h17_n (by decide +kernel) (by decide +kernel) (by decide +kernel) sa_i47 (sf_fc (sf_okb_t sa_h17_n sa_e47_0) sf_fn)
/-- X1_clear -/
def sa_m48 : sf_M := (8781824, 36893488198958711040, sa_h17, sa_h17, [12, 14, 15], [])
def sa_t48_0 : sf_T := (8781824, 36893488198958711040, [], sa_h17, [(12, 4)], [(0, 0)])
def sa_l48 : List sf_T := [sa_t48_0]
noncomputable def sa_b48 : en_T := (sf_tc 9371648 (sf_call 133 [(3, 1, sa_m47)]) (sf_tc 8912896 (sf_call 133 [(3, 0, sa_m27)]) (fun _ => none)))
theorem sa_e48_0 : sf_okb (sf_fin 133 sa_h17 []) sa_b48 134 1 2 133 120 sa_l48 [] sa_t48_0 = true := by decide +kernel
theorem sa_i48 : (sa_m48.1, sa_m48.2.1, ([] : List Nat), sa_m48.2.2.1, [(12, 4)], [(0, 0)]) ∈ sa_l48 := List.mem_cons_self
theorem sa_k48 (hS : ∀ ρ, en_SA E ρ ω mt_SB) (hX : sf_JX J) (hM : sf_MnA E ω J) : sf_Kok E ω J 1 2 133 sa_m48 := sf_K_of hS (sf_TS_k (q := 9371648) (nx := 133) (l := [(3, 1, sa_m47)]) hX (sf_fc ⟨(rfl : sa_m47.1 = 9371648), (sa_k47 hS hX hM)⟩ sf_fn) (sf_TS_k (q := 8912896) (nx := 133) (l := [(3, 0, sa_m27)]) hX (sf_fc ⟨(rfl : sa_m27.1 = 8912896), (sa_k27 hS hX hM)⟩ sf_fn) sf_TS_n)) (sf_nL (by decide +kernel)) rfl sa_h17_n sa_h17_n (by decide +kernel) (by decide +kernel) (by decide +kernel) sa_i48 (sf_fc (sf_okb_t sa_h17_n sa_e48_0) sf_fn)
def sa_h18 : en_H := (((((((0, 0), 0), 0), ((0, 0), (0, 0))), ((((((0, (0, 0)), sa_r6), sa_r7), ((((0, sa_r2), (sa_r3, (0, 0))), (((0, 0), 0), (0, (0, (0, 0))))), 0)), ((0, 0), 0)), (0, ((((0, 0), ((0, 0), ((0, 0), 0))), (((0, (0, 0)), ((0, 0), (0, 0))), (((0, 0), (0, 0)), ((0, 0), (0, 0))))), (((((0, 0), (0, 0)), ((0, 0), (0, 0))), (((0, 0), (0, 0)), ((0, 0), (0, 0)))), ((((0, 0), (0, 0)), ((0, 0), (0, (0, 0)))), ((((0, 0), (0, 0)), ((0, 0), 0)), (0, (0, (0, 0)))))))))), 0), ((((((0, 0), 0), (0, (0, 0))), (0, 0)), 0), ((((((((0, 0), 0), (0, 0)), (0, (0, 0))), 0), (0, (((0, 0), (0, 0)), ((0, 0), (0, 0))))), 0), (((0, 0), 0), (0, ((0, ((0, 0), (0, 0))), (((0, 0), (0, 0)), ((0, 0), ((0, 0), (0, 0))))))))))
theorem sa_h18_n : sf_nlh sa_h18 136 = true := by decide +kernel
/-- X6_clear -/
def sa_m49 : sf_M := (13238272, 36893488194663743744, sa_h18, sa_h18, [11, 12, 14, 15], [])
def sa_t49_0 : sf_T := (13238272, 36893488194663743744, [], sa_h18, [], [(0, 0)])
def sa_l49 : List sf_T := [sa_t49_0]
noncomputable def sa_b49 : en_T := (sf_tc 8781824 (sf_call 133 [(1, 2, sa_m48)]) (fun _ => none))
theorem sa_e49_0 : sf_okb (sf_fin 133 sa_h18 []) sa_b49 202 1 3 133 70 sa_l49 [] sa_t49_0 = true := by decide +kernel
theorem sa_i49 : (sa_m49.1, sa_m49.2.1, ([] : List Nat), sa_m49.2.2.1, [], [(0, 0)]) ∈ sa_l49 := List.mem_cons_self
theorem sa_k49 (hS : ∀ ρ, en_SA E ρ ω mt_SB) (hX : sf_JX J) (hM : sf_MnA E ω J) : sf_Kok E ω J 1 3 133 sa_m49 := sf_K_of hS (sf_TS_k (q := 8781824) (nx := 133) (l := [(1, 2, sa_m48)]) hX (sf_fc ⟨(rfl : sa_m48.1 = 8781824), (sa_k48 hS hX hM)⟩ sf_fn) sf_TS_n) (sf_nL (by decide +kernel)) rfl sa_h18_n sa_h18_n (by decide +kernel) (by decide +kernel) (by decide +kernel) sa_i49 (sf_fc (sf_okb_t sa_h18_n sa_e49_0) sf_fn)
def sa_h19 : en_H := (((((((0, sa_r12), 0), 0), ((0, 0), (0, 0))), ((((((0, (0, 0)), sa_r6), sa_r7), ((((0, sa_r2), (sa_r3, (0, sa_r4))), (((sa_r5, sa_r16), sa_r17), (sa_r13, (sa_r14, (sa_r14, sa_r15))))), 0)), ((0, 0), 0)), (0, ((((0, 0), ((0, 0), ((0, 0), 0))), (((0, (0, 0)), ((0, 0), (0, 0))), (((0, 0), (0, 0)), ((0, 0), (0, 0))))), (((((0, 0), (0, 0)), ((0, 0), (0, 0))), (((0, 0), (0, 0)), ((0, 0), (0, 0)))), ((((0, 0), (0, 0)), ((0, 0), (0, (0, 0)))), ((((0, 0), (0, 0)), ((0, 0), 0)), (0, (0, (0, 0)))))))))), 0), ((((((0, 0), 0), (0, (0, 0))), (0, 0)), 0), ((((((((0, 0), 0), (0, 0)), (0, (0, 0))), 0), (0, (((0, 0), (0, 0)), ((0, 0), (0, 0))))), 0), (((0, 0), 0), (0, ((0, ((0, 0), (0, 0))), (((0, 0), (0, 0)), ((0, 0), ((0, 0), (0, 0))))))))))
theorem sa_h19_n : sf_nlh sa_h19 136 = true := by decide +kernel
/-- X4_readTape -/
def sa_m50 : sf_M := (11337728, 4820814134004632201986566989785251775212489411200455716897536, sa_h19, sa_h19, [1, 11, 12, 14, 15, 17, 18, 19, 20, 21, 22, 23, 24], [73786976299133173759])
def sa_t50_0 : sf_T := (11337728, 4820814134004632201986566989785251775212489411200455716897536, [], sa_h19, [(1000, 1)], [(0, 1)])
def sa_t50_1 : sf_T := (11337774, 31057858561361006215723036717749312824899375879470365731678487574479616, [], sa_h19, [(1000, 1), (1000, 2)], [(0, 0), (1, 1), (0, 0)])
def sa_l50 : List sf_T := [sa_t50_0, sa_t50_1]
noncomputable def sa_b50 : en_T := (sf_tc 13238272 (sf_call 133 [(1, 3, sa_m49)]) (sf_tc 11403264 (sf_call 133 [(2, 17, sa_m46)]) (sf_tc 10551296 (sf_call 133 [(1, 0, sa_m20)]) (sf_tc 14286848 (sf_call 133 [(4, 11, sa_m18)]) (fun _ => none)))))
theorem sa_e50_0 : sf_okb (sf_fin 133 sa_h19 [73786976299133173759]) sa_b50 173 3 18 133 72 sa_l50 [1] sa_t50_0 = true := by decide +kernel
theorem sa_e50_1 : sf_okb (sf_fin 133 sa_h19 [73786976299133173759]) sa_b50 173 3 18 133 148 sa_l50 [1] sa_t50_1 = true := by decide +kernel
theorem sa_i50 : (sa_m50.1, sa_m50.2.1, ([] : List Nat), sa_m50.2.2.1, [(1000, 1)], [(0, 1)]) ∈ sa_l50 := List.mem_cons_self
theorem sa_k50 (hS : ∀ ρ, en_SA E ρ ω mt_SB) (hX : sf_JX J) (hM : sf_MnA E ω J) : sf_Kok E ω J 3 18 133 sa_m50 := sf_K_of hS (sf_TS_k (q := 13238272) (nx := 133) (l := [(1, 3, sa_m49)]) hX (sf_fc ⟨(rfl : sa_m49.1 = 13238272), (sa_k49 hS hX hM)⟩ sf_fn) (sf_TS_k (q := 11403264) (nx := 133) (l := [(2, 17, sa_m46)]) hX (sf_fc ⟨(rfl : sa_m46.1 = 11403264), (sa_k46 hS hX hM)⟩ sf_fn) (sf_TS_k (q := 10551296) (nx := 133) (l := [(1, 0, sa_m20)]) hX (sf_fc ⟨(rfl : sa_m20.1 = 10551296), (sa_k20 hS hX hM)⟩ sf_fn) (sf_TS_k (q := 14286848) (nx := 133) (l := [(4, 11, sa_m18)]) hX (sf_fc ⟨(rfl : sa_m18.1 = 14286848), (sa_k18 hS hX hM)⟩ sf_fn) sf_TS_n)))) (sf_nL (by decide +kernel)) rfl sa_h19_n sa_h19_n (by decide +kernel) (by decide +kernel) (by decide +kernel) sa_i50 (sf_fc (sf_okb_t sa_h19_n sa_e50_0) (sf_fc (sf_okb_t sa_h19_n sa_e50_1) sf_fn))
def sa_h20 : en_H := (((((((0, 0), 0), 0), ((0, 0), (0, 0))), ((((((0, (0, 0)), 0), 0), ((((0, 0), (0, (0, 0))), (((0, 0), 0), (0, (0, (0, 0))))), 0)), ((sa_r18, 0), 0)), (0, ((((0, 0), ((0, 0), ((0, 0), 0))), (((0, (0, 0)), ((0, 0), (0, 0))), (((0, 0), (0, 0)), ((0, 0), (0, 0))))), (((((0, 0), (0, 0)), ((0, 0), (0, 0))), (((0, 0), (0, 0)), ((0, 0), (0, 0)))), ((((0, 0), (0, 0)), ((0, 0), (0, (0, 0)))), ((((0, 0), (0, 0)), ((0, 0), 0)), (0, (0, (0, 0)))))))))), 0), ((((((0, 0), 0), (0, (0, 0))), (0, 0)), 0), ((((((((0, 0), 0), (0, 0)), (0, (0, 0))), 0), (0, (((0, 0), (0, 0)), ((0, 0), (0, 0))))), 0), (((0, 0), 0), (0, ((0, ((0, 0), (0, 0))), (((0, 0), (0, 0)), ((0, 0), ((0, 0), (0, 0))))))))))
theorem sa_h20_n : sf_nlh sa_h20 136 = true := by decide +kernel
/-- J7_fill_53178 -/
def sa_m51 : sf_M := (18808832, 1422853192879425234015608139717618233279169435311882902534235126048545484815991808, sa_h20, sa_h20, [26], [])
def sa_t51_0 : sf_T := (18808832, 1422853192879425234015608139717618233279169435311882902534235126048545484815991808, [], sa_h20, [(1000, 1)], [(0, 1)])
def sa_t51_1 : sf_T := (18808837, 237142201770635848602357939545388699727215342911569895564287977876464765704864768, [], sa_h20, [(1000, 1), (1000, 2)], [(0, 0), (1, 1), (0, 0)])
def sa_l51 : List sf_T := [sa_t51_0, sa_t51_1]
noncomputable def sa_b51 : en_T := (fun _ => none)
theorem sa_e51_0 : sf_okb (sf_fin 133 sa_h20 []) sa_b51 287 4 0 133 30 sa_l51 [1] sa_t51_0 = true := by decide +kernel
theorem sa_e51_1 : sf_okb (sf_fin 133 sa_h20 []) sa_b51 287 4 0 133 40 sa_l51 [1] sa_t51_1 = true := by decide +kernel
theorem sa_i51 : (sa_m51.1, sa_m51.2.1, ([] : List Nat), sa_m51.2.2.1, [(1000, 1)], [(0, 1)]) ∈ sa_l51 := List.mem_cons_self
theorem sa_k51 (hS : ∀ ρ, en_SA E ρ ω mt_SB) (hX : sf_JX J) (hM : sf_MnA E ω J) : sf_Kok E ω J 4 0 133 sa_m51 := sf_K_of hS sf_TS_n (sf_nL (by decide +kernel)) rfl sa_h20_n sa_h20_n (by decide +kernel) (by decide +kernel) (by decide +kernel) sa_i51 (sf_fc (sf_okb_t sa_h20_n sa_e51_0) (sf_fc (sf_okb_t sa_h20_n sa_e51_1) sf_fn))
def sa_h21 : en_H := (((((((0, 0), sa_r0), 0), ((0, 0), (0, 0))), ((((((0, (sa_r5, 0)), 0), 0), ((((0, 0), (0, (0, 0))), (((0, 0), 0), (0, (0, (0, 0))))), sa_r19)), ((sa_r18, 0), 0)), (0, ((((0, 0), ((0, 0), ((0, 0), 0))), (((0, (0, 0)), ((0, 0), (0, 0))), (((0, 0), (0, 0)), ((0, 0), (0, 0))))), (((((0, 0), (0, 0)), ((0, 0), (0, 0))), (((0, 0), (0, 0)), ((0, 0), (0, 0)))), ((((0, 0), (0, 0)), ((0, 0), (0, (0, 0)))), ((((0, 0), (0, 0)), ((0, 0), 0)), (0, (0, (0, 0)))))))))), 0), ((((((0, 0), 0), (0, (0, 0))), (0, 0)), 0), ((((((((0, 0), 0), (0, 0)), (0, (0, 0))), 0), (0, (((0, 0), (0, 0)), ((0, 0), (0, 0))))), 0), (((0, 0), 0), (0, ((0, ((0, 0), (0, 0))), (((0, 0), (0, 0)), ((0, 0), ((0, 0), (0, 0))))))))))
theorem sa_h21_n : sf_nlh sa_h21 136 = true := by decide +kernel
/-- X5_setOut -/
def sa_m52 : sf_M := (12713984, 4820814133992940188890642022838420953201779111507780763124480, sa_h21, sa_h21, [2, 9, 25, 26], [])
def sa_t52_0 : sf_T := (12713984, 4820814133992940188890642022838420953201779111507780763124480, [], sa_h21, [(1000, 1), (2, 4)], [(0, 2)])
def sa_t52_1 : sf_T := (12714062, 31057858561361006067176010299439062475075648138838379578314076412969728, [], sa_h21, [(1000, 1), (1000, 2), (2, 4)], [(0, 1), (1, 1), (0, 0)])
def sa_t52_2 : sf_T := (12714086, 31057858561361006067924299137752484769195934773189116484377913874973440, [], sa_h21, [(1000, 1), (1000, 2), (2, 4)], [(0, 0), (1, 1), (0, 0)])
def sa_l52 : List sf_T := [sa_t52_0, sa_t52_1, sa_t52_2]
noncomputable def sa_b52 : en_T := (sf_tc 18808832 (sf_call 133 [(4, 0, sa_m51)]) (fun _ => none))
theorem sa_e52_0 : sf_okb (sf_fin 133 sa_h21 []) sa_b52 194 3 1 133 108 sa_l52 [1] sa_t52_0 = true := by decide +kernel
theorem sa_e52_1 : sf_okb (sf_fin 133 sa_h21 []) sa_b52 194 3 1 133 48 sa_l52 [1, 2] sa_t52_1 = true := by decide +kernel
theorem sa_e52_2 : sf_okb (sf_fin 133 sa_h21 []) sa_b52 194 3 1 133 184 sa_l52 [2] sa_t52_2 = true := by decide +kernel
theorem sa_i52 : (sa_m52.1, sa_m52.2.1, ([] : List Nat), sa_m52.2.2.1, [(1000, 1), (2, 4)], [(0, 2)]) ∈ sa_l52 := List.mem_cons_self
theorem sa_k52 (hS : ∀ ρ, en_SA E ρ ω mt_SB) (hX : sf_JX J) (hM : sf_MnA E ω J) : sf_Kok E ω J 3 1 133 sa_m52 := sf_K_of hS (sf_TS_k (q := 18808832) (nx := 133) (l := [(4, 0, sa_m51)]) hX (sf_fc ⟨(rfl : sa_m51.1 = 18808832), (sa_k51 hS hX hM)⟩ sf_fn) sf_TS_n) (sf_nL (by decide +kernel)) rfl sa_h21_n sa_h21_n (by decide +kernel) (by decide +kernel) (by decide +kernel) sa_i52 (sf_fc (sf_okb_t sa_h21_n sa_e52_0) (sf_fc (sf_okb_t sa_h21_n sa_e52_1) (sf_fc (sf_okb_t sa_h21_n sa_e52_2) sf_fn)))
def sa_h22 : en_H := (((((((sa_r20, sa_r12), sa_r0), sa_r1), ((0, sa_r2), (sa_r3, 0))), ((((((sa_r4, (sa_r5, 0)), sa_r6), sa_r7), ((((0, sa_r2), (sa_r3, (0, sa_r4))), (((sa_r5, sa_r16), sa_r17), (sa_r13, (sa_r14, (sa_r14, sa_r15))))), sa_r19)), ((sa_r18, 0), 0)), (0, ((((0, sa_r8), ((sa_r9, sa_r5), ((0, 0), 0))), (((sa_r10, (0, 0)), ((0, 0), (0, 0))), (((0, 0), (0, 0)), ((0, 0), (0, 0))))), (((((0, 0), (0, 0)), ((0, 0), (0, 0))), (((0, 0), (0, 0)), ((0, 0), (0, 0)))), ((((0, 0), (0, 0)), ((0, 0), (0, (0, 0)))), ((((0, 0), (0, 0)), ((0, 0), sa_r11)), (sa_r21, (0, (0, 0)))))))))), 0), ((((((0, 0), 0), (0, (0, 0))), (0, 0)), 0), ((((((((0, 0), 0), (0, 0)), (0, (0, 0))), 0), (0, (((0, 0), (0, 0)), ((0, 0), (0, 0))))), 0), (((0, 0), 0), (0, ((0, ((0, 0), (0, 0))), (((0, 0), (0, 0)), ((0, 0), ((0, 0), (0, 0))))))))))
theorem sa_h22_n : sf_nlh sa_h22 136 = true := by decide +kernel
def sa_h23 : en_H := (((((((sa_r22, sa_r12), sa_r0), sa_r1), ((0, sa_r2), (sa_r3, 0))), ((((((sa_r4, (sa_r5, 0)), sa_r6), sa_r7), ((((0, sa_r2), (sa_r3, (0, sa_r4))), (((sa_r5, sa_r16), sa_r17), (sa_r13, (sa_r14, (sa_r14, sa_r15))))), sa_r19)), ((sa_r18, 0), 0)), (0, ((((0, sa_r8), ((sa_r9, sa_r5), ((0, 0), 0))), (((sa_r10, (0, 0)), ((0, 0), (0, 0))), (((0, 0), (0, 0)), ((0, 0), (0, 0))))), (((((0, 0), (0, 0)), ((0, 0), (0, 0))), (((0, 0), (0, 0)), ((0, 0), (0, 0)))), ((((0, 0), (0, 0)), ((0, 0), (0, (0, 0)))), ((((0, 0), (0, 0)), ((0, 0), sa_r11)), (sa_r21, (0, (0, 0)))))))))), 0), ((((((0, 0), 0), (0, (0, 0))), (0, 0)), 0), ((((((((0, 0), 0), (0, 0)), (0, (0, 0))), 0), (0, (((0, 0), (0, 0)), ((0, 0), (0, 0))))), 0), (((0, 0), 0), (0, ((0, ((0, 0), (0, 0))), (((0, 0), (0, 0)), ((0, 0), ((0, 0), (0, 0))))))))))
theorem sa_h23_n : sf_nlh sa_h23 136 = true := by decide +kernel
/-- X8_read -/
def sa_m53 : sf_M := (16580608, 16333553616007998046963562849362402869760, sa_h22, sa_h23, [0, 1, 2, 3, 5, 6, 8, 9, 11, 12, 14, 15, 17, 18, 19, 20, 21, 22, 23, 24, 25, 26, 31, 32, 33, 37, 83, 84], [73786976299133173759])
def sa_t53_0 : sf_T := (16580608, 16333553616007998046963562849362402869760, [], sa_h22, [], [(0, 1)])
def sa_t53_1 : sf_T := (16580620, 93536104794622304634503194109064771063538690032128, [], sa_h22, [(1000, 1)], [(0, 0)])
def sa_l53 : List sf_T := [sa_t53_0, sa_t53_1]
noncomputable def sa_b53 : en_T := (sf_tc 12713984 (sf_call 133 [(3, 1, sa_m52)]) (sf_tc 11337728 (sf_call 133 [(3, 18, sa_m50)]) (sf_tc 10027008 (sf_call 133 [(2, 0, sa_m6)]) (sf_tc 7602176 (sf_call 133 [(2, 2, sa_m5)]) (sf_tc 13172736 (sf_call 133 [(2, 2, sa_m1)]) (fun _ => none))))))
theorem sa_e53_0 : sf_okb (sf_fin 133 sa_h23 [73786976299133173759]) sa_b53 253 2 19 133 32 sa_l53 [1] sa_t53_0 = true := by decide +kernel
theorem sa_e53_1 : sf_okb (sf_fin 133 sa_h23 [73786976299133173759]) sa_b53 253 2 19 133 112 sa_l53 [] sa_t53_1 = true := by decide +kernel
theorem sa_i53 : (sa_m53.1, sa_m53.2.1, ([] : List Nat), sa_m53.2.2.1, [], [(0, 1)]) ∈ sa_l53 := List.mem_cons_self
theorem sa_k53 (hS : ∀ ρ, en_SA E ρ ω mt_SB) (hX : sf_JX J) (hM : sf_MnA E ω J) : sf_Kok E ω J 2 19 133 sa_m53 := sf_K_of hS (sf_TS_k (q := 12713984) (nx := 133) (l := [(3, 1, sa_m52)]) hX (sf_fc ⟨(rfl : sa_m52.1 = 12713984), (sa_k52 hS hX hM)⟩ sf_fn) (sf_TS_k (q := 11337728) (nx := 133) (l := [(3, 18, sa_m50)]) hX (sf_fc ⟨(rfl : sa_m50.1 = 11337728), (sa_k50 hS hX hM)⟩ sf_fn) (sf_TS_k (q := 10027008) (nx := 133) (l := [(2, 0, sa_m6)]) hX (sf_fc ⟨(rfl : sa_m6.1 = 10027008), (sa_k6 hS hX hM)⟩ sf_fn) (sf_TS_k (q := 7602176) (nx := 133) (l := [(2, 2, sa_m5)]) hX (sf_fc ⟨(rfl : sa_m5.1 = 7602176), (sa_k5 hS hX hM)⟩ sf_fn) (sf_TS_k (q := 13172736) (nx := 133) (l := [(2, 2, sa_m1)]) hX (sf_fc ⟨(rfl : sa_m1.1 = 13172736), (sa_k1 hS hX hM)⟩ sf_fn) sf_TS_n))))) (sf_nL (by decide +kernel)) rfl sa_h22_n sa_h23_n (by decide +kernel) (by decide +kernel) (by decide +kernel) sa_i53 (sf_fc (sf_okb_t sa_h22_n sa_e53_0) (sf_fc (sf_okb_t sa_h22_n sa_e53_1) sf_fn))
def sa_h24 : en_H := (((((((sa_r23, 0), 0), 0), ((0, 0), (0, 0))), ((((((0, (0, 0)), 0), 0), ((((0, 0), (0, (0, 0))), (((0, 0), 0), (0, (0, (0, 0))))), 0)), ((0, 0), 0)), (0, ((((0, 0), ((0, 0), ((0, 0), 0))), (((0, (0, 0)), ((0, 0), (0, 0))), (((0, 0), (0, 0)), ((0, 0), (0, 0))))), (((((0, 0), (0, 0)), ((0, 0), (0, 0))), (((0, 0), (0, 0)), ((0, 0), (0, 0)))), ((((0, 0), (0, 0)), ((0, 0), (0, (0, 0)))), ((((0, 0), (0, 0)), ((0, 0), 0)), (0, (0, (0, 0)))))))))), 0), ((((((0, 0), 0), (0, (0, 0))), (0, 0)), 0), ((((((((0, 0), 0), (0, 0)), (0, (0, 0))), 0), (0, (((0, 0), (0, 0)), ((0, 0), (0, 0))))), 0), (((0, 0), 0), (0, ((0, ((0, 0), (0, 0))), (((0, 0), (0, 0)), ((0, 0), ((0, 0), (0, 0))))))))))
theorem sa_h24_n : sf_nlh sa_h24 136 = true := by decide +kernel
/-- X8_place -/
def sa_m54 : sf_M := (16384000, 36893488147419103488, sa_h24, sa_h24, [0], [73786976299133173759])
def sa_t54_0 : sf_T := (16384000, 36893488147419103488, [], sa_h24, [], [(0, 0)])
def sa_l54 : List sf_T := [sa_t54_0]
noncomputable def sa_b54 : en_T := (fun _ => none)
theorem sa_e54_0 : sf_okb (sf_fin 133 sa_h24 [73786976299133173759]) sa_b54 250 1 0 133 26 sa_l54 [] sa_t54_0 = true := by decide +kernel
theorem sa_i54 : (sa_m54.1, sa_m54.2.1, ([] : List Nat), sa_m54.2.2.1, [], [(0, 0)]) ∈ sa_l54 := List.mem_cons_self
theorem sa_k54 (hS : ∀ ρ, en_SA E ρ ω mt_SB) (hX : sf_JX J) (hM : sf_MnA E ω J) : sf_Kok E ω J 1 0 133 sa_m54 := sf_K_of hS sf_TS_n (sf_nL (by decide +kernel)) rfl sa_h24_n sa_h24_n (by decide +kernel) (by decide +kernel) (by decide +kernel) sa_i54 (sf_fc (sf_okb_t sa_h24_n sa_e54_0) sf_fn)
def sa_h25 : en_H := (((((((0, 0), 0), 0), ((0, 0), (0, 0))), ((((((0, (0, 0)), 0), 0), ((((0, 0), (0, (0, 0))), (((0, 0), 0), (0, (0, (0, 0))))), sa_r19)), ((sa_r18, 0), 0)), (0, ((((0, 0), ((0, 0), ((0, 0), 0))), (((0, (0, 0)), ((0, 0), (0, 0))), (((0, 0), (0, 0)), ((0, 0), (0, 0))))), (((((0, 0), (0, 0)), ((0, 0), (0, 0))), (((0, 0), (0, 0)), ((0, 0), (0, 0)))), ((((0, 0), (0, 0)), ((0, 0), (0, (0, 0)))), ((((0, 0), (0, 0)), ((0, 0), 0)), (0, (0, (0, 0)))))))))), 0), ((((((0, 0), 0), (0, (0, 0))), (0, 0)), 0), ((((((((0, 0), 0), (0, 0)), (0, (0, 0))), 0), (0, (((0, 0), (0, 0)), ((0, 0), (0, 0))))), 0), (((0, 0), 0), (0, ((0, ((0, 0), (0, 0))), (((0, 0), (0, 0)), ((0, 0), ((0, 0), (0, 0))))))))))
theorem sa_h25_n : sf_nlh sa_h25 136 = true := by decide +kernel
/-- X5_postOf -/
def sa_m55 : sf_M := (12451840, 4820814133992940188890642022838420953201779111507780763124480, sa_h25, sa_h25, [25, 26], [83010348325250531331])
def sa_t55_0 : sf_T := (12451840, 4820814133992940188890642022838420953201779111507780763124480, [], sa_h25, [(1000, 1)], [(0, 1)])
def sa_t55_1 : sf_T := (12451842, 31057858561361006067176010299439062475075648138838379578314076412969728, [], sa_h25, [(1000, 1), (1000, 2)], [(0, 0), (1, 1), (0, 0)])
def sa_l55 : List sf_T := [sa_t55_0, sa_t55_1]
noncomputable def sa_b55 : en_T := (fun _ => none)
theorem sa_e55_0 : sf_okb (sf_fin 133 sa_h25 [83010348325250531331]) sa_b55 190 3 0 133 24 sa_l55 [1] sa_t55_0 = true := by decide +kernel
theorem sa_e55_1 : sf_okb (sf_fin 133 sa_h25 [83010348325250531331]) sa_b55 190 3 0 133 54 sa_l55 [1] sa_t55_1 = true := by decide +kernel
theorem sa_i55 : (sa_m55.1, sa_m55.2.1, ([] : List Nat), sa_m55.2.2.1, [(1000, 1)], [(0, 1)]) ∈ sa_l55 := List.mem_cons_self
theorem sa_k55 (hS : ∀ ρ, en_SA E ρ ω mt_SB) (hX : sf_JX J) (hM : sf_MnA E ω J) : sf_Kok E ω J 3 0 133 sa_m55 := sf_K_of hS sf_TS_n (sf_nL (by decide +kernel)) rfl sa_h25_n sa_h25_n (by decide +kernel) (by decide +kernel) (by decide +kernel) sa_i55 (sf_fc (sf_okb_t sa_h25_n sa_e55_0) (sf_fc (sf_okb_t sa_h25_n sa_e55_1) sf_fn))
def sa_h26 : en_H := (((((((sa_r23, 0), sa_r0), 0), ((0, 0), (0, 0))), ((((((sa_r4, (0, 0)), 0), 0), ((((0, 0), (0, (0, 0))), (((0, 0), 0), (0, (0, (0, 0))))), sa_r19)), ((sa_r18, 0), 0)), (0, ((((0, 0), ((0, 0), ((0, 0), 0))), (((0, (0, 0)), ((0, 0), (0, 0))), (((0, 0), (0, 0)), ((0, 0), (0, 0))))), (((((0, 0), (0, 0)), ((0, 0), (0, 0))), (((0, 0), (0, 0)), ((0, 0), (0, 0)))), ((((0, 0), (0, 0)), ((0, 0), (0, (0, 0)))), ((((0, 0), (0, 0)), ((0, 0), 0)), (0, (0, (0, 0)))))))))), 0), ((((((0, 0), 0), (0, (0, 0))), (0, 0)), 0), ((((((((0, 0), 0), (0, 0)), (0, (0, 0))), 0), (0, (((0, 0), (0, 0)), ((0, 0), (0, 0))))), 0), (((0, 0), 0), (0, ((0, ((0, 0), (0, 0))), (((0, 0), (0, 0)), ((0, 0), ((0, 0), (0, 0))))))))))
theorem sa_h26_n : sf_nlh sa_h26 136 = true := by decide +kernel
/-- X8_man -/
def sa_m56 : sf_M := (15990784, 27606985388769193193717405410287975059719958368137445532464509689529088, sa_h26, sa_h26, [0, 2, 8, 25, 26], [73786976299133173759])
def sa_t56_0 : sf_T := (15990784, 27606985388769193193717405410287975059719958368137445532464509689529088, [], sa_h26, [(1000, 1), (1000, 2), (2, 4)], [(0, 0)])
def sa_l56 : List sf_T := [sa_t56_0]
noncomputable def sa_b56 : en_T := (sf_tc 12451840 (sf_call 133 [(3, 0, sa_m55)]) (fun _ => none))
theorem sa_e56_0 : sf_okb (sf_fin 133 sa_h26 [73786976299133173759]) sa_b56 244 3 2 133 584 sa_l56 [] sa_t56_0 = true := by decide +kernel
theorem sa_i56 : (sa_m56.1, sa_m56.2.1, ([] : List Nat), sa_m56.2.2.1, [(1000, 1), (1000, 2), (2, 4)], [(0, 0)]) ∈ sa_l56 := List.mem_cons_self
theorem sa_k56 (hS : ∀ ρ, en_SA E ρ ω mt_SB) (hX : sf_JX J) (hM : sf_MnA E ω J) : sf_Kok E ω J 3 2 133 sa_m56 := sf_K_of hS (sf_TS_k (q := 12451840) (nx := 133) (l := [(3, 0, sa_m55)]) hX (sf_fc ⟨(rfl : sa_m55.1 = 12451840), (sa_k55 hS hX hM)⟩ sf_fn) sf_TS_n) (sf_nL (by decide +kernel)) rfl sa_h26_n sa_h26_n (by decide +kernel) (by decide +kernel) (by decide +kernel) sa_i56 (sf_fc (sf_okb_t sa_h26_n sa_e56_0) sf_fn)
def sa_h27 : en_H := (((((((sa_r23, 0), 0), 0), ((0, 0), (0, 0))), ((((((0, (0, 0)), 0), 0), ((((0, 0), (0, (0, 0))), (((0, 0), 0), (0, (0, (0, 0))))), sa_r19)), ((sa_r18, 0), 0)), (0, ((((0, 0), ((0, 0), ((0, 0), 0))), (((0, (0, 0)), ((0, 0), (0, 0))), (((0, 0), (0, 0)), ((0, 0), (0, 0))))), (((((0, 0), (0, 0)), ((0, 0), (0, 0))), (((0, 0), (0, 0)), ((0, 0), (0, 0)))), ((((0, 0), (0, 0)), ((0, 0), (0, (0, 0)))), ((((0, 0), (0, 0)), ((0, 0), 0)), (0, (0, (0, 0)))))))))), 0), ((((((0, 0), 0), (0, (0, 0))), (0, 0)), 0), ((((((((0, 0), 0), (0, 0)), (0, (0, 0))), 0), (0, (((0, 0), (0, 0)), ((0, 0), (0, 0))))), 0), (((0, 0), 0), (0, ((0, ((0, 0), (0, 0))), (((0, 0), (0, 0)), ((0, 0), ((0, 0), (0, 0))))))))))
theorem sa_h27_n : sf_nlh sa_h27 136 = true := by decide +kernel
/-- X8_post -/
def sa_m57 : sf_M := (16449536, 93536104794622304634503194109064771063538690032128, sa_h27, sa_h27, [0, 25, 26], [73786976299133173759])
def sa_t57_0 : sf_T := (16449536, 93536104794622304634503194109064771063538690032128, [], sa_h27, [(1000, 1)], [(0, 0)])
def sa_l57 : List sf_T := [sa_t57_0]
noncomputable def sa_b57 : en_T := (fun _ => none)
theorem sa_e57_0 : sf_okb (sf_fin 133 sa_h27 [73786976299133173759]) sa_b57 251 2 1 133 80 sa_l57 [] sa_t57_0 = true := by decide +kernel
theorem sa_i57 : (sa_m57.1, sa_m57.2.1, ([] : List Nat), sa_m57.2.2.1, [(1000, 1)], [(0, 0)]) ∈ sa_l57 := List.mem_cons_self
theorem sa_k57 (hS : ∀ ρ, en_SA E ρ ω mt_SB) (hX : sf_JX J) (hM : sf_MnA E ω J) : sf_Kok E ω J 2 1 133 sa_m57 := sf_K_of hS sf_TS_n (sf_nL (by decide +kernel)) rfl sa_h27_n sa_h27_n (by decide +kernel) (by decide +kernel) (by decide +kernel) sa_i57 (sf_fc (sf_okb_t sa_h27_n sa_e57_0) sf_fn)
/-- X8_within -/
def sa_m58 : sf_M := (17891328, 803469023251928395243836746286695673144989356941050346734336, sa_h0, sa_h0, [], [83010348333840465923])
def sa_t58_0 : sf_T := (17891328, 803469023251928395243836746286695673144989356941050346734336, [], sa_h0, [(1000, 0)], [(0, 0)])
def sa_l58 : List sf_T := [sa_t58_0]
noncomputable def sa_b58 : en_T := (fun _ => none)
theorem sa_e58_0 : sf_okb (sf_fin 133 sa_h0 [83010348333840465923]) sa_b58 273 3 1 133 58 sa_l58 [] sa_t58_0 = true := by decide +kernel
theorem sa_i58 : (sa_m58.1, sa_m58.2.1, ([] : List Nat), sa_m58.2.2.1, [(1000, 0)], [(0, 0)]) ∈ sa_l58 := List.mem_cons_self
theorem sa_k58 (hS : ∀ ρ, en_SA E ρ ω mt_SB) (hX : sf_JX J) (hM : sf_MnA E ω J) : sf_Kok E ω J 3 1 133 sa_m58 := sf_K_of hS sf_TS_n (sf_nL (by decide +kernel)) rfl sa_h0_n sa_h0_n (by decide +kernel) (by decide +kernel) (by decide +kernel) sa_i58 (sf_fc (sf_okb_t sa_h0_n sa_e58_0) sf_fn)
/-- X8_within -/
def sa_m59 : sf_M := (17891328, 803469025496794910184103628647555576197200075132562732745472, sa_h0, sa_h0, [], [83010348333840465929])
def sa_t59_0 : sf_T := (17891328, 803469025496794910184103628647555576197200075132562732745472, [], sa_h0, [(1000, 0)], [(0, 0)])
def sa_l59 : List sf_T := [sa_t59_0]
noncomputable def sa_b59 : en_T := (fun _ => none)
theorem sa_e59_0 : sf_okb (sf_fin 133 sa_h0 [83010348333840465929]) sa_b59 273 3 1 133 58 sa_l59 [] sa_t59_0 = true := by decide +kernel
theorem sa_i59 : (sa_m59.1, sa_m59.2.1, ([] : List Nat), sa_m59.2.2.1, [(1000, 0)], [(0, 0)]) ∈ sa_l59 := List.mem_cons_self
theorem sa_k59 (hS : ∀ ρ, en_SA E ρ ω mt_SB) (hX : sf_JX J) (hM : sf_MnA E ω J) : sf_Kok E ω J 3 1 133 sa_m59 := sf_K_of hS sf_TS_n (sf_nL (by decide +kernel)) rfl sa_h0_n sa_h0_n (by decide +kernel) (by decide +kernel) (by decide +kernel) sa_i59 (sf_fc (sf_okb_t sa_h0_n sa_e59_0) sf_fn)
/-- X8_within -/
def sa_m60 : sf_M := (17891328, 803469025496794910184103628636146720795146010519092403897088, sa_h0, sa_h0, [], [83010348295185760265])
def sa_t60_0 : sf_T := (17891328, 803469025496794910184103628636146720795146010519092403897088, [], sa_h0, [(1000, 0)], [(0, 0)])
def sa_l60 : List sf_T := [sa_t60_0]
noncomputable def sa_b60 : en_T := (fun _ => none)
theorem sa_e60_0 : sf_okb (sf_fin 133 sa_h0 [83010348295185760265]) sa_b60 273 3 1 133 58 sa_l60 [] sa_t60_0 = true := by decide +kernel
theorem sa_i60 : (sa_m60.1, sa_m60.2.1, ([] : List Nat), sa_m60.2.2.1, [(1000, 0)], [(0, 0)]) ∈ sa_l60 := List.mem_cons_self
theorem sa_k60 (hS : ∀ ρ, en_SA E ρ ω mt_SB) (hX : sf_JX J) (hM : sf_MnA E ω J) : sf_Kok E ω J 3 1 133 sa_m60 := sf_K_of hS sf_TS_n (sf_nL (by decide +kernel)) rfl sa_h0_n sa_h0_n (by decide +kernel) (by decide +kernel) (by decide +kernel) sa_i60 (sf_fc (sf_okb_t sa_h0_n sa_e60_0) sf_fn)
/-- X8_within -/
def sa_m61 : sf_M := (17891328, 803469029238239101751215099237579892548830540838279713915648, sa_h0, sa_h0, [], [83010348295185760275])
def sa_t61_0 : sf_T := (17891328, 803469029238239101751215099237579892548830540838279713915648, [], sa_h0, [(1000, 0)], [(0, 0)])
def sa_l61 : List sf_T := [sa_t61_0]
noncomputable def sa_b61 : en_T := (fun _ => none)
theorem sa_e61_0 : sf_okb (sf_fin 133 sa_h0 [83010348295185760275]) sa_b61 273 3 1 133 58 sa_l61 [] sa_t61_0 = true := by decide +kernel
theorem sa_i61 : (sa_m61.1, sa_m61.2.1, ([] : List Nat), sa_m61.2.2.1, [(1000, 0)], [(0, 0)]) ∈ sa_l61 := List.mem_cons_self
theorem sa_k61 (hS : ∀ ρ, en_SA E ρ ω mt_SB) (hX : sf_JX J) (hM : sf_MnA E ω J) : sf_Kok E ω J 3 1 133 sa_m61 := sf_K_of hS sf_TS_n (sf_nL (by decide +kernel)) rfl sa_h0_n sa_h0_n (by decide +kernel) (by decide +kernel) (by decide +kernel) sa_i61 (sf_fc (sf_okb_t sa_h0_n sa_e61_0) sf_fn)
def sa_h28 : en_H := (((((((0, 0), 0), sa_r1), ((sa_r24, sa_r2), (0, sa_r25))), ((((((0, (0, 0)), 0), 0), ((((0, 0), (0, (0, 0))), (((0, 0), 0), (0, (0, (0, 0))))), 0)), ((0, 0), 0)), (0, ((((0, 0), ((0, 0), ((0, 0), 0))), (((0, (0, 0)), ((0, 0), (0, 0))), (((0, 0), (0, 0)), ((0, 0), (0, 0))))), (((((0, 0), (0, 0)), ((0, 0), (0, 0))), (((0, 0), (0, 0)), ((0, 0), (0, 0)))), ((((0, 0), (0, 0)), ((0, 0), (0, (0, 0)))), ((((0, 0), (0, 0)), ((0, 0), 0)), (0, (0, (0, 0)))))))))), 0), ((((((0, 0), 0), (0, (0, 0))), (0, 0)), 0), ((((((((0, 0), 0), (0, 0)), (0, (0, 0))), 0), (0, (((0, 0), (0, 0)), ((0, 0), (0, 0))))), 0), (((0, 0), 0), (0, ((0, ((0, 0), (0, 0))), (((0, 0), (0, 0)), ((0, 0), ((0, 0), (0, 0))))))))))
theorem sa_h28_n : sf_nlh sa_h28 136 = true := by decide +kernel
/-- X1_run -/
def sa_m62 : sf_M := (9240576, 10797393109417635305646112365449019323712835416606421597325627099147989536302644416794082378599529015642444101233789138772155839544370388316905730029997790205052928, sa_h28, sa_h28, [3, 4, 5, 7], [73786976299133173759])
def sa_t62_0 : sf_T := (9240576, 10797393109417635305646112365449019323712835416606421597325627099147989536302644416794082378599529015642444101233789138772155839544370388316905730029997790205052928, [], sa_h28, [(1000, 1), (3, 4)], [(0, 1)])
def sa_t62_1 : sf_T := (9240583, 10797393109417635305646112365449019323712835416606424302846682104643766091083987470741954120825517190491128485070147419137245740309530501903910945774939408600926208, [], sa_h28, [(1000, 1), (1000, 2), (1000, 3), (1000, 4), (3, 4)], [(0, 0), (1, 3), (0, 3)])
def sa_t62_2 : sf_T := (9240622, 10797393109417635305646112365449817852584638921290974845353157575434292855644440285825682239150756833865692099721302888674075309720676425772335284422529739898488832, [], sa_h28, [(1000, 1), (1000, 2), (1000, 3), (1000, 4), (1000, 5), (3, 4)], [(0, 0), (1, 3), (0, 2)])
def sa_t62_3 : sf_T := (9240632, 10797393109627132304527076784569961448806817681010247640038002728122377769825766340356609909591559211990588231796804370266150450653993426549803353237736847784806400, [], sa_h28, [(1000, 1), (1000, 2), (1000, 3), (1000, 4), (1000, 5), (1000, 6), (3, 4)], [(0, 0), (1, 3), (0, 1)])
def sa_t62_4 : sf_T := (9240772, 61832600371875264550131696364456363406161721500366966002365301157302739722972522265160002107283544782845151421168396046786532115197232342476125600166404111787129012813301760, [], sa_h28, [(1000, 1), (1000, 2), (1000, 3), (1000, 4), (1000, 5), (1000, 6), (1000, 7), (3, 4)], [(0, 0), (1, 3), (0, 0)])
def sa_l62 : List sf_T := [sa_t62_0, sa_t62_1, sa_t62_2, sa_t62_3, sa_t62_4]
noncomputable def sa_b62 : en_T := (sf_tc 9240772 (sf_spl 8 (1000, 7) [2147483648, 2147483649]) (fun _ => none))
theorem sa_e62_0 : sf_okb (sf_fin 133 sa_h28 [73786976299133173759]) sa_b62 141 8 0 133 32 sa_l62 [1] sa_t62_0 = true := by decide +kernel
theorem sa_e62_1 : sf_okb (sf_fin 133 sa_h28 [73786976299133173759]) sa_b62 141 8 0 133 74 sa_l62 [2] sa_t62_1 = true := by decide +kernel
theorem sa_e62_2 : sf_okb (sf_fin 133 sa_h28 [73786976299133173759]) sa_b62 141 8 0 133 34 sa_l62 [3] sa_t62_2 = true := by decide +kernel
theorem sa_e62_3 : sf_okb (sf_fin 133 sa_h28 [73786976299133173759]) sa_b62 141 8 0 133 214 sa_l62 [1, 4] sa_t62_3 = true := by decide +kernel
theorem sa_e62_4 : sf_okb (sf_fin 133 sa_h28 [73786976299133173759]) sa_b62 141 8 0 133 372 sa_l62 [1] sa_t62_4 = true := by decide +kernel
theorem sa_i62 : (sa_m62.1, sa_m62.2.1, ([] : List Nat), sa_m62.2.2.1, [(1000, 1), (3, 4)], [(0, 1)]) ∈ sa_l62 := List.mem_cons_self
theorem sa_k62 (hS : ∀ ρ, en_SA E ρ ω mt_SB) (hX : sf_JX J) (hM : sf_MnA E ω J) : sf_Kok E ω J 8 0 133 sa_m62 := sf_K_of hS (sf_TS_s (sf_nL (by decide +kernel)) sf_TS_n) (sf_nL (by decide +kernel)) rfl sa_h28_n sa_h28_n (by decide +kernel) (by decide +kernel) (by decide +kernel) sa_i62 (sf_fc (sf_okb_t sa_h28_n sa_e62_0) (sf_fc (sf_okb_t sa_h28_n sa_e62_1) (sf_fc (sf_okb_t sa_h28_n sa_e62_2) (sf_fc (sf_okb_t sa_h28_n sa_e62_3) (sf_fc (sf_okb_t sa_h28_n sa_e62_4) sf_fn)))))
/-- X8_within -/
def sa_m63 : sf_M := (17891328, 803469059169792634288106864060454121980360848005248522912512, sa_h0, sa_h0, [], [83010348333840466019])
def sa_t63_0 : sf_T := (17891328, 803469059169792634288106864060454121980360848005248522912512, [], sa_h0, [(1000, 0)], [(0, 0)])
def sa_l63 : List sf_T := [sa_t63_0]
noncomputable def sa_b63 : en_T := (fun _ => none)
theorem sa_e63_0 : sf_okb (sf_fin 133 sa_h0 [83010348333840466019]) sa_b63 273 3 1 133 58 sa_l63 [] sa_t63_0 = true := by decide +kernel
theorem sa_i63 : (sa_m63.1, sa_m63.2.1, ([] : List Nat), sa_m63.2.2.1, [(1000, 0)], [(0, 0)]) ∈ sa_l63 := List.mem_cons_self
theorem sa_k63 (hS : ∀ ρ, en_SA E ρ ω mt_SB) (hX : sf_JX J) (hM : sf_MnA E ω J) : sf_Kok E ω J 3 1 133 sa_m63 := sf_K_of hS sf_TS_n (sf_nL (by decide +kernel)) rfl sa_h0_n sa_h0_n (by decide +kernel) (by decide +kernel) (by decide +kernel) sa_i63 (sf_fc (sf_okb_t sa_h0_n sa_e63_0) sf_fn)
def sa_h29 : en_H := (((((((0, 0), 0), sa_r1), ((sa_r24, sa_r2), (sa_r3, sa_r25))), ((((((0, (0, 0)), 0), 0), ((((0, 0), (0, (0, 0))), (((0, 0), 0), (0, (0, (0, 0))))), 0)), ((0, 0), 0)), (0, ((((0, 0), ((0, 0), ((0, 0), 0))), (((0, (0, 0)), ((0, 0), (0, 0))), (((0, 0), (0, 0)), ((0, 0), (0, 0))))), (((((0, 0), (0, 0)), ((0, 0), (0, 0))), (((0, 0), (0, 0)), ((0, 0), (0, 0)))), ((((0, 0), (0, 0)), ((0, 0), (0, (0, 0)))), ((((0, 0), (0, 0)), ((0, 0), 0)), (0, (0, (0, 0)))))))))), 0), ((((((0, 0), 0), (0, (0, 0))), (0, 0)), 0), ((((((((0, 0), 0), (0, 0)), (0, (0, 0))), 0), (0, (((0, 0), (0, 0)), ((0, 0), (0, 0))))), 0), (((0, 0), 0), (0, ((0, ((0, 0), (0, 0))), (((0, 0), (0, 0)), ((0, 0), ((0, 0), (0, 0))))))))))
theorem sa_h29_n : sf_nlh sa_h29 136 = true := by decide +kernel
/-- X1_held -/
def sa_m64 : sf_M := (9043968, 4820814133992940188890642022838420953201779111507686273843968, sa_h29, sa_h29, [3, 4, 5, 6, 7], [83010348295185760355])
def sa_t64_0 : sf_T := (9043968, 4820814133992940188890642022838420953201779111507686273843968, [], sa_h29, [(1000, 1)], [(0, 1)])
def sa_t64_1 : sf_T := (9043991, 27606985388769193193729097423383900024139093893293066405572792811520768, [], sa_h29, [(1000, 1), (1000, 2)], [(0, 0)])
def sa_l64 : List sf_T := [sa_t64_0, sa_t64_1]
noncomputable def sa_b64 : en_T := (sf_tc 9240576 (sf_call 133 [(8, 0, sa_m62)]) (sf_tc 17891328 (sf_call 133 [(3, 1, sa_m58), (3, 1, sa_m59), (3, 1, sa_m60), (3, 1, sa_m61), (3, 1, sa_m63)]) (fun _ => none)))
theorem sa_e64_0 : sf_okb (sf_fin 133 sa_h29 [83010348295185760355]) sa_b64 138 3 2 133 52 sa_l64 [1] sa_t64_0 = true := by decide +kernel
theorem sa_e64_1 : sf_okb (sf_fin 133 sa_h29 [83010348295185760355]) sa_b64 138 3 2 133 142 sa_l64 [] sa_t64_1 = true := by decide +kernel
theorem sa_i64 : (sa_m64.1, sa_m64.2.1, ([] : List Nat), sa_m64.2.2.1, [(1000, 1)], [(0, 1)]) ∈ sa_l64 := List.mem_cons_self
theorem sa_k64 (hS : ∀ ρ, en_SA E ρ ω mt_SB) (hX : sf_JX J) (hM : sf_MnA E ω J) : sf_Kok E ω J 3 2 133 sa_m64 := sf_K_of hS (sf_TS_k (q := 9240576) (nx := 133) (l := [(8, 0, sa_m62)]) hX (sf_fc ⟨(rfl : sa_m62.1 = 9240576), (sa_k62 hS hX hM)⟩ sf_fn) (sf_TS_k (q := 17891328) (nx := 133) (l := [(3, 1, sa_m58), (3, 1, sa_m59), (3, 1, sa_m60), (3, 1, sa_m61), (3, 1, sa_m63)]) hX (sf_fc ⟨(rfl : sa_m58.1 = 17891328), (sa_k58 hS hX hM)⟩ (sf_fc ⟨(rfl : sa_m59.1 = 17891328), (sa_k59 hS hX hM)⟩ (sf_fc ⟨(rfl : sa_m60.1 = 17891328), (sa_k60 hS hX hM)⟩ (sf_fc ⟨(rfl : sa_m61.1 = 17891328), (sa_k61 hS hX hM)⟩ (sf_fc ⟨(rfl : sa_m63.1 = 17891328), (sa_k63 hS hX hM)⟩ sf_fn))))) sf_TS_n)) (sf_nL (by decide +kernel)) rfl sa_h29_n sa_h29_n (by decide +kernel) (by decide +kernel) (by decide +kernel) sa_i64 (sf_fc (sf_okb_t sa_h29_n sa_e64_0) (sf_fc (sf_okb_t sa_h29_n sa_e64_1) sf_fn))
/-- X1_noteWeather -/
def sa_m65 : sf_M := (9175040, 27606985388769193193717405410287975059719958368137445532464522574430976, sa_h29, sa_h29, [3, 4, 5, 6, 7], [])
def sa_t65_0 : sf_T := (9175040, 27606985388769193193717405410287975059719958368137445532464522574430976, [], sa_h29, [(1000, 1), (1000, 2)], [(0, 0)])
def sa_l65 : List sf_T := [sa_t65_0]
noncomputable def sa_b65 : en_T := (sf_tc 9043968 (sf_call 133 [(3, 2, sa_m64)]) (fun _ => none))
theorem sa_e65_0 : sf_okb (sf_fin 133 sa_h29 []) sa_b65 140 3 3 133 70 sa_l65 [] sa_t65_0 = true := by decide +kernel
theorem sa_i65 : (sa_m65.1, sa_m65.2.1, ([] : List Nat), sa_m65.2.2.1, [(1000, 1), (1000, 2)], [(0, 0)]) ∈ sa_l65 := List.mem_cons_self
theorem sa_k65 (hS : ∀ ρ, en_SA E ρ ω mt_SB) (hX : sf_JX J) (hM : sf_MnA E ω J) : sf_Kok E ω J 3 3 133 sa_m65 := sf_K_of hS (sf_TS_k (q := 9043968) (nx := 133) (l := [(3, 2, sa_m64)]) hX (sf_fc ⟨(rfl : sa_m64.1 = 9043968), (sa_k64 hS hX hM)⟩ sf_fn) sf_TS_n) (sf_nL (by decide +kernel)) rfl sa_h29_n sa_h29_n (by decide +kernel) (by decide +kernel) (by decide +kernel) sa_i65 (sf_fc (sf_okb_t sa_h29_n sa_e65_0) sf_fn)
def sa_h30 : en_H := (((((((0, 0), sa_r0), sa_r1), ((sa_r24, sa_r2), (sa_r3, sa_r25))), ((((((0, (0, 0)), 0), 0), ((((0, 0), (0, (0, 0))), (((0, 0), 0), (0, (0, (0, 0))))), sa_r19)), ((sa_r18, 0), 0)), (0, ((((0, 0), ((0, 0), ((0, 0), 0))), (((0, (0, 0)), ((0, 0), (0, 0))), (((0, 0), (0, 0)), ((0, 0), (0, 0))))), (((((0, 0), (0, 0)), ((0, 0), (0, 0))), (((0, 0), (0, 0)), ((0, 0), (0, 0)))), ((((0, 0), (0, 0)), ((0, 0), (0, (0, 0)))), ((((0, 0), (0, 0)), ((0, 0), 0)), (0, (0, (0, 0)))))))))), 0), ((((((0, 0), 0), (0, (0, 0))), (0, 0)), 0), ((((((((0, 0), 0), (0, 0)), (0, (0, 0))), 0), (0, (((0, 0), (0, 0)), ((0, 0), (0, 0))))), 0), (((0, 0), 0), (0, ((0, ((0, 0), (0, 0))), (((0, 0), (0, 0)), ((0, 0), ((0, 0), (0, 0))))))))))
theorem sa_h30_n : sf_nlh sa_h30 136 = true := by decide +kernel
/-- X5_noteWeather -/
def sa_m66 : sf_M := (12320768, 36893488254793285888, sa_h30, sa_h30, [2, 3, 4, 5, 6, 7, 25, 26], [])
def sa_t66_0 : sf_T := (12320768, 36893488254793285888, [], sa_h30, [], [(0, 0)])
def sa_l66 : List sf_T := [sa_t66_0]
noncomputable def sa_b66 : en_T := (sf_tc 9175040 (sf_call 133 [(3, 3, sa_m65)]) (fun _ => none))
theorem sa_e66_0 : sf_okb (sf_fin 133 sa_h30 []) sa_b66 188 1 4 133 46 sa_l66 [] sa_t66_0 = true := by decide +kernel
theorem sa_i66 : (sa_m66.1, sa_m66.2.1, ([] : List Nat), sa_m66.2.2.1, [], [(0, 0)]) ∈ sa_l66 := List.mem_cons_self
theorem sa_k66 (hS : ∀ ρ, en_SA E ρ ω mt_SB) (hX : sf_JX J) (hM : sf_MnA E ω J) : sf_Kok E ω J 1 4 133 sa_m66 := sf_K_of hS (sf_TS_k (q := 9175040) (nx := 133) (l := [(3, 3, sa_m65)]) hX (sf_fc ⟨(rfl : sa_m65.1 = 9175040), (sa_k65 hS hX hM)⟩ sf_fn) sf_TS_n) (sf_nL (by decide +kernel)) rfl sa_h30_n sa_h30_n (by decide +kernel) (by decide +kernel) (by decide +kernel) sa_i66 (sf_fc (sf_okb_t sa_h30_n sa_e66_0) sf_fn)
/-- X5_measure -/
def sa_m67 : sf_M := (12255232, 93536104794622304634503194109064771063646064214528, sa_h30, sa_h30, [2, 3, 4, 5, 6, 7, 25, 26], [73786976299133173759])
def sa_t67_0 : sf_T := (12255232, 93536104794622304634503194109064771063646064214528, [], sa_h30, [(1000, 1)], [(0, 0)])
def sa_l67 : List sf_T := [sa_t67_0]
noncomputable def sa_b67 : en_T := (sf_tc 12320768 (sf_call 133 [(1, 4, sa_m66)]) (fun _ => none))
theorem sa_e67_0 : sf_okb (sf_fin 133 sa_h30 [73786976299133173759]) sa_b67 187 2 5 133 98 sa_l67 [] sa_t67_0 = true := by decide +kernel
theorem sa_i67 : (sa_m67.1, sa_m67.2.1, ([] : List Nat), sa_m67.2.2.1, [(1000, 1)], [(0, 0)]) ∈ sa_l67 := List.mem_cons_self
theorem sa_k67 (hS : ∀ ρ, en_SA E ρ ω mt_SB) (hX : sf_JX J) (hM : sf_MnA E ω J) : sf_Kok E ω J 2 5 133 sa_m67 := sf_K_of hS (sf_TS_k (q := 12320768) (nx := 133) (l := [(1, 4, sa_m66)]) hX (sf_fc ⟨(rfl : sa_m66.1 = 12320768), (sa_k66 hS hX hM)⟩ sf_fn) sf_TS_n) (sf_nL (by decide +kernel)) rfl sa_h30_n sa_h30_n (by decide +kernel) (by decide +kernel) (by decide +kernel) sa_i67 (sf_fc (sf_okb_t sa_h30_n sa_e67_0) sf_fn)
def sa_h31 : en_H := (((((((sa_r23, 0), sa_r0), sa_r1), ((sa_r24, sa_r2), (sa_r3, sa_r25))), ((((((0, (0, 0)), 0), 0), ((((0, 0), (0, (0, 0))), (((0, 0), 0), (0, (0, (0, 0))))), sa_r19)), ((sa_r18, 0), 0)), (0, ((((0, 0), ((0, 0), ((0, 0), 0))), (((0, (0, 0)), ((0, 0), (0, 0))), (((0, 0), (0, 0)), ((0, 0), (0, 0))))), (((((0, 0), (0, 0)), ((0, 0), (0, 0))), (((0, 0), (0, 0)), ((0, 0), (0, 0)))), ((((0, 0), (0, 0)), ((0, 0), (0, (0, 0)))), ((((0, 0), (0, 0)), ((0, 0), 0)), (0, (0, (0, 0)))))))))), 0), ((((((0, 0), 0), (0, (0, 0))), (0, 0)), 0), ((((((((0, 0), 0), (0, 0)), (0, (0, 0))), 0), (0, (((0, 0), (0, 0)), ((0, 0), (0, 0))))), 0), (((0, 0), 0), (0, ((0, ((0, 0), (0, 0))), (((0, 0), (0, 0)), ((0, 0), ((0, 0), (0, 0))))))))))
theorem sa_h31_n : sf_nlh sa_h31 136 = true := by decide +kernel
/-- X8_ship -/
def sa_m68 : sf_M := (17039360, 93536104794622304634503194109064771063538690032128, sa_h31, sa_h31, [0, 2, 3, 4, 5, 6, 7, 25, 26], [73786976299133173759])
def sa_t68_0 : sf_T := (17039360, 93536104794622304634503194109064771063538690032128, [], sa_h31, [(1000, 1)], [(0, 0)])
def sa_l68 : List sf_T := [sa_t68_0]
noncomputable def sa_b68 : en_T := (sf_tc 12255232 (sf_call 133 [(2, 5, sa_m67)]) (fun _ => none))
theorem sa_e68_0 : sf_okb (sf_fin 133 sa_h31 [73786976299133173759]) sa_b68 260 2 6 133 30 sa_l68 [] sa_t68_0 = true := by decide +kernel
theorem sa_i68 : (sa_m68.1, sa_m68.2.1, ([] : List Nat), sa_m68.2.2.1, [(1000, 1)], [(0, 0)]) ∈ sa_l68 := List.mem_cons_self
theorem sa_k68 (hS : ∀ ρ, en_SA E ρ ω mt_SB) (hX : sf_JX J) (hM : sf_MnA E ω J) : sf_Kok E ω J 2 6 133 sa_m68 := sf_K_of hS (sf_TS_k (q := 12255232) (nx := 133) (l := [(2, 5, sa_m67)]) hX (sf_fc ⟨(rfl : sa_m67.1 = 12255232), (sa_k67 hS hX hM)⟩ sf_fn) sf_TS_n) (sf_nL (by decide +kernel)) rfl sa_h31_n sa_h31_n (by decide +kernel) (by decide +kernel) (by decide +kernel) sa_i68 (sf_fc (sf_okb_t sa_h31_n sa_e68_0) sf_fn)
end SFP
