/-! CONTRACTS, by program (wip/p3/emit.py) -/
section SFP
variable {E : mm_E} {ω : Nat → Value} {J : mm_H → Prop}
/-- X9_copies -/
def sb_m301 : sf_M := (1114112, 16333553616007998046963562849740359991808, sb_h63, sb_h63, [88, 105, 118, 119], [])
def sb_t301_0 : sf_T := (1114112, 16333553616007998046963562849740359991808, [], sb_h63, [], [(0, 0)])
def sb_l301 : List sf_T := [sb_t301_0]
noncomputable def sb_b301 : en_T := (fun _ => none)
theorem sb_e301_0 : sf_okb (sf_fin 133 sb_h63 []) sb_b301 17 2 0 133 1612 sb_l301 [] sb_t301_0 = true := by decide +kernel
theorem sb_i301 : (sb_m301.1, sb_m301.2.1, ([] : List Nat), sb_m301.2.2.1, [], [(0, 0)]) ∈ sb_l301 := List.mem_cons_self
theorem sb_k301 (hS : ∀ ρ, en_SA E ρ ω mt_SB) (hX : sf_JX J) (hM : sf_MnB E ω J) : sf_Kok E ω J 2 0 133 sb_m301 := sf_K_of hS sf_TS_n (sf_nL (by decide +kernel)) rfl sb_h63_n sb_h63_n (by decide +kernel) (by decide +kernel) (by decide +kernel) sb_i301 (sf_fc (sf_okb_t sb_h63_n sb_e301_0) sf_fn)
/-- X9_dangerNow -/
def sb_m302 : sf_M := (1310720, 36893488525376225536, sb_h65, sb_h65, [88, 116, 117, 119], [83010348333840465929])
def sb_t302_0 : sf_T := (1310720, 36893488525376225536, [], sb_h65, [], [(0, 0)])
def sb_l302 : List sf_T := [sb_t302_0]
noncomputable def sb_b302 : en_T := (sf_tc 3997696 (sf_call 133 [(2, 0, sb_m292)]) (sf_tc 196608 (sf_call 133 [(6, 4, sb_m33)]) (fun _ => none)))
theorem sb_e302_0 : sf_okb (sf_fin 133 sb_h65 [83010348333840465929]) sb_b302 20 1 5 133 38 sb_l302 [] sb_t302_0 = true := by decide +kernel
theorem sb_i302 : (sb_m302.1, sb_m302.2.1, ([] : List Nat), sb_m302.2.2.1, [], [(0, 0)]) ∈ sb_l302 := List.mem_cons_self
theorem sb_k302 (hS : ∀ ρ, en_SA E ρ ω mt_SB) (hX : sf_JX J) (hM : sf_MnB E ω J) : sf_Kok E ω J 1 5 133 sb_m302 := sf_K_of hS (sf_TS_k (q := 3997696) (nx := 133) (l := [(2, 0, sb_m292)]) hX (sf_fc ⟨(rfl : sb_m292.1 = 3997696), (sb_k292 hS hX hM)⟩ sf_fn) (sf_TS_k (q := 196608) (nx := 133) (l := [(6, 4, sb_m33)]) hX (sf_fc ⟨(rfl : sb_m33.1 = 196608), (hM _ (List.mem_of_getElem? (i := 33) rfl))⟩ sf_fn) sf_TS_n)) (sf_nL (by decide +kernel)) rfl sb_h65_n sb_h65_n (by decide +kernel) (by decide +kernel) (by decide +kernel) sb_i302 (sf_fc (sf_okb_t sb_h65_n sb_e302_0) sf_fn)
/-- X9_windNow -/
def sb_m303 : sf_M := (7208960, 36893488525376225536, sb_h65, sb_h65, [88, 116, 117, 119], [83010348333840465929])
def sb_t303_0 : sf_T := (7208960, 36893488525376225536, [], sb_h65, [], [(0, 0)])
def sb_l303 : List sf_T := [sb_t303_0]
noncomputable def sb_b303 : en_T := (sf_tc 3997696 (sf_call 133 [(2, 0, sb_m292)]) (sf_tc 196608 (sf_call 133 [(6, 4, sb_m33)]) (fun _ => none)))
theorem sb_e303_0 : sf_okb (sf_fin 133 sb_h65 [83010348333840465929]) sb_b303 110 1 5 133 38 sb_l303 [] sb_t303_0 = true := by decide +kernel
theorem sb_i303 : (sb_m303.1, sb_m303.2.1, ([] : List Nat), sb_m303.2.2.1, [], [(0, 0)]) ∈ sb_l303 := List.mem_cons_self
theorem sb_k303 (hS : ∀ ρ, en_SA E ρ ω mt_SB) (hX : sf_JX J) (hM : sf_MnB E ω J) : sf_Kok E ω J 1 5 133 sb_m303 := sf_K_of hS (sf_TS_k (q := 3997696) (nx := 133) (l := [(2, 0, sb_m292)]) hX (sf_fc ⟨(rfl : sb_m292.1 = 3997696), (sb_k292 hS hX hM)⟩ sf_fn) (sf_TS_k (q := 196608) (nx := 133) (l := [(6, 4, sb_m33)]) hX (sf_fc ⟨(rfl : sb_m33.1 = 196608), (hM _ (List.mem_of_getElem? (i := 33) rfl))⟩ sf_fn) sf_TS_n)) (sf_nL (by decide +kernel)) rfl sb_h65_n sb_h65_n (by decide +kernel) (by decide +kernel) (by decide +kernel) sb_i303 (sf_fc (sf_okb_t sb_h65_n sb_e303_0) sf_fn)
/-- X9_weathers -/
def sb_m304 : sf_M := (7077888, 36893488525376225536, sb_h65, sb_h65, [88, 116, 117, 119], [])
def sb_t304_0 : sf_T := (7077888, 36893488525376225536, [], sb_h65, [], [(0, 0)])
def sb_l304 : List sf_T := [sb_t304_0]
noncomputable def sb_b304 : en_T := (sf_tc 7208960 (sf_call 133 [(1, 5, sb_m303)]) (sf_tc 1310720 (sf_call 133 [(1, 5, sb_m302)]) (fun _ => none)))
theorem sb_e304_0 : sf_okb (sf_fin 133 sb_h65 []) sb_b304 108 1 6 133 38 sb_l304 [] sb_t304_0 = true := by decide +kernel
theorem sb_i304 : (sb_m304.1, sb_m304.2.1, ([] : List Nat), sb_m304.2.2.1, [], [(0, 0)]) ∈ sb_l304 := List.mem_cons_self
theorem sb_k304 (hS : ∀ ρ, en_SA E ρ ω mt_SB) (hX : sf_JX J) (hM : sf_MnB E ω J) : sf_Kok E ω J 1 6 133 sb_m304 := sf_K_of hS (sf_TS_k (q := 7208960) (nx := 133) (l := [(1, 5, sb_m303)]) hX (sf_fc ⟨(rfl : sb_m303.1 = 7208960), (sb_k303 hS hX hM)⟩ sf_fn) (sf_TS_k (q := 1310720) (nx := 133) (l := [(1, 5, sb_m302)]) hX (sf_fc ⟨(rfl : sb_m302.1 = 1310720), (sb_k302 hS hX hM)⟩ sf_fn) sf_TS_n)) (sf_nL (by decide +kernel)) rfl sb_h65_n sb_h65_n (by decide +kernel) (by decide +kernel) (by decide +kernel) sb_i304 (sf_fc (sf_okb_t sb_h65_n sb_e304_0) sf_fn)
end SFP
