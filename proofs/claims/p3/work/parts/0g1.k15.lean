/-! CONTRACTS, by program (wip/p3/emit.py) -/
section SFP
variable {E : mm_E} {ω : Nat → Value} {J : mm_H → Prop}
/-- X9_copies -/
def sb_m273 : sf_M := (1114112, 16333553616007998046963562849740359991808, sb_h63, sb_h63, [88, 105, 118, 119], [])
def sb_t273_0 : sf_T := (1114112, 16333553616007998046963562849740359991808, [], sb_h63, [], [(0, 0)])
def sb_l273 : List sf_T := [sb_t273_0]
noncomputable def sb_b273 : en_T := (fun _ => none)
theorem sb_e273_0 : sf_okb (sf_fin 133 sb_h63 []) sb_b273 17 2 0 133 1612 sb_l273 [] sb_t273_0 = true := by decide +kernel
theorem sb_i273 : (sb_m273.1, sb_m273.2.1, ([] : List Nat), sb_m273.2.2.1, [], [(0, 0)]) ∈ sb_l273 := List.mem_cons_self
theorem sb_k273 (hS : ∀ ρ, en_SA E ρ ω mt_SB) (hX : sf_JX J) (hM : sf_MnB E ω J) : sf_Kok E ω J 2 0 133 sb_m273 := sf_K_of hS sf_TS_n (sf_nL (by decide +kernel)) rfl sb_h63_n sb_h63_n (by decide +kernel) (by decide +kernel) (by decide +kernel) sb_i273 (sf_fc (sf_okb_t sb_h63_n sb_e273_0) sf_fn)
/-- X9_dangerNow -/
def sb_m274 : sf_M := (1310720, 36893488525376225536, sb_h65, sb_h65, [88, 116, 117, 119], [83010348333840465929])
def sb_t274_0 : sf_T := (1310720, 36893488525376225536, [], sb_h65, [], [(0, 0)])
def sb_l274 : List sf_T := [sb_t274_0]
noncomputable def sb_b274 : en_T := (sf_tc 3997696 (sf_call 133 [(2, 0, sb_m268)]) (sf_tc 196608 (sf_call 133 [(6, 4, sb_m48)]) (fun _ => none)))
theorem sb_e274_0 : sf_okb (sf_fin 133 sb_h65 [83010348333840465929]) sb_b274 20 1 5 133 38 sb_l274 [] sb_t274_0 = true := by decide +kernel
theorem sb_i274 : (sb_m274.1, sb_m274.2.1, ([] : List Nat), sb_m274.2.2.1, [], [(0, 0)]) ∈ sb_l274 := List.mem_cons_self
theorem sb_k274 (hS : ∀ ρ, en_SA E ρ ω mt_SB) (hX : sf_JX J) (hM : sf_MnB E ω J) : sf_Kok E ω J 1 5 133 sb_m274 := sf_K_of hS (sf_TS_k (q := 3997696) (nx := 133) (l := [(2, 0, sb_m268)]) hX (sf_fc ⟨(rfl : sb_m268.1 = 3997696), (sb_k268 hS hX hM)⟩ sf_fn) (sf_TS_k (q := 196608) (nx := 133) (l := [(6, 4, sb_m48)]) hX (sf_fc ⟨(rfl : sb_m48.1 = 196608), (hM _ (List.mem_of_getElem? (i := 48) rfl))⟩ sf_fn) sf_TS_n)) (sf_nL (by decide +kernel)) rfl sb_h65_n sb_h65_n (by decide +kernel) (by decide +kernel) (by decide +kernel) sb_i274 (sf_fc (sf_okb_t sb_h65_n sb_e274_0) sf_fn)
/-- X9_windNow -/
def sb_m275 : sf_M := (7208960, 36893488525376225536, sb_h65, sb_h65, [88, 116, 117, 119], [83010348333840465929])
def sb_t275_0 : sf_T := (7208960, 36893488525376225536, [], sb_h65, [], [(0, 0)])
def sb_l275 : List sf_T := [sb_t275_0]
noncomputable def sb_b275 : en_T := (sf_tc 3997696 (sf_call 133 [(2, 0, sb_m268)]) (sf_tc 196608 (sf_call 133 [(6, 4, sb_m48)]) (fun _ => none)))
theorem sb_e275_0 : sf_okb (sf_fin 133 sb_h65 [83010348333840465929]) sb_b275 110 1 5 133 38 sb_l275 [] sb_t275_0 = true := by decide +kernel
theorem sb_i275 : (sb_m275.1, sb_m275.2.1, ([] : List Nat), sb_m275.2.2.1, [], [(0, 0)]) ∈ sb_l275 := List.mem_cons_self
theorem sb_k275 (hS : ∀ ρ, en_SA E ρ ω mt_SB) (hX : sf_JX J) (hM : sf_MnB E ω J) : sf_Kok E ω J 1 5 133 sb_m275 := sf_K_of hS (sf_TS_k (q := 3997696) (nx := 133) (l := [(2, 0, sb_m268)]) hX (sf_fc ⟨(rfl : sb_m268.1 = 3997696), (sb_k268 hS hX hM)⟩ sf_fn) (sf_TS_k (q := 196608) (nx := 133) (l := [(6, 4, sb_m48)]) hX (sf_fc ⟨(rfl : sb_m48.1 = 196608), (hM _ (List.mem_of_getElem? (i := 48) rfl))⟩ sf_fn) sf_TS_n)) (sf_nL (by decide +kernel)) rfl sb_h65_n sb_h65_n (by decide +kernel) (by decide +kernel) (by decide +kernel) sb_i275 (sf_fc (sf_okb_t sb_h65_n sb_e275_0) sf_fn)
/-- X9_weathers -/
def sb_m276 : sf_M := (7077888, 36893488525376225536, sb_h65, sb_h65, [88, 116, 117, 119], [])
def sb_t276_0 : sf_T := (7077888, 36893488525376225536, [], sb_h65, [], [(0, 0)])
def sb_l276 : List sf_T := [sb_t276_0]
noncomputable def sb_b276 : en_T := (sf_tc 7208960 (sf_call 133 [(1, 5, sb_m275)]) (sf_tc 1310720 (sf_call 133 [(1, 5, sb_m274)]) (fun _ => none)))
theorem sb_e276_0 : sf_okb (sf_fin 133 sb_h65 []) sb_b276 108 1 6 133 38 sb_l276 [] sb_t276_0 = true := by decide +kernel
theorem sb_i276 : (sb_m276.1, sb_m276.2.1, ([] : List Nat), sb_m276.2.2.1, [], [(0, 0)]) ∈ sb_l276 := List.mem_cons_self
theorem sb_k276 (hS : ∀ ρ, en_SA E ρ ω mt_SB) (hX : sf_JX J) (hM : sf_MnB E ω J) : sf_Kok E ω J 1 6 133 sb_m276 := sf_K_of hS (sf_TS_k (q := 7208960) (nx := 133) (l := [(1, 5, sb_m275)]) hX (sf_fc ⟨(rfl : sb_m275.1 = 7208960), (sb_k275 hS hX hM)⟩ sf_fn) (sf_TS_k (q := 1310720) (nx := 133) (l := [(1, 5, sb_m274)]) hX (sf_fc ⟨(rfl : sb_m274.1 = 1310720), (sb_k274 hS hX hM)⟩ sf_fn) sf_TS_n)) (sf_nL (by decide +kernel)) rfl sb_h65_n sb_h65_n (by decide +kernel) (by decide +kernel) (by decide +kernel) sb_i276 (sf_fc (sf_okb_t sb_h65_n sb_e276_0) sf_fn)
end SFP
