/-! CONTRACTS, by program (wip/p3/emit.py) -/
section SFP
variable {E : mm_E} {ω : Nat → Value} {J : mm_H → Prop}
/-- X9_copies -/
def zb_m273 : sf_M := (1114112, 16333553616007998046963562849740359991808, zb_h63, zb_h63, [88, 105, 118, 119], [])
def zb_t273_0 : sf_T := (1114112, 16333553616007998046963562849740359991808, [], zb_h63, [], [(0, 0)])
def zb_l273 : List sf_T := [zb_t273_0]
noncomputable def zb_b273 : en_T := (fun _ => none)
theorem zb_e273_0 : sf_okb (sf_fin 133 zb_h63 []) zb_b273 17 2 0 133 1612 zb_l273 [] zb_t273_0 = true := by decide +kernel
theorem zb_i273 : (zb_m273.1, zb_m273.2.1, ([] : List Nat), zb_m273.2.2.1, [], [(0, 0)]) ∈ zb_l273 := List.mem_cons_self
theorem zb_k273 (hS : ∀ ρ, en_SA E ρ ω mt_SB) (hX : sf_JX J) (hM : sf_MnB E ω J) : sf_Kok E ω J 2 0 133 zb_m273 := sf_K_of hS sf_TS_n (sf_nL (by decide +kernel)) rfl zb_h63_n zb_h63_n (by decide +kernel) (by decide +kernel) (by decide +kernel) zb_i273 (sf_fc (sf_okb_t zb_h63_n zb_e273_0) sf_fn)
/-- X9_dangerNow -/
def zb_m274 : sf_M := (1310720, 36893488525376225536, zb_h65, zb_h65, [88, 116, 117, 119], [83010348333840465929])
def zb_t274_0 : sf_T := (1310720, 36893488525376225536, [], zb_h65, [], [(0, 0)])
def zb_l274 : List sf_T := [zb_t274_0]
noncomputable def zb_b274 : en_T := (sf_tc 3997696 (sf_call 133 [(2, 0, zb_m268)]) (sf_tc 196608 (sf_call 133 [(6, 4, zb_m48)]) (fun _ => none)))
theorem zb_e274_0 : sf_okb (sf_fin 133 zb_h65 [83010348333840465929]) zb_b274 20 1 5 133 38 zb_l274 [] zb_t274_0 = true := by decide +kernel
theorem zb_i274 : (zb_m274.1, zb_m274.2.1, ([] : List Nat), zb_m274.2.2.1, [], [(0, 0)]) ∈ zb_l274 := List.mem_cons_self
theorem zb_k274 (hS : ∀ ρ, en_SA E ρ ω mt_SB) (hX : sf_JX J) (hM : sf_MnB E ω J) : sf_Kok E ω J 1 5 133 zb_m274 := sf_K_of hS (sf_TS_k (q := 3997696) (nx := 133) (l := [(2, 0, zb_m268)]) hX (sf_fc ⟨(rfl : zb_m268.1 = 3997696), (zb_k268 hS hX hM)⟩ sf_fn) (sf_TS_k (q := 196608) (nx := 133) (l := [(6, 4, zb_m48)]) hX (sf_fc ⟨(rfl : zb_m48.1 = 196608), (hM _ (List.mem_of_getElem? (i := 48) rfl))⟩ sf_fn) sf_TS_n)) (sf_nL (by decide +kernel)) rfl zb_h65_n zb_h65_n (by decide +kernel) (by decide +kernel) (by decide +kernel) zb_i274 (sf_fc (sf_okb_t zb_h65_n zb_e274_0) sf_fn)
/-- X9_windNow -/
def zb_m275 : sf_M := (7208960, 36893488525376225536, zb_h65, zb_h65, [88, 116, 117, 119], [83010348333840465929])
def zb_t275_0 : sf_T := (7208960, 36893488525376225536, [], zb_h65, [], [(0, 0)])
def zb_l275 : List sf_T := [zb_t275_0]
noncomputable def zb_b275 : en_T := (sf_tc 3997696 (sf_call 133 [(2, 0, zb_m268)]) (sf_tc 196608 (sf_call 133 [(6, 4, zb_m48)]) (fun _ => none)))
theorem zb_e275_0 : sf_okb (sf_fin 133 zb_h65 [83010348333840465929]) zb_b275 110 1 5 133 38 zb_l275 [] zb_t275_0 = true := by decide +kernel
theorem zb_i275 : (zb_m275.1, zb_m275.2.1, ([] : List Nat), zb_m275.2.2.1, [], [(0, 0)]) ∈ zb_l275 := List.mem_cons_self
theorem zb_k275 (hS : ∀ ρ, en_SA E ρ ω mt_SB) (hX : sf_JX J) (hM : sf_MnB E ω J) : sf_Kok E ω J 1 5 133 zb_m275 := sf_K_of hS (sf_TS_k (q := 3997696) (nx := 133) (l := [(2, 0, zb_m268)]) hX (sf_fc ⟨(rfl : zb_m268.1 = 3997696), (zb_k268 hS hX hM)⟩ sf_fn) (sf_TS_k (q := 196608) (nx := 133) (l := [(6, 4, zb_m48)]) hX (sf_fc ⟨(rfl : zb_m48.1 = 196608), (hM _ (List.mem_of_getElem? (i := 48) rfl))⟩ sf_fn) sf_TS_n)) (sf_nL (by decide +kernel)) rfl zb_h65_n zb_h65_n (by decide +kernel) (by decide +kernel) (by decide +kernel) zb_i275 (sf_fc (sf_okb_t zb_h65_n zb_e275_0) sf_fn)
/-- X9_weathers -/
def zb_m276 : sf_M := (7077888, 36893488525376225536, zb_h65, zb_h65, [88, 116, 117, 119], [])
def zb_t276_0 : sf_T := (7077888, 36893488525376225536, [], zb_h65, [], [(0, 0)])
def zb_l276 : List sf_T := [zb_t276_0]
noncomputable def zb_b276 : en_T := (sf_tc 7208960 (sf_call 133 [(1, 5, zb_m275)]) (sf_tc 1310720 (sf_call 133 [(1, 5, zb_m274)]) (fun _ => none)))
theorem zb_e276_0 : sf_okb (sf_fin 133 zb_h65 []) zb_b276 108 1 6 133 38 zb_l276 [] zb_t276_0 = true := by decide +kernel
theorem zb_i276 : (zb_m276.1, zb_m276.2.1, ([] : List Nat), zb_m276.2.2.1, [], [(0, 0)]) ∈ zb_l276 := List.mem_cons_self
theorem zb_k276 (hS : ∀ ρ, en_SA E ρ ω mt_SB) (hX : sf_JX J) (hM : sf_MnB E ω J) : sf_Kok E ω J 1 6 133 zb_m276 := sf_K_of hS (sf_TS_k (q := 7208960) (nx := 133) (l := [(1, 5, zb_m275)]) hX (sf_fc ⟨(rfl : zb_m275.1 = 7208960), (zb_k275 hS hX hM)⟩ sf_fn) (sf_TS_k (q := 1310720) (nx := 133) (l := [(1, 5, zb_m274)]) hX (sf_fc ⟨(rfl : zb_m274.1 = 1310720), (zb_k274 hS hX hM)⟩ sf_fn) sf_TS_n)) (sf_nL (by decide +kernel)) rfl zb_h65_n zb_h65_n (by decide +kernel) (by decide +kernel) (by decide +kernel) zb_i276 (sf_fc (sf_okb_t zb_h65_n zb_e276_0) sf_fn)
end SFP
