/-! CONTRACTS, by program (wip/p3/emit.py) -/
section SFP
variable {E : mm_E} {ω : Nat → Value} {J : mm_H → Prop}
/-- X9_copies -/
def zb_m301 : sf_M := (1114112, 16333553616007998046963562849740359991808, zb_h63, zb_h63, [88, 105, 118, 119], [])
def zb_t301_0 : sf_T := (1114112, 16333553616007998046963562849740359991808, [], zb_h63, [], [(0, 0)])
def zb_l301 : List sf_T := [zb_t301_0]
noncomputable def zb_b301 : en_T := (fun _ => none)
theorem zb_e301_0 : sf_okb (sf_fin 133 zb_h63 []) zb_b301 17 2 0 133 1612 zb_l301 [] zb_t301_0 = true := by decide +kernel
theorem zb_i301 : (zb_m301.1, zb_m301.2.1, ([] : List Nat), zb_m301.2.2.1, [], [(0, 0)]) ∈ zb_l301 := List.mem_cons_self
theorem zb_k301 (hS : ∀ ρ, en_SA E ρ ω mt_SB) (hX : sf_JX J) (hM : sf_MnB E ω J) : sf_Kok E ω J 2 0 133 zb_m301 := sf_K_of hS sf_TS_n (sf_nL (by decide +kernel)) rfl zb_h63_n zb_h63_n (by decide +kernel) (by decide +kernel) (by decide +kernel) zb_i301 (sf_fc (sf_okb_t zb_h63_n zb_e301_0) sf_fn)
/-- X9_dangerNow -/
def zb_m302 : sf_M := (1310720, 36893488525376225536, zb_h65, zb_h65, [88, 116, 117, 119], [83010348333840465929])
def zb_t302_0 : sf_T := (1310720, 36893488525376225536, [], zb_h65, [], [(0, 0)])
def zb_l302 : List sf_T := [zb_t302_0]
noncomputable def zb_b302 : en_T := (sf_tc 3997696 (sf_call 133 [(2, 0, zb_m292)]) (sf_tc 196608 (sf_call 133 [(6, 4, zb_m33)]) (fun _ => none)))
theorem zb_e302_0 : sf_okb (sf_fin 133 zb_h65 [83010348333840465929]) zb_b302 20 1 5 133 38 zb_l302 [] zb_t302_0 = true := by decide +kernel
theorem zb_i302 : (zb_m302.1, zb_m302.2.1, ([] : List Nat), zb_m302.2.2.1, [], [(0, 0)]) ∈ zb_l302 := List.mem_cons_self
theorem zb_k302 (hS : ∀ ρ, en_SA E ρ ω mt_SB) (hX : sf_JX J) (hM : sf_MnB E ω J) : sf_Kok E ω J 1 5 133 zb_m302 := sf_K_of hS (sf_TS_k (q := 3997696) (nx := 133) (l := [(2, 0, zb_m292)]) hX (sf_fc ⟨(rfl : zb_m292.1 = 3997696), (zb_k292 hS hX hM)⟩ sf_fn) (sf_TS_k (q := 196608) (nx := 133) (l := [(6, 4, zb_m33)]) hX (sf_fc ⟨(rfl : zb_m33.1 = 196608), (hM _ (List.mem_of_getElem? (i := 33) rfl))⟩ sf_fn) sf_TS_n)) (sf_nL (by decide +kernel)) rfl zb_h65_n zb_h65_n (by decide +kernel) (by decide +kernel) (by decide +kernel) zb_i302 (sf_fc (sf_okb_t zb_h65_n zb_e302_0) sf_fn)
/-- X9_windNow -/
def zb_m303 : sf_M := (7208960, 36893488525376225536, zb_h65, zb_h65, [88, 116, 117, 119], [83010348333840465929])
def zb_t303_0 : sf_T := (7208960, 36893488525376225536, [], zb_h65, [], [(0, 0)])
def zb_l303 : List sf_T := [zb_t303_0]
noncomputable def zb_b303 : en_T := (sf_tc 3997696 (sf_call 133 [(2, 0, zb_m292)]) (sf_tc 196608 (sf_call 133 [(6, 4, zb_m33)]) (fun _ => none)))
theorem zb_e303_0 : sf_okb (sf_fin 133 zb_h65 [83010348333840465929]) zb_b303 110 1 5 133 38 zb_l303 [] zb_t303_0 = true := by decide +kernel
theorem zb_i303 : (zb_m303.1, zb_m303.2.1, ([] : List Nat), zb_m303.2.2.1, [], [(0, 0)]) ∈ zb_l303 := List.mem_cons_self
theorem zb_k303 (hS : ∀ ρ, en_SA E ρ ω mt_SB) (hX : sf_JX J) (hM : sf_MnB E ω J) : sf_Kok E ω J 1 5 133 zb_m303 := sf_K_of hS (sf_TS_k (q := 3997696) (nx := 133) (l := [(2, 0, zb_m292)]) hX (sf_fc ⟨(rfl : zb_m292.1 = 3997696), (zb_k292 hS hX hM)⟩ sf_fn) (sf_TS_k (q := 196608) (nx := 133) (l := [(6, 4, zb_m33)]) hX (sf_fc ⟨(rfl : zb_m33.1 = 196608), (hM _ (List.mem_of_getElem? (i := 33) rfl))⟩ sf_fn) sf_TS_n)) (sf_nL (by decide +kernel)) rfl zb_h65_n zb_h65_n (by decide +kernel) (by decide +kernel) (by decide +kernel) zb_i303 (sf_fc (sf_okb_t zb_h65_n zb_e303_0) sf_fn)
/-- X9_weathers -/
def zb_m304 : sf_M := (7077888, 36893488525376225536, zb_h65, zb_h65, [88, 116, 117, 119], [])
def zb_t304_0 : sf_T := (7077888, 36893488525376225536, [], zb_h65, [], [(0, 0)])
def zb_l304 : List sf_T := [zb_t304_0]
noncomputable def zb_b304 : en_T := (sf_tc 7208960 (sf_call 133 [(1, 5, zb_m303)]) (sf_tc 1310720 (sf_call 133 [(1, 5, zb_m302)]) (fun _ => none)))
theorem zb_e304_0 : sf_okb (sf_fin 133 zb_h65 []) zb_b304 108 1 6 133 38 zb_l304 [] zb_t304_0 = true := by decide +kernel
theorem zb_i304 : (zb_m304.1, zb_m304.2.1, ([] : List Nat), zb_m304.2.2.1, [], [(0, 0)]) ∈ zb_l304 := List.mem_cons_self
theorem zb_k304 (hS : ∀ ρ, en_SA E ρ ω mt_SB) (hX : sf_JX J) (hM : sf_MnB E ω J) : sf_Kok E ω J 1 6 133 zb_m304 := sf_K_of hS (sf_TS_k (q := 7208960) (nx := 133) (l := [(1, 5, zb_m303)]) hX (sf_fc ⟨(rfl : zb_m303.1 = 7208960), (zb_k303 hS hX hM)⟩ sf_fn) (sf_TS_k (q := 1310720) (nx := 133) (l := [(1, 5, zb_m302)]) hX (sf_fc ⟨(rfl : zb_m302.1 = 1310720), (zb_k302 hS hX hM)⟩ sf_fn) sf_TS_n)) (sf_nL (by decide +kernel)) rfl zb_h65_n zb_h65_n (by decide +kernel) (by decide +kernel) (by decide +kernel) zb_i304 (sf_fc (sf_okb_t zb_h65_n zb_e304_0) sf_fn)
end SFP
