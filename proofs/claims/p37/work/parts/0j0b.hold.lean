/-! CONTRACTS OF hold BY RANGES OF THE SLOT, by program (em/specA37.py, em/spec9C9.py) -/
section SFP
variable {E : mm_E} {ω : Nat → Value} {J : mm_H → Prop}
def sa_h88 : en_H := (((((((sa_r23, 0), 0), 0), ((0, 0), (0, 0))), ((((((0, (0, 0)), 0), 0), ((((0, 0), (0, (0, 0))), (((0, 0), 0), (0, (0, (0, 0))))), sa_r19)), ((0, 0), 0)), (0, ((((0, 0), ((0, 0), ((0, 0), 0))), (((sa_r10, (0, 0)), ((0, 0), (0, 0))), (((0, 0), (0, 0)), ((0, 0), (0, 0))))), (((((0, 0), (0, 0)), ((0, 0), (0, 0))), (((0, 0), (0, 0)), ((0, 0), (0, 0)))), ((((0, 0), (0, 0)), ((0, 0), (0, (0, 0)))), ((((0, 0), (0, 0)), ((0, 0), 0)), (0, (0, (0, 0)))))))))), 0), ((((((0, 0), 0), (0, (0, 0))), (0, 0)), 0), ((((((((0, 0), 0), (0, 0)), (0, (0, 0))), 0), (0, (((0, 0), (0, 0)), ((0, 0), (0, 0))))), 0), (((0, 0), 0), (0, ((0, ((0, 0), (0, 0))), (((0, 0), (0, 0)), ((0, 0), ((0, 0), (0, 0))))))))))
theorem sa_h88_n : sf_nlh sa_h88 136 = true := by decide +kernel
def sa_m162 : sf_M := (15466496, 93536104791900045699135686401357774204084544340480, sa_h88, sa_h88, [0, 25, 37], [2147483648])
def sa_t162_0 : sf_T := (15466496, 93536104791900045699135686401357774204084544340480, [], sa_h88, [(1000, 1)], [(0, 0)])
def sa_l162 : List sf_T := [sa_t162_0]
noncomputable def sa_b162 : en_T := (fun _ => none)
theorem sa_e162_0 : sf_okb (sf_fin 133 sa_h88 [2147483648]) sa_b162 236 2 1 133 44 sa_l162 [] sa_t162_0 = true := by decide +kernel
theorem sa_i162 : (sa_m162.1, sa_m162.2.1, ([] : List Nat), sa_m162.2.2.1, [(1000, 1)], [(0, 0)]) ∈ sa_l162 := List.mem_cons_self
theorem sa_k162 (hS : ∀ ρ, en_SA E ρ ω mt_SB) (hX : sf_JX J) (hM : sf_MnA E ω J) : sf_Kok E ω J 2 1 133 sa_m162 := sf_K_of hS sf_TS_n (sf_nL (by decide +kernel)) rfl sa_h88_n sa_h88_n (by decide +kernel) (by decide +kernel) (by decide +kernel) sa_i162 (sf_fc (sf_okb_t sa_h88_n sa_e162_0) sf_fn)
def sa_m163 : sf_M := (15466496, 105228117890547269048568116863772726565822114300416, sa_h86, sa_h86, [0, 25, 26, 37, 79, 80, 81, 82, 83], [2147483649])
def sa_t163_0 : sf_T := (15466496, 105228117890547269048568116863772726565822114300416, [], sa_h86, [(1000, 1)], [(0, 0)])
def sa_l163 : List sf_T := [sa_t163_0]
noncomputable def sa_b163 : en_T := (fun _ => none)
theorem sa_e163_0 : sf_okb (sf_fin 133 sa_h86 [2147483649]) sa_b163 236 2 2 133 136 sa_l163 [] sa_t163_0 = true := by decide +kernel
theorem sa_i163 : (sa_m163.1, sa_m163.2.1, ([] : List Nat), sa_m163.2.2.1, [(1000, 1)], [(0, 0)]) ∈ sa_l163 := List.mem_cons_self
theorem sa_k163 (hS : ∀ ρ, en_SA E ρ ω mt_SB) (hX : sf_JX J) (hM : sf_MnA E ω J) : sf_Kok E ω J 2 2 133 sa_m163 := sf_K_of hS sf_TS_n (sf_nL (by decide +kernel)) rfl sa_h86_n sa_h86_n (by decide +kernel) (by decide +kernel) (by decide +kernel) sa_i163 (sf_fc (sf_okb_t sa_h86_n sa_e163_0) sf_fn)
def sa_m164 : sf_M := (15466496, 105228117909603081592337719017037016377511024525824, sa_h88, sa_h88, [0, 25, 37], [2147483648])
def sa_t164_0 : sf_T := (15466496, 105228117909603081592337719017037016377511024525824, [], sa_h88, [(1000, 1)], [(0, 0)])
def sa_l164 : List sf_T := [sa_t164_0]
noncomputable def sa_b164 : en_T := (fun _ => none)
theorem sa_e164_0 : sf_okb (sf_fin 133 sa_h88 [2147483648]) sa_b164 236 2 1 133 50 sa_l164 [] sa_t164_0 = true := by decide +kernel
theorem sa_i164 : (sa_m164.1, sa_m164.2.1, ([] : List Nat), sa_m164.2.2.1, [(1000, 1)], [(0, 0)]) ∈ sa_l164 := List.mem_cons_self
theorem sa_k164 (hS : ∀ ρ, en_SA E ρ ω mt_SB) (hX : sf_JX J) (hM : sf_MnA E ω J) : sf_Kok E ω J 2 1 133 sa_m164 := sf_K_of hS sf_TS_n (sf_nL (by decide +kernel)) rfl sa_h88_n sa_h88_n (by decide +kernel) (by decide +kernel) (by decide +kernel) sa_i164 (sf_fc (sf_okb_t sa_h88_n sa_e164_0) sf_fn)
def zb_m489 : sf_M := (2686976, 4820814133992940188887919763903053445494072114648597200372480, zb_h1, zb_h1, [], [2147483648])
def zb_t489_0 : sf_T := (2686976, 4820814133992940188887919763903053445494072114648597200372480, [], zb_h1, [(1000, 1)], [(0, 0)])
def zb_l489 : List sf_T := [zb_t489_0]
noncomputable def zb_b489 : en_T := (fun _ => none)
theorem zb_e489_0 : sf_okb (sf_fin 133 zb_h1 [2147483648]) zb_b489 41 3 1 133 44 zb_l489 [] zb_t489_0 = true := by decide +kernel
theorem zb_i489 : (zb_m489.1, zb_m489.2.1, ([] : List Nat), zb_m489.2.2.1, [(1000, 1)], [(0, 0)]) ∈ zb_l489 := List.mem_cons_self
theorem zb_k489 (hS : ∀ ρ, en_SA E ρ ω mt_SB) (hX : sf_JX J) (hM : sf_MnB E ω J) : sf_Kok E ω J 3 1 133 zb_m489 := sf_K_of hS sf_TS_n (sf_nL (by decide +kernel)) rfl zb_h1_n zb_h1_n (by decide +kernel) (by decide +kernel) (by decide +kernel) zb_i489 (sf_fc (sf_okb_t zb_h1_n zb_e489_0) sf_fn)
def zb_m490 : sf_M := (2686976, 4820814134004632201986566987252485875956487067010334770332416, zb_h133, zb_h133, [88, 118, 131, 132], [2147483649])
def zb_t490_0 : sf_T := (2686976, 4820814134004632201986566987252485875956487067010334770332416, [], zb_h133, [(1000, 1)], [(0, 1)])
def zb_t490_1 : sf_T := (2686994, 4820814134004632201986566987252485875956487067010334770332416, [], zb_h133, [(1000, 1)], [(0, 0)])
def zb_l490 : List sf_T := [zb_t490_0, zb_t490_1]
noncomputable def zb_b490 : en_T := (sf_tc 2686994 (sf_spl 3 (1000, 1) [2147483649, 2147483650]) (fun _ => none))
theorem zb_e490_0 : sf_okb (sf_fin 133 zb_h133 [2147483649]) zb_b490 41 3 1 133 58 zb_l490 [1] zb_t490_0 = true := by decide +kernel
theorem zb_e490_1 : sf_okb (sf_fin 133 zb_h133 [2147483649]) zb_b490 41 3 1 133 6182 zb_l490 [] zb_t490_1 = true := by decide +kernel
theorem zb_i490 : (zb_m490.1, zb_m490.2.1, ([] : List Nat), zb_m490.2.2.1, [(1000, 1)], [(0, 1)]) ∈ zb_l490 := List.mem_cons_self
theorem zb_k490 (hS : ∀ ρ, en_SA E ρ ω mt_SB) (hX : sf_JX J) (hM : sf_MnB E ω J) : sf_Kok E ω J 3 1 133 zb_m490 := sf_K_of hS (sf_TS_s (sf_nL (by decide +kernel)) sf_TS_n) (sf_nL (by decide +kernel)) rfl zb_h133_n zb_h133_n (by decide +kernel) (by decide +kernel) (by decide +kernel) zb_i490 (sf_fc (sf_okb_t zb_h133_n zb_e490_0) (sf_fc (sf_okb_t zb_h133_n zb_e490_1) sf_fn))
def zb_m491 : sf_M := (2686976, 4820814134004632202005622799796255478109751356822023680557824, zb_h1, zb_h1, [], [2147483648])
def zb_t491_0 : sf_T := (2686976, 4820814134004632202005622799796255478109751356822023680557824, [], zb_h1, [(1000, 1)], [(0, 0)])
def zb_l491 : List sf_T := [zb_t491_0]
noncomputable def zb_b491 : en_T := (fun _ => none)
theorem zb_e491_0 : sf_okb (sf_fin 133 zb_h1 [2147483648]) zb_b491 41 3 1 133 50 zb_l491 [] zb_t491_0 = true := by decide +kernel
theorem zb_i491 : (zb_m491.1, zb_m491.2.1, ([] : List Nat), zb_m491.2.2.1, [(1000, 1)], [(0, 0)]) ∈ zb_l491 := List.mem_cons_self
theorem zb_k491 (hS : ∀ ρ, en_SA E ρ ω mt_SB) (hX : sf_JX J) (hM : sf_MnB E ω J) : sf_Kok E ω J 3 1 133 zb_m491 := sf_K_of hS sf_TS_n (sf_nL (by decide +kernel)) rfl zb_h1_n zb_h1_n (by decide +kernel) (by decide +kernel) (by decide +kernel) zb_i491 (sf_fc (sf_okb_t zb_h1_n zb_e491_0) sf_fn)
end SFP
