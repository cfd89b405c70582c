/-! CONTRACTS, by program (wip/p3/emit.py) -/
section SFP
variable {E : mm_E} {ω : Nat → Value} {J : mm_H → Prop}
def zb_h92 : en_H := (((((((0, 0), 0), 0), ((0, 0), (0, 0))), ((((((0, (0, 0)), 0), 0), ((((0, 0), (0, (0, 0))), (((0, 0), 0), (0, (0, (0, 0))))), 0)), ((0, 0), 0)), (0, ((((0, 0), ((0, 0), ((0, 0), 0))), (((0, (0, 0)), ((0, 0), (0, 0))), (((0, 0), (0, 0)), ((0, 0), (0, 0))))), (((((0, 0), (0, 0)), ((0, 0), (0, 0))), (((0, 0), (0, 0)), ((0, 0), (0, 0)))), ((((0, 0), (0, 0)), ((0, 0), (0, (0, 0)))), ((((0, 0), (0, 0)), ((0, 0), 0)), (0, (0, (0, 0)))))))))), zb_r0), ((((((0, 0), 0), (0, (0, 0))), (0, 0)), zb_r8), ((((((((zb_r7, 0), 0), (0, 0)), (zb_r5, (0, zb_r5))), 0), (0, (((0, 0), (0, 0)), ((0, 0), (0, 0))))), zb_r1), (((zb_r2, zb_r6), zb_r6), (zb_r12, ((0, ((zb_r30, zb_r31), (0, 0))), (((0, 0), (0, 0)), ((0, 0), ((0, 0), (0, 0))))))))))
theorem zb_h92_n : sf_nlh zb_h92 136 = true := by decide +kernel
/-- X9_fillsBehind -/
def zb_m421 : sf_M := (1900544, 1422853192879425234015608139717629925292216359615481902378454987960403303860274176, zb_h92, zb_h92, [88, 97, 98, 103, 105, 116, 117, 118, 119, 120, 122, 123], [])
def zb_t421_0 : sf_T := (1900544, 1422853192879425234015608139717629925292216359615481902378454987960403303860274176, [], zb_h92, [(1000, 1), (88, 18)], [(0, 2)])
def zb_t421_1 : sf_T := (1900616, 1422853192910483092572148331664282194492406381361884288982404852736358673826186240, [], zb_h92, [(1000, 1), (1000, 2), (88, 18)], [(0, 1), (1, 1), (0, 0)])
def zb_t421_2 : sf_T := (1900645, 1422853192910483092572148332547637168121401399570882660833449770344718797721568256, [], zb_h92, [(1000, 1), (1000, 2), (88, 18)], [(0, 0), (1, 1), (0, 1)])
def zb_t421_3 : sf_T := (1900665, 9166661893742329587438798790825632191388862712577905580549512907401670775468271996883698688, [], zb_h92, [(1000, 1), (1000, 2), (1000, 3), (88, 18)], [(0, 0), (1, 1), (0, 0), (1, 2), (0, 0)])
def zb_l421 : List sf_T := [zb_t421_0, zb_t421_1, zb_t421_2, zb_t421_3]
noncomputable def zb_b421 : en_T := (sf_tc 2031616 (sf_call 133 [(3, 6, zb_m201)]) (sf_tc 3211264 (sf_call 133 [(5, 2, zb_m198)]) (sf_tc 2555904 (sf_call 133 [(2, 0, zb_m104)]) (sf_tc 7077888 (sf_call 133 [(1, 6, zb_m102)]) (sf_tc 1114112 (sf_call 133 [(2, 0, zb_m89)]) (fun _ => none))))))
theorem zb_e421_0 : sf_okb (sf_fin 133 zb_h92 []) zb_b421 29 4 7 133 110 zb_l421 [1] zb_t421_0 = true := by decide +kernel
theorem zb_e421_1 : sf_okb (sf_fin 133 zb_h92 []) zb_b421 29 4 7 133 56 zb_l421 [1, 2] zb_t421_1 = true := by decide +kernel
theorem zb_e421_2 : sf_okb (sf_fin 133 zb_h92 []) zb_b421 29 4 7 133 46 zb_l421 [2, 3] zb_t421_2 = true := by decide +kernel
theorem zb_e421_3 : sf_okb (sf_fin 133 zb_h92 []) zb_b421 29 4 7 133 84 zb_l421 [2, 3] zb_t421_3 = true := by decide +kernel
theorem zb_i421 : (zb_m421.1, zb_m421.2.1, ([] : List Nat), zb_m421.2.2.1, [(1000, 1), (88, 18)], [(0, 2)]) ∈ zb_l421 := List.mem_cons_self
theorem zb_k421 (hS : ∀ ρ, en_SA E ρ ω mt_SB) (hX : sf_JX J) (hM : sf_MnB E ω J) : sf_Kok E ω J 4 7 133 zb_m421 := sf_K_of hS (sf_TS_k (q := 2031616) (nx := 133) (l := [(3, 6, zb_m201)]) hX (sf_fc ⟨(rfl : zb_m201.1 = 2031616), (zb_k201 hS hX hM)⟩ sf_fn) (sf_TS_k (q := 3211264) (nx := 133) (l := [(5, 2, zb_m198)]) hX (sf_fc ⟨(rfl : zb_m198.1 = 3211264), (zb_k198 hS hX hM)⟩ sf_fn) (sf_TS_k (q := 2555904) (nx := 133) (l := [(2, 0, zb_m104)]) hX (sf_fc ⟨(rfl : zb_m104.1 = 2555904), (zb_k104 hS hX hM)⟩ sf_fn) (sf_TS_k (q := 7077888) (nx := 133) (l := [(1, 6, zb_m102)]) hX (sf_fc ⟨(rfl : zb_m102.1 = 7077888), (zb_k102 hS hX hM)⟩ sf_fn) (sf_TS_k (q := 1114112) (nx := 133) (l := [(2, 0, zb_m89)]) hX (sf_fc ⟨(rfl : zb_m89.1 = 1114112), (zb_k89 hS hX hM)⟩ sf_fn) sf_TS_n))))) (sf_nL (by decide +kernel)) rfl zb_h92_n zb_h92_n (by decide +kernel) (by decide +kernel) (by decide +kernel) zb_i421 (sf_fc (sf_okb_t zb_h92_n zb_e421_0) (sf_fc (sf_okb_t zb_h92_n zb_e421_1) (sf_fc (sf_okb_t zb_h92_n zb_e421_2) (sf_fc (sf_okb_t zb_h92_n zb_e421_3) sf_fn))))
/-- X9_safeBehind -/
def zb_m422 : sf_M := (5373952, 123947994177030503561028935099714771701422639436685094931855647539048513902395202375020658650452673980874249068030705272320, zb_h92, zb_h92, [88, 97, 98, 103, 105, 116, 117, 118, 119, 120, 122, 123], [73786976299133173759])
def zb_t422_0 : sf_T := (5373952, 123947994177030503561028935099714771701422639436685094931855647539048513902395202375020658650452673980874249068030705272320, [], zb_h92, [(1000, 1), (1000, 2), (1000, 3)], [(0, 1)])
def zb_t422_1 : sf_T := (5373963, 798528871927452678681879765545772058251791594409920646342970306549198270916504875978797544199969268375737634414998979045247015716352, [], zb_h92, [(1000, 1), (1000, 2), (1000, 3), (1000, 4), (1000, 5)], [(0, 0), (1, 4), (0, 1)])
def zb_t422_2 : sf_T := (5374001, 798528871927452678672260135126730437350357300403460163406280161098850452361922933479269015995082340725285306126528944518160306931200, [], zb_h92, [(1000, 1), (1000, 2), (1000, 3), (1000, 4), (1000, 5)], [(0, 0), (1, 4), (0, 0)])
def zb_l422 : List sf_T := [zb_t422_0, zb_t422_1, zb_t422_2]
noncomputable def zb_b422 : en_T := (sf_tc 1900544 (sf_call 133 [(4, 7, zb_m421)]) (fun _ => none))
theorem zb_e422_0 : sf_okb (sf_fin 133 zb_h92 [73786976299133173759]) zb_b422 82 6 8 133 34 zb_l422 [1] zb_t422_0 = true := by decide +kernel
theorem zb_e422_1 : sf_okb (sf_fin 133 zb_h92 [73786976299133173759]) zb_b422 82 6 8 133 74 zb_l422 [2] zb_t422_1 = true := by decide +kernel
theorem zb_e422_2 : sf_okb (sf_fin 133 zb_h92 [73786976299133173759]) zb_b422 82 6 8 133 24 zb_l422 [1] zb_t422_2 = true := by decide +kernel
theorem zb_i422 : (zb_m422.1, zb_m422.2.1, ([] : List Nat), zb_m422.2.2.1, [(1000, 1), (1000, 2), (1000, 3)], [(0, 1)]) ∈ zb_l422 := List.mem_cons_self
theorem zb_k422 (hS : ∀ ρ, en_SA E ρ ω mt_SB) (hX : sf_JX J) (hM : sf_MnB E ω J) : sf_Kok E ω J 6 8 133 zb_m422 := sf_K_of hS (sf_TS_k (q := 1900544) (nx := 133) (l := [(4, 7, zb_m421)]) hX (sf_fc ⟨(rfl : zb_m421.1 = 1900544), (zb_k421 hS hX hM)⟩ sf_fn) sf_TS_n) (sf_nL (by decide +kernel)) rfl zb_h92_n zb_h92_n (by decide +kernel) (by decide +kernel) (by decide +kernel) zb_i422 (sf_fc (sf_okb_t zb_h92_n zb_e422_0) (sf_fc (sf_okb_t zb_h92_n zb_e422_1) (sf_fc (sf_okb_t zb_h92_n zb_e422_2) sf_fn)))
def zb_h93 : en_H := (((((((0, 0), 0), 0), ((0, 0), (0, 0))), ((((((0, (0, 0)), 0), 0), ((((0, 0), (0, (0, 0))), (((0, 0), 0), (0, (0, (0, 0))))), 0)), ((0, 0), 0)), (0, ((((0, 0), ((0, 0), ((0, 0), 0))), (((0, (0, 0)), ((0, 0), (0, 0))), (((0, 0), (0, 0)), ((0, 0), (0, 0))))), (((((0, 0), (0, 0)), ((0, 0), (0, 0))), (((0, 0), (0, 0)), ((0, 0), (0, 0)))), ((((0, 0), (0, 0)), ((0, 0), (0, (0, 0)))), ((((0, 0), (0, 0)), ((0, 0), 0)), (0, (0, (0, 0)))))))))), zb_r0), ((((((0, 0), 0), (0, (0, 0))), (0, 0)), zb_r8), ((((((((zb_r7, 0), 0), (0, 0)), (zb_r5, (0, zb_r5))), 0), (0, (((0, 0), (0, 0)), ((0, 0), (0, 0))))), zb_r1), (((zb_r2, zb_r6), zb_r6), (zb_r12, ((0, ((zb_r30, zb_r31), (zb_r27, zb_r28))), (((zb_r29, 0), (0, 0)), ((0, 0), ((0, 0), (0, 0))))))))))
theorem zb_h93_n : sf_nlh zb_h93 136 = true := by decide +kernel
/-- X9_safeOf -/
def zb_m423 : sf_M := (5439488, 123947994177030503561028935099715790219410569537529912842897820957772181552977794010097944908412045430290093661772434114048, zb_h93, zb_h93, [88, 97, 98, 103, 105, 116, 117, 118, 119, 120, 122, 123, 124, 125, 126], [73786976299133173759])
def zb_t423_0 : sf_T := (5439488, 123947994177030503561028935099715790219410569537529912842897820957772181552977794010097944908412045430290093661772434114048, [], zb_h93, [(1000, 1), (1000, 2), (1000, 3), (88, 18)], [(0, 1)])
def zb_t423_1 : sf_T := (5439504, 123947994179435411165509372232172022521717763258970375714156534615914822338769657494154116981862672683278633577822447207936, [], zb_h93, [(1000, 1), (1000, 2), (1000, 3), (1000, 4), (88, 18)], [(0, 0)])
def zb_l423 : List sf_T := [zb_t423_0, zb_t423_1]
noncomputable def zb_b423 : en_T := (sf_tc 5373952 (sf_call 133 [(6, 8, zb_m422)]) (sf_tc 1441792 (sf_call 133 [(3, 0, zb_m216)]) (fun _ => none)))
theorem zb_e423_0 : sf_okb (sf_fin 133 zb_h93 [73786976299133173759]) zb_b423 83 6 9 133 40 zb_l423 [1] zb_t423_0 = true := by decide +kernel
theorem zb_e423_1 : sf_okb (sf_fin 133 zb_h93 [73786976299133173759]) zb_b423 83 6 9 133 148 zb_l423 [] zb_t423_1 = true := by decide +kernel
theorem zb_i423 : (zb_m423.1, zb_m423.2.1, ([] : List Nat), zb_m423.2.2.1, [(1000, 1), (1000, 2), (1000, 3), (88, 18)], [(0, 1)]) ∈ zb_l423 := List.mem_cons_self
theorem zb_k423 (hS : ∀ ρ, en_SA E ρ ω mt_SB) (hX : sf_JX J) (hM : sf_MnB E ω J) : sf_Kok E ω J 6 9 133 zb_m423 := sf_K_of hS (sf_TS_k (q := 5373952) (nx := 133) (l := [(6, 8, zb_m422)]) hX (sf_fc ⟨(rfl : zb_m422.1 = 5373952), (zb_k422 hS hX hM)⟩ sf_fn) (sf_TS_k (q := 1441792) (nx := 133) (l := [(3, 0, zb_m216)]) hX (sf_fc ⟨(rfl : zb_m216.1 = 1441792), (zb_k216 hS hX hM)⟩ sf_fn) sf_TS_n)) (sf_nL (by decide +kernel)) rfl zb_h93_n zb_h93_n (by decide +kernel) (by decide +kernel) (by decide +kernel) zb_i423 (sf_fc (sf_okb_t zb_h93_n zb_e423_0) (sf_fc (sf_okb_t zb_h93_n zb_e423_1) sf_fn))
/-- X9_fillsSafest -/
def zb_m424 : sf_M := (2228224, 123947994177030503561028935099706623557518250061135463897282557975803962215611167010097325395846312085970942536376345691648, zb_h93, zb_h93, [88, 97, 98, 103, 105, 116, 117, 118, 119, 120, 122, 123, 124, 125, 126], [])
def zb_t424_0 : sf_T := (2228224, 123947994177030503561028935099706623557518250061135463897282557975803962215611167010097325395846312085970942536376345691648, [], zb_h93, [(1000, 1), (88, 59)], [(0, 2)])
def zb_t424_1 : sf_T := (2228226, 123947994177030503561028935099706623557518250061135494955141114515995904752291756476296454136656427106782735140640270583296, [], zb_h93, [(1000, 1), (1000, 2), (88, 59)], [(0, 1), (1, 1), (0, 0)])
def zb_t424_2 : sf_T := (2228252, 123947994177030503561028935099706623557518250061135494955141114515995899888414307439051542354793303826992845725696767559168, [], zb_h93, [(1000, 1), (1000, 2), (88, 59)], [(0, 0), (1, 1), (0, 3)])
def zb_t424_3 : sf_T := (2228352, 798528871927452682048750412210339373754151996485102138889593626575207809374262841022842167740076556042140161840342229322306640938496, [], zb_h93, [(1000, 1), (1000, 2), (1000, 3), (1000, 4), (1000, 5), (88, 59)], [(0, 0), (1, 1), (0, 1), (1, 4), (0, 1)])
def zb_t424_4 : sf_T := (2228346, 123947994179736024616034435086179212759338578590835973813426601337540417990031393389802019253970651307102931896073445180928, [], zb_h93, [(1000, 1), (1000, 2), (1000, 3), (1000, 4), (88, 59)], [(0, 0), (1, 1), (0, 0)])
def zb_t424_5 : sf_T := (2228376, 798528871927452682039130781791297752852716683960653014425462830854879331183845777203446239573207119857712850742958216714687835276800, [], zb_h93, [(1000, 1), (1000, 2), (1000, 3), (1000, 4), (1000, 5), (88, 59)], [(0, 0), (1, 1), (0, 1), (1, 4), (0, 0)])
def zb_t424_6 : sf_T := (2228280, 123947994177030503561028935099715790219410569537529912842897819350834142157864967510825281767296317321813086678508348900864, [], zb_h93, [(1000, 1), (1000, 2), (1000, 3), (88, 59)], [(0, 0), (1, 1), (0, 2)])
def zb_l424 : List sf_T := [zb_t424_0, zb_t424_1, zb_t424_2, zb_t424_3, zb_t424_4, zb_t424_5, zb_t424_6]
noncomputable def zb_b424 : en_T := (sf_tc 5439488 (sf_call 133 [(6, 9, zb_m423)]) (sf_tc 2097152 (sf_call 133 [(4, 7, zb_m418)]) (sf_tc 1441792 (sf_call 133 [(3, 0, zb_m216)]) (fun _ => none))))
theorem zb_e424_0 : sf_okb (sf_fin 133 zb_h93 []) zb_b424 34 6 10 133 24 zb_l424 [1] zb_t424_0 = true := by decide +kernel
theorem zb_e424_1 : sf_okb (sf_fin 133 zb_h93 []) zb_b424 34 6 10 133 50 zb_l424 [1, 2] zb_t424_1 = true := by decide +kernel
theorem zb_e424_2 : sf_okb (sf_fin 133 zb_h93 []) zb_b424 34 6 10 133 68 zb_l424 [6] zb_t424_2 = true := by decide +kernel
theorem zb_e424_3 : sf_okb (sf_fin 133 zb_h93 []) zb_b424 34 6 10 133 100 zb_l424 [2, 5] zb_t424_3 = true := by decide +kernel
theorem zb_e424_4 : sf_okb (sf_fin 133 zb_h93 []) zb_b424 34 6 10 133 74 zb_l424 [2] zb_t424_4 = true := by decide +kernel
theorem zb_e424_5 : sf_okb (sf_fin 133 zb_h93 []) zb_b424 34 6 10 133 24 zb_l424 [3] zb_t424_5 = true := by decide +kernel
theorem zb_e424_6 : sf_okb (sf_fin 133 zb_h93 []) zb_b424 34 6 10 133 196 zb_l424 [3, 4] zb_t424_6 = true := by decide +kernel
theorem zb_i424 : (zb_m424.1, zb_m424.2.1, ([] : List Nat), zb_m424.2.2.1, [(1000, 1), (88, 59)], [(0, 2)]) ∈ zb_l424 := List.mem_cons_self
theorem zb_k424 (hS : ∀ ρ, en_SA E ρ ω mt_SB) (hX : sf_JX J) (hM : sf_MnB E ω J) : sf_Kok E ω J 6 10 133 zb_m424 := sf_K_of hS (sf_TS_k (q := 5439488) (nx := 133) (l := [(6, 9, zb_m423)]) hX (sf_fc ⟨(rfl : zb_m423.1 = 5439488), (zb_k423 hS hX hM)⟩ sf_fn) (sf_TS_k (q := 2097152) (nx := 133) (l := [(4, 7, zb_m418)]) hX (sf_fc ⟨(rfl : zb_m418.1 = 2097152), (zb_k418 hS hX hM)⟩ sf_fn) (sf_TS_k (q := 1441792) (nx := 133) (l := [(3, 0, zb_m216)]) hX (sf_fc ⟨(rfl : zb_m216.1 = 1441792), (zb_k216 hS hX hM)⟩ sf_fn) sf_TS_n))) (sf_nL (by decide +kernel)) rfl zb_h93_n zb_h93_n (by decide +kernel) (by decide +kernel) (by decide +kernel) zb_i424 (sf_fc (sf_okb_t zb_h93_n zb_e424_0) (sf_fc (sf_okb_t zb_h93_n zb_e424_1) (sf_fc (sf_okb_t zb_h93_n zb_e424_2) (sf_fc (sf_okb_t zb_h93_n zb_e424_3) (sf_fc (sf_okb_t zb_h93_n zb_e424_4) (sf_fc (sf_okb_t zb_h93_n zb_e424_5) (sf_fc (sf_okb_t zb_h93_n zb_e424_6) sf_fn)))))))
/-- X9_safest -/
def zb_m425 : sf_M := (5505024, 27606985388769193193717405410287975059719958368137445532464887646651136, zb_h93, zb_h93, [88, 97, 98, 103, 105, 116, 117, 118, 119, 120, 122, 123, 124, 125, 126], [73786976299133173759])
def zb_t425_0 : sf_T := (5505024, 27606985388769193193717405410287975059719958368137445532464887646651136, [], zb_h93, [(1000, 1), (1000, 2), (88, 59)], [(0, 0)])
def zb_l425 : List sf_T := [zb_t425_0]
noncomputable def zb_b425 : en_T := (sf_tc 2228224 (sf_call 133 [(6, 10, zb_m424)]) (fun _ => none))
theorem zb_e425_0 : sf_okb (sf_fin 133 zb_h93 [73786976299133173759]) zb_b425 84 3 11 133 172 zb_l425 [] zb_t425_0 = true := by decide +kernel
theorem zb_i425 : (zb_m425.1, zb_m425.2.1, ([] : List Nat), zb_m425.2.2.1, [(1000, 1), (1000, 2), (88, 59)], [(0, 0)]) ∈ zb_l425 := List.mem_cons_self
theorem zb_k425 (hS : ∀ ρ, en_SA E ρ ω mt_SB) (hX : sf_JX J) (hM : sf_MnB E ω J) : sf_Kok E ω J 3 11 133 zb_m425 := sf_K_of hS (sf_TS_k (q := 2228224) (nx := 133) (l := [(6, 10, zb_m424)]) hX (sf_fc ⟨(rfl : zb_m424.1 = 2228224), (zb_k424 hS hX hM)⟩ sf_fn) sf_TS_n) (sf_nL (by decide +kernel)) rfl zb_h93_n zb_h93_n (by decide +kernel) (by decide +kernel) (by decide +kernel) zb_i425 (sf_fc (sf_okb_t zb_h93_n zb_e425_0) sf_fn)
/-- X9_safe -/
def zb_m426 : sf_M := (5308416, 31057858561361006066053577041968929033895218187312274219218590802903808, zb_h93, zb_h93, [88, 97, 98, 103, 105, 116, 117, 118, 119, 120, 122, 123, 124, 125, 126], [73786976299133173759])
def zb_t426_0 : sf_T := (5308416, 31057858561361006066053577041968929033895218187312274219218590802903808, [], zb_h93, [(1000, 1), (1000, 2)], [(0, 0)])
def zb_l426 : List sf_T := [zb_t426_0]
noncomputable def zb_b426 : en_T := (sf_tc 2228224 (sf_call 133 [(6, 10, zb_m424)]) (sf_tc 1441792 (sf_call 133 [(3, 0, zb_m216)]) (sf_tc 3866624 (sf_call 133 [(4, 4, zb_m17)]) (fun _ => none))))
theorem zb_e426_0 : sf_okb (sf_fin 133 zb_h93 [73786976299133173759]) zb_b426 81 3 11 133 112 zb_l426 [] zb_t426_0 = true := by decide +kernel
theorem zb_i426 : (zb_m426.1, zb_m426.2.1, ([] : List Nat), zb_m426.2.2.1, [(1000, 1), (1000, 2)], [(0, 0)]) ∈ zb_l426 := List.mem_cons_self
theorem zb_k426 (hS : ∀ ρ, en_SA E ρ ω mt_SB) (hX : sf_JX J) (hM : sf_MnB E ω J) : sf_Kok E ω J 3 11 133 zb_m426 := sf_K_of hS (sf_TS_k (q := 2228224) (nx := 133) (l := [(6, 10, zb_m424)]) hX (sf_fc ⟨(rfl : zb_m424.1 = 2228224), (zb_k424 hS hX hM)⟩ sf_fn) (sf_TS_k (q := 1441792) (nx := 133) (l := [(3, 0, zb_m216)]) hX (sf_fc ⟨(rfl : zb_m216.1 = 1441792), (zb_k216 hS hX hM)⟩ sf_fn) (sf_TS_k (q := 3866624) (nx := 133) (l := [(4, 4, zb_m17)]) hX (sf_fc ⟨(rfl : zb_m17.1 = 3866624), (hM _ (List.mem_of_getElem? (i := 17) rfl))⟩ sf_fn) sf_TS_n))) (sf_nL (by decide +kernel)) rfl zb_h93_n zb_h93_n (by decide +kernel) (by decide +kernel) (by decide +kernel) zb_i426 (sf_fc (sf_okb_t zb_h93_n zb_e426_0) sf_fn)
/-- X9_at -/
def zb_m427 : sf_M := (262144, 4820814134004632201986566987254110053287983369080748111823616, zb_h1, zb_h1, [], [73786976299133173759])
def zb_t427_0 : sf_T := (262144, 4820814134004632201986566987254110053287983369080748111823616, [], zb_h1, [(1000, 0), (1000, 1)], [(0, 1)])
def zb_t427_1 : sf_T := (262156, 27606985388769193193729097423383900024135647468223649790037584412410624, [], zb_h1, [(1000, 0), (1000, 1), (1000, 2)], [(0, 0)])
def zb_l427 : List sf_T := [zb_t427_0, zb_t427_1]
noncomputable def zb_b427 : en_T := (fun _ => none)
theorem zb_e427_0 : sf_okb (sf_fin 133 zb_h1 [73786976299133173759]) zb_b427 4 3 1 133 146 zb_l427 [1] zb_t427_0 = true := by decide +kernel
theorem zb_e427_1 : sf_okb (sf_fin 133 zb_h1 [73786976299133173759]) zb_b427 4 3 1 133 36 zb_l427 [] zb_t427_1 = true := by decide +kernel
theorem zb_i427 : (zb_m427.1, zb_m427.2.1, ([] : List Nat), zb_m427.2.2.1, [(1000, 0), (1000, 1)], [(0, 1)]) ∈ zb_l427 := List.mem_cons_self
theorem zb_k427 (hS : ∀ ρ, en_SA E ρ ω mt_SB) (hX : sf_JX J) (hM : sf_MnB E ω J) : sf_Kok E ω J 3 1 133 zb_m427 := sf_K_of hS sf_TS_n (sf_nL (by decide +kernel)) rfl zb_h1_n zb_h1_n (by decide +kernel) (by decide +kernel) (by decide +kernel) zb_i427 (sf_fc (sf_okb_t zb_h1_n zb_e427_0) (sf_fc (sf_okb_t zb_h1_n zb_e427_1) sf_fn))
/-- X9_skillBy -/
def zb_m428 : sf_M := (5963776, 1422853192879425234015608139717629925292265360279336793596337128108837128814724096, zb_h6, zb_h6, [88, 98], [73786976299133173759])
def zb_t428_0 : sf_T := (5963776, 1422853192879425234015608139717629925292265360279336793596337128108837128814724096, [], zb_h6, [(1000, 1)], [(0, 1)])
def zb_t428_1 : sf_T := (5963798, 9166661893742329587324919976104391357019997985592891178202690977341942983223778695427654656, [], zb_h6, [(1000, 1), (1000, 2), (1000, 3)], [(0, 0), (1, 2), (0, 0)])
def zb_l428 : List sf_T := [zb_t428_0, zb_t428_1]
noncomputable def zb_b428 : en_T := (sf_tc 262144 (sf_call 133 [(3, 1, zb_m194), (3, 1, zb_m195), (3, 1, zb_m196), (3, 1, zb_m197)]) (sf_tc 5898240 (sf_call 133 [(3, 0, zb_m90)]) (fun _ => none)))
theorem zb_e428_0 : sf_okb (sf_fin 133 zb_h6 [73786976299133173759]) zb_b428 91 4 2 133 52 zb_l428 [1] zb_t428_0 = true := by decide +kernel
theorem zb_e428_1 : sf_okb (sf_fin 133 zb_h6 [73786976299133173759]) zb_b428 91 4 2 133 52 zb_l428 [1] zb_t428_1 = true := by decide +kernel
theorem zb_i428 : (zb_m428.1, zb_m428.2.1, ([] : List Nat), zb_m428.2.2.1, [(1000, 1)], [(0, 1)]) ∈ zb_l428 := List.mem_cons_self
theorem zb_k428 (hS : ∀ ρ, en_SA E ρ ω mt_SB) (hX : sf_JX J) (hM : sf_MnB E ω J) : sf_Kok E ω J 4 2 133 zb_m428 := sf_K_of hS (sf_TS_k (q := 262144) (nx := 133) (l := [(3, 1, zb_m194), (3, 1, zb_m195), (3, 1, zb_m196), (3, 1, zb_m197)]) hX (sf_fc ⟨(rfl : zb_m194.1 = 262144), (zb_k194 hS hX hM)⟩ (sf_fc ⟨(rfl : zb_m195.1 = 262144), (zb_k195 hS hX hM)⟩ (sf_fc ⟨(rfl : zb_m196.1 = 262144), (zb_k196 hS hX hM)⟩ (sf_fc ⟨(rfl : zb_m197.1 = 262144), (zb_k197 hS hX hM)⟩ sf_fn)))) (sf_TS_k (q := 5898240) (nx := 133) (l := [(3, 0, zb_m90)]) hX (sf_fc ⟨(rfl : zb_m90.1 = 5898240), (zb_k90 hS hX hM)⟩ sf_fn) sf_TS_n)) (sf_nL (by decide +kernel)) rfl zb_h6_n zb_h6_n (by decide +kernel) (by decide +kernel) (by decide +kernel) zb_i428 (sf_fc (sf_okb_t zb_h6_n zb_e428_0) (sf_fc (sf_okb_t zb_h6_n zb_e428_1) sf_fn))
def zb_h94 : en_H := (((((((0, 0), 0), 0), ((0, 0), (0, 0))), ((((((0, (0, 0)), 0), 0), ((((0, 0), (0, (0, 0))), (((0, 0), 0), (0, (0, (0, 0))))), 0)), ((0, 0), 0)), (0, ((((0, 0), ((0, 0), ((0, 0), 0))), (((0, (0, 0)), ((0, 0), (0, 0))), (((0, 0), (0, 0)), ((0, 0), (0, 0))))), (((((0, 0), (0, 0)), ((0, 0), (0, 0))), (((0, 0), (0, 0)), ((0, 0), (0, 0)))), ((((0, 0), (0, 0)), ((0, 0), (0, (0, 0)))), ((((0, 0), (0, 0)), ((0, 0), 0)), (0, (0, (0, 0)))))))))), zb_r0), ((((((0, 0), 0), (0, (0, 0))), (0, 0)), zb_r8), ((((((((zb_r7, 0), 0), (0, 0)), (0, (0, 0))), 0), (0, (((0, 0), (0, 0)), ((0, 0), (0, 0))))), 0), (((0, 0), 0), (0, ((0, ((0, 0), (0, 0))), (((0, 0), (0, 0)), ((0, 0), ((0, 0), (0, 0))))))))))
theorem zb_h94_n : sf_nlh zb_h94 136 = true := by decide +kernel
/-- X9_fillsRoster -/
def zb_m429 : sf_M := (2162688, 16333553616007998046963562849740359991808, zb_h94, zb_h94, [88, 97, 98], [])
def zb_t429_0 : sf_T := (2162688, 16333553616007998046963562849740359991808, [], zb_h94, [(88, 63)], [(0, 1)])
def zb_t429_1 : sf_T := (2162695, 105228117890547272089661906811295060756791061119488, [], zb_h94, [(1000, 1), (88, 63)], [(0, 0), (1, 0), (0, 0)])
def zb_l429 : List sf_T := [zb_t429_0, zb_t429_1]
noncomputable def zb_b429 : en_T := (sf_tc 5963776 (sf_call 133 [(4, 2, zb_m428)]) (sf_tc 3211264 (sf_call 133 [(5, 2, zb_m198)]) (fun _ => none)))
theorem zb_e429_0 : sf_okb (sf_fin 133 zb_h94 []) zb_b429 33 2 3 133 30 zb_l429 [1] zb_t429_0 = true := by decide +kernel
theorem zb_e429_1 : sf_okb (sf_fin 133 zb_h94 []) zb_b429 33 2 3 133 104 zb_l429 [1] zb_t429_1 = true := by decide +kernel
theorem zb_i429 : (zb_m429.1, zb_m429.2.1, ([] : List Nat), zb_m429.2.2.1, [(88, 63)], [(0, 1)]) ∈ zb_l429 := List.mem_cons_self
theorem zb_k429 (hS : ∀ ρ, en_SA E ρ ω mt_SB) (hX : sf_JX J) (hM : sf_MnB E ω J) : sf_Kok E ω J 2 3 133 zb_m429 := sf_K_of hS (sf_TS_k (q := 5963776) (nx := 133) (l := [(4, 2, zb_m428)]) hX (sf_fc ⟨(rfl : zb_m428.1 = 5963776), (zb_k428 hS hX hM)⟩ sf_fn) (sf_TS_k (q := 3211264) (nx := 133) (l := [(5, 2, zb_m198)]) hX (sf_fc ⟨(rfl : zb_m198.1 = 3211264), (zb_k198 hS hX hM)⟩ sf_fn) sf_TS_n)) (sf_nL (by decide +kernel)) rfl zb_h94_n zb_h94_n (by decide +kernel) (by decide +kernel) (by decide +kernel) zb_i429 (sf_fc (sf_okb_t zb_h94_n zb_e429_0) (sf_fc (sf_okb_t zb_h94_n zb_e429_1) sf_fn))
/-- X9_roster -/
def zb_m430 : sf_M := (5242880, 93536104794622304634503194109064771063916647154176, zb_h94, zb_h94, [88, 97, 98], [73786976299133173759])
def zb_t430_0 : sf_T := (5242880, 93536104794622304634503194109064771063916647154176, [], zb_h94, [(1000, 1), (88, 63)], [(0, 0)])
def zb_l430 : List sf_T := [zb_t430_0]
noncomputable def zb_b430 : en_T := (sf_tc 2162688 (sf_call 133 [(2, 3, zb_m429)]) (sf_tc 262144 (sf_call 133 [(3, 1, zb_m427)]) (fun _ => none)))
theorem zb_e430_0 : sf_okb (sf_fin 133 zb_h94 [73786976299133173759]) zb_b430 80 2 4 133 96 zb_l430 [] zb_t430_0 = true := by decide +kernel
theorem zb_i430 : (zb_m430.1, zb_m430.2.1, ([] : List Nat), zb_m430.2.2.1, [(1000, 1), (88, 63)], [(0, 0)]) ∈ zb_l430 := List.mem_cons_self
theorem zb_k430 (hS : ∀ ρ, en_SA E ρ ω mt_SB) (hX : sf_JX J) (hM : sf_MnB E ω J) : sf_Kok E ω J 2 4 133 zb_m430 := sf_K_of hS (sf_TS_k (q := 2162688) (nx := 133) (l := [(2, 3, zb_m429)]) hX (sf_fc ⟨(rfl : zb_m429.1 = 2162688), (zb_k429 hS hX hM)⟩ sf_fn) (sf_TS_k (q := 262144) (nx := 133) (l := [(3, 1, zb_m427)]) hX (sf_fc ⟨(rfl : zb_m427.1 = 262144), (zb_k427 hS hX hM)⟩ sf_fn) sf_TS_n)) (sf_nL (by decide +kernel)) rfl zb_h94_n zb_h94_n (by decide +kernel) (by decide +kernel) (by decide +kernel) zb_i430 (sf_fc (sf_okb_t zb_h94_n zb_e430_0) sf_fn)
/-- X9_handy -/
def zb_m431 : sf_M := (2490368, 1422853192879425234015608139717618233279169435311882902534235126048545751103964160, zb_h94, zb_h94, [88, 97, 98], [83010348325250531333])
def zb_t431_0 : sf_T := (2490368, 1422853192879425234015608139717618233279169435311882902534235126048545751103964160, [], zb_h94, [(1000, 1), (88, 18)], [(0, 1)])
def zb_t431_1 : sf_T := (2490384, 9166661893742329587659654673919716355602181035739412274295039157400206368507508052996391936, [], zb_h94, [(1000, 1), (1000, 2), (1000, 3), (88, 18)], [(0, 0), (1, 2), (0, 0)])
def zb_l431 : List sf_T := [zb_t431_0, zb_t431_1]
noncomputable def zb_b431 : en_T := (sf_tc 5898240 (sf_call 133 [(3, 0, zb_m90)]) (fun _ => none))
theorem zb_e431_0 : sf_okb (sf_fin 133 zb_h94 [83010348325250531333]) zb_b431 38 4 1 133 76 zb_l431 [1] zb_t431_0 = true := by decide +kernel
theorem zb_e431_1 : sf_okb (sf_fin 133 zb_h94 [83010348325250531333]) zb_b431 38 4 1 133 80 zb_l431 [1] zb_t431_1 = true := by decide +kernel
theorem zb_i431 : (zb_m431.1, zb_m431.2.1, ([] : List Nat), zb_m431.2.2.1, [(1000, 1), (88, 18)], [(0, 1)]) ∈ zb_l431 := List.mem_cons_self
theorem zb_k431 (hS : ∀ ρ, en_SA E ρ ω mt_SB) (hX : sf_JX J) (hM : sf_MnB E ω J) : sf_Kok E ω J 4 1 133 zb_m431 := sf_K_of hS (sf_TS_k (q := 5898240) (nx := 133) (l := [(3, 0, zb_m90)]) hX (sf_fc ⟨(rfl : zb_m90.1 = 5898240), (zb_k90 hS hX hM)⟩ sf_fn) sf_TS_n) (sf_nL (by decide +kernel)) rfl zb_h94_n zb_h94_n (by decide +kernel) (by decide +kernel) (by decide +kernel) zb_i431 (sf_fc (sf_okb_t zb_h94_n zb_e431_0) (sf_fc (sf_okb_t zb_h94_n zb_e431_1) sf_fn))
/-- X9_better -/
def zb_m432 : sf_M := (589824, 1422853192879425234015608139717629925292265360276295699806389605774646537825027072, zb_h94, zb_h94, [88, 97, 98], [73786976299133173759])
def zb_t432_0 : sf_T := (589824, 1422853192879425234015608139717629925292265360276295699806389605774646537825027072, [], zb_h94, [(1000, 1)], [(0, 1)])
def zb_t432_1 : sf_T := (589832, 9166661893742329852131123809764742753316710909437803737843798927785386809365317523169346560, [], zb_h94, [(1000, 1), (1000, 2), (1000, 3)], [(0, 0), (1, 2), (0, 0)])
def zb_l432 : List sf_T := [zb_t432_0, zb_t432_1]
noncomputable def zb_b432 : en_T := (sf_tc 2162688 (sf_call 133 [(2, 3, zb_m429)]) (sf_tc 5963776 (sf_call 133 [(4, 2, zb_m428)]) (sf_tc 1441792 (sf_call 133 [(3, 0, zb_m216)]) (sf_tc 3211264 (sf_call 133 [(5, 2, zb_m198)]) (sf_tc 3866624 (sf_call 133 [(4, 4, zb_m17)]) (fun _ => none))))))
theorem zb_e432_0 : sf_okb (sf_fin 133 zb_h94 [73786976299133173759]) zb_b432 9 4 5 133 32 zb_l432 [1] zb_t432_0 = true := by decide +kernel
theorem zb_e432_1 : sf_okb (sf_fin 133 zb_h94 [73786976299133173759]) zb_b432 9 4 5 133 78 zb_l432 [1] zb_t432_1 = true := by decide +kernel
theorem zb_i432 : (zb_m432.1, zb_m432.2.1, ([] : List Nat), zb_m432.2.2.1, [(1000, 1)], [(0, 1)]) ∈ zb_l432 := List.mem_cons_self
theorem zb_k432 (hS : ∀ ρ, en_SA E ρ ω mt_SB) (hX : sf_JX J) (hM : sf_MnB E ω J) : sf_Kok E ω J 4 5 133 zb_m432 := sf_K_of hS (sf_TS_k (q := 2162688) (nx := 133) (l := [(2, 3, zb_m429)]) hX (sf_fc ⟨(rfl : zb_m429.1 = 2162688), (zb_k429 hS hX hM)⟩ sf_fn) (sf_TS_k (q := 5963776) (nx := 133) (l := [(4, 2, zb_m428)]) hX (sf_fc ⟨(rfl : zb_m428.1 = 5963776), (zb_k428 hS hX hM)⟩ sf_fn) (sf_TS_k (q := 1441792) (nx := 133) (l := [(3, 0, zb_m216)]) hX (sf_fc ⟨(rfl : zb_m216.1 = 1441792), (zb_k216 hS hX hM)⟩ sf_fn) (sf_TS_k (q := 3211264) (nx := 133) (l := [(5, 2, zb_m198)]) hX (sf_fc ⟨(rfl : zb_m198.1 = 3211264), (zb_k198 hS hX hM)⟩ sf_fn) (sf_TS_k (q := 3866624) (nx := 133) (l := [(4, 4, zb_m17)]) hX (sf_fc ⟨(rfl : zb_m17.1 = 3866624), (hM _ (List.mem_of_getElem? (i := 17) rfl))⟩ sf_fn) sf_TS_n))))) (sf_nL (by decide +kernel)) rfl zb_h94_n zb_h94_n (by decide +kernel) (by decide +kernel) (by decide +kernel) zb_i432 (sf_fc (sf_okb_t zb_h94_n zb_e432_0) (sf_fc (sf_okb_t zb_h94_n zb_e432_1) sf_fn))
/-- X9_goes -/
def zb_m433 : sf_M := (2359296, 4820814133992940188890642022838420953201779111508051346064128, zb_h41, zb_h41, [88, 97, 98, 103, 116, 117, 119, 120], [])
def zb_t433_0 : sf_T := (2359296, 4820814133992940188890642022838420953201779111508051346064128, [], zb_h41, [(1000, 1)], [(0, 1)])
def zb_t433_1 : sf_T := (2359298, 31057858562164475087434783341426487785945512854222638810046149758550784, [], zb_h41, [(1000, 1), (1000, 2)], [(0, 0), (1, 1), (0, 0)])
def zb_l433 : List sf_T := [zb_t433_0, zb_t433_1]
noncomputable def zb_b433 : en_T := (sf_tc 6946816 (sf_call 133 [(1, 8, zb_m173)]) (fun _ => none))
theorem zb_e433_0 : sf_okb (sf_fin 133 zb_h41 []) zb_b433 36 3 9 133 24 zb_l433 [1] zb_t433_0 = true := by decide +kernel
theorem zb_e433_1 : sf_okb (sf_fin 133 zb_h41 []) zb_b433 36 3 9 133 38 zb_l433 [1] zb_t433_1 = true := by decide +kernel
theorem zb_i433 : (zb_m433.1, zb_m433.2.1, ([] : List Nat), zb_m433.2.2.1, [(1000, 1)], [(0, 1)]) ∈ zb_l433 := List.mem_cons_self
theorem zb_k433 (hS : ∀ ρ, en_SA E ρ ω mt_SB) (hX : sf_JX J) (hM : sf_MnB E ω J) : sf_Kok E ω J 3 9 133 zb_m433 := sf_K_of hS (sf_TS_k (q := 6946816) (nx := 133) (l := [(1, 8, zb_m173)]) hX (sf_fc ⟨(rfl : zb_m173.1 = 6946816), (zb_k173 hS hX hM)⟩ sf_fn) sf_TS_n) (sf_nL (by decide +kernel)) rfl zb_h41_n zb_h41_n (by decide +kernel) (by decide +kernel) (by decide +kernel) zb_i433 (sf_fc (sf_okb_t zb_h41_n zb_e433_0) (sf_fc (sf_okb_t zb_h41_n zb_e433_1) sf_fn))
def zb_h95 : en_H := (((((((0, 0), 0), 0), ((0, 0), (0, 0))), ((((((0, (0, 0)), 0), 0), ((((0, 0), (0, (0, 0))), (((0, 0), 0), (0, (0, (0, 0))))), 0)), ((0, 0), 0)), (0, ((((0, 0), ((0, 0), ((0, 0), 0))), (((0, (0, 0)), ((0, 0), (0, 0))), (((0, 0), (0, 0)), ((0, 0), (0, 0))))), (((((0, 0), (0, 0)), ((0, 0), (0, 0))), (((0, 0), (0, 0)), ((0, 0), (0, 0)))), ((((0, 0), (0, 0)), ((0, 0), (0, (0, 0)))), ((((0, 0), (0, 0)), ((0, 0), 0)), (0, (0, (0, 0)))))))))), zb_r0), ((((((0, 0), 0), (0, (0, 0))), (0, 0)), zb_r8), ((((((((zb_r7, 0), 0), (0, 0)), (zb_r5, (0, zb_r5))), 0), (0, (((0, 0), (0, 0)), ((0, 0), (0, 0))))), zb_r1), (((zb_r2, zb_r6), zb_r6), (zb_r12, ((0, ((0, 0), (0, 0))), (((0, 0), (0, 0)), ((0, 0), ((0, 0), (0, 0))))))))))
theorem zb_h95_n : sf_nlh zb_h95 136 = true := by decide +kernel
/-- X9_then -/
def zb_m434 : sf_M := (6684672, 27606985388769193193717405410287975059719958368137445532464887646651136, zb_h95, zb_h95, [88, 97, 98, 103, 105, 116, 117, 118, 119, 120], [73786976299133173759])
def zb_t434_0 : sf_T := (6684672, 27606985388769193193717405410287975059719958368137445532464887646651136, [], zb_h95, [(1000, 1), (1000, 2)], [(0, 0)])
def zb_l434 : List sf_T := [zb_t434_0]
noncomputable def zb_b434 : en_T := (sf_tc 2359296 (sf_call 133 [(3, 9, zb_m433)]) (sf_tc 5767168 (sf_call 133 [(2, 6, zb_m97)]) (sf_tc 1114112 (sf_call 133 [(2, 0, zb_m89)]) (fun _ => none))))
theorem zb_e434_0 : sf_okb (sf_fin 133 zb_h95 [73786976299133173759]) zb_b434 102 3 10 133 144 zb_l434 [] zb_t434_0 = true := by decide +kernel
theorem zb_i434 : (zb_m434.1, zb_m434.2.1, ([] : List Nat), zb_m434.2.2.1, [(1000, 1), (1000, 2)], [(0, 0)]) ∈ zb_l434 := List.mem_cons_self
theorem zb_k434 (hS : ∀ ρ, en_SA E ρ ω mt_SB) (hX : sf_JX J) (hM : sf_MnB E ω J) : sf_Kok E ω J 3 10 133 zb_m434 := sf_K_of hS (sf_TS_k (q := 2359296) (nx := 133) (l := [(3, 9, zb_m433)]) hX (sf_fc ⟨(rfl : zb_m433.1 = 2359296), (zb_k433 hS hX hM)⟩ sf_fn) (sf_TS_k (q := 5767168) (nx := 133) (l := [(2, 6, zb_m97)]) hX (sf_fc ⟨(rfl : zb_m97.1 = 5767168), (zb_k97 hS hX hM)⟩ sf_fn) (sf_TS_k (q := 1114112) (nx := 133) (l := [(2, 0, zb_m89)]) hX (sf_fc ⟨(rfl : zb_m89.1 = 1114112), (zb_k89 hS hX hM)⟩ sf_fn) sf_TS_n))) (sf_nL (by decide +kernel)) rfl zb_h95_n zb_h95_n (by decide +kernel) (by decide +kernel) (by decide +kernel) zb_i434 (sf_fc (sf_okb_t zb_h95_n zb_e434_0) sf_fn)
/-- X9_often -/
def zb_m435 : sf_M := (4456448, 8148143905812228742507008933932579571396220556844594427555527762536554723799623503804630016, zb_h95, zb_h95, [88, 97, 98, 103, 105, 116, 117, 118, 119, 120], [73786976299133173759])
def zb_t435_0 : sf_T := (4456448, 8148143905812228742507008933932579571396220556844594427555527762536554723799623503804630016, [], zb_h95, [(1000, 1), (1000, 2), (1000, 3), (88, 18)], [(0, 0)])
def zb_l435 : List sf_T := [zb_t435_0]
noncomputable def zb_b435 : en_T := (sf_tc 2359296 (sf_call 133 [(3, 9, zb_m433)]) (sf_tc 1114112 (sf_call 133 [(2, 0, zb_m89)]) (fun _ => none)))
theorem zb_e435_0 : sf_okb (sf_fin 133 zb_h95 [73786976299133173759]) zb_b435 68 4 10 133 4212 zb_l435 [] zb_t435_0 = true := by decide +kernel
theorem zb_i435 : (zb_m435.1, zb_m435.2.1, ([] : List Nat), zb_m435.2.2.1, [(1000, 1), (1000, 2), (1000, 3), (88, 18)], [(0, 0)]) ∈ zb_l435 := List.mem_cons_self
theorem zb_k435 (hS : ∀ ρ, en_SA E ρ ω mt_SB) (hX : sf_JX J) (hM : sf_MnB E ω J) : sf_Kok E ω J 4 10 133 zb_m435 := sf_K_of hS (sf_TS_k (q := 2359296) (nx := 133) (l := [(3, 9, zb_m433)]) hX (sf_fc ⟨(rfl : zb_m433.1 = 2359296), (zb_k433 hS hX hM)⟩ sf_fn) (sf_TS_k (q := 1114112) (nx := 133) (l := [(2, 0, zb_m89)]) hX (sf_fc ⟨(rfl : zb_m89.1 = 1114112), (zb_k89 hS hX hM)⟩ sf_fn) sf_TS_n)) (sf_nL (by decide +kernel)) rfl zb_h95_n zb_h95_n (by decide +kernel) (by decide +kernel) (by decide +kernel) zb_i435 (sf_fc (sf_okb_t zb_h95_n zb_e435_0) sf_fn)
/-- X9_endsBy -/
def zb_m436 : sf_M := (1638400, 4820814133992940188890642022838420953201779111508051346064128, zb_h41, zb_h41, [88, 97, 98, 103, 116, 117, 119, 120], [73786976299133173759])
def zb_t436_0 : sf_T := (1638400, 4820814133992940188890642022838420953201779111508051346064128, [], zb_h41, [(1000, 1)], [(0, 1)])
def zb_t436_1 : sf_T := (1638402, 31057858561361006140508316454154447298863738305210596372570418272273152, [], zb_h41, [(1000, 1), (1000, 2)], [(0, 0), (1, 1), (0, 0)])
def zb_l436 : List sf_T := [zb_t436_0, zb_t436_1]
noncomputable def zb_b436 : en_T := (sf_tc 6946816 (sf_call 133 [(1, 8, zb_m173)]) (fun _ => none))
theorem zb_e436_0 : sf_okb (sf_fin 133 zb_h41 [73786976299133173759]) zb_b436 25 3 9 133 24 zb_l436 [1] zb_t436_0 = true := by decide +kernel
theorem zb_e436_1 : sf_okb (sf_fin 133 zb_h41 [73786976299133173759]) zb_b436 25 3 9 133 104 zb_l436 [1] zb_t436_1 = true := by decide +kernel
theorem zb_i436 : (zb_m436.1, zb_m436.2.1, ([] : List Nat), zb_m436.2.2.1, [(1000, 1)], [(0, 1)]) ∈ zb_l436 := List.mem_cons_self
theorem zb_k436 (hS : ∀ ρ, en_SA E ρ ω mt_SB) (hX : sf_JX J) (hM : sf_MnB E ω J) : sf_Kok E ω J 3 9 133 zb_m436 := sf_K_of hS (sf_TS_k (q := 6946816) (nx := 133) (l := [(1, 8, zb_m173)]) hX (sf_fc ⟨(rfl : zb_m173.1 = 6946816), (zb_k173 hS hX hM)⟩ sf_fn) sf_TS_n) (sf_nL (by decide +kernel)) rfl zb_h41_n zb_h41_n (by decide +kernel) (by decide +kernel) (by decide +kernel) zb_i436 (sf_fc (sf_okb_t zb_h41_n zb_e436_0) (sf_fc (sf_okb_t zb_h41_n zb_e436_1) sf_fn))
/-- X9_ends -/
def zb_m437 : sf_M := (1572864, 93536104794622304634503194109064771063916647154176, zb_h95, zb_h95, [88, 97, 98, 103, 105, 116, 117, 118, 119, 120], [73786976299133173759])
def zb_t437_0 : sf_T := (1572864, 93536104794622304634503194109064771063916647154176, [], zb_h95, [(1000, 1)], [(0, 0)])
def zb_l437 : List sf_T := [zb_t437_0]
noncomputable def zb_b437 : en_T := (sf_tc 1638400 (sf_call 133 [(3, 9, zb_m436)]) (sf_tc 1114112 (sf_call 133 [(2, 0, zb_m89)]) (fun _ => none)))
theorem zb_e437_0 : sf_okb (sf_fin 133 zb_h95 [73786976299133173759]) zb_b437 24 2 10 133 80 zb_l437 [] zb_t437_0 = true := by decide +kernel
theorem zb_i437 : (zb_m437.1, zb_m437.2.1, ([] : List Nat), zb_m437.2.2.1, [(1000, 1)], [(0, 0)]) ∈ zb_l437 := List.mem_cons_self
theorem zb_k437 (hS : ∀ ρ, en_SA E ρ ω mt_SB) (hX : sf_JX J) (hM : sf_MnB E ω J) : sf_Kok E ω J 2 10 133 zb_m437 := sf_K_of hS (sf_TS_k (q := 1638400) (nx := 133) (l := [(3, 9, zb_m436)]) hX (sf_fc ⟨(rfl : zb_m436.1 = 1638400), (zb_k436 hS hX hM)⟩ sf_fn) (sf_TS_k (q := 1114112) (nx := 133) (l := [(2, 0, zb_m89)]) hX (sf_fc ⟨(rfl : zb_m89.1 = 1114112), (zb_k89 hS hX hM)⟩ sf_fn) sf_TS_n)) (sf_nL (by decide +kernel)) rfl zb_h95_n zb_h95_n (by decide +kernel) (by decide +kernel) (by decide +kernel) zb_i437 (sf_fc (sf_okb_t zb_h95_n zb_e437_0) sf_fn)
/-- X9_steady -/
def zb_m438 : sf_M := (6160384, 27606985388769193193717405410287975059719958368137445532464887646651136, zb_h95, zb_h95, [88, 97, 98, 103, 105, 116, 117, 118, 119, 120], [73786976299133173759])
def zb_t438_0 : sf_T := (6160384, 27606985388769193193717405410287975059719958368137445532464887646651136, [], zb_h95, [(1000, 1), (1000, 2)], [(0, 0)])
def zb_l438 : List sf_T := [zb_t438_0]
noncomputable def zb_b438 : en_T := (sf_tc 1638400 (sf_call 133 [(3, 9, zb_m436)]) (sf_tc 1114112 (sf_call 133 [(2, 0, zb_m89)]) (fun _ => none)))
theorem zb_e438_0 : sf_okb (sf_fin 133 zb_h95 [73786976299133173759]) zb_b438 94 3 10 133 134 zb_l438 [] zb_t438_0 = true := by decide +kernel
theorem zb_i438 : (zb_m438.1, zb_m438.2.1, ([] : List Nat), zb_m438.2.2.1, [(1000, 1), (1000, 2)], [(0, 0)]) ∈ zb_l438 := List.mem_cons_self
theorem zb_k438 (hS : ∀ ρ, en_SA E ρ ω mt_SB) (hX : sf_JX J) (hM : sf_MnB E ω J) : sf_Kok E ω J 3 10 133 zb_m438 := sf_K_of hS (sf_TS_k (q := 1638400) (nx := 133) (l := [(3, 9, zb_m436)]) hX (sf_fc ⟨(rfl : zb_m436.1 = 1638400), (zb_k436 hS hX hM)⟩ sf_fn) (sf_TS_k (q := 1114112) (nx := 133) (l := [(2, 0, zb_m89)]) hX (sf_fc ⟨(rfl : zb_m89.1 = 1114112), (zb_k89 hS hX hM)⟩ sf_fn) sf_TS_n)) (sf_nL (by decide +kernel)) rfl zb_h95_n zb_h95_n (by decide +kernel) (by decide +kernel) (by decide +kernel) zb_i438 (sf_fc (sf_okb_t zb_h95_n zb_e438_0) sf_fn)
/-- X9_captainIn -/
def zb_m439 : sf_M := (851968, 8148143905812228742507008933932579571396232248857690352519945630411110116443330277338514432, zb_h95, zb_h95, [88, 97, 98, 103, 105, 116, 117, 118, 119, 120], [73786976299133173759])
def zb_t439_0 : sf_T := (851968, 8148143905812228742507008933932579571396232248857690352519945630411110116443330277338514432, [], zb_h95, [(1000, 1), (1000, 2), (1000, 3)], [(0, 0)])
def zb_l439 : List sf_T := [zb_t439_0]
noncomputable def zb_b439 : en_T := (sf_tc 2359296 (sf_call 133 [(3, 9, zb_m433)]) (sf_tc 1114112 (sf_call 133 [(2, 0, zb_m89)]) (fun _ => none)))
theorem zb_e439_0 : sf_okb (sf_fin 133 zb_h95 [73786976299133173759]) zb_b439 13 4 10 133 170 zb_l439 [] zb_t439_0 = true := by decide +kernel
theorem zb_i439 : (zb_m439.1, zb_m439.2.1, ([] : List Nat), zb_m439.2.2.1, [(1000, 1), (1000, 2), (1000, 3)], [(0, 0)]) ∈ zb_l439 := List.mem_cons_self
theorem zb_k439 (hS : ∀ ρ, en_SA E ρ ω mt_SB) (hX : sf_JX J) (hM : sf_MnB E ω J) : sf_Kok E ω J 4 10 133 zb_m439 := sf_K_of hS (sf_TS_k (q := 2359296) (nx := 133) (l := [(3, 9, zb_m433)]) hX (sf_fc ⟨(rfl : zb_m433.1 = 2359296), (zb_k433 hS hX hM)⟩ sf_fn) (sf_TS_k (q := 1114112) (nx := 133) (l := [(2, 0, zb_m89)]) hX (sf_fc ⟨(rfl : zb_m89.1 = 1114112), (zb_k89 hS hX hM)⟩ sf_fn) sf_TS_n)) (sf_nL (by decide +kernel)) rfl zb_h95_n zb_h95_n (by decide +kernel) (by decide +kernel) (by decide +kernel) zb_i439 (sf_fc (sf_okb_t zb_h95_n zb_e439_0) sf_fn)
/-- X9_spared -/
def zb_m440 : sf_M := (6029312, 27606985388769193193717405410287975059719958368137445532464887646651136, zb_h95, zb_h95, [88, 97, 98, 103, 105, 116, 117, 118, 119, 120], [73786976299133173759])
def zb_t440_0 : sf_T := (6029312, 27606985388769193193717405410287975059719958368137445532464887646651136, [], zb_h95, [(1000, 1), (1000, 2), (88, 18)], [(0, 0)])
def zb_l440 : List sf_T := [zb_t440_0]
noncomputable def zb_b440 : en_T := (sf_tc 851968 (sf_call 133 [(4, 10, zb_m439)]) (fun _ => none))
theorem zb_e440_0 : sf_okb (sf_fin 133 zb_h95 [73786976299133173759]) zb_b440 92 3 11 133 174 zb_l440 [] zb_t440_0 = true := by decide +kernel
theorem zb_i440 : (zb_m440.1, zb_m440.2.1, ([] : List Nat), zb_m440.2.2.1, [(1000, 1), (1000, 2), (88, 18)], [(0, 0)]) ∈ zb_l440 := List.mem_cons_self
theorem zb_k440 (hS : ∀ ρ, en_SA E ρ ω mt_SB) (hX : sf_JX J) (hM : sf_MnB E ω J) : sf_Kok E ω J 3 11 133 zb_m440 := sf_K_of hS (sf_TS_k (q := 851968) (nx := 133) (l := [(4, 10, zb_m439)]) hX (sf_fc ⟨(rfl : zb_m439.1 = 851968), (zb_k439 hS hX hM)⟩ sf_fn) sf_TS_n) (sf_nL (by decide +kernel)) rfl zb_h95_n zb_h95_n (by decide +kernel) (by decide +kernel) (by decide +kernel) zb_i440 (sf_fc (sf_okb_t zb_h95_n zb_e440_0) sf_fn)
def zb_h96 : en_H := (((((((0, 0), 0), 0), ((0, 0), (0, 0))), ((((((0, (0, 0)), 0), 0), ((((0, 0), (0, (0, 0))), (((0, 0), 0), (0, (0, (0, 0))))), 0)), ((0, 0), 0)), (0, ((((0, 0), ((0, 0), ((0, 0), 0))), (((0, (0, 0)), ((0, 0), (0, 0))), (((0, 0), (0, 0)), ((0, 0), (0, 0))))), (((((0, 0), (0, 0)), ((0, 0), (0, 0))), (((0, 0), (0, 0)), ((0, 0), (0, 0)))), ((((0, 0), (0, 0)), ((0, 0), (0, (0, 0)))), ((((0, 0), (0, 0)), ((0, 0), 0)), (0, (0, (0, 0)))))))))), zb_r3), ((((((0, 0), 0), (0, (0, 0))), (0, 0)), zb_r20), ((((((((0, 0), 0), (0, 0)), (0, (0, 0))), 0), (0, (((0, 0), (0, 0)), ((0, 0), (0, 0))))), 0), (((0, zb_r6), 0), (0, ((0, ((0, 0), (0, 0))), (((0, 0), (0, 0)), ((0, 0), ((0, 0), (0, 0))))))))))
theorem zb_h96_n : sf_nlh zb_h96 136 = true := by decide +kernel
/-- X9_broom -/
def zb_m441 : sf_M := (720896, 36893488525376225536, zb_h96, zb_h96, [88, 97, 118], [2147493647])
def zb_t441_0 : sf_T := (720896, 36893488525376225536, [], zb_h96, [], [(0, 0)])
def zb_l441 : List sf_T := [zb_t441_0]
noncomputable def zb_b441 : en_T := (fun _ => none)
theorem zb_e441_0 : sf_okb (sf_fin 133 zb_h96 [2147493647]) zb_b441 11 1 0 133 38 zb_l441 [] zb_t441_0 = true := by decide +kernel
theorem zb_i441 : (zb_m441.1, zb_m441.2.1, ([] : List Nat), zb_m441.2.2.1, [], [(0, 0)]) ∈ zb_l441 := List.mem_cons_self
theorem zb_k441 (hS : ∀ ρ, en_SA E ρ ω mt_SB) (hX : sf_JX J) (hM : sf_MnB E ω J) : sf_Kok E ω J 1 0 133 zb_m441 := sf_K_of hS sf_TS_n (sf_nL (by decide +kernel)) rfl zb_h96_n zb_h96_n (by decide +kernel) (by decide +kernel) (by decide +kernel) zb_i441 (sf_fc (sf_okb_t zb_h96_n zb_e441_0) sf_fn)
def zb_h97 : en_H := (((((((0, 0), 0), 0), ((0, 0), (0, 0))), ((((((0, (0, 0)), 0), 0), ((((0, 0), (0, (0, 0))), (((0, 0), 0), (0, (0, (0, 0))))), 0)), ((0, 0), 0)), (0, ((((0, 0), ((0, 0), ((0, 0), 0))), (((0, (0, 0)), ((0, 0), (0, 0))), (((0, 0), (0, 0)), ((0, 0), (0, 0))))), (((((0, 0), (0, 0)), ((0, 0), (0, 0))), (((0, 0), (0, 0)), ((0, 0), (0, 0)))), ((((0, 0), (0, 0)), ((0, 0), (0, (0, 0)))), ((((0, 0), (0, 0)), ((0, 0), 0)), (0, (0, (0, 0)))))))))), zb_r3), ((((((0, 0), 0), (0, (0, 0))), (0, 0)), zb_r13), ((((((((0, 0), 0), (0, 0)), (0, (0, 0))), 0), (0, (((0, 0), (0, 0)), ((0, 0), (0, 0))))), 0), (((0, zb_r6), 0), (0, ((0, ((0, 0), (0, 0))), (((0, 0), (0, 0)), ((0, 0), ((0, 0), (0, 0))))))))))
theorem zb_h97_n : sf_nlh zb_h97 136 = true := by decide +kernel
/-- X9_broom -/
def zb_m442 : sf_M := (720896, 36893488525376225536, zb_h97, zb_h97, [88, 97, 118], [73786976299133173759])
def zb_t442_0 : sf_T := (720896, 36893488525376225536, [], zb_h97, [], [(0, 0)])
def zb_l442 : List sf_T := [zb_t442_0]
noncomputable def zb_b442 : en_T := (fun _ => none)
theorem zb_e442_0 : sf_okb (sf_fin 133 zb_h97 [73786976299133173759]) zb_b442 11 1 0 133 54 zb_l442 [] zb_t442_0 = true := by decide +kernel
theorem zb_i442 : (zb_m442.1, zb_m442.2.1, ([] : List Nat), zb_m442.2.2.1, [], [(0, 0)]) ∈ zb_l442 := List.mem_cons_self
theorem zb_k442 (hS : ∀ ρ, en_SA E ρ ω mt_SB) (hX : sf_JX J) (hM : sf_MnB E ω J) : sf_Kok E ω J 1 0 133 zb_m442 := sf_K_of hS sf_TS_n (sf_nL (by decide +kernel)) rfl zb_h97_n zb_h97_n (by decide +kernel) (by decide +kernel) (by decide +kernel) zb_i442 (sf_fc (sf_okb_t zb_h97_n zb_e442_0) sf_fn)
def zb_h98 : en_H := (((((((0, 0), 0), 0), ((0, 0), (0, 0))), ((((((0, (0, 0)), 0), 0), ((((0, 0), (0, (0, 0))), (((0, 0), 0), (0, (0, (0, 0))))), 0)), ((0, 0), 0)), (0, ((((0, 0), ((0, 0), ((0, 0), 0))), (((0, (0, 0)), ((0, 0), (0, 0))), (((0, 0), (0, 0)), ((0, 0), (0, 0))))), (((((0, 0), (0, 0)), ((0, 0), (0, 0))), (((0, 0), (0, 0)), ((0, 0), (0, 0)))), ((((0, 0), (0, 0)), ((0, 0), (0, (0, 0)))), ((((0, 0), (0, 0)), ((0, 0), 0)), (0, (0, (0, 0)))))))))), zb_r3), ((((((0, 0), 0), (0, (0, 0))), (0, 0)), zb_r23), ((((((((0, 0), 0), (0, 0)), (0, (0, 0))), 0), (0, (((0, 0), (0, 0)), ((0, 0), (0, 0))))), 0), (((0, zb_r6), 0), (0, ((0, ((0, 0), (0, 0))), (((0, 0), (0, 0)), ((0, 0), ((0, 0), (0, 0))))))))))
theorem zb_h98_n : sf_nlh zb_h98 136 = true := by decide +kernel
/-- X9_broom -/
def zb_m443 : sf_M := (720896, 36893488525376225536, zb_h98, zb_h98, [88, 97, 118], [73786976299133173759])
def zb_t443_0 : sf_T := (720896, 36893488525376225536, [], zb_h98, [], [(0, 0)])
def zb_l443 : List sf_T := [zb_t443_0]
noncomputable def zb_b443 : en_T := (fun _ => none)
theorem zb_e443_0 : sf_okb (sf_fin 133 zb_h98 [73786976299133173759]) zb_b443 11 1 0 133 54 zb_l443 [] zb_t443_0 = true := by decide +kernel
theorem zb_i443 : (zb_m443.1, zb_m443.2.1, ([] : List Nat), zb_m443.2.2.1, [], [(0, 0)]) ∈ zb_l443 := List.mem_cons_self
theorem zb_k443 (hS : ∀ ρ, en_SA E ρ ω mt_SB) (hX : sf_JX J) (hM : sf_MnB E ω J) : sf_Kok E ω J 1 0 133 zb_m443 := sf_K_of hS sf_TS_n (sf_nL (by decide +kernel)) rfl zb_h98_n zb_h98_n (by decide +kernel) (by decide +kernel) (by decide +kernel) zb_i443 (sf_fc (sf_okb_t zb_h98_n zb_e443_0) sf_fn)
def zb_h99 : en_H := (((((((0, 0), 0), 0), ((0, 0), (0, 0))), ((((((0, (0, 0)), 0), 0), ((((0, 0), (0, (0, 0))), (((0, 0), 0), (0, (0, (0, 0))))), 0)), ((0, 0), 0)), (0, ((((0, 0), ((0, 0), ((0, 0), 0))), (((0, (0, 0)), ((0, 0), (0, 0))), (((0, 0), (0, 0)), ((0, 0), (0, 0))))), (((((0, 0), (0, 0)), ((0, 0), (0, 0))), (((0, 0), (0, 0)), ((0, 0), (0, 0)))), ((((0, 0), (0, 0)), ((0, 0), (0, (0, 0)))), ((((0, 0), (0, 0)), ((0, 0), 0)), (0, (0, (0, 0)))))))))), zb_r3), ((((((0, 0), 0), (0, (0, 0))), (0, 0)), zb_r15), ((((((((0, 0), 0), (0, 0)), (0, (0, 0))), 0), (0, (((0, 0), (0, 0)), ((0, 0), (0, 0))))), 0), (((0, zb_r6), 0), (0, ((0, ((0, 0), (0, 0))), (((0, 0), (0, 0)), ((0, 0), ((0, 0), (0, 0))))))))))
theorem zb_h99_n : sf_nlh zb_h99 136 = true := by decide +kernel
/-- X9_broom -/
def zb_m444 : sf_M := (720896, 36893488525376225536, zb_h99, zb_h99, [88, 97, 118], [73786976299133173759])
def zb_t444_0 : sf_T := (720896, 36893488525376225536, [], zb_h99, [], [(0, 0)])
def zb_l444 : List sf_T := [zb_t444_0]
noncomputable def zb_b444 : en_T := (fun _ => none)
theorem zb_e444_0 : sf_okb (sf_fin 133 zb_h99 [73786976299133173759]) zb_b444 11 1 0 133 54 zb_l444 [] zb_t444_0 = true := by decide +kernel
theorem zb_i444 : (zb_m444.1, zb_m444.2.1, ([] : List Nat), zb_m444.2.2.1, [], [(0, 0)]) ∈ zb_l444 := List.mem_cons_self
theorem zb_k444 (hS : ∀ ρ, en_SA E ρ ω mt_SB) (hX : sf_JX J) (hM : sf_MnB E ω J) : sf_Kok E ω J 1 0 133 zb_m444 := sf_K_of hS sf_TS_n (sf_nL (by decide +kernel)) rfl zb_h99_n zb_h99_n (by decide +kernel) (by decide +kernel) (by decide +kernel) zb_i444 (sf_fc (sf_okb_t zb_h99_n zb_e444_0) sf_fn)
def zb_h100 : en_H := (((((((0, 0), 0), 0), ((0, 0), (0, 0))), ((((((0, (0, 0)), 0), 0), ((((0, 0), (0, (0, 0))), (((0, 0), 0), (0, (0, (0, 0))))), 0)), ((0, 0), 0)), (0, ((((0, 0), ((0, 0), ((0, 0), 0))), (((0, (0, 0)), ((0, 0), (0, 0))), (((0, 0), (0, 0)), ((0, 0), (0, 0))))), (((((0, 0), (0, 0)), ((0, 0), (0, 0))), (((0, 0), (0, 0)), ((0, 0), (0, 0)))), ((((0, 0), (0, 0)), ((0, 0), (0, (0, 0)))), ((((0, 0), (0, 0)), ((0, 0), 0)), (0, (0, (0, 0)))))))))), zb_r3), ((((((0, 0), 0), (0, (0, 0))), (0, 0)), zb_r25), ((((((((0, 0), 0), (0, 0)), (0, (0, 0))), 0), (0, (((0, 0), (0, 0)), ((0, 0), (0, 0))))), 0), (((0, zb_r6), 0), (0, ((0, ((0, 0), (0, 0))), (((0, 0), (0, 0)), ((0, 0), ((0, 0), (0, 0))))))))))
theorem zb_h100_n : sf_nlh zb_h100 136 = true := by decide +kernel
/-- X9_broom -/
def zb_m445 : sf_M := (720896, 36893488525376225536, zb_h100, zb_h100, [88, 97, 118], [73786976299133173759])
def zb_t445_0 : sf_T := (720896, 36893488525376225536, [], zb_h100, [], [(0, 0)])
def zb_l445 : List sf_T := [zb_t445_0]
noncomputable def zb_b445 : en_T := (fun _ => none)
theorem zb_e445_0 : sf_okb (sf_fin 133 zb_h100 [73786976299133173759]) zb_b445 11 1 0 133 54 zb_l445 [] zb_t445_0 = true := by decide +kernel
theorem zb_i445 : (zb_m445.1, zb_m445.2.1, ([] : List Nat), zb_m445.2.2.1, [], [(0, 0)]) ∈ zb_l445 := List.mem_cons_self
theorem zb_k445 (hS : ∀ ρ, en_SA E ρ ω mt_SB) (hX : sf_JX J) (hM : sf_MnB E ω J) : sf_Kok E ω J 1 0 133 zb_m445 := sf_K_of hS sf_TS_n (sf_nL (by decide +kernel)) rfl zb_h100_n zb_h100_n (by decide +kernel) (by decide +kernel) (by decide +kernel) zb_i445 (sf_fc (sf_okb_t zb_h100_n zb_e445_0) sf_fn)
def zb_h101 : en_H := (((((((0, 0), 0), 0), ((0, 0), (0, 0))), ((((((0, (0, 0)), 0), 0), ((((0, 0), (0, (0, 0))), (((0, 0), 0), (0, (0, (0, 0))))), 0)), ((0, 0), 0)), (0, ((((0, 0), ((0, 0), ((0, 0), 0))), (((0, (0, 0)), ((0, 0), (0, 0))), (((0, 0), (0, 0)), ((0, 0), (0, 0))))), (((((0, 0), (0, 0)), ((0, 0), (0, 0))), (((0, 0), (0, 0)), ((0, 0), (0, 0)))), ((((0, 0), (0, 0)), ((0, 0), (0, (0, 0)))), ((((0, 0), (0, 0)), ((0, 0), 0)), (0, (0, (0, 0)))))))))), zb_r3), ((((((0, 0), 0), (0, (0, 0))), (0, 0)), zb_r17), ((((((((0, 0), 0), (0, 0)), (0, (0, 0))), 0), (0, (((0, 0), (0, 0)), ((0, 0), (0, 0))))), 0), (((0, zb_r6), 0), (0, ((0, ((0, 0), (0, 0))), (((0, 0), (0, 0)), ((0, 0), ((0, 0), (0, 0))))))))))
theorem zb_h101_n : sf_nlh zb_h101 136 = true := by decide +kernel
/-- X9_broom -/
def zb_m446 : sf_M := (720896, 36893488525376225536, zb_h101, zb_h101, [88, 97, 118], [73786976299133173759])
def zb_t446_0 : sf_T := (720896, 36893488525376225536, [], zb_h101, [], [(0, 0)])
def zb_l446 : List sf_T := [zb_t446_0]
noncomputable def zb_b446 : en_T := (fun _ => none)
theorem zb_e446_0 : sf_okb (sf_fin 133 zb_h101 [73786976299133173759]) zb_b446 11 1 0 133 54 zb_l446 [] zb_t446_0 = true := by decide +kernel
theorem zb_i446 : (zb_m446.1, zb_m446.2.1, ([] : List Nat), zb_m446.2.2.1, [], [(0, 0)]) ∈ zb_l446 := List.mem_cons_self
theorem zb_k446 (hS : ∀ ρ, en_SA E ρ ω mt_SB) (hX : sf_JX J) (hM : sf_MnB E ω J) : sf_Kok E ω J 1 0 133 zb_m446 := sf_K_of hS sf_TS_n (sf_nL (by decide +kernel)) rfl zb_h101_n zb_h101_n (by decide +kernel) (by decide +kernel) (by decide +kernel) zb_i446 (sf_fc (sf_okb_t zb_h101_n zb_e446_0) sf_fn)
def zb_h102 : en_H := (((((((0, 0), 0), 0), ((0, 0), (0, 0))), ((((((0, (0, 0)), 0), 0), ((((0, 0), (0, (0, 0))), (((0, 0), 0), (0, (0, (0, 0))))), 0)), ((0, 0), 0)), (0, ((((0, 0), ((0, 0), ((0, 0), 0))), (((0, (0, 0)), ((0, 0), (0, 0))), (((0, 0), (0, 0)), ((0, 0), (0, 0))))), (((((0, 0), (0, 0)), ((0, 0), (0, 0))), (((0, 0), (0, 0)), ((0, 0), (0, 0)))), ((((0, 0), (0, 0)), ((0, 0), (0, (0, 0)))), ((((0, 0), (0, 0)), ((0, 0), 0)), (0, (0, (0, 0)))))))))), zb_r3), ((((((0, 0), 0), (0, (0, 0))), (0, 0)), zb_r14), ((((((((0, 0), 0), (0, 0)), (0, (0, 0))), 0), (0, (((0, 0), (0, 0)), ((0, 0), (0, 0))))), 0), (((0, zb_r6), 0), (0, ((0, ((0, 0), (0, 0))), (((0, 0), (0, 0)), ((0, 0), ((0, 0), (0, 0))))))))))
theorem zb_h102_n : sf_nlh zb_h102 136 = true := by decide +kernel
/-- X9_broom -/
def zb_m447 : sf_M := (720896, 36893488525376225536, zb_h102, zb_h102, [88, 97, 118], [73786976299133173759])
def zb_t447_0 : sf_T := (720896, 36893488525376225536, [], zb_h102, [], [(0, 0)])
def zb_l447 : List sf_T := [zb_t447_0]
noncomputable def zb_b447 : en_T := (fun _ => none)
theorem zb_e447_0 : sf_okb (sf_fin 133 zb_h102 [73786976299133173759]) zb_b447 11 1 0 133 54 zb_l447 [] zb_t447_0 = true := by decide +kernel
theorem zb_i447 : (zb_m447.1, zb_m447.2.1, ([] : List Nat), zb_m447.2.2.1, [], [(0, 0)]) ∈ zb_l447 := List.mem_cons_self
theorem zb_k447 (hS : ∀ ρ, en_SA E ρ ω mt_SB) (hX : sf_JX J) (hM : sf_MnB E ω J) : sf_Kok E ω J 1 0 133 zb_m447 := sf_K_of hS sf_TS_n (sf_nL (by decide +kernel)) rfl zb_h102_n zb_h102_n (by decide +kernel) (by decide +kernel) (by decide +kernel) zb_i447 (sf_fc (sf_okb_t zb_h102_n zb_e447_0) sf_fn)
def zb_h103 : en_H := (((((((0, 0), 0), 0), ((0, 0), (0, 0))), ((((((0, (0, 0)), 0), 0), ((((0, 0), (0, (0, 0))), (((0, 0), 0), (0, (0, (0, 0))))), 0)), ((0, 0), 0)), (0, ((((0, 0), ((0, 0), ((0, 0), 0))), (((0, (0, 0)), ((0, 0), (0, 0))), (((0, 0), (0, 0)), ((0, 0), (0, 0))))), (((((0, 0), (0, 0)), ((0, 0), (0, 0))), (((0, 0), (0, 0)), ((0, 0), (0, 0)))), ((((0, 0), (0, 0)), ((0, 0), (0, (0, 0)))), ((((0, 0), (0, 0)), ((0, 0), 0)), (0, (0, (0, 0)))))))))), zb_r4), ((((((0, 0), 0), (0, (0, 0))), (0, 0)), zb_r22), ((((((((0, 0), 0), (0, 0)), (0, (0, 0))), 0), (0, (((0, 0), (0, 0)), ((0, 0), (0, 0))))), 0), (((0, zb_r6), 0), (0, ((0, ((0, 0), (0, 0))), (((0, 0), (0, 0)), ((0, 0), ((0, 0), (0, 0))))))))))
theorem zb_h103_n : sf_nlh zb_h103 136 = true := by decide +kernel
/-- X9_broom -/
def zb_m448 : sf_M := (720896, 36893488525376225536, zb_h103, zb_h103, [88, 97, 118], [2147493647])
def zb_t448_0 : sf_T := (720896, 36893488525376225536, [], zb_h103, [], [(0, 0)])
def zb_l448 : List sf_T := [zb_t448_0]
noncomputable def zb_b448 : en_T := (fun _ => none)
theorem zb_e448_0 : sf_okb (sf_fin 133 zb_h103 [2147493647]) zb_b448 11 1 0 133 38 zb_l448 [] zb_t448_0 = true := by decide +kernel
theorem zb_i448 : (zb_m448.1, zb_m448.2.1, ([] : List Nat), zb_m448.2.2.1, [], [(0, 0)]) ∈ zb_l448 := List.mem_cons_self
theorem zb_k448 (hS : ∀ ρ, en_SA E ρ ω mt_SB) (hX : sf_JX J) (hM : sf_MnB E ω J) : sf_Kok E ω J 1 0 133 zb_m448 := sf_K_of hS sf_TS_n (sf_nL (by decide +kernel)) rfl zb_h103_n zb_h103_n (by decide +kernel) (by decide +kernel) (by decide +kernel) zb_i448 (sf_fc (sf_okb_t zb_h103_n zb_e448_0) sf_fn)
def zb_h104 : en_H := (((((((0, 0), 0), 0), ((0, 0), (0, 0))), ((((((0, (0, 0)), 0), 0), ((((0, 0), (0, (0, 0))), (((0, 0), 0), (0, (0, (0, 0))))), 0)), ((0, 0), 0)), (0, ((((0, 0), ((0, 0), ((0, 0), 0))), (((0, (0, 0)), ((0, 0), (0, 0))), (((0, 0), (0, 0)), ((0, 0), (0, 0))))), (((((0, 0), (0, 0)), ((0, 0), (0, 0))), (((0, 0), (0, 0)), ((0, 0), (0, 0)))), ((((0, 0), (0, 0)), ((0, 0), (0, (0, 0)))), ((((0, 0), (0, 0)), ((0, 0), 0)), (0, (0, (0, 0)))))))))), zb_r4), ((((((0, 0), 0), (0, (0, 0))), (0, 0)), zb_r16), ((((((((0, 0), 0), (0, 0)), (0, (0, 0))), 0), (0, (((0, 0), (0, 0)), ((0, 0), (0, 0))))), 0), (((0, zb_r6), 0), (0, ((0, ((0, 0), (0, 0))), (((0, 0), (0, 0)), ((0, 0), ((0, 0), (0, 0))))))))))
theorem zb_h104_n : sf_nlh zb_h104 136 = true := by decide +kernel
/-- X9_broom -/
def zb_m449 : sf_M := (720896, 36893488525376225536, zb_h104, zb_h104, [88, 97, 118], [73786976299133173759])
def zb_t449_0 : sf_T := (720896, 36893488525376225536, [], zb_h104, [], [(0, 0)])
def zb_l449 : List sf_T := [zb_t449_0]
noncomputable def zb_b449 : en_T := (fun _ => none)
theorem zb_e449_0 : sf_okb (sf_fin 133 zb_h104 [73786976299133173759]) zb_b449 11 1 0 133 54 zb_l449 [] zb_t449_0 = true := by decide +kernel
theorem zb_i449 : (zb_m449.1, zb_m449.2.1, ([] : List Nat), zb_m449.2.2.1, [], [(0, 0)]) ∈ zb_l449 := List.mem_cons_self
theorem zb_k449 (hS : ∀ ρ, en_SA E ρ ω mt_SB) (hX : sf_JX J) (hM : sf_MnB E ω J) : sf_Kok E ω J 1 0 133 zb_m449 := sf_K_of hS sf_TS_n (sf_nL (by decide +kernel)) rfl zb_h104_n zb_h104_n (by decide +kernel) (by decide +kernel) (by decide +kernel) zb_i449 (sf_fc (sf_okb_t zb_h104_n zb_e449_0) sf_fn)
def zb_h105 : en_H := (((((((0, 0), 0), 0), ((0, 0), (0, 0))), ((((((0, (0, 0)), 0), 0), ((((0, 0), (0, (0, 0))), (((0, 0), 0), (0, (0, (0, 0))))), 0)), ((0, 0), 0)), (0, ((((0, 0), ((0, 0), ((0, 0), 0))), (((0, (0, 0)), ((0, 0), (0, 0))), (((0, 0), (0, 0)), ((0, 0), (0, 0))))), (((((0, 0), (0, 0)), ((0, 0), (0, 0))), (((0, 0), (0, 0)), ((0, 0), (0, 0)))), ((((0, 0), (0, 0)), ((0, 0), (0, (0, 0)))), ((((0, 0), (0, 0)), ((0, 0), 0)), (0, (0, (0, 0)))))))))), zb_r4), ((((((0, 0), 0), (0, (0, 0))), (0, 0)), zb_r21), ((((((((0, 0), 0), (0, 0)), (0, (0, 0))), 0), (0, (((0, 0), (0, 0)), ((0, 0), (0, 0))))), 0), (((0, zb_r6), 0), (0, ((0, ((0, 0), (0, 0))), (((0, 0), (0, 0)), ((0, 0), ((0, 0), (0, 0))))))))))
theorem zb_h105_n : sf_nlh zb_h105 136 = true := by decide +kernel
/-- X9_broom -/
def zb_m450 : sf_M := (720896, 36893488525376225536, zb_h105, zb_h105, [88, 97, 118], [73786976299133173759])
def zb_t450_0 : sf_T := (720896, 36893488525376225536, [], zb_h105, [], [(0, 0)])
def zb_l450 : List sf_T := [zb_t450_0]
noncomputable def zb_b450 : en_T := (fun _ => none)
theorem zb_e450_0 : sf_okb (sf_fin 133 zb_h105 [73786976299133173759]) zb_b450 11 1 0 133 54 zb_l450 [] zb_t450_0 = true := by decide +kernel
theorem zb_i450 : (zb_m450.1, zb_m450.2.1, ([] : List Nat), zb_m450.2.2.1, [], [(0, 0)]) ∈ zb_l450 := List.mem_cons_self
theorem zb_k450 (hS : ∀ ρ, en_SA E ρ ω mt_SB) (hX : sf_JX J) (hM : sf_MnB E ω J) : sf_Kok E ω J 1 0 133 zb_m450 := sf_K_of hS sf_TS_n (sf_nL (by decide +kernel)) rfl zb_h105_n zb_h105_n (by decide +kernel) (by decide +kernel) (by decide +kernel) zb_i450 (sf_fc (sf_okb_t zb_h105_n zb_e450_0) sf_fn)
def zb_h106 : en_H := (((((((0, 0), 0), 0), ((0, 0), (0, 0))), ((((((0, (0, 0)), 0), 0), ((((0, 0), (0, (0, 0))), (((0, 0), 0), (0, (0, (0, 0))))), 0)), ((0, 0), 0)), (0, ((((0, 0), ((0, 0), ((0, 0), 0))), (((0, (0, 0)), ((0, 0), (0, 0))), (((0, 0), (0, 0)), ((0, 0), (0, 0))))), (((((0, 0), (0, 0)), ((0, 0), (0, 0))), (((0, 0), (0, 0)), ((0, 0), (0, 0)))), ((((0, 0), (0, 0)), ((0, 0), (0, (0, 0)))), ((((0, 0), (0, 0)), ((0, 0), 0)), (0, (0, (0, 0)))))))))), zb_r4), ((((((0, 0), 0), (0, (0, 0))), (0, 0)), zb_r19), ((((((((0, 0), 0), (0, 0)), (0, (0, 0))), 0), (0, (((0, 0), (0, 0)), ((0, 0), (0, 0))))), 0), (((0, zb_r6), 0), (0, ((0, ((0, 0), (0, 0))), (((0, 0), (0, 0)), ((0, 0), ((0, 0), (0, 0))))))))))
theorem zb_h106_n : sf_nlh zb_h106 136 = true := by decide +kernel
/-- X9_broom -/
def zb_m451 : sf_M := (720896, 36893488525376225536, zb_h106, zb_h106, [88, 97, 118], [73786976299133173759])
def zb_t451_0 : sf_T := (720896, 36893488525376225536, [], zb_h106, [], [(0, 0)])
def zb_l451 : List sf_T := [zb_t451_0]
noncomputable def zb_b451 : en_T := (fun _ => none)
theorem zb_e451_0 : sf_okb (sf_fin 133 zb_h106 [73786976299133173759]) zb_b451 11 1 0 133 54 zb_l451 [] zb_t451_0 = true := by decide +kernel
theorem zb_i451 : (zb_m451.1, zb_m451.2.1, ([] : List Nat), zb_m451.2.2.1, [], [(0, 0)]) ∈ zb_l451 := List.mem_cons_self
theorem zb_k451 (hS : ∀ ρ, en_SA E ρ ω mt_SB) (hX : sf_JX J) (hM : sf_MnB E ω J) : sf_Kok E ω J 1 0 133 zb_m451 := sf_K_of hS sf_TS_n (sf_nL (by decide +kernel)) rfl zb_h106_n zb_h106_n (by decide +kernel) (by decide +kernel) (by decide +kernel) zb_i451 (sf_fc (sf_okb_t zb_h106_n zb_e451_0) sf_fn)
def zb_h107 : en_H := (((((((0, 0), 0), 0), ((0, 0), (0, 0))), ((((((0, (0, 0)), 0), 0), ((((0, 0), (0, (0, 0))), (((0, 0), 0), (0, (0, (0, 0))))), 0)), ((0, 0), 0)), (0, ((((0, 0), ((0, 0), ((0, 0), 0))), (((0, (0, 0)), ((0, 0), (0, 0))), (((0, 0), (0, 0)), ((0, 0), (0, 0))))), (((((0, 0), (0, 0)), ((0, 0), (0, 0))), (((0, 0), (0, 0)), ((0, 0), (0, 0)))), ((((0, 0), (0, 0)), ((0, 0), (0, (0, 0)))), ((((0, 0), (0, 0)), ((0, 0), 0)), (0, (0, (0, 0)))))))))), zb_r4), ((((((0, 0), 0), (0, (0, 0))), (0, 0)), zb_r26), ((((((((0, 0), 0), (0, 0)), (0, (0, 0))), 0), (0, (((0, 0), (0, 0)), ((0, 0), (0, 0))))), 0), (((0, zb_r6), 0), (0, ((0, ((0, 0), (0, 0))), (((0, 0), (0, 0)), ((0, 0), ((0, 0), (0, 0))))))))))
theorem zb_h107_n : sf_nlh zb_h107 136 = true := by decide +kernel
/-- X9_broom -/
def zb_m452 : sf_M := (720896, 36893488525376225536, zb_h107, zb_h107, [88, 97, 118], [73786976299133173759])
def zb_t452_0 : sf_T := (720896, 36893488525376225536, [], zb_h107, [], [(0, 0)])
def zb_l452 : List sf_T := [zb_t452_0]
noncomputable def zb_b452 : en_T := (fun _ => none)
theorem zb_e452_0 : sf_okb (sf_fin 133 zb_h107 [73786976299133173759]) zb_b452 11 1 0 133 54 zb_l452 [] zb_t452_0 = true := by decide +kernel
theorem zb_i452 : (zb_m452.1, zb_m452.2.1, ([] : List Nat), zb_m452.2.2.1, [], [(0, 0)]) ∈ zb_l452 := List.mem_cons_self
theorem zb_k452 (hS : ∀ ρ, en_SA E ρ ω mt_SB) (hX : sf_JX J) (hM : sf_MnB E ω J) : sf_Kok E ω J 1 0 133 zb_m452 := sf_K_of hS sf_TS_n (sf_nL (by decide +kernel)) rfl zb_h107_n zb_h107_n (by decide +kernel) (by decide +kernel) (by decide +kernel) zb_i452 (sf_fc (sf_okb_t zb_h107_n zb_e452_0) sf_fn)
def zb_h108 : en_H := (((((((0, 0), 0), 0), ((0, 0), (0, 0))), ((((((0, (0, 0)), 0), 0), ((((0, 0), (0, (0, 0))), (((0, 0), 0), (0, (0, (0, 0))))), 0)), ((0, 0), 0)), (0, ((((0, 0), ((0, 0), ((0, 0), 0))), (((0, (0, 0)), ((0, 0), (0, 0))), (((0, 0), (0, 0)), ((0, 0), (0, 0))))), (((((0, 0), (0, 0)), ((0, 0), (0, 0))), (((0, 0), (0, 0)), ((0, 0), (0, 0)))), ((((0, 0), (0, 0)), ((0, 0), (0, (0, 0)))), ((((0, 0), (0, 0)), ((0, 0), 0)), (0, (0, (0, 0)))))))))), zb_r4), ((((((0, 0), 0), (0, (0, 0))), (0, 0)), zb_r18), ((((((((0, 0), 0), (0, 0)), (0, (0, 0))), 0), (0, (((0, 0), (0, 0)), ((0, 0), (0, 0))))), 0), (((0, zb_r6), 0), (0, ((0, ((0, 0), (0, 0))), (((0, 0), (0, 0)), ((0, 0), ((0, 0), (0, 0))))))))))
theorem zb_h108_n : sf_nlh zb_h108 136 = true := by decide +kernel
/-- X9_broom -/
def zb_m453 : sf_M := (720896, 36893488525376225536, zb_h108, zb_h108, [88, 97, 118], [73786976299133173759])
def zb_t453_0 : sf_T := (720896, 36893488525376225536, [], zb_h108, [], [(0, 0)])
def zb_l453 : List sf_T := [zb_t453_0]
noncomputable def zb_b453 : en_T := (fun _ => none)
theorem zb_e453_0 : sf_okb (sf_fin 133 zb_h108 [73786976299133173759]) zb_b453 11 1 0 133 54 zb_l453 [] zb_t453_0 = true := by decide +kernel
theorem zb_i453 : (zb_m453.1, zb_m453.2.1, ([] : List Nat), zb_m453.2.2.1, [], [(0, 0)]) ∈ zb_l453 := List.mem_cons_self
theorem zb_k453 (hS : ∀ ρ, en_SA E ρ ω mt_SB) (hX : sf_JX J) (hM : sf_MnB E ω J) : sf_Kok E ω J 1 0 133 zb_m453 := sf_K_of hS sf_TS_n (sf_nL (by decide +kernel)) rfl zb_h108_n zb_h108_n (by decide +kernel) (by decide +kernel) (by decide +kernel) zb_i453 (sf_fc (sf_okb_t zb_h108_n zb_e453_0) sf_fn)
def zb_h109 : en_H := (((((((0, 0), 0), 0), ((0, 0), (0, 0))), ((((((0, (0, 0)), 0), 0), ((((0, 0), (0, (0, 0))), (((0, 0), 0), (0, (0, (0, 0))))), 0)), ((0, 0), 0)), (0, ((((0, 0), ((0, 0), ((0, 0), 0))), (((0, (0, 0)), ((0, 0), (0, 0))), (((0, 0), (0, 0)), ((0, 0), (0, 0))))), (((((0, 0), (0, 0)), ((0, 0), (0, 0))), (((0, 0), (0, 0)), ((0, 0), (0, 0)))), ((((0, 0), (0, 0)), ((0, 0), (0, (0, 0)))), ((((0, 0), (0, 0)), ((0, 0), 0)), (0, (0, (0, 0)))))))))), zb_r4), ((((((0, 0), 0), (0, (0, 0))), (0, 0)), zb_r24), ((((((((0, 0), 0), (0, 0)), (0, (0, 0))), 0), (0, (((0, 0), (0, 0)), ((0, 0), (0, 0))))), 0), (((0, zb_r6), 0), (0, ((0, ((0, 0), (0, 0))), (((0, 0), (0, 0)), ((0, 0), ((0, 0), (0, 0))))))))))
theorem zb_h109_n : sf_nlh zb_h109 136 = true := by decide +kernel
/-- X9_broom -/
def zb_m454 : sf_M := (720896, 36893488525376225536, zb_h109, zb_h109, [88, 97, 118], [73786976299133173759])
def zb_t454_0 : sf_T := (720896, 36893488525376225536, [], zb_h109, [], [(0, 0)])
def zb_l454 : List sf_T := [zb_t454_0]
noncomputable def zb_b454 : en_T := (fun _ => none)
theorem zb_e454_0 : sf_okb (sf_fin 133 zb_h109 [73786976299133173759]) zb_b454 11 1 0 133 54 zb_l454 [] zb_t454_0 = true := by decide +kernel
theorem zb_i454 : (zb_m454.1, zb_m454.2.1, ([] : List Nat), zb_m454.2.2.1, [], [(0, 0)]) ∈ zb_l454 := List.mem_cons_self
theorem zb_k454 (hS : ∀ ρ, en_SA E ρ ω mt_SB) (hX : sf_JX J) (hM : sf_MnB E ω J) : sf_Kok E ω J 1 0 133 zb_m454 := sf_K_of hS sf_TS_n (sf_nL (by decide +kernel)) rfl zb_h109_n zb_h109_n (by decide +kernel) (by decide +kernel) (by decide +kernel) zb_i454 (sf_fc (sf_okb_t zb_h109_n zb_e454_0) sf_fn)
def zb_h110 : en_H := (((((((0, 0), 0), 0), ((0, 0), (0, 0))), ((((((0, (0, 0)), 0), 0), ((((0, 0), (0, (0, 0))), (((0, 0), 0), (0, (0, (0, 0))))), 0)), ((0, 0), 0)), (0, ((((0, 0), ((0, 0), ((0, 0), 0))), (((0, (0, 0)), ((0, 0), (0, 0))), (((0, 0), (0, 0)), ((0, 0), (0, 0))))), (((((0, 0), (0, 0)), ((0, 0), (0, 0))), (((0, 0), (0, 0)), ((0, 0), (0, 0)))), ((((0, 0), (0, 0)), ((0, 0), (0, (0, 0)))), ((((0, 0), (0, 0)), ((0, 0), 0)), (0, (0, (0, 0)))))))))), zb_r0), ((((((0, 0), 0), (0, (0, 0))), (0, 0)), zb_r8), ((((((((0, 0), 0), (0, 0)), (0, (0, 0))), 0), (0, (((0, 0), (0, 0)), ((0, 0), (0, 0))))), 0), (((0, zb_r6), 0), (0, ((0, ((0, 0), (0, 0))), (((0, 0), (0, 0)), ((0, 0), ((0, 0), (0, 0))))))))))
theorem zb_h110_n : sf_nlh zb_h110 136 = true := by decide +kernel
/-- X9_broom -/
def zb_m455 : sf_M := (720896, 36893488525376225536, zb_h110, zb_h110, [88, 97, 118], [73786976299133173759])
def zb_h111 : en_H := (((((((0, 0), 0), 0), ((0, 0), (0, 0))), ((((((0, (0, 0)), 0), 0), ((((0, 0), (0, (0, 0))), (((0, 0), 0), (0, (0, (0, 0))))), 0)), ((0, 0), 0)), (0, ((((0, 0), ((0, 0), ((0, 0), 0))), (((0, (0, 0)), ((0, 0), (0, 0))), (((0, 0), (0, 0)), ((0, 0), (0, 0))))), (((((0, 0), (0, 0)), ((0, 0), (0, 0))), (((0, 0), (0, 0)), ((0, 0), (0, 0)))), ((((0, 0), (0, 0)), ((0, 0), (0, (0, 0)))), ((((0, 0), (0, 0)), ((0, 0), 0)), (0, (0, (0, 0)))))))))), zb_r3), ((((((0, 0), 0), (0, (0, 0))), (0, 0)), zb_r8), ((((((((0, 0), 0), (0, 0)), (0, (0, 0))), 0), (0, (((0, 0), (0, 0)), ((0, 0), (0, 0))))), 0), (((0, zb_r6), 0), (0, ((0, ((0, 0), (0, 0))), (((0, 0), (0, 0)), ((0, 0), ((0, 0), (0, 0))))))))))
theorem zb_h111_n : sf_nlh zb_h111 136 = true := by decide +kernel
/-- X9_broom -/
def zb_m456 : sf_M := (720896, 36893488525376225536, zb_h111, zb_h111, [88, 97, 118], [73786976299133173759])
theorem zb_kc456 (hS : ∀ ρ, en_SA E ρ ω mt_SB) (hX : sf_JX J) (hM : sf_MnB E ω J) : sf_K E ω J 0 133 zb_m456 := sf_K_case2 (n := 1) (lo := 2147483648) (hi := 2147483654) (97, 0) rfl (sf_nL (by decide +kernel)) (by decide +kernel) (by decide +kernel) (by decide +kernel) zb_h111_n (sf_r7 ⟨zb_m441, (zb_k441 hS hX hM).2.2.2.2.2, rfl, rfl, zb_h96_n, by decide +kernel, by decide +kernel, by decide +kernel⟩ ⟨zb_m442, (zb_k442 hS hX hM).2.2.2.2.2, rfl, rfl, zb_h97_n, by decide +kernel, by decide +kernel, by decide +kernel⟩ ⟨zb_m443, (zb_k443 hS hX hM).2.2.2.2.2, rfl, rfl, zb_h98_n, by decide +kernel, by decide +kernel, by decide +kernel⟩ ⟨zb_m444, (zb_k444 hS hX hM).2.2.2.2.2, rfl, rfl, zb_h99_n, by decide +kernel, by decide +kernel, by decide +kernel⟩ ⟨zb_m445, (zb_k445 hS hX hM).2.2.2.2.2, rfl, rfl, zb_h100_n, by decide +kernel, by decide +kernel, by decide +kernel⟩ ⟨zb_m446, (zb_k446 hS hX hM).2.2.2.2.2, rfl, rfl, zb_h101_n, by decide +kernel, by decide +kernel, by decide +kernel⟩ ⟨zb_m447, (zb_k447 hS hX hM).2.2.2.2.2, rfl, rfl, zb_h102_n, by decide +kernel, by decide +kernel, by decide +kernel⟩)
def zb_h112 : en_H := (((((((0, 0), 0), 0), ((0, 0), (0, 0))), ((((((0, (0, 0)), 0), 0), ((((0, 0), (0, (0, 0))), (((0, 0), 0), (0, (0, (0, 0))))), 0)), ((0, 0), 0)), (0, ((((0, 0), ((0, 0), ((0, 0), 0))), (((0, (0, 0)), ((0, 0), (0, 0))), (((0, 0), (0, 0)), ((0, 0), (0, 0))))), (((((0, 0), (0, 0)), ((0, 0), (0, 0))), (((0, 0), (0, 0)), ((0, 0), (0, 0)))), ((((0, 0), (0, 0)), ((0, 0), (0, (0, 0)))), ((((0, 0), (0, 0)), ((0, 0), 0)), (0, (0, (0, 0)))))))))), zb_r4), ((((((0, 0), 0), (0, (0, 0))), (0, 0)), zb_r8), ((((((((0, 0), 0), (0, 0)), (0, (0, 0))), 0), (0, (((0, 0), (0, 0)), ((0, 0), (0, 0))))), 0), (((0, zb_r6), 0), (0, ((0, ((0, 0), (0, 0))), (((0, 0), (0, 0)), ((0, 0), ((0, 0), (0, 0))))))))))
theorem zb_h112_n : sf_nlh zb_h112 136 = true := by decide +kernel
/-- X9_broom -/
def zb_m457 : sf_M := (720896, 36893488525376225536, zb_h112, zb_h112, [88, 97, 118], [73786976299133173759])
theorem zb_kc457 (hS : ∀ ρ, en_SA E ρ ω mt_SB) (hX : sf_JX J) (hM : sf_MnB E ω J) : sf_K E ω J 0 133 zb_m457 := sf_K_case2 (n := 1) (lo := 2147483648) (hi := 2147483654) (97, 1) rfl (sf_nL (by decide +kernel)) (by decide +kernel) (by decide +kernel) (by decide +kernel) zb_h112_n (sf_r7 ⟨zb_m448, (zb_k448 hS hX hM).2.2.2.2.2, rfl, rfl, zb_h103_n, by decide +kernel, by decide +kernel, by decide +kernel⟩ ⟨zb_m449, (zb_k449 hS hX hM).2.2.2.2.2, rfl, rfl, zb_h104_n, by decide +kernel, by decide +kernel, by decide +kernel⟩ ⟨zb_m450, (zb_k450 hS hX hM).2.2.2.2.2, rfl, rfl, zb_h105_n, by decide +kernel, by decide +kernel, by decide +kernel⟩ ⟨zb_m451, (zb_k451 hS hX hM).2.2.2.2.2, rfl, rfl, zb_h106_n, by decide +kernel, by decide +kernel, by decide +kernel⟩ ⟨zb_m452, (zb_k452 hS hX hM).2.2.2.2.2, rfl, rfl, zb_h107_n, by decide +kernel, by decide +kernel, by decide +kernel⟩ ⟨zb_m453, (zb_k453 hS hX hM).2.2.2.2.2, rfl, rfl, zb_h108_n, by decide +kernel, by decide +kernel, by decide +kernel⟩ ⟨zb_m454, (zb_k454 hS hX hM).2.2.2.2.2, rfl, rfl, zb_h109_n, by decide +kernel, by decide +kernel, by decide +kernel⟩)
theorem zb_k455 (hS : ∀ ρ, en_SA E ρ ω mt_SB) (hX : sf_JX J) (hM : sf_MnB E ω J) : sf_Kok E ω J 1 0 133 zb_m455 := ⟨sf_nL (by decide +kernel), zb_h110_n, by decide +kernel, by decide +kernel, by decide +kernel, sf_K_case2 (n := 1) (lo := 2147483648) (hi := 2147483649) (88, 18) rfl (sf_nL (by decide +kernel)) (by decide +kernel) (by decide +kernel) (by decide +kernel) zb_h110_n (sf_r2 ⟨zb_m456, zb_kc456 hS hX hM, rfl, rfl, by decide +kernel, by decide +kernel, by decide +kernel, by decide +kernel⟩ ⟨zb_m457, zb_kc457 hS hX hM, rfl, rfl, by decide +kernel, by decide +kernel, by decide +kernel, by decide +kernel⟩)⟩
/-- X9_year -/
def zb_m458 : sf_M := (7405568, 419952139256116016344998612940375727410858238980744613388213463229594481855239650440024194472633959680, zb_h95, zb_h95, [88, 97, 98, 103, 105, 116, 117, 118, 119, 120], [73786976299133173759])
def zb_t458_0 : sf_T := (7405568, 419952139256116016344998612940375727410858238980744613388213463229594481855239650440024194472633959680, [], zb_h95, [(1000, 1), (1000, 2)], [(0, 1)])
def zb_t458_1 : sf_T := (7405594, 2705521055425447902381737685414084103152963260131793702702171819298557952765610839613536645712940102680318051584, [], zb_h95, [(1000, 1), (1000, 2), (1000, 3), (1000, 4)], [(0, 0), (1, 3), (0, 0)])
def zb_l458 : List sf_T := [zb_t458_0, zb_t458_1]
noncomputable def zb_b458 : en_T := (sf_tc 2359296 (sf_call 133 [(3, 9, zb_m433)]) (sf_tc 1114112 (sf_call 133 [(2, 0, zb_m89)]) (fun _ => none)))
theorem zb_e458_0 : sf_okb (sf_fin 133 zb_h95 [73786976299133173759]) zb_b458 113 5 10 133 124 zb_l458 [1] zb_t458_0 = true := by decide +kernel
theorem zb_e458_1 : sf_okb (sf_fin 133 zb_h95 [73786976299133173759]) zb_b458 113 5 10 133 74 zb_l458 [1] zb_t458_1 = true := by decide +kernel
theorem zb_i458 : (zb_m458.1, zb_m458.2.1, ([] : List Nat), zb_m458.2.2.1, [(1000, 1), (1000, 2)], [(0, 1)]) ∈ zb_l458 := List.mem_cons_self
theorem zb_k458 (hS : ∀ ρ, en_SA E ρ ω mt_SB) (hX : sf_JX J) (hM : sf_MnB E ω J) : sf_Kok E ω J 5 10 133 zb_m458 := sf_K_of hS (sf_TS_k (q := 2359296) (nx := 133) (l := [(3, 9, zb_m433)]) hX (sf_fc ⟨(rfl : zb_m433.1 = 2359296), (zb_k433 hS hX hM)⟩ sf_fn) (sf_TS_k (q := 1114112) (nx := 133) (l := [(2, 0, zb_m89)]) hX (sf_fc ⟨(rfl : zb_m89.1 = 1114112), (zb_k89 hS hX hM)⟩ sf_fn) sf_TS_n)) (sf_nL (by decide +kernel)) rfl zb_h95_n zb_h95_n (by decide +kernel) (by decide +kernel) (by decide +kernel) zb_i458 (sf_fc (sf_okb_t zb_h95_n zb_e458_0) (sf_fc (sf_okb_t zb_h95_n zb_e458_1) sf_fn))
/-- X9_weds -/
def zb_m459 : sf_M := (7143424, 419952139256116016344998612940375727410858238980744613388213463229594481855239650440024194472633959680, zb_h95, zb_h95, [88, 97, 98, 103, 105, 116, 117, 118, 119, 120], [73786976299133173759])
def zb_t459_0 : sf_T := (7143424, 419952139256116016344998612940375727410858238980744613388213463229594481855239650440024194472633959680, [], zb_h95, [(1000, 1), (1000, 2), (88, 18)], [(0, 1)])
def zb_t459_1 : sf_T := (7143449, 2705521055425447902381737685414084103152963260131793702702171819298557947321092971413822430755405186765433079040, [], zb_h95, [(1000, 1), (1000, 2), (1000, 3), (1000, 4), (88, 18)], [(0, 0), (1, 3), (0, 0)])
def zb_l459 : List sf_T := [zb_t459_0, zb_t459_1]
noncomputable def zb_b459 : en_T := (sf_tc 2359296 (sf_call 133 [(3, 9, zb_m433)]) (sf_tc 1114112 (sf_call 133 [(2, 0, zb_m89)]) (fun _ => none)))
theorem zb_e459_0 : sf_okb (sf_fin 133 zb_h95 [73786976299133173759]) zb_b459 109 5 10 133 148 zb_l459 [1] zb_t459_0 = true := by decide +kernel
theorem zb_e459_1 : sf_okb (sf_fin 133 zb_h95 [73786976299133173759]) zb_b459 109 5 10 133 74 zb_l459 [1] zb_t459_1 = true := by decide +kernel
theorem zb_i459 : (zb_m459.1, zb_m459.2.1, ([] : List Nat), zb_m459.2.2.1, [(1000, 1), (1000, 2), (88, 18)], [(0, 1)]) ∈ zb_l459 := List.mem_cons_self
theorem zb_k459 (hS : ∀ ρ, en_SA E ρ ω mt_SB) (hX : sf_JX J) (hM : sf_MnB E ω J) : sf_Kok E ω J 5 10 133 zb_m459 := sf_K_of hS (sf_TS_k (q := 2359296) (nx := 133) (l := [(3, 9, zb_m433)]) hX (sf_fc ⟨(rfl : zb_m433.1 = 2359296), (zb_k433 hS hX hM)⟩ sf_fn) (sf_TS_k (q := 1114112) (nx := 133) (l := [(2, 0, zb_m89)]) hX (sf_fc ⟨(rfl : zb_m89.1 = 1114112), (zb_k89 hS hX hM)⟩ sf_fn) sf_TS_n)) (sf_nL (by decide +kernel)) rfl zb_h95_n zb_h95_n (by decide +kernel) (by decide +kernel) (by decide +kernel) zb_i459 (sf_fc (sf_okb_t zb_h95_n zb_e459_0) (sf_fc (sf_okb_t zb_h95_n zb_e459_1) sf_fn))
def zb_h113 : en_H := (((((((0, 0), 0), 0), ((0, 0), (0, 0))), ((((((0, (0, 0)), 0), 0), ((((0, 0), (0, (0, 0))), (((0, 0), 0), (0, (0, (0, 0))))), 0)), ((0, 0), 0)), (0, ((((0, 0), ((0, 0), ((0, 0), 0))), (((0, (0, 0)), ((0, 0), (0, 0))), (((0, 0), (0, 0)), ((0, 0), (0, 0))))), (((((0, 0), (0, 0)), ((0, 0), (0, 0))), (((0, 0), (0, 0)), ((0, 0), (0, 0)))), ((((0, 0), (0, 0)), ((0, 0), (0, (0, 0)))), ((((0, 0), (0, 0)), ((0, 0), 0)), (0, (0, (0, 0)))))))))), zb_r0), ((((((0, 0), 0), (0, (0, 0))), (0, 0)), zb_r8), ((((((((0, 0), 0), (0, 0)), (0, (0, 0))), 0), (0, (((0, 0), (0, 0)), ((0, 0), (0, 0))))), 0), (((0, 0), 0), (0, ((0, ((0, 0), (0, 0))), (((0, zb_r32), (0, 0)), ((0, 0), ((0, 0), (0, 0))))))))))
theorem zb_h113_n : sf_nlh zb_h113 136 = true := by decide +kernel
/-- X9_tell -/
def zb_m460 : sf_M := (6291456, 93536104794622304634503194109064771063916647154176, zb_h113, zb_h113, [88, 97, 127], [83010348329545498633])
def zb_t460_0 : sf_T := (6291456, 93536104794622304634503194109064771063916647154176, [], zb_h113, [(1000, 1), (88, 65), (88, 18)], [(0, 0)])
def zb_l460 : List sf_T := [zb_t460_0]
noncomputable def zb_b460 : en_T := (fun _ => none)
theorem zb_e460_0 : sf_okb (sf_fin 133 zb_h113 [83010348329545498633]) zb_b460 96 2 2 133 138 zb_l460 [] zb_t460_0 = true := by decide +kernel
theorem zb_i460 : (zb_m460.1, zb_m460.2.1, ([] : List Nat), zb_m460.2.2.1, [(1000, 1), (88, 65), (88, 18)], [(0, 0)]) ∈ zb_l460 := List.mem_cons_self
theorem zb_k460 (hS : ∀ ρ, en_SA E ρ ω mt_SB) (hX : sf_JX J) (hM : sf_MnB E ω J) : sf_Kok E ω J 2 2 133 zb_m460 := sf_K_of hS sf_TS_n (sf_nL (by decide +kernel)) rfl zb_h113_n zb_h113_n (by decide +kernel) (by decide +kernel) (by decide +kernel) zb_i460 (sf_fc (sf_okb_t zb_h113_n zb_e460_0) sf_fn)
def zb_h114 : en_H := (((((((0, 0), 0), 0), ((0, 0), (0, 0))), ((((((0, (0, 0)), 0), 0), ((((0, 0), (0, (0, 0))), (((0, 0), 0), (0, (0, (0, 0))))), 0)), ((0, 0), 0)), (0, ((((0, 0), ((0, 0), ((0, 0), 0))), (((0, (0, 0)), ((0, 0), (0, 0))), (((0, 0), (0, 0)), ((0, 0), (0, 0))))), (((((0, 0), (0, 0)), ((0, 0), (0, 0))), (((0, 0), (0, 0)), ((0, 0), (0, 0)))), ((((0, 0), (0, 0)), ((0, 0), (0, (0, 0)))), ((((0, 0), (0, 0)), ((0, 0), 0)), (0, (0, (0, 0)))))))))), zb_r3), ((((((0, 0), 0), (0, (0, 0))), (0, 0)), zb_r20), ((((((((0, 0), 0), (0, 0)), (0, (0, 0))), 0), (0, (((0, 0), (0, 0)), ((0, 0), (0, 0))))), 0), (((0, 0), 0), (0, ((0, ((0, 0), (0, 0))), (((0, zb_r32), (0, 0)), ((0, 0), ((0, 0), (0, 0))))))))))
theorem zb_h114_n : sf_nlh zb_h114 136 = true := by decide +kernel
/-- X9_cheats -/
def zb_m461 : sf_M := (917504, 419952139265282678237318089334572759284465775777789344795699826900002519014460868258952978427784725760, zb_h114, zb_h114, [88, 97, 127], [2147483647])
def zb_t461_0 : sf_T := (917504, 419952139265282678237318089334572759284465775777789344795699826900002519014460868258952978427784725760, [], zb_h114, [(1000, 1), (1000, 2), (1000, 3), (88, 65)], [(0, 0)])
def zb_l461 : List sf_T := [zb_t461_0]
noncomputable def zb_b461 : en_T := (fun _ => none)
theorem zb_e461_0 : sf_okb (sf_fin 133 zb_h114 [2147483647]) zb_b461 14 5 5 133 82 zb_l461 [] zb_t461_0 = true := by decide +kernel
theorem zb_i461 : (zb_m461.1, zb_m461.2.1, ([] : List Nat), zb_m461.2.2.1, [(1000, 1), (1000, 2), (1000, 3), (88, 65)], [(0, 0)]) ∈ zb_l461 := List.mem_cons_self
theorem zb_k461 (hS : ∀ ρ, en_SA E ρ ω mt_SB) (hX : sf_JX J) (hM : sf_MnB E ω J) : sf_Kok E ω J 5 5 133 zb_m461 := sf_K_of hS sf_TS_n (sf_nL (by decide +kernel)) rfl zb_h114_n zb_h114_n (by decide +kernel) (by decide +kernel) (by decide +kernel) zb_i461 (sf_fc (sf_okb_t zb_h114_n zb_e461_0) sf_fn)
end SFP
