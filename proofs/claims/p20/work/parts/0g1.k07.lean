/-! CONTRACTS, by program (wip/p3/emit.py) -/
section SFP
variable {E : mm_E} {ω : Nat → Value} {J : mm_H → Prop}
def zb_h36 : en_H := (((((((0, 0), 0), 0), ((0, 0), (0, 0))), ((((((0, (0, 0)), 0), 0), ((((0, 0), (0, (0, 0))), (((0, 0), 0), (0, (0, (0, 0))))), 0)), ((0, 0), 0)), (0, ((((0, 0), ((0, 0), ((0, 0), 0))), (((0, (0, 0)), ((0, 0), (0, 0))), (((0, 0), (0, 0)), ((0, 0), (0, 0))))), (((((0, 0), (0, 0)), ((0, 0), (0, 0))), (((0, 0), (0, 0)), ((0, 0), (0, 0)))), ((((0, 0), (0, 0)), ((0, 0), (0, (0, 0)))), ((((0, 0), (0, 0)), ((0, 0), 0)), (0, (0, (0, 0)))))))))), zb_r3), ((((((0, 0), 0), (0, (0, 0))), (0, 0)), zb_r25), ((((((((0, 0), 0), (0, 0)), (0, (0, 0))), 0), (0, (((0, 0), (0, 0)), ((0, 0), (0, 0))))), 0), (((0, 0), zb_r6), (0, ((0, ((0, 0), (0, 0))), (((0, 0), (0, 0)), ((0, 0), ((0, 0), (0, 0))))))))))
theorem zb_h36_n : sf_nlh zb_h36 136 = true := by decide +kernel
/-- X9_draws -/
def zb_m163 : sf_M := (1376256, 123947994177030503561028935099706623557518250061135463897282557975803962110383049130439092092551177853747785101008342877696, zb_h36, zb_h36, [88, 97, 119], [])
def zb_t163_0 : sf_T := (1376256, 123947994177030503561028935099706623557518250061135463897282557975803962110383049130439092092551177853747785101008342877696, [], zb_h36, [], [(0, 16)])
def zb_t163_1 : sf_T := (1376363, 123947994179736024616034430862270023297118780249339309373502648026622451213970954136675456272554110262021124802593540802048, [], zb_h36, [(1000, 4)], [(0, 15)])
def zb_t163_2 : sf_T := (1376363, 20657999056259681029797663982116955748309196758790184157203272363440321420948028647175556041617959652779378892879930852864, [], zb_h36, [(1000, 4)], [(0, 7)])
def zb_t163_3 : sf_T := (1376363, 20657999046640050610756043080681643223860072294659388436874794173023257601552100480306119862261250956308283891247938012672, [], zb_h36, [(1000, 4)], [(0, 11)])
def zb_t163_4 : sf_T := (1376363, 20657999037020420191714422179246330699410947830528592716546315982606193782156172313436683680369241059380730086622538761728, [], zb_h36, [(1000, 4)], [(0, 13)])
def zb_t163_5 : sf_T := (1376363, 20657999027400789772672801277811018174961823366397796996217837792189129962760244146567247497209580562224946880500436305408, [], zb_h36, [(1000, 4)], [(0, 14)])
def zb_t163_6 : sf_T := (1376363, 798528872010084674713624040931995184075874620859473604001043271081722307019204999848650298129002319743971004064719807657935510701568, [], zb_h36, [(1000, 4), (1000, 5)], [(0, 3)])
def zb_t163_7 : sf_T := (1376363, 798528871968768676664233503497500477323826430870198311315775694876431757314554637896380839014927994094024099962201815709364957218304, [], zb_h36, [(1000, 4), (1000, 5)], [(0, 5)])
def zb_t163_8 : sf_T := (1376363, 798528871927452678614842966063005770571778240880923018630508118671141207609904275944111379900853668442809545259455594359297700529664, [], zb_h36, [(1000, 4), (1000, 5)], [(0, 6)])
def zb_t163_9 : sf_T := (1376363, 798528871968768676654613873078458856422391118345749186851644899156103279124137574076984910848058557914667391265730720707732964378112, [], zb_h36, [(1000, 4), (1000, 5)], [(0, 9)])
def zb_t163_10 : sf_T := (1376363, 798528871927452678605223335643964149670342928356473894166377322950812729419487212124715451733984232263452836562984499357665707689472, [], zb_h36, [(1000, 4), (1000, 5)], [(0, 10)])
def zb_t163_11 : sf_T := (1376363, 798528871927452678595603705224922528768907615832024769702246527230484251229070148305319523567114796081560826666056945553040308438528, [], zb_h36, [(1000, 4), (1000, 5)], [(0, 12)])
def zb_t163_12 : sf_T := (1376363, 798528871968768676661527982442145021445265156647075643282858723877016371421943613784826456513681879072493883765169860738655270733312, [], zb_h36, [(1000, 5)], [(0, 1)])
def zb_t163_13 : sf_T := (1376363, 798528871927452678612137445007650314693216966657800350597591147671725821717293251832556997399607553421279329062423639388588014044672, [], zb_h36, [(1000, 5)], [(0, 2)])
def zb_t163_14 : sf_T := (1376363, 798528871927452678612137445007650314693216966657800350597591147671725821717293251832556997399607553423814630262880098191581420455424, [], zb_h36, [(1000, 5)], [(0, 4)])
def zb_t163_15 : sf_T := (1376363, 798528871927452678602517814588608693791781654133351226133460351951397343526876188013161069232738117244457921566409003189949427615232, [], zb_h36, [(1000, 5)], [(0, 8)])
def zb_t163_16 : sf_T := (1376436, 798528871927452678612137445007650314693226133319692907216184544438933851323549989807030533833124366498609303618289234945270853142016, [], zb_h36, [(1000, 3), (1000, 5)], [(0, 0)])
def zb_l163 : List sf_T := [zb_t163_0, zb_t163_1, zb_t163_2, zb_t163_3, zb_t163_4, zb_t163_5, zb_t163_6, zb_t163_7, zb_t163_8, zb_t163_9, zb_t163_10, zb_t163_11, zb_t163_12, zb_t163_13, zb_t163_14, zb_t163_15, zb_t163_16]
noncomputable def zb_b163 : en_T := (sf_tc 4063232 (sf_call 133 [(3, 1, zb_m159), (3, 1, zb_m160), (3, 1, zb_m161), (3, 1, zb_m162)]) (sf_tc 1376363 (sf_spl 6 (1000, 4) [2147483649, 2147483650, 2147483651, 2147483652, 2147483653]) (fun _ => none)))
theorem zb_e163_0 : sf_okb (sf_fin 133 zb_h36 []) zb_b163 21 6 2 133 150 zb_l163 [1] zb_t163_0 = true := by decide +kernel
theorem zb_e163_1 : sf_okb (sf_fin 133 zb_h36 []) zb_b163 21 6 2 133 652 zb_l163 [2, 3, 4, 5] zb_t163_1 = true := by decide +kernel
theorem zb_e163_2 : sf_okb (sf_fin 133 zb_h36 []) zb_b163 21 6 2 133 440 zb_l163 [6, 7, 8] zb_t163_2 = true := by decide +kernel
theorem zb_e163_3 : sf_okb (sf_fin 133 zb_h36 []) zb_b163 21 6 2 133 470 zb_l163 [6, 9, 10] zb_t163_3 = true := by decide +kernel
theorem zb_e163_4 : sf_okb (sf_fin 133 zb_h36 []) zb_b163 21 6 2 133 500 zb_l163 [7, 9, 11] zb_t163_4 = true := by decide +kernel
theorem zb_e163_5 : sf_okb (sf_fin 133 zb_h36 []) zb_b163 21 6 2 133 530 zb_l163 [8, 10, 11] zb_t163_5 = true := by decide +kernel
theorem zb_e163_6 : sf_okb (sf_fin 133 zb_h36 []) zb_b163 21 6 2 133 264 zb_l163 [12, 13] zb_t163_6 = true := by decide +kernel
theorem zb_e163_7 : sf_okb (sf_fin 133 zb_h36 []) zb_b163 21 6 2 133 294 zb_l163 [12, 14] zb_t163_7 = true := by decide +kernel
theorem zb_e163_8 : sf_okb (sf_fin 133 zb_h36 []) zb_b163 21 6 2 133 324 zb_l163 [13, 14] zb_t163_8 = true := by decide +kernel
theorem zb_e163_9 : sf_okb (sf_fin 133 zb_h36 []) zb_b163 21 6 2 133 324 zb_l163 [12, 15] zb_t163_9 = true := by decide +kernel
theorem zb_e163_10 : sf_okb (sf_fin 133 zb_h36 []) zb_b163 21 6 2 133 354 zb_l163 [13, 15] zb_t163_10 = true := by decide +kernel
theorem zb_e163_11 : sf_okb (sf_fin 133 zb_h36 []) zb_b163 21 6 2 133 384 zb_l163 [14, 15] zb_t163_11 = true := by decide +kernel
theorem zb_e163_12 : sf_okb (sf_fin 133 zb_h36 []) zb_b163 21 6 2 133 92 zb_l163 [16] zb_t163_12 = true := by decide +kernel
theorem zb_e163_13 : sf_okb (sf_fin 133 zb_h36 []) zb_b163 21 6 2 133 122 zb_l163 [16] zb_t163_13 = true := by decide +kernel
theorem zb_e163_14 : sf_okb (sf_fin 133 zb_h36 []) zb_b163 21 6 2 133 152 zb_l163 [16] zb_t163_14 = true := by decide +kernel
theorem zb_e163_15 : sf_okb (sf_fin 133 zb_h36 []) zb_b163 21 6 2 133 182 zb_l163 [16] zb_t163_15 = true := by decide +kernel
theorem zb_e163_16 : sf_okb (sf_fin 133 zb_h36 []) zb_b163 21 6 2 133 482 zb_l163 [] zb_t163_16 = true := by decide +kernel
theorem zb_i163 : (zb_m163.1, zb_m163.2.1, ([] : List Nat), zb_m163.2.2.1, [], [(0, 16)]) ∈ zb_l163 := List.mem_cons_self
theorem zb_k163 (hS : ∀ ρ, en_SA E ρ ω mt_SB) (hX : sf_JX J) (hM : sf_MnB E ω J) : sf_Kok E ω J 6 2 133 zb_m163 := sf_K_of hS (sf_TS_k (q := 4063232) (nx := 133) (l := [(3, 1, zb_m159), (3, 1, zb_m160), (3, 1, zb_m161), (3, 1, zb_m162)]) hX (sf_fc ⟨(rfl : zb_m159.1 = 4063232), (zb_k159 hS hX hM)⟩ (sf_fc ⟨(rfl : zb_m160.1 = 4063232), (zb_k160 hS hX hM)⟩ (sf_fc ⟨(rfl : zb_m161.1 = 4063232), (zb_k161 hS hX hM)⟩ (sf_fc ⟨(rfl : zb_m162.1 = 4063232), (zb_k162 hS hX hM)⟩ sf_fn)))) (sf_TS_s (sf_nL (by decide +kernel)) sf_TS_n)) (sf_nL (by decide +kernel)) rfl zb_h36_n zb_h36_n (by decide +kernel) (by decide +kernel) (by decide +kernel) zb_i163 (sf_fc (sf_okb_t zb_h36_n zb_e163_0) (sf_fc (sf_okb_t zb_h36_n zb_e163_1) (sf_fc (sf_okb_t zb_h36_n zb_e163_2) (sf_fc (sf_okb_t zb_h36_n zb_e163_3) (sf_fc (sf_okb_t zb_h36_n zb_e163_4) (sf_fc (sf_okb_t zb_h36_n zb_e163_5) (sf_fc (sf_okb_t zb_h36_n zb_e163_6) (sf_fc (sf_okb_t zb_h36_n zb_e163_7) (sf_fc (sf_okb_t zb_h36_n zb_e163_8) (sf_fc (sf_okb_t zb_h36_n zb_e163_9) (sf_fc (sf_okb_t zb_h36_n zb_e163_10) (sf_fc (sf_okb_t zb_h36_n zb_e163_11) (sf_fc (sf_okb_t zb_h36_n zb_e163_12) (sf_fc (sf_okb_t zb_h36_n zb_e163_13) (sf_fc (sf_okb_t zb_h36_n zb_e163_14) (sf_fc (sf_okb_t zb_h36_n zb_e163_15) (sf_fc (sf_okb_t zb_h36_n zb_e163_16) sf_fn)))))))))))))))))
/-- X9_mixed -/
def zb_m164 : sf_M := (4259840, 4820814133992940188890642022838737865851817722113969560224512, zb_h1, zb_h1, [], [73786976299133173759])
def zb_t164_0 : sf_T := (4259840, 4820814133992940188890642022838737865851817722113969560224512, [], zb_h1, [(1000, 0), (1000, 1)], [(0, 1)])
def zb_t164_1 : sf_T := (4259852, 27606985388769193193717405410287975059720275280787484143070805860811520, [], zb_h1, [(1000, 0), (1000, 1), (1000, 2)], [(0, 0)])
def zb_l164 : List sf_T := [zb_t164_0, zb_t164_1]
noncomputable def zb_b164 : en_T := (fun _ => none)
theorem zb_e164_0 : sf_okb (sf_fin 133 zb_h1 [73786976299133173759]) zb_b164 65 3 0 133 36 zb_l164 [1] zb_t164_0 = true := by decide +kernel
theorem zb_e164_1 : sf_okb (sf_fin 133 zb_h1 [73786976299133173759]) zb_b164 65 3 0 133 32 zb_l164 [] zb_t164_1 = true := by decide +kernel
theorem zb_i164 : (zb_m164.1, zb_m164.2.1, ([] : List Nat), zb_m164.2.2.1, [(1000, 0), (1000, 1)], [(0, 1)]) ∈ zb_l164 := List.mem_cons_self
theorem zb_k164 (hS : ∀ ρ, en_SA E ρ ω mt_SB) (hX : sf_JX J) (hM : sf_MnB E ω J) : sf_Kok E ω J 3 0 133 zb_m164 := sf_K_of hS sf_TS_n (sf_nL (by decide +kernel)) rfl zb_h1_n zb_h1_n (by decide +kernel) (by decide +kernel) (by decide +kernel) zb_i164 (sf_fc (sf_okb_t zb_h1_n zb_e164_0) (sf_fc (sf_okb_t zb_h1_n zb_e164_1) sf_fn))
/-- X9_lotOf -/
def zb_m165 : sf_M := (4063232, 803469023719608919192447939045657764071640080082987988812544, zb_h26, zb_h26, [88], [83010348333840465923])
def zb_t165_0 : sf_T := (4063232, 803469023719608919192447939045657764071640080082987988812544, [], zb_h26, [(1000, 1)], [(0, 0)])
def zb_l165 : List sf_T := [zb_t165_0]
noncomputable def zb_b165 : en_T := (sf_tc 4259840 (sf_call 133 [(3, 0, zb_m164)]) (fun _ => none))
theorem zb_e165_0 : sf_okb (sf_fin 133 zb_h26 [83010348333840465923]) zb_b165 62 3 1 133 42 zb_l165 [] zb_t165_0 = true := by decide +kernel
theorem zb_i165 : (zb_m165.1, zb_m165.2.1, ([] : List Nat), zb_m165.2.2.1, [(1000, 1)], [(0, 0)]) ∈ zb_l165 := List.mem_cons_self
theorem zb_k165 (hS : ∀ ρ, en_SA E ρ ω mt_SB) (hX : sf_JX J) (hM : sf_MnB E ω J) : sf_Kok E ω J 3 1 133 zb_m165 := sf_K_of hS (sf_TS_k (q := 4259840) (nx := 133) (l := [(3, 0, zb_m164)]) hX (sf_fc ⟨(rfl : zb_m164.1 = 4259840), (zb_k164 hS hX hM)⟩ sf_fn) sf_TS_n) (sf_nL (by decide +kernel)) rfl zb_h26_n zb_h26_n (by decide +kernel) (by decide +kernel) (by decide +kernel) zb_i165 (sf_fc (sf_okb_t zb_h26_n zb_e165_0) sf_fn)
/-- X9_lotOf -/
def zb_m166 : sf_M := (4063232, 803469023345464500035736791985514446896271627051069257810688, zb_h26, zb_h26, [88], [83010348333840465922])
def zb_t166_0 : sf_T := (4063232, 803469023345464500035736791985514446896271627051069257810688, [], zb_h26, [(1000, 1)], [(0, 0)])
def zb_l166 : List sf_T := [zb_t166_0]
noncomputable def zb_b166 : en_T := (sf_tc 4259840 (sf_call 133 [(3, 0, zb_m164)]) (fun _ => none))
theorem zb_e166_0 : sf_okb (sf_fin 133 zb_h26 [83010348333840465922]) zb_b166 62 3 1 133 42 zb_l166 [] zb_t166_0 = true := by decide +kernel
theorem zb_i166 : (zb_m166.1, zb_m166.2.1, ([] : List Nat), zb_m166.2.2.1, [(1000, 1)], [(0, 0)]) ∈ zb_l166 := List.mem_cons_self
theorem zb_k166 (hS : ∀ ρ, en_SA E ρ ω mt_SB) (hX : sf_JX J) (hM : sf_MnB E ω J) : sf_Kok E ω J 3 1 133 zb_m166 := sf_K_of hS (sf_TS_k (q := 4259840) (nx := 133) (l := [(3, 0, zb_m164)]) hX (sf_fc ⟨(rfl : zb_m164.1 = 4259840), (zb_k164 hS hX hM)⟩ sf_fn) sf_TS_n) (sf_nL (by decide +kernel)) rfl zb_h26_n zb_h26_n (by decide +kernel) (by decide +kernel) (by decide +kernel) zb_i166 (sf_fc (sf_okb_t zb_h26_n zb_e166_0) sf_fn)
/-- X9_lotOf -/
def zb_m167 : sf_M := (4063232, 803469022971320080879025644925371129720903174019150526808832, zb_h26, zb_h26, [88], [83010348333840465921])
def zb_t167_0 : sf_T := (4063232, 803469022971320080879025644925371129720903174019150526808832, [], zb_h26, [(1000, 1)], [(0, 0)])
def zb_l167 : List sf_T := [zb_t167_0]
noncomputable def zb_b167 : en_T := (sf_tc 4259840 (sf_call 133 [(3, 0, zb_m164)]) (fun _ => none))
theorem zb_e167_0 : sf_okb (sf_fin 133 zb_h26 [83010348333840465921]) zb_b167 62 3 1 133 42 zb_l167 [] zb_t167_0 = true := by decide +kernel
theorem zb_i167 : (zb_m167.1, zb_m167.2.1, ([] : List Nat), zb_m167.2.2.1, [(1000, 1)], [(0, 0)]) ∈ zb_l167 := List.mem_cons_self
theorem zb_k167 (hS : ∀ ρ, en_SA E ρ ω mt_SB) (hX : sf_JX J) (hM : sf_MnB E ω J) : sf_Kok E ω J 3 1 133 zb_m167 := sf_K_of hS (sf_TS_k (q := 4259840) (nx := 133) (l := [(3, 0, zb_m164)]) hX (sf_fc ⟨(rfl : zb_m164.1 = 4259840), (zb_k164 hS hX hM)⟩ sf_fn) sf_TS_n) (sf_nL (by decide +kernel)) rfl zb_h26_n zb_h26_n (by decide +kernel) (by decide +kernel) (by decide +kernel) zb_i167 (sf_fc (sf_okb_t zb_h26_n zb_e167_0) sf_fn)
/-- X9_lotOf -/
def zb_m168 : sf_M := (4063232, 803469022597175661722314497865227812545534720987231795806976, zb_h26, zb_h26, [88], [2147483648])
def zb_t168_0 : sf_T := (4063232, 803469022597175661722314497865227812545534720987231795806976, [], zb_h26, [(1000, 1)], [(0, 0)])
def zb_l168 : List sf_T := [zb_t168_0]
noncomputable def zb_b168 : en_T := (sf_tc 4259840 (sf_call 133 [(3, 0, zb_m164)]) (fun _ => none))
theorem zb_e168_0 : sf_okb (sf_fin 133 zb_h26 [2147483648]) zb_b168 62 3 1 133 42 zb_l168 [] zb_t168_0 = true := by decide +kernel
theorem zb_i168 : (zb_m168.1, zb_m168.2.1, ([] : List Nat), zb_m168.2.2.1, [(1000, 1)], [(0, 0)]) ∈ zb_l168 := List.mem_cons_self
theorem zb_k168 (hS : ∀ ρ, en_SA E ρ ω mt_SB) (hX : sf_JX J) (hM : sf_MnB E ω J) : sf_Kok E ω J 3 1 133 zb_m168 := sf_K_of hS (sf_TS_k (q := 4259840) (nx := 133) (l := [(3, 0, zb_m164)]) hX (sf_fc ⟨(rfl : zb_m164.1 = 4259840), (zb_k164 hS hX hM)⟩ sf_fn) sf_TS_n) (sf_nL (by decide +kernel)) rfl zb_h26_n zb_h26_n (by decide +kernel) (by decide +kernel) (by decide +kernel) zb_i168 (sf_fc (sf_okb_t zb_h26_n zb_e168_0) sf_fn)
def zb_h37 : en_H := (((((((0, 0), 0), 0), ((0, 0), (0, 0))), ((((((0, (0, 0)), 0), 0), ((((0, 0), (0, (0, 0))), (((0, 0), 0), (0, (0, (0, 0))))), 0)), ((0, 0), 0)), (0, ((((0, 0), ((0, 0), ((0, 0), 0))), (((0, (0, 0)), ((0, 0), (0, 0))), (((0, 0), (0, 0)), ((0, 0), (0, 0))))), (((((0, 0), (0, 0)), ((0, 0), (0, 0))), (((0, 0), (0, 0)), ((0, 0), (0, 0)))), ((((0, 0), (0, 0)), ((0, 0), (0, (0, 0)))), ((((0, 0), (0, 0)), ((0, 0), 0)), (0, (0, (0, 0)))))))))), zb_r4), ((((((0, 0), 0), (0, (0, 0))), (0, 0)), zb_r26), ((((((((0, 0), 0), (0, 0)), (0, (0, 0))), 0), (0, (((0, 0), (0, 0)), ((0, 0), (0, 0))))), 0), (((0, 0), zb_r6), (0, ((0, ((0, 0), (0, 0))), (((0, 0), (0, 0)), ((0, 0), ((0, 0), (0, 0))))))))))
theorem zb_h37_n : sf_nlh zb_h37 136 = true := by decide +kernel
/-- X9_draws -/
def zb_m169 : sf_M := (1376256, 123947994177030503561028935099706623557518250061135463897282557975803962110383049130439092092551177853747785101008342877696, zb_h37, zb_h37, [88, 97, 119], [])
def zb_t169_0 : sf_T := (1376256, 123947994177030503561028935099706623557518250061135463897282557975803962110383049130439092092551177853747785101008342877696, [], zb_h37, [], [(0, 16)])
def zb_t169_1 : sf_T := (1376363, 123947994179736024616034430862270023297118780249339309373502648026622451213970954136675456272554110262021124802593540802048, [], zb_h37, [(1000, 4)], [(0, 15)])
def zb_t169_2 : sf_T := (1376363, 20657999056259681029797663982116955748309196758790184157203272363440321420948028647175556041617959652779378892879930852864, [], zb_h37, [(1000, 4)], [(0, 7)])
def zb_t169_3 : sf_T := (1376363, 20657999046640050610756043080681643223860072294659388436874794173023257601552100480306119862261250956308283891247938012672, [], zb_h37, [(1000, 4)], [(0, 11)])
def zb_t169_4 : sf_T := (1376363, 20657999037020420191714422179246330699410947830528592716546315982606193782156172313436683680369241059380730086622538761728, [], zb_h37, [(1000, 4)], [(0, 13)])
def zb_t169_5 : sf_T := (1376363, 20657999027400789772672801277811018174961823366397796996217837792189129962760244146567247497209580562224946880500436305408, [], zb_h37, [(1000, 4)], [(0, 14)])
def zb_t169_6 : sf_T := (1376363, 798528872010084674713624040931995184075874620859473604001043271081722307019204999848650298129002319743971004064719807657935510701568, [], zb_h37, [(1000, 4), (1000, 5)], [(0, 3)])
def zb_t169_7 : sf_T := (1376363, 798528871968768676664233503497500477323826430870198311315775694876431757314554637896380839014927994094024099962201815709364957218304, [], zb_h37, [(1000, 4), (1000, 5)], [(0, 5)])
def zb_t169_8 : sf_T := (1376363, 798528871927452678614842966063005770571778240880923018630508118671141207609904275944111379900853668442809545259455594359297700529664, [], zb_h37, [(1000, 4), (1000, 5)], [(0, 6)])
def zb_t169_9 : sf_T := (1376363, 798528871968768676654613873078458856422391118345749186851644899156103279124137574076984910848058557914667391265730720707732964378112, [], zb_h37, [(1000, 4), (1000, 5)], [(0, 9)])
def zb_t169_10 : sf_T := (1376363, 798528871927452678605223335643964149670342928356473894166377322950812729419487212124715451733984232263452836562984499357665707689472, [], zb_h37, [(1000, 4), (1000, 5)], [(0, 10)])
def zb_t169_11 : sf_T := (1376363, 798528871927452678595603705224922528768907615832024769702246527230484251229070148305319523567114796081560826666056945553040308438528, [], zb_h37, [(1000, 4), (1000, 5)], [(0, 12)])
def zb_t169_12 : sf_T := (1376363, 798528871968768676661527982442145021445265156647075643282858723877016371421943613784826456513681879072493883765169860738655270733312, [], zb_h37, [(1000, 5)], [(0, 1)])
def zb_t169_13 : sf_T := (1376363, 798528871927452678612137445007650314693216966657800350597591147671725821717293251832556997399607553421279329062423639388588014044672, [], zb_h37, [(1000, 5)], [(0, 2)])
def zb_t169_14 : sf_T := (1376363, 798528871927452678612137445007650314693216966657800350597591147671725821717293251832556997399607553423814630262880098191581420455424, [], zb_h37, [(1000, 5)], [(0, 4)])
def zb_t169_15 : sf_T := (1376363, 798528871927452678602517814588608693791781654133351226133460351951397343526876188013161069232738117244457921566409003189949427615232, [], zb_h37, [(1000, 5)], [(0, 8)])
def zb_t169_16 : sf_T := (1376436, 798528871927452678612137445007650314693226133319692907216184544438933851323549989807030533833124366498609303618289234945270853142016, [], zb_h37, [(1000, 3), (1000, 5)], [(0, 0)])
def zb_l169 : List sf_T := [zb_t169_0, zb_t169_1, zb_t169_2, zb_t169_3, zb_t169_4, zb_t169_5, zb_t169_6, zb_t169_7, zb_t169_8, zb_t169_9, zb_t169_10, zb_t169_11, zb_t169_12, zb_t169_13, zb_t169_14, zb_t169_15, zb_t169_16]
noncomputable def zb_b169 : en_T := (sf_tc 4063232 (sf_call 133 [(3, 1, zb_m165), (3, 1, zb_m166), (3, 1, zb_m167), (3, 1, zb_m168)]) (sf_tc 1376363 (sf_spl 6 (1000, 4) [2147483649, 2147483650, 2147483651, 2147483652, 2147483653]) (fun _ => none)))
theorem zb_e169_0 : sf_okb (sf_fin 133 zb_h37 []) zb_b169 21 6 2 133 150 zb_l169 [1] zb_t169_0 = true := by decide +kernel
theorem zb_e169_1 : sf_okb (sf_fin 133 zb_h37 []) zb_b169 21 6 2 133 652 zb_l169 [2, 3, 4, 5] zb_t169_1 = true := by decide +kernel
theorem zb_e169_2 : sf_okb (sf_fin 133 zb_h37 []) zb_b169 21 6 2 133 440 zb_l169 [6, 7, 8] zb_t169_2 = true := by decide +kernel
theorem zb_e169_3 : sf_okb (sf_fin 133 zb_h37 []) zb_b169 21 6 2 133 470 zb_l169 [6, 9, 10] zb_t169_3 = true := by decide +kernel
theorem zb_e169_4 : sf_okb (sf_fin 133 zb_h37 []) zb_b169 21 6 2 133 500 zb_l169 [7, 9, 11] zb_t169_4 = true := by decide +kernel
theorem zb_e169_5 : sf_okb (sf_fin 133 zb_h37 []) zb_b169 21 6 2 133 530 zb_l169 [8, 10, 11] zb_t169_5 = true := by decide +kernel
theorem zb_e169_6 : sf_okb (sf_fin 133 zb_h37 []) zb_b169 21 6 2 133 264 zb_l169 [12, 13] zb_t169_6 = true := by decide +kernel
theorem zb_e169_7 : sf_okb (sf_fin 133 zb_h37 []) zb_b169 21 6 2 133 294 zb_l169 [12, 14] zb_t169_7 = true := by decide +kernel
theorem zb_e169_8 : sf_okb (sf_fin 133 zb_h37 []) zb_b169 21 6 2 133 324 zb_l169 [13, 14] zb_t169_8 = true := by decide +kernel
theorem zb_e169_9 : sf_okb (sf_fin 133 zb_h37 []) zb_b169 21 6 2 133 324 zb_l169 [12, 15] zb_t169_9 = true := by decide +kernel
theorem zb_e169_10 : sf_okb (sf_fin 133 zb_h37 []) zb_b169 21 6 2 133 354 zb_l169 [13, 15] zb_t169_10 = true := by decide +kernel
theorem zb_e169_11 : sf_okb (sf_fin 133 zb_h37 []) zb_b169 21 6 2 133 384 zb_l169 [14, 15] zb_t169_11 = true := by decide +kernel
theorem zb_e169_12 : sf_okb (sf_fin 133 zb_h37 []) zb_b169 21 6 2 133 92 zb_l169 [16] zb_t169_12 = true := by decide +kernel
theorem zb_e169_13 : sf_okb (sf_fin 133 zb_h37 []) zb_b169 21 6 2 133 122 zb_l169 [16] zb_t169_13 = true := by decide +kernel
theorem zb_e169_14 : sf_okb (sf_fin 133 zb_h37 []) zb_b169 21 6 2 133 152 zb_l169 [16] zb_t169_14 = true := by decide +kernel
theorem zb_e169_15 : sf_okb (sf_fin 133 zb_h37 []) zb_b169 21 6 2 133 182 zb_l169 [16] zb_t169_15 = true := by decide +kernel
theorem zb_e169_16 : sf_okb (sf_fin 133 zb_h37 []) zb_b169 21 6 2 133 482 zb_l169 [] zb_t169_16 = true := by decide +kernel
theorem zb_i169 : (zb_m169.1, zb_m169.2.1, ([] : List Nat), zb_m169.2.2.1, [], [(0, 16)]) ∈ zb_l169 := List.mem_cons_self
theorem zb_k169 (hS : ∀ ρ, en_SA E ρ ω mt_SB) (hX : sf_JX J) (hM : sf_MnB E ω J) : sf_Kok E ω J 6 2 133 zb_m169 := sf_K_of hS (sf_TS_k (q := 4063232) (nx := 133) (l := [(3, 1, zb_m165), (3, 1, zb_m166), (3, 1, zb_m167), (3, 1, zb_m168)]) hX (sf_fc ⟨(rfl : zb_m165.1 = 4063232), (zb_k165 hS hX hM)⟩ (sf_fc ⟨(rfl : zb_m166.1 = 4063232), (zb_k166 hS hX hM)⟩ (sf_fc ⟨(rfl : zb_m167.1 = 4063232), (zb_k167 hS hX hM)⟩ (sf_fc ⟨(rfl : zb_m168.1 = 4063232), (zb_k168 hS hX hM)⟩ sf_fn)))) (sf_TS_s (sf_nL (by decide +kernel)) sf_TS_n)) (sf_nL (by decide +kernel)) rfl zb_h37_n zb_h37_n (by decide +kernel) (by decide +kernel) (by decide +kernel) zb_i169 (sf_fc (sf_okb_t zb_h37_n zb_e169_0) (sf_fc (sf_okb_t zb_h37_n zb_e169_1) (sf_fc (sf_okb_t zb_h37_n zb_e169_2) (sf_fc (sf_okb_t zb_h37_n zb_e169_3) (sf_fc (sf_okb_t zb_h37_n zb_e169_4) (sf_fc (sf_okb_t zb_h37_n zb_e169_5) (sf_fc (sf_okb_t zb_h37_n zb_e169_6) (sf_fc (sf_okb_t zb_h37_n zb_e169_7) (sf_fc (sf_okb_t zb_h37_n zb_e169_8) (sf_fc (sf_okb_t zb_h37_n zb_e169_9) (sf_fc (sf_okb_t zb_h37_n zb_e169_10) (sf_fc (sf_okb_t zb_h37_n zb_e169_11) (sf_fc (sf_okb_t zb_h37_n zb_e169_12) (sf_fc (sf_okb_t zb_h37_n zb_e169_13) (sf_fc (sf_okb_t zb_h37_n zb_e169_14) (sf_fc (sf_okb_t zb_h37_n zb_e169_15) (sf_fc (sf_okb_t zb_h37_n zb_e169_16) sf_fn)))))))))))))))))
def zb_h38 : en_H := (((((((0, 0), 0), 0), ((0, 0), (0, 0))), ((((((0, (0, 0)), 0), 0), ((((0, 0), (0, (0, 0))), (((0, 0), 0), (0, (0, (0, 0))))), 0)), ((0, 0), 0)), (0, ((((0, 0), ((0, 0), ((0, 0), 0))), (((0, (0, 0)), ((0, 0), (0, 0))), (((0, 0), (0, 0)), ((0, 0), (0, 0))))), (((((0, 0), (0, 0)), ((0, 0), (0, 0))), (((0, 0), (0, 0)), ((0, 0), (0, 0)))), ((((0, 0), (0, 0)), ((0, 0), (0, (0, 0)))), ((((0, 0), (0, 0)), ((0, 0), 0)), (0, (0, (0, 0)))))))))), zb_r0), ((((((0, 0), 0), (0, (0, 0))), (0, 0)), zb_r8), ((((((((0, 0), 0), (0, 0)), (0, (0, 0))), 0), (0, (((0, 0), (0, 0)), ((0, 0), (0, 0))))), 0), (((0, 0), zb_r6), (0, ((0, ((0, 0), (0, 0))), (((0, 0), (0, 0)), ((0, 0), ((0, 0), (0, 0))))))))))
theorem zb_h38_n : sf_nlh zb_h38 136 = true := by decide +kernel
/-- X9_draws -/
def zb_m170 : sf_M := (1376256, 123947994177030503561028935099706623557518250061135463897282557975803962110383049130439092092551177853747785101008342877696, zb_h38, zb_h38, [88, 97, 119], [])
def zb_h39 : en_H := (((((((0, 0), 0), 0), ((0, 0), (0, 0))), ((((((0, (0, 0)), 0), 0), ((((0, 0), (0, (0, 0))), (((0, 0), 0), (0, (0, (0, 0))))), 0)), ((0, 0), 0)), (0, ((((0, 0), ((0, 0), ((0, 0), 0))), (((0, (0, 0)), ((0, 0), (0, 0))), (((0, 0), (0, 0)), ((0, 0), (0, 0))))), (((((0, 0), (0, 0)), ((0, 0), (0, 0))), (((0, 0), (0, 0)), ((0, 0), (0, 0)))), ((((0, 0), (0, 0)), ((0, 0), (0, (0, 0)))), ((((0, 0), (0, 0)), ((0, 0), 0)), (0, (0, (0, 0)))))))))), zb_r3), ((((((0, 0), 0), (0, (0, 0))), (0, 0)), zb_r8), ((((((((0, 0), 0), (0, 0)), (0, (0, 0))), 0), (0, (((0, 0), (0, 0)), ((0, 0), (0, 0))))), 0), (((0, 0), zb_r6), (0, ((0, ((0, 0), (0, 0))), (((0, 0), (0, 0)), ((0, 0), ((0, 0), (0, 0))))))))))
theorem zb_h39_n : sf_nlh zb_h39 136 = true := by decide +kernel
/-- X9_draws -/
def zb_m171 : sf_M := (1376256, 123947994177030503561028935099706623557518250061135463897282557975803962110383049130439092092551177853747785101008342877696, zb_h39, zb_h39, [88, 97, 119], [])
theorem zb_kc171 (hS : ∀ ρ, en_SA E ρ ω mt_SB) (hX : sf_JX J) (hM : sf_MnB E ω J) : sf_K E ω J 2 133 zb_m171 := sf_K_case2 (n := 6) (lo := 2147483648) (hi := 2147483654) (97, 0) rfl (sf_nL (by decide +kernel)) (by decide +kernel) (by decide +kernel) (by decide +kernel) zb_h39_n (sf_r7 ⟨zb_m142, (zb_k142 hS hX hM).2.2.2.2.2, rfl, rfl, zb_h31_n, by decide +kernel, by decide +kernel, by decide +kernel⟩ ⟨zb_m110, (zb_k110 hS hX hM).2.2.2.2.2, rfl, rfl, zb_h23_n, by decide +kernel, by decide +kernel, by decide +kernel⟩ ⟨zb_m151, (zb_k151 hS hX hM).2.2.2.2.2, rfl, rfl, zb_h34_n, by decide +kernel, by decide +kernel, by decide +kernel⟩ ⟨zb_m121, (zb_k121 hS hX hM).2.2.2.2.2, rfl, rfl, zb_h25_n, by decide +kernel, by decide +kernel, by decide +kernel⟩ ⟨zb_m163, (zb_k163 hS hX hM).2.2.2.2.2, rfl, rfl, zb_h36_n, by decide +kernel, by decide +kernel, by decide +kernel⟩ ⟨zb_m130, (zb_k130 hS hX hM).2.2.2.2.2, rfl, rfl, zb_h28_n, by decide +kernel, by decide +kernel, by decide +kernel⟩ ⟨zb_m116, (zb_k116 hS hX hM).2.2.2.2.2, rfl, rfl, zb_h24_n, by decide +kernel, by decide +kernel, by decide +kernel⟩)
def zb_h40 : en_H := (((((((0, 0), 0), 0), ((0, 0), (0, 0))), ((((((0, (0, 0)), 0), 0), ((((0, 0), (0, (0, 0))), (((0, 0), 0), (0, (0, (0, 0))))), 0)), ((0, 0), 0)), (0, ((((0, 0), ((0, 0), ((0, 0), 0))), (((0, (0, 0)), ((0, 0), (0, 0))), (((0, 0), (0, 0)), ((0, 0), (0, 0))))), (((((0, 0), (0, 0)), ((0, 0), (0, 0))), (((0, 0), (0, 0)), ((0, 0), (0, 0)))), ((((0, 0), (0, 0)), ((0, 0), (0, (0, 0)))), ((((0, 0), (0, 0)), ((0, 0), 0)), (0, (0, (0, 0)))))))))), zb_r4), ((((((0, 0), 0), (0, (0, 0))), (0, 0)), zb_r8), ((((((((0, 0), 0), (0, 0)), (0, (0, 0))), 0), (0, (((0, 0), (0, 0)), ((0, 0), (0, 0))))), 0), (((0, 0), zb_r6), (0, ((0, ((0, 0), (0, 0))), (((0, 0), (0, 0)), ((0, 0), ((0, 0), (0, 0))))))))))
theorem zb_h40_n : sf_nlh zb_h40 136 = true := by decide +kernel
/-- X9_draws -/
def zb_m172 : sf_M := (1376256, 123947994177030503561028935099706623557518250061135463897282557975803962110383049130439092092551177853747785101008342877696, zb_h40, zb_h40, [88, 97, 119], [])
theorem zb_kc172 (hS : ∀ ρ, en_SA E ρ ω mt_SB) (hX : sf_JX J) (hM : sf_MnB E ω J) : sf_K E ω J 2 133 zb_m172 := sf_K_case2 (n := 6) (lo := 2147483648) (hi := 2147483654) (97, 1) rfl (sf_nL (by decide +kernel)) (by decide +kernel) (by decide +kernel) (by decide +kernel) zb_h40_n (sf_r7 ⟨zb_m147, (zb_k147 hS hX hM).2.2.2.2.2, rfl, rfl, zb_h33_n, by decide +kernel, by decide +kernel, by decide +kernel⟩ ⟨zb_m124, (zb_k124 hS hX hM).2.2.2.2.2, rfl, rfl, zb_h27_n, by decide +kernel, by decide +kernel, by decide +kernel⟩ ⟨zb_m146, (zb_k146 hS hX hM).2.2.2.2.2, rfl, rfl, zb_h32_n, by decide +kernel, by decide +kernel, by decide +kernel⟩ ⟨zb_m141, (zb_k141 hS hX hM).2.2.2.2.2, rfl, rfl, zb_h30_n, by decide +kernel, by decide +kernel, by decide +kernel⟩ ⟨zb_m169, (zb_k169 hS hX hM).2.2.2.2.2, rfl, rfl, zb_h37_n, by decide +kernel, by decide +kernel, by decide +kernel⟩ ⟨zb_m136, (zb_k136 hS hX hM).2.2.2.2.2, rfl, rfl, zb_h29_n, by decide +kernel, by decide +kernel, by decide +kernel⟩ ⟨zb_m157, (zb_k157 hS hX hM).2.2.2.2.2, rfl, rfl, zb_h35_n, by decide +kernel, by decide +kernel, by decide +kernel⟩)
theorem zb_k170 (hS : ∀ ρ, en_SA E ρ ω mt_SB) (hX : sf_JX J) (hM : sf_MnB E ω J) : sf_Kok E ω J 6 2 133 zb_m170 := ⟨sf_nL (by decide +kernel), zb_h38_n, by decide +kernel, by decide +kernel, by decide +kernel, sf_K_case2 (n := 6) (lo := 2147483648) (hi := 2147483649) (88, 18) rfl (sf_nL (by decide +kernel)) (by decide +kernel) (by decide +kernel) (by decide +kernel) zb_h38_n (sf_r2 ⟨zb_m171, zb_kc171 hS hX hM, rfl, rfl, by decide +kernel, by decide +kernel, by decide +kernel, by decide +kernel⟩ ⟨zb_m172, zb_kc172 hS hX hM, rfl, rfl, by decide +kernel, by decide +kernel, by decide +kernel, by decide +kernel⟩)⟩
def zb_h41 : en_H := (((((((0, 0), 0), 0), ((0, 0), (0, 0))), ((((((0, (0, 0)), 0), 0), ((((0, 0), (0, (0, 0))), (((0, 0), 0), (0, (0, (0, 0))))), 0)), ((0, 0), 0)), (0, ((((0, 0), ((0, 0), ((0, 0), 0))), (((0, (0, 0)), ((0, 0), (0, 0))), (((0, 0), (0, 0)), ((0, 0), (0, 0))))), (((((0, 0), (0, 0)), ((0, 0), (0, 0))), (((0, 0), (0, 0)), ((0, 0), (0, 0)))), ((((0, 0), (0, 0)), ((0, 0), (0, (0, 0)))), ((((0, 0), (0, 0)), ((0, 0), 0)), (0, (0, (0, 0)))))))))), zb_r0), ((((((0, 0), 0), (0, (0, 0))), (0, 0)), zb_r8), ((((((((zb_r7, 0), 0), (0, 0)), (zb_r5, (0, 0))), 0), (0, (((0, 0), (0, 0)), ((0, 0), (0, 0))))), zb_r1), (((zb_r2, 0), zb_r6), (zb_r12, ((0, ((0, 0), (0, 0))), (((0, 0), (0, 0)), ((0, 0), ((0, 0), (0, 0))))))))))
theorem zb_h41_n : sf_nlh zb_h41 136 = true := by decide +kernel
/-- X9_watchGoes -/
def zb_m173 : sf_M := (6946816, 36893488525376225536, zb_h41, zb_h41, [88, 97, 98, 103, 116, 117, 119, 120], [83010348333840465921])
def zb_t173_0 : sf_T := (6946816, 36893488525376225536, [], zb_h41, [], [(0, 0)])
def zb_l173 : List sf_T := [zb_t173_0]
noncomputable def zb_b173 : en_T := (sf_tc 1376256 (sf_call 133 [(6, 2, zb_m170)]) (sf_tc 5570560 (sf_call 133 [(3, 7, zb_m106)]) (fun _ => none)))
theorem zb_e173_0 : sf_okb (sf_fin 133 zb_h41 [83010348333840465921]) zb_b173 106 1 8 133 48 zb_l173 [] zb_t173_0 = true := by decide +kernel
theorem zb_i173 : (zb_m173.1, zb_m173.2.1, ([] : List Nat), zb_m173.2.2.1, [], [(0, 0)]) ∈ zb_l173 := List.mem_cons_self
theorem zb_k173 (hS : ∀ ρ, en_SA E ρ ω mt_SB) (hX : sf_JX J) (hM : sf_MnB E ω J) : sf_Kok E ω J 1 8 133 zb_m173 := sf_K_of hS (sf_TS_k (q := 1376256) (nx := 133) (l := [(6, 2, zb_m170)]) hX (sf_fc ⟨(rfl : zb_m170.1 = 1376256), (zb_k170 hS hX hM)⟩ sf_fn) (sf_TS_k (q := 5570560) (nx := 133) (l := [(3, 7, zb_m106)]) hX (sf_fc ⟨(rfl : zb_m106.1 = 5570560), (zb_k106 hS hX hM)⟩ sf_fn) sf_TS_n)) (sf_nL (by decide +kernel)) rfl zb_h41_n zb_h41_n (by decide +kernel) (by decide +kernel) (by decide +kernel) zb_i173 (sf_fc (sf_okb_t zb_h41_n zb_e173_0) sf_fn)
/-- X9_watches -/
def zb_m174 : sf_M := (7012352, 4820814133992940188890642022838420953201779111508051346064128, zb_h21, zb_h21, [88, 97, 98, 103, 105, 116, 117, 118, 119, 120, 121], [83010348325250531388])
def zb_t174_0 : sf_T := (7012352, 4820814133992940188890642022838420953201779111508051346064128, [], zb_h21, [(1000, 1)], [(0, 1)])
def zb_t174_1 : sf_T := (7012389, 31057858561361006088139789785316256192801997573642372202609796433576704, [], zb_h21, [(1000, 1), (1000, 2)], [(0, 0), (1, 1), (0, 0)])
def zb_l174 : List sf_T := [zb_t174_0, zb_t174_1]
noncomputable def zb_b174 : en_T := (sf_tc 6946816 (sf_call 133 [(1, 8, zb_m173)]) (sf_tc 3604480 (sf_call 133 [(2, 1, zb_m100)]) (sf_tc 1114112 (sf_call 133 [(2, 0, zb_m89)]) (fun _ => none))))
theorem zb_e174_0 : sf_okb (sf_fin 133 zb_h21 [83010348325250531388]) zb_b174 107 3 9 133 98 zb_l174 [1] zb_t174_0 = true := by decide +kernel
theorem zb_e174_1 : sf_okb (sf_fin 133 zb_h21 [83010348325250531388]) zb_b174 107 3 9 133 52 zb_l174 [1] zb_t174_1 = true := by decide +kernel
theorem zb_i174 : (zb_m174.1, zb_m174.2.1, ([] : List Nat), zb_m174.2.2.1, [(1000, 1)], [(0, 1)]) ∈ zb_l174 := List.mem_cons_self
theorem zb_k174 (hS : ∀ ρ, en_SA E ρ ω mt_SB) (hX : sf_JX J) (hM : sf_MnB E ω J) : sf_Kok E ω J 3 9 133 zb_m174 := sf_K_of hS (sf_TS_k (q := 6946816) (nx := 133) (l := [(1, 8, zb_m173)]) hX (sf_fc ⟨(rfl : zb_m173.1 = 6946816), (zb_k173 hS hX hM)⟩ sf_fn) (sf_TS_k (q := 3604480) (nx := 133) (l := [(2, 1, zb_m100)]) hX (sf_fc ⟨(rfl : zb_m100.1 = 3604480), (zb_k100 hS hX hM)⟩ sf_fn) (sf_TS_k (q := 1114112) (nx := 133) (l := [(2, 0, zb_m89)]) hX (sf_fc ⟨(rfl : zb_m89.1 = 1114112), (zb_k89 hS hX hM)⟩ sf_fn) sf_TS_n))) (sf_nL (by decide +kernel)) rfl zb_h21_n zb_h21_n (by decide +kernel) (by decide +kernel) (by decide +kernel) zb_i174 (sf_fc (sf_okb_t zb_h21_n zb_e174_0) (sf_fc (sf_okb_t zb_h21_n zb_e174_1) sf_fn))
end SFP
