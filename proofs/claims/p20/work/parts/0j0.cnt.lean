/-! AN OPAQUE INT THAT IS ANSWERED; contracts of count, and of reading's end, by program (wip/p3/emit.py, spec.py, spec9.py with count, read) -/
def sf_W2 (ω : Nat → Value) : Prop := ∀ j, j < 2 → ∃ x : Int32, ω j = .int x
noncomputable def sf_w2i : en_O → en_O := fun o loc st hp w ih => List.rec (motive := fun _ => Bool) (o loc st hp w ih) (fun c r _ => en_if (en_if (Nat.ble 17179869184 c) (Nat.ble c 17179869185) false) (o loc (73786976299133173759 :: r) hp w ih) (o loc st hp w ih)) st
theorem sf_w2i_ok {E : mm_E} {ω : Nat → Value} {ρ : Nat → Int32} {h0 : mm_H} {fsC : List mm_F} {FIN : mm_C → Prop} {q : Nat} {o : en_O} (hW : sf_W2 ω) (ho : en_OS E mt_kds mt_P 1000 ρ ω h0 fsC FIN q o) : en_OS E mt_kds mt_P 1000 ρ ω h0 fsC FIN q (sf_w2i o) := by
  intro loc st hp w ih c hih hk hR
  cases st with
  | nil => exact ho loc [] hp w ih c hih hk hR
  | cons a r =>
    rcases en_if_or.mp (show en_if (en_if (Nat.ble 17179869184 a) (Nat.ble a 17179869185) false) (o loc (73786976299133173759 :: r) hp w ih) (o loc (a :: r) hp w ih) = true from hk) with ⟨h1, h2⟩ | ⟨-, h2⟩
    · obtain ⟨g1, g2⟩ := en_if_and.mp h1
      have g1 := en_ble_t.mp g1
      have g2 := en_ble_t.mp g2
      refine ho loc (73786976299133173759 :: r) hp w ih c hih h2 ?_
      obtain ⟨lv, sv, gs, h, o2, e1, hl, hs, hh, he, hrest⟩ := hR
      refine ⟨lv, sv, gs, h, o2, e1, hl, ?_, hh, he, hrest⟩
      obtain ⟨v, vs, rfl, h3, h4⟩ := en_sr_cons hs
      have h5 := (en_v_opq g1 (by omega)).mp h3
      obtain ⟨x, hx⟩ := hW (a - 17179869184) (by omega)
      rw [h5, hx]
      exact ⟨en_any_v x, h4⟩
    · exact ho loc (a :: r) hp w ih c hih h2 hR
theorem sf_TS_w {E : mm_E} {ω : Nat → Value} {J : mm_H → Prop} {q : Nat} {tb : en_T} (hW : sf_W2 ω) (ht : sf_TS E ω J tb) : sf_TS E ω J (sf_tc q sf_w2i tb) := sf_TS_c (fun _ _ _ _ _ _ ho => sf_w2i_ok hW ho) ht
section SFP
variable {E : mm_E} {ω : Nat → Value} {J : mm_H → Prop}
/-- X3_slotsHeld -/
def sa_m159 : sf_M := (10420224, 4820814133899404084112353271819925757139677903293656015569664, sa_h4, sa_h4, [37, 83], [73786976299133173759])
def sa_t159_0 : sf_T := (10420224, 4820814133899404084112353271819925757139677903293656015569664, [], sa_h4, [], [(0, 1)])
def sa_t159_1 : sf_T := (10420228, 31057858561361006066801865880282351328015504821663011125282209221575424, [], sa_h4, [(1000, 1), (1000, 2)], [(0, 0), (1, 1), (0, 0)])
def sa_l159 : List sf_T := [sa_t159_0, sa_t159_1]
noncomputable def sa_b159 : en_T := (fun _ => none)
theorem sa_e159_0 : sf_okb (sf_fin 133 sa_h4 [73786976299133173759]) sa_b159 159 3 0 133 28 sa_l159 [1] sa_t159_0 = true := by decide +kernel
theorem sa_e159_1 : sf_okb (sf_fin 133 sa_h4 [73786976299133173759]) sa_b159 159 3 0 133 64 sa_l159 [1] sa_t159_1 = true := by decide +kernel
theorem sa_i159 : (sa_m159.1, sa_m159.2.1, ([] : List Nat), sa_m159.2.2.1, [], [(0, 1)]) ∈ sa_l159 := List.mem_cons_self
theorem sa_k159 (hS : ∀ ρ, en_SA E ρ ω mt_SB) (hX : sf_JX J) (hM : sf_MnA E ω J) : sf_Kok E ω J 3 0 133 sa_m159 := sf_K_of hS sf_TS_n (sf_nL (by decide +kernel)) rfl sa_h4_n sa_h4_n (by decide +kernel) (by decide +kernel) (by decide +kernel) sa_i159 (sf_fc (sf_okb_t sa_h4_n sa_e159_0) (sf_fc (sf_okb_t sa_h4_n sa_e159_1) sf_fn))
/-- X5_strawsUpSleeves -/
def sa_m160 : sf_M := (13041664, 4820814133899404084112353271819925757139677903293604475962112, sa_h25, sa_h25, [25, 26], [73786976299133173759])
def sa_t160_0 : sf_T := (13041664, 4820814133899404084112353271819925757139677903293604475962112, [], sa_h25, [], [(0, 1)])
def sa_t160_1 : sf_T := (13041668, 31057858561361006067924299137752484769195934773189116484377913874973440, [], sa_h25, [(1000, 1), (1000, 2)], [(0, 0), (1, 1), (0, 1)])
def sa_t160_2 : sf_T := (13041686, 31057858561361006067550154718595773622135791456013748031345995143971584, [], sa_h25, [(1000, 1), (1000, 2)], [(0, 0), (1, 1), (0, 0)])
def sa_l160 : List sf_T := [sa_t160_0, sa_t160_1, sa_t160_2]
noncomputable def sa_b160 : en_T := (fun _ => none)
theorem sa_e160_0 : sf_okb (sf_fin 133 sa_h25 [73786976299133173759]) sa_b160 199 3 0 133 28 sa_l160 [1] sa_t160_0 = true := by decide +kernel
theorem sa_e160_1 : sf_okb (sf_fin 133 sa_h25 [73786976299133173759]) sa_b160 199 3 0 133 48 sa_l160 [2] sa_t160_1 = true := by decide +kernel
theorem sa_e160_2 : sf_okb (sf_fin 133 sa_h25 [73786976299133173759]) sa_b160 199 3 0 133 24 sa_l160 [1] sa_t160_2 = true := by decide +kernel
theorem sa_i160 : (sa_m160.1, sa_m160.2.1, ([] : List Nat), sa_m160.2.2.1, [], [(0, 1)]) ∈ sa_l160 := List.mem_cons_self
theorem sa_k160 (hS : ∀ ρ, en_SA E ρ ω mt_SB) (hX : sf_JX J) (hM : sf_MnA E ω J) : sf_Kok E ω J 3 0 133 sa_m160 := sf_K_of hS sf_TS_n (sf_nL (by decide +kernel)) rfl sa_h25_n sa_h25_n (by decide +kernel) (by decide +kernel) (by decide +kernel) sa_i160 (sf_fc (sf_okb_t sa_h25_n sa_e160_0) (sf_fc (sf_okb_t sa_h25_n sa_e160_1) (sf_fc (sf_okb_t sa_h25_n sa_e160_2) sf_fn)))
def sa_h87 : en_H := (((((((sa_r23, 0), sa_r0), 0), ((0, 0), (0, 0))), ((((((0, (0, 0)), 0), 0), ((((0, 0), (0, (0, 0))), (((0, 0), 0), (0, (0, (0, 0))))), sa_r19)), ((sa_r18, 0), 0)), (0, ((((0, sa_r8), ((0, 0), ((0, 0), 0))), (((sa_r10, (0, 0)), ((0, 0), (0, 0))), (((0, 0), (0, 0)), ((0, 0), (0, 0))))), (((((0, 0), (0, 0)), ((0, 0), (0, 0))), (((0, 0), (0, 0)), ((0, 0), (0, 0)))), ((((0, 0), (0, 0)), ((0, 0), (0, (0, 0)))), ((((0, 0), (0, 0)), ((0, 0), sa_r11)), (sa_r21, (0, (0, 0)))))))))), 0), ((((((0, 0), 0), (0, (0, 0))), (0, 0)), 0), ((((((((0, 0), 0), (0, 0)), (0, (0, 0))), 0), (0, (((0, 0), (0, 0)), ((0, 0), (0, 0))))), 0), (((0, 0), 0), (0, ((0, ((0, 0), (0, 0))), (((0, 0), (0, 0)), ((0, 0), ((0, 0), (0, 0))))))))))
theorem sa_h87_n : sf_nlh sa_h87 136 = true := by decide +kernel
/-- X8_count -/
def sa_m161 : sf_M := (14876672, 93536104794622304634503194109064771063538690032128, sa_h87, sa_h87, [0, 2, 25, 26, 31, 37, 83, 84], [73786976299133173759])
def sa_t161_0 : sf_T := (14876672, 93536104794622304634503194109064771063538690032128, [], sa_h87, [(1000, 1), (2, 4), (31, 6), (37, 4), (84, 3), (84, 4)], [(0, 0)])
def sa_l161 : List sf_T := [sa_t161_0]
noncomputable def sa_b161 : en_T := (sf_tc 13041664 (sf_call 133 [(3, 0, sa_m160)]) (sf_tc 10420224 (sf_call 133 [(3, 0, sa_m159)]) (sf_tc 14876839 sf_w2i (sf_tc 14876837 sf_w2i (sf_tc 14876829 sf_w2i (sf_tc 14876818 sf_w2i (sf_tc 14876807 sf_w2i (sf_tc 14876799 sf_w2i (sf_tc 14876788 sf_w2i (sf_tc 14876780 sf_w2i (sf_tc 14876772 sf_w2i (sf_tc 14876764 sf_w2i (sf_tc 14876756 sf_w2i (sf_tc 14876751 sf_w2i (sf_tc 14876743 sf_w2i (fun _ => none))))))))))))))))
theorem sa_e161_0 : sf_okb (sf_fin 133 sa_h87 [73786976299133173759]) sa_b161 227 2 1 133 162 sa_l161 [] sa_t161_0 = true := by decide +kernel
theorem sa_i161 : (sa_m161.1, sa_m161.2.1, ([] : List Nat), sa_m161.2.2.1, [(1000, 1), (2, 4), (31, 6), (37, 4), (84, 3), (84, 4)], [(0, 0)]) ∈ sa_l161 := List.mem_cons_self
theorem sa_k161 (hS : ∀ ρ, en_SA E ρ ω mt_SB) (hX : sf_JX J) (hM : sf_MnA E ω J) (hW : sf_W2 ω) : sf_Kok E ω J 2 1 133 sa_m161 := sf_K_of hS (sf_TS_k (q := 13041664) (nx := 133) (l := [(3, 0, sa_m160)]) hX (sf_fc ⟨(rfl : sa_m160.1 = 13041664), (sa_k160 hS hX hM)⟩ sf_fn) (sf_TS_k (q := 10420224) (nx := 133) (l := [(3, 0, sa_m159)]) hX (sf_fc ⟨(rfl : sa_m159.1 = 10420224), (sa_k159 hS hX hM)⟩ sf_fn) (sf_TS_w hW (sf_TS_w hW (sf_TS_w hW (sf_TS_w hW (sf_TS_w hW (sf_TS_w hW (sf_TS_w hW (sf_TS_w hW (sf_TS_w hW (sf_TS_w hW (sf_TS_w hW (sf_TS_w hW (sf_TS_w hW sf_TS_n))))))))))))))) (sf_nL (by decide +kernel)) rfl sa_h87_n sa_h87_n (by decide +kernel) (by decide +kernel) (by decide +kernel) sa_i161 (sf_fc (sf_okb_t sa_h87_n sa_e161_0) sf_fn)
def zb_h134 : en_H := (((((((0, 0), 0), 0), ((0, 0), (0, 0))), ((((((0, (0, 0)), 0), 0), ((((0, 0), (0, (0, 0))), (((0, 0), 0), (0, (0, (0, 0))))), 0)), ((0, 0), 0)), (0, ((((0, 0), ((0, 0), ((0, 0), 0))), (((0, (0, 0)), ((0, 0), (0, 0))), (((0, 0), (0, 0)), ((0, 0), (0, 0))))), (((((0, 0), (0, 0)), ((0, 0), (0, 0))), (((0, 0), (0, 0)), ((0, 0), (0, 0)))), ((((0, 0), (0, 0)), ((0, 0), (0, (0, 0)))), ((((0, 0), (0, 0)), ((0, 0), 0)), (0, (0, (0, 0)))))))))), zb_r0), ((((((0, 0), 0), (0, (0, 0))), (0, 0)), zb_r8), ((((((((0, 0), 0), (0, 0)), (zb_r5, (0, 0))), 0), (0, (((0, 0), (0, 0)), ((0, 0), (0, 0))))), 0), (((0, zb_r6), 0), (0, ((0, ((0, 0), (0, 0))), (((0, 0), (0, 0)), ((0, zb_r37), ((0, 0), (0, 0))))))))))
theorem zb_h134_n : sf_nlh zb_h134 136 = true := by decide +kernel
/-- X9_count -/
def zb_m486 : sf_M := (1179648, 1422853192879425234015608139717618233279169435311882902534235126048545751103964160, zb_h134, zb_h134, [88, 97, 103, 118, 131], [73786976299133173759])
def zb_t486_0 : sf_T := (1179648, 1422853192879425234015608139717618233279169435311882902534235126048545751103964160, [], zb_h134, [(1000, 1), (88, 54), (88, 65), (88, 67), (88, 18)], [(0, 2)])
def zb_t486_1 : sf_T := (1179836, 9166661893742329587656203800750338418816761038864300574907201322462420040765784516959667200, [], zb_h134, [(1000, 2), (1000, 3), (88, 54), (88, 65), (88, 67), (88, 18)], [(0, 0), (1, 1), (0, 1)])
def zb_t486_2 : sf_T := (1179799, 9166661893742329587656203800750338418816761038864300574907200054811819812536383020256461824, [], zb_h134, [(1000, 2), (1000, 3), (88, 54), (88, 65), (88, 67), (88, 18)], [(0, 1), (1, 1), (0, 1)])
def zb_t486_3 : sf_T := (1179858, 9166661893742329587545775859201689398217804945067868167667983578907693855883184129378878464, [], zb_h134, [(1000, 2), (1000, 3), (88, 54), (88, 65), (88, 67), (88, 18)], [(0, 0), (1, 1), (0, 0)])
def zb_t486_4 : sf_T := (1179826, 9166661893742329587545775859201689398217804945067868167667982311257093627653782632675673088, [], zb_h134, [(1000, 2), (1000, 3), (88, 54), (88, 65), (88, 67), (88, 18)], [(0, 1), (1, 1), (0, 0)])
def zb_l486 : List sf_T := [zb_t486_0, zb_t486_1, zb_t486_2, zb_t486_3, zb_t486_4]
noncomputable def zb_b486 : en_T := (sf_tc 1441792 (sf_call 133 [(3, 0, zb_m216)]) (sf_tc 1179888 sf_w2i (sf_tc 1179886 sf_w2i (sf_tc 1179881 sf_w2i (sf_tc 1179873 sf_w2i (sf_tc 1179865 sf_w2i (sf_tc 1179833 sf_w2i (sf_tc 1179796 sf_w2i (sf_tc 1179751 sf_w2i (sf_tc 1179746 sf_w2i (sf_tc 1179741 sf_w2i (sf_tc 1179736 sf_w2i (sf_tc 1179731 sf_w2i (sf_tc 1179721 sf_w2i (fun _ => none)))))))))))))))
theorem zb_e486_0 : sf_okb (sf_fin 133 zb_h134 [73786976299133173759]) zb_b486 18 4 1 133 294 zb_l486 [1, 2] zb_t486_0 = true := by decide +kernel
theorem zb_e486_1 : sf_okb (sf_fin 133 zb_h134 [73786976299133173759]) zb_b486 18 4 1 133 84 zb_l486 [3] zb_t486_1 = true := by decide +kernel
theorem zb_e486_2 : sf_okb (sf_fin 133 zb_h134 [73786976299133173759]) zb_b486 18 4 1 133 112 zb_l486 [4] zb_t486_2 = true := by decide +kernel
theorem zb_e486_3 : sf_okb (sf_fin 133 zb_h134 [73786976299133173759]) zb_b486 18 4 1 133 24 zb_l486 [1] zb_t486_3 = true := by decide +kernel
theorem zb_e486_4 : sf_okb (sf_fin 133 zb_h134 [73786976299133173759]) zb_b486 18 4 1 133 24 zb_l486 [2] zb_t486_4 = true := by decide +kernel
theorem zb_i486 : (zb_m486.1, zb_m486.2.1, ([] : List Nat), zb_m486.2.2.1, [(1000, 1), (88, 54), (88, 65), (88, 67), (88, 18)], [(0, 2)]) ∈ zb_l486 := List.mem_cons_self
theorem zb_k486 (hS : ∀ ρ, en_SA E ρ ω mt_SB) (hX : sf_JX J) (hM : sf_MnB E ω J) (hW : sf_W2 ω) : sf_Kok E ω J 4 1 133 zb_m486 := sf_K_of hS (sf_TS_k (q := 1441792) (nx := 133) (l := [(3, 0, zb_m216)]) hX (sf_fc ⟨(rfl : zb_m216.1 = 1441792), (zb_k216 hS hX hM)⟩ sf_fn) (sf_TS_w hW (sf_TS_w hW (sf_TS_w hW (sf_TS_w hW (sf_TS_w hW (sf_TS_w hW (sf_TS_w hW (sf_TS_w hW (sf_TS_w hW (sf_TS_w hW (sf_TS_w hW (sf_TS_w hW (sf_TS_w hW sf_TS_n)))))))))))))) (sf_nL (by decide +kernel)) rfl zb_h134_n zb_h134_n (by decide +kernel) (by decide +kernel) (by decide +kernel) zb_i486 (sf_fc (sf_okb_t zb_h134_n zb_e486_0) (sf_fc (sf_okb_t zb_h134_n zb_e486_1) (sf_fc (sf_okb_t zb_h134_n zb_e486_2) (sf_fc (sf_okb_t zb_h134_n zb_e486_3) (sf_fc (sf_okb_t zb_h134_n zb_e486_4) sf_fn)))))
/-- X9_begins -/
def zb_m487 : sf_M := (458752, 36893488525376225536, zb_h131, zb_h131, [88, 97, 99, 100, 101, 102, 103, 104, 105, 119], [])
def zb_t487_0 : sf_T := (458752, 36893488525376225536, [], zb_h131, [], [(0, 0)])
def zb_l487 : List sf_T := [zb_t487_0]
noncomputable def zb_b487 : en_T := (sf_tc 524288 (sf_call 133 [(3, 1, zb_m480)]) (fun _ => none))
theorem zb_e487_0 : sf_okb (sf_fin 133 zb_h131 []) zb_b487 7 1 2 133 28 zb_l487 [] zb_t487_0 = true := by decide +kernel
theorem zb_i487 : (zb_m487.1, zb_m487.2.1, ([] : List Nat), zb_m487.2.2.1, [], [(0, 0)]) ∈ zb_l487 := List.mem_cons_self
theorem zb_k487 (hS : ∀ ρ, en_SA E ρ ω mt_SB) (hX : sf_JX J) (hM : sf_MnB E ω J) : sf_Kok E ω J 1 2 133 zb_m487 := sf_K_of hS (sf_TS_k (q := 524288) (nx := 133) (l := [(3, 1, zb_m480)]) hX (sf_fc ⟨(rfl : zb_m480.1 = 524288), (zb_k480 hS hX hM)⟩ sf_fn) sf_TS_n) (sf_nL (by decide +kernel)) rfl zb_h131_n zb_h131_n (by decide +kernel) (by decide +kernel) (by decide +kernel) zb_i487 (sf_fc (sf_okb_t zb_h131_n zb_e487_0) sf_fn)
def zb_h135 : en_H := (((((((0, 0), 0), 0), ((0, 0), (0, 0))), ((((((0, (0, 0)), 0), 0), ((((0, 0), (0, (0, 0))), (((0, 0), 0), (0, (0, (0, 0))))), 0)), ((0, 0), 0)), (0, ((((0, 0), ((0, 0), ((0, 0), 0))), (((0, (0, 0)), ((0, 0), (0, 0))), (((0, 0), (0, 0)), ((0, 0), (0, 0))))), (((((0, 0), (0, 0)), ((0, 0), (0, 0))), (((0, 0), (0, 0)), ((0, 0), (0, 0)))), ((((0, 0), (0, 0)), ((0, 0), (0, (0, 0)))), ((((0, 0), (0, 0)), ((0, 0), 0)), (0, (0, (0, 0)))))))))), zb_r0), ((((((0, 0), 0), (0, (0, 0))), (0, 0)), zb_r8), ((((((((0, zb_r35), zb_r5), (zb_r5, zb_r5)), (zb_r5, (zb_r5, zb_r5))), 0), (0, (((0, 0), (0, 0)), ((0, 0), (0, 0))))), 0), (((0, zb_r6), zb_r6), (0, ((0, ((0, 0), (0, 0))), (((0, 0), (0, 0)), ((0, zb_r37), ((0, 0), (0, 0))))))))))
theorem zb_h135_n : sf_nlh zb_h135 136 = true := by decide +kernel
/-- X9_read -/
def zb_m488 : sf_M := (5046406, 16333553616007998046963562849740359991808, zb_h135, zb_h135, [88, 97, 99, 100, 101, 102, 103, 104, 105, 118, 119, 131], [73786976299133173759])
def zb_t488_0 : sf_T := (5046406, 16333553616007998046963562849740359991808, [], zb_h135, [(88, 4), (88, 11), (88, 18)], [(0, 1)])
def zb_t488_1 : sf_T := (5046496, 105228117890547269049835767464000955967696774627840, [], zb_h135, [(1000, 1), (88, 4), (88, 11), (88, 18)], [(0, 0), (1, 0), (0, 0)])
def zb_l488 : List sf_T := [zb_t488_0, zb_t488_1]
noncomputable def zb_b488 : en_T := (sf_tc 458752 (sf_call 133 [(1, 2, zb_m487)]) (sf_tc 3670016 (sf_call 133 [(2, 0, zb_m99)]) (fun _ => none)))
theorem zb_e488_0 : sf_okb (sf_fin 133 zb_h135 [73786976299133173759]) zb_b488 77 2 3 133 240 zb_l488 [1] zb_t488_0 = true := by decide +kernel
theorem zb_e488_1 : sf_okb (sf_fin 133 zb_h135 [73786976299133173759]) zb_b488 77 2 3 133 44 zb_l488 [1] zb_t488_1 = true := by decide +kernel
theorem zb_i488 : (zb_m488.1, zb_m488.2.1, ([] : List Nat), zb_m488.2.2.1, [(88, 4), (88, 11), (88, 18)], [(0, 1)]) ∈ zb_l488 := List.mem_cons_self
theorem zb_k488 (hS : ∀ ρ, en_SA E ρ ω mt_SB) (hX : sf_JX J) (hM : sf_MnB E ω J) : sf_Kok E ω J 2 3 133 zb_m488 := sf_K_of hS (sf_TS_k (q := 458752) (nx := 133) (l := [(1, 2, zb_m487)]) hX (sf_fc ⟨(rfl : zb_m487.1 = 458752), (zb_k487 hS hX hM)⟩ sf_fn) (sf_TS_k (q := 3670016) (nx := 133) (l := [(2, 0, zb_m99)]) hX (sf_fc ⟨(rfl : zb_m99.1 = 3670016), (zb_k99 hS hX hM)⟩ sf_fn) sf_TS_n)) (sf_nL (by decide +kernel)) rfl zb_h135_n zb_h135_n (by decide +kernel) (by decide +kernel) (by decide +kernel) zb_i488 (sf_fc (sf_okb_t zb_h135_n zb_e488_0) (sf_fc (sf_okb_t zb_h135_n zb_e488_1) sf_fn))
end SFP
