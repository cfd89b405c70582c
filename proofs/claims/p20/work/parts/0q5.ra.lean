/-! MEN, TOLD, SLOTS: what both sides hold alike between the law's calls (wip/p7/mkra.py) -/
def q0_S : List Nat := [3, 4, 5, 6, 8, 9, 11, 13, 14, 16, 17, 18, 20, 21, 22, 24, 25, 28, 29, 30, 31, 32, 33, 34, 36, 38, 39, 40, 42, 43, 46, 47, 49, 51, 52, 53, 54, 55, 56, 57, 58, 59, 60, 61, 62, 63, 64, 65, 66, 68, 69, 70, 71, 73, 74, 75, 76, 78, 79, 80, 81, 82, 83, 84, 85, 86, 87, 88, 90, 91, 92, 93, 94, 95, 101, 102, 104, 106, 107, 108, 109, 110, 113, 114, 115, 118, 119, 121, 122, 123, 124, 125, 126, 127, 128, 129, 130, 131, 138, 140, 141, 142, 145, 147, 151, 152, 154, 155, 158, 159, 160, 179, 180, 181, 182, 183, 185, 186, 187, 188, 189, 190, 191, 192, 193, 194, 195, 196, 197, 198, 199, 203, 206, 208, 220, 221, 222, 223, 224, 225, 226, 227, 228, 229, 230, 231, 233, 234, 235, 238, 239, 240, 241, 242, 243, 244, 245, 246, 247, 248, 249, 250, 251, 252, 254, 255, 256, 257, 258, 259, 260, 261, 262, 263, 264, 265, 267, 268, 269, 270, 271, 272, 273, 274, 287, 288, 289, 290]
def q0_F : Nat → Nat → Bool := fun ci k => !(([204, 303, 304, 503, 504, 801, 902, 946, 949, 950, 951, 952, 954, 958, 959, 963, 964, 967] : List Nat).elem (100 * ci + k) && Nat.blt k 100)
def q0_G : Nat → Nat → Bool := fun ci k => ([1, 101, 102, 200, 302, 601, 602, 603, 921, 922, 923, 924, 925, 926, 927, 928, 929, 930, 931, 932, 934, 935, 936, 937, 938, 940, 941, 966, 971] : List Nat).elem (100 * ci + k) && Nat.blt k 100
def q0_K : List Nat := [5, 6, 8, 9, 14, 15, 17, 18, 32, 83, 85, 96, 97, 98, 99, 100, 101, 102, 103, 104, 105, 106, 107, 108, 109, 110, 111, 112, 113, 114, 127, 131]
def q0_T : ka_T := [(3, [(7, [true]), (9, [false, true]), (10, [false, false, true]), (13, [false, false, true]), (14, [false, true]), (15, [false, false, true]), (16, [false, true]), (21, [true]), (23, [false, true]), (24, [false, false, true]), (27, [false, false, true]), (28, [false, true]), (29, [false, false, true]), (30, [false, true])]), (6, [(37, [true]), (38, [false, true]), (41, [false, true])]), (8, [(28, [true]), (29, [false, true]), (32, [false, true]), (45, [true]), (47, [false, true]), (48, [false, false, true]), (51, [false, false, true]), (52, [false, true]), (53, [false, false, true]), (54, [false, true]), (104, [true]), (105, [false, true]), (108, [false, true]), (120, [true]), (121, [false, true]), (124, [false, true]), (136, [true]), (137, [false, true]), (140, [false, true]), (152, [true]), (153, [false, true]), (156, [false, true]), (183, [true]), (184, [false, true]), (187, [false, true])]), (11, [(4, [true]), (5, [false, true]), (8, [false, true]), (29, [true]), (30, [false, true]), (33, [false, true])]), (14, [(35, [true]), (37, [false, true]), (62, [true]), (63, [false, true]), (66, [false, true]), (81, [true]), (82, [false, true]), (85, [false, true])]), (17, [(31, [true]), (32, [false, true]), (35, [false, true])]), (18, [(68, [true]), (69, [false, true]), (72, [false, true]), (78, [true]), (79, [false, true]), (82, [false, true]), (108, [true]), (109, [false, true]), (122, [true]), (123, [false, true]), (137, [true]), (138, [false, true]), (156, [true]), (157, [false, true]), (160, [false, true]), (193, [true]), (194, [false, true]), (197, [false, true])]), (21, [(11, [true]), (12, [false, true]), (15, [false, true]), (32, [true]), (33, [false, true]), (36, [false, true]), (44, [true]), (45, [false, true]), (48, [false, true]), (57, [true]), (58, [false, true]), (61, [false, true])]), (22, [(14, [true]), (15, [false, true]), (18, [false, true]), (27, [true]), (28, [false, true]), (31, [false, true])]), (29, [(57, [true]), (58, [false, true]), (61, [false, true])]), (38, [(21, [true]), (22, [false, true]), (25, [false, true])]), (42, [(11, [true]), (12, [false, true]), (15, [false, true])]), (49, [(21, [true]), (22, [false, true]), (25, [false, true])]), (52, [(6, [true]), (7, [false, true]), (10, [false, true])]), (57, [(9, [true]), (10, [false, true]), (17, [true]), (18, [false, true]), (26, [true]), (27, [false, true]), (36, [true]), (37, [false, true]), (42, [true]), (43, [false, true]), (53, [true]), (54, [false, true]), (59, [true]), (60, [false, true]), (89, [true]), (90, [false, true]), (95, [true]), (96, [false, true])]), (58, [(24, [true]), (25, [false, true]), (28, [false, true]), (37, [true]), (38, [false, true]), (41, [false, true])]), (78, [(13, [true]), (14, [false, true])]), (83, [(48, [true]), (49, [false, true]), (52, [false, true])]), (85, [(99, [true]), (100, [false, true]), (103, [false, true])]), (90, [(12, [true]), (13, [false, true]), (15, [false, false, true]), (16, [false, false, false, true]), (19, [false, false, false, true]), (20, [false, false, true]), (21, [false, false, false, true]), (22, [false, false, true]), (23, [false, true]), (24, [false, false, true]), (25, [false, true])]), (95, [(14, [true]), (15, [false, true]), (18, [false, true]), (36, [true]), (37, [false, true]), (40, [false, true]), (52, [true]), (53, [false, true]), (56, [false, true])]), (101, [(15, [true]), (17, [false, true]), (40, [true]), (42, [false, true]), (54, [true]), (56, [false, true])]), (122, [(8, [true]), (9, [false, true]), (10, [false, false, true]), (11, [false, true])]), (131, [(23, [true]), (24, [false, true]), (25, [false, false, true]), (26, [false, true]), (27, [false, false, true]), (28, [false, true])]), (138, [(17, [true]), (18, [false, true]), (38, [true]), (39, [false, true]), (43, [true]), (44, [false, true])]), (141, [(39, [true]), (40, [false, true]), (50, [true]), (51, [false, true])]), (152, [(19, [true]), (20, [false, true])]), (155, [(13, [true]), (14, [false, true])]), (159, [(14, [true]), (15, [false, true])]), (194, [(134, [true]), (135, [false, true])]), (198, [(5, [true])]), (206, [(8, [true]), (23, [true]), (24, [false, true]), (40, [true]), (41, [false, true]), (42, [false, false, true]), (43, [false, true]), (59, [true]), (60, [false, true]), (61, [false, false, true]), (62, [false, true]), (78, [true]), (79, [false, true]), (80, [false, false, true]), (81, [false, true])]), (208, [(19, [true]), (20, [false, true]), (21, [false, false, true]), (22, [false, true]), (23, [false, false, true]), (24, [false, true])]), (246, [(16, [true])]), (247, [(16, [true])]), (261, [(24, [true])])]
theorem q0_k : kp_chk q0_S q0_F mt_P = true := by decide +kernel
theorem q0_a : ka_chk q0_S q0_G q0_T = true := by decide +kernel
theorem q0_h : ka_hk q0_G q0_K = true := by decide +kernel
def tc_S : List Nat := [146, 148, 149, 203, 232, 266]
def tc_F : Nat → Nat → Bool := fun ci k => !(([203, 204] : List Nat).elem (100 * ci + k) && Nat.blt k 100)
def tc_G : Nat → Nat → Bool := fun ci k => ([1, 101, 102, 302, 601, 602, 603, 921, 922, 923, 924, 925, 926, 927, 928, 929, 930, 931, 932, 934, 935, 936, 937, 938, 940, 941, 966, 971] : List Nat).elem (100 * ci + k) && Nat.blt k 100
def tc_K : List Nat := [5, 6, 8, 9, 14, 15, 17, 18, 32, 83, 96, 97, 98, 99, 100, 101, 102, 103, 104, 105, 106, 107, 108, 109, 110, 111, 112, 113, 114, 127, 131]
def tc_T : ka_T := []
theorem tc_k : kp_chk tc_S tc_F mt_P = true := by decide +kernel
theorem tc_a : ka_chk tc_S tc_G tc_T = true := by decide +kernel
theorem tc_h : ka_hk tc_G tc_K = true := by decide +kernel
def tm_S : List Nat := [35, 43, 52, 96]
def tm_F : Nat → Nat → Bool := fun ci k => !(([965, 967] : List Nat).elem (100 * ci + k) && Nat.blt k 100)
def tm_G : Nat → Nat → Bool := fun ci k => ([1, 101, 102, 200, 302, 601, 602, 603, 921, 922, 923, 924, 925, 926, 927, 928, 929, 930, 931, 932, 934, 935, 936, 937, 938, 940, 941, 971] : List Nat).elem (100 * ci + k) && Nat.blt k 100
def tm_K : List Nat := [5, 6, 8, 9, 14, 15, 17, 18, 32, 83, 85, 96, 97, 98, 99, 100, 101, 102, 103, 104, 105, 106, 107, 108, 109, 110, 111, 112, 113, 114, 131]
def tm_T : ka_T := [(52, [(6, [true]), (7, [false, true]), (10, [false, true])])]
theorem tm_k : kp_chk tm_S tm_F mt_P = true := by decide +kernel
theorem tm_a : ka_chk tm_S tm_G tm_T = true := by decide +kernel
theorem tm_h : ka_hk tm_G tm_K = true := by decide +kernel
def hc_S : List Nat := [157, 236]
def hc_F : Nat → Nat → Bool := fun ci k => !(([] : List Nat).elem (100 * ci + k) && Nat.blt k 100)
def hc_G : Nat → Nat → Bool := fun ci k => ([1, 101, 102, 200, 601, 602, 603, 921, 922, 923, 924, 925, 926, 927, 928, 929, 930, 931, 932, 934, 935, 936, 937, 938, 940, 941, 966, 971] : List Nat).elem (100 * ci + k) && Nat.blt k 100
def hc_K : List Nat := [5, 6, 8, 9, 14, 15, 17, 18, 32, 85, 96, 97, 98, 99, 100, 101, 102, 103, 104, 105, 106, 107, 108, 109, 110, 111, 112, 113, 114, 127, 131]
def hc_T : ka_T := []
theorem hc_k : kp_chk hc_S hc_F mt_P = true := by decide +kernel
theorem hc_a : ka_chk hc_S hc_G hc_T = true := by decide +kernel
theorem hc_h : ka_hk hc_G hc_K = true := by decide +kernel
def hm_S : List Nat := [41, 43]
def hm_F : Nat → Nat → Bool := fun ci k => !(([] : List Nat).elem (100 * ci + k) && Nat.blt k 100)
def hm_G : Nat → Nat → Bool := fun ci k => ([1, 101, 102, 200, 302, 601, 602, 603, 921, 922, 923, 924, 925, 926, 927, 928, 929, 930, 931, 932, 934, 935, 936, 937, 938, 940, 941, 966] : List Nat).elem (100 * ci + k) && Nat.blt k 100
def hm_K : List Nat := [5, 6, 8, 9, 14, 15, 17, 18, 32, 83, 85, 96, 97, 98, 99, 100, 101, 102, 103, 104, 105, 106, 107, 108, 109, 110, 111, 112, 113, 114, 127]
def hm_T : ka_T := []
theorem hm_k : kp_chk hm_S hm_F mt_P = true := by decide +kernel
theorem hm_a : ka_chk hm_S hm_G hm_T = true := by decide +kernel
theorem hm_h : ka_hk hm_G hm_K = true := by decide +kernel
section QJ
variable {E : mm_E} {x y : Int32} {h h' : mm_H} {g : mm_F} {t : List mm_F} {FIN : mm_C → Prop}
/-- a call: by its contract, and what it cannot write -/
theorem wq_j {S K : List Nat} {F G : Nat → Nat → Bool} {T : ka_T} (h1 : kp_chk S F mt_P = true) (h2 : ka_chk S G T = true) (h3 : ka_hk G K = true) {m nL np kd ci rk mc ms : Nat} {cs : List (List mm_I)} {lv : mm_V} {A : mm_H → Int32 → Prop} (hK : mt_P[m]? = some (cs, nL, np, kd, ci, rk, mc, ms)) (hc : m ∈ S) (hl : ka_lv E K lv) (hL : wl_W E wl_H x y h) (Tt : ∀ (FIN' : mm_C → Prop), (∀ h' r, A h' r → bh_G E FIN' (mm_back (some (.int r)) (bp_mf :: t) h')) → bh_G E FIN' ((m, 0, lv, [], 0, 0) :: bp_mf :: t, h, none)) (kk : ∀ h' r, A h' r → kp_F F h h' → ka_F K h h' → bh_G E FIN (mm_back (some (.int r)) (g :: t) h')) : bh_G E FIN ((m, 0, lv, [], 0, 0) :: g :: t, h, none) := by
  refine bp_join (A := fun vo h' => ∃ r, vo = some (.int r) ∧ A h' r ∧ kp_F F h h') (B := fun _ h' => ka_F K h h') (fun FIN' k1 => ?_) (fun PO NN k1 => ka_call0 h2 hc hK (ka_hW h3 hL) hl (fun vo h' f _ _ => k1 _ _ f)) (fun vo h' p q => ?_)
  · refine bp_join (g := bp_mf) (A := fun vo h' => ∃ r, vo = some (.int r) ∧ A h' r) (B := fun _ h' => kp_F F h h') (fun FIN9 k2 => Tt FIN9 (fun h' r a => k2 _ _ ⟨r, rfl, a⟩)) (fun PO NN k2 => kp_call0 h1 hc hK (fun vo h' f _ _ => k2 _ _ f)) (fun vo h' p q => ?_)
    obtain ⟨r, e, a⟩ := p
    exact k1 _ _ ⟨r, e, a, q⟩
  · obtain ⟨r, e, a, b⟩ := p
    subst e
    exact kk h' r a b q
/-- MEN, TOLD, SLOTS alike -/
def ra_R (h : mm_H) : Prop := (wt_s h 204).toInt = (br_A h 97 (wt_s h 8818).toInt.toNat).toInt ∧ wt_s h 8403 = wt_s h 8865 ∧ (∀ i : Nat, (i : Int) < (wt_s h 8403).toInt → br_A h 85 i = br_A h 127 i) ∧ ∀ i, i < 3 → br_A h 83 i = br_A h 131 i
theorem kp_ws {F : Nat → Nat → Bool} {c ci k : Nat} (hk : k < 100) (hO : ∃ fs : List Value, h[c]? = some (.inr (ci, fs))) (hF : kp_F F h h') (hf : F ci k = true) : wt_s h' (100 * c + k) = wt_s h (100 * c + k) := by
  obtain ⟨fs, e⟩ := hO
  obtain ⟨fs', e', -, k'⟩ := hF.2 _ _ _ e
  exact bw_ws hk e e' (k' k hf)
theorem ka_wA {K : List Nat} {c : Nat} (hF : ka_F K h h') (hc : c ∈ K) : br_A h' c = br_A h c := wt_eA (hF c hc)
theorem wq_o {c ci : Nat} (hc : c < 136) (hk : en_kind (en_get wl_H c) = ci + 6) (hL : wl_W E wl_H x y h) : ∃ fs : List Value, h[c]? = some (.inr (ci, fs)) := by
  obtain ⟨fs, f1, -⟩ := wt_o hc hk (hL.2.2.2.2 (fun _ => 0))
  exact ⟨fs, f1⟩
theorem wq_o2 (hL : wl_W E wl_H x y h) : ∃ fs : List Value, h[2]? = some (.inr (6, fs)) := wq_o (by decide) (by decide +kernel) hL
theorem wq_o84 (hL : wl_W E wl_H x y h) : ∃ fs : List Value, h[84]? = some (.inr (2, fs)) := wq_o (by decide) (by decide +kernel) hL
theorem wq_o88 (hL : wl_W E wl_H x y h) : ∃ fs : List Value, h[88]? = some (.inr (9, fs)) := wq_o (by decide) (by decide +kernel) hL
theorem ra_q0 (hL : wl_W E wl_H x y h) (hQ : ra_R h) (hF : kp_F q0_F h h') (hA : ka_F q0_K h h') : ra_R h' := by
  obtain ⟨r1, r2, r3, r4⟩ := hQ
  have a1 : wt_s h' 204 = wt_s h 204 := kp_ws (c := 2) (k := 4) (by decide) (wq_o2 hL) hF rfl
  have a2 : wt_s h' 8403 = wt_s h 8403 := kp_ws (c := 84) (k := 3) (by decide) (wq_o84 hL) hF rfl
  have a3 : wt_s h' 8818 = wt_s h 8818 := kp_ws (c := 88) (k := 18) (by decide) (wq_o88 hL) hF rfl
  have a4 : wt_s h' 8865 = wt_s h 8865 := kp_ws (c := 88) (k := 65) (by decide) (wq_o88 hL) hF rfl
  unfold ra_R
  rw [a1, a2, a3, a4, ka_wA hA (c := 97) (by decide), ka_wA hA (c := 85) (by decide), ka_wA hA (c := 127) (by decide), ka_wA hA (c := 83) (by decide), ka_wA hA (c := 131) (by decide)]
  exact ⟨r1, r2, r3, r4⟩
theorem wt_rng {c ci k lo hi : Nat} (hc : c < 136) (hk : en_kind (en_get wl_H c) = ci + 6) (hj : k < en_len (en_get wl_H c)) (hk1 : k < 100) (he : en_elt (en_get wl_H c) k = 83010348333840465920 + hi) (h2 : hi < 1000) (hL : wl_W E wl_H x y h) : 0 ≤ (wt_s h (100 * c + k)).toInt ∧ (wt_s h (100 * c + k)).toInt ≤ hi := by
  obtain ⟨fs, f1, f2, f3⟩ := wt_o hc hk (hL.2.2.2.2 (fun _ => 0))
  obtain ⟨v, e1⟩ : ∃ v, fs[k]? = some v := ⟨_, List.getElem?_eq_getElem (by rw [f2]; exact hj)⟩
  have g := f3 k _ e1
  rw [he] at g
  obtain ⟨r, e, g1, g2⟩ := (en_v_rng (by omega) (by omega)).mp g
  subst e
  have hz := en_z_int r
  rw [wt_s_eq hk1 f1 e1]
  omega
theorem ra_men (hL : wl_W E wl_H x y h) : 0 ≤ (wt_s h 204).toInt ∧ (wt_s h 204).toInt ≤ 6 := wt_rng (c := 2) (ci := 6) (k := 4) (lo := 0) (hi := 6) (by decide) (by decide +kernel) (by decide +kernel) (by decide) (by decide +kernel) (by decide) hL
theorem ra_tld (hL : wl_W E wl_H x y h) : 0 ≤ (wt_s h 8403).toInt ∧ (wt_s h 8403).toInt ≤ 10 := wt_rng (c := 84) (ci := 2) (k := 3) (lo := 0) (hi := 10) (by decide) (by decide +kernel) (by decide +kernel) (by decide) (by decide +kernel) (by decide) hL
theorem ra_tlm (hL : wl_W E wl_H x y h) : 0 ≤ (wt_s h 8865).toInt ∧ (wt_s h 8865).toInt ≤ 10 := wt_rng (c := 88) (ci := 9) (k := 65) (lo := 0) (hi := 10) (by decide) (by decide +kernel) (by decide +kernel) (by decide) (by decide +kernel) (by decide) hL
theorem wt_cw : wt_ck cw_T := ⟨by decide +kernel, by decide +kernel, by decide +kernel, by decide +kernel, by decide +kernel, by decide +kernel⟩
theorem wt_mw : wt_ck mw_T := ⟨by decide +kernel, by decide +kernel, by decide +kernel, by decide +kernel, by decide +kernel, by decide +kernel⟩

theorem ra_mm (hL : wl_W E wl_H x y h) : 0 ≤ (br_A h 97 (wt_s h 8818).toInt.toNat).toInt ∧ (br_A h 97 (wt_s h 8818).toInt.toNat).toInt ≤ 6 := by
  obtain ⟨f, g, g2⟩ := br_a (k := 97) (t := 0) (n := 2) (by decide) (by decide +kernel) (by decide) (by decide +kernel) (hL.2.2.2.2 (fun _ => 0))
  have b := wt_18 hL
  rw [br_A_eq g]
  have g3 := g2 (wt_s h 8818).toInt.toNat (by omega)
  rw [(by decide +kernel : ∀ j, j < 2 → en_elt (en_get wl_H 97) j = 83010348333840465926) _ (by omega)] at g3
  obtain ⟨r, e, q1, q2⟩ := (en_v_rng (by decide) (by decide)).mp g3
  injection e with e
  rw [e]
  have hz := en_z_int r
  omega
theorem wq_x {S K : List Nat} {F G : Nat → Nat → Bool} {T : ka_T} (h1 : kp_chk S F mt_P = true) (h2 : ka_chk S G T = true) (h3 : ka_hk G K = true) {m nL np kd ci rk mc ms : Nat} {cs : List (List mm_I)} {lv : mm_V} {A B : mm_H → Int32 → Prop} (hK : mt_P[m]? = some (cs, nL, np, kd, ci, rk, mc, ms)) (hc : m ∈ S) (hl : ka_lv E K lv) (hL : wl_W E wl_H x y h) (Tt : ∀ (FIN' : mm_C → Prop), (∀ h' r, A h' r → bh_G E FIN' (mm_back (some (.int r)) (bp_mf :: t) h')) → bh_G E FIN' ((m, 0, lv, [], 0, 0) :: bp_mf :: t, h, none)) (Pp : ∀ (PO : mm_C → Prop) (NN : Nat), (∀ h' r, B h' r → bp_G E PO NN (mm_back (some (.int r)) (bp_mf :: t) h')) → bp_G E PO NN ((m, 0, lv, [], 0, 0) :: bp_mf :: t, h, none)) (kk : ∀ h' r, A h' r → kp_F F h h' → ka_F K h h' → B h' r → bh_G E FIN (mm_back (some (.int r)) (g :: t) h')) : bh_G E FIN ((m, 0, lv, [], 0, 0) :: g :: t, h, none) := by
  refine bp_join (A := fun vo h' => ∃ r, vo = some (.int r) ∧ A h' r ∧ kp_F F h h' ∧ ka_F K h h') (B := fun vo h' => ∃ r, vo = some (.int r) ∧ B h' r) (fun FIN' k1 => wq_j (g := bp_mf) h1 h2 h3 hK hc hl hL Tt (fun h' r a f k => k1 _ _ ⟨r, rfl, a, f, k⟩)) (fun PO NN k1 => Pp PO NN (fun h' r b => k1 _ _ ⟨r, rfl, b⟩)) (fun vo h' p q => ?_)
  obtain ⟨r, e, a, f, k⟩ := p
  obtain ⟨r2, e2, b⟩ := q
  subst e
  cases e2
  exact kk h' r a f k b

theorem wq_c_tell {a : Int32} (hS : ∀ ρ, en_SA E ρ (wl_o x y) mt_SB) (h8 : ∃ q, E.2[8]? = some q) (hL : wl_W E wl_H x y h) (hd : (g :: t).length ≤ 900) (kk : ∀ (h' : mm_H) (r : Int32), wl_W E wl_H x y h' → wt_K h h' → kp_F tc_F h h' → ka_F tc_K h h' → kd_Ptl (wt_s h 204) (wt_s h 8403) (br_A h 85) a r (wt_s h' 8403) (br_A h' 85) → bh_G E FIN (mm_back (some (.int r)) (g :: t) h')) : bh_G E FIN ((266, 0, [(0, .ref (E.1 + 0)), (1, .int a)], [], 0, 0) :: g :: t, h, none) := by
  refine wq_x (A := fun h' r => wl_W E wl_H x y h' ∧ wt_K h h') (B := fun h' r => kd_Ptl (wt_s h 204) (wt_s h 8403) (br_A h 85) a r (wt_s h' 8403) (br_A h' 85)) tc_k tc_a tc_h rfl (by decide) (ka_lc (ka_no (by decide)) (ka_lc ka_ti ka_ln)) hL (fun F9 k1 => wk_c_tell (gs := bp_mf :: t) hS h8 hL hd (fun h' r a b => k1 _ _ ⟨a, b⟩)) (fun PO NN k1 => kd_266 (wt_P cw_W wt_cw hL) (ra_tld hL) (fun h' s' A' r hP' b => k1 _ _ (by
    rw [show wt_s h' 8403 = s' 8403 from bm_ws (c := 84) (k := 3) hP' cw_o84 cw_i84_3, show br_A h' 85 = A' 85 from bm_wA hP' cw_a85]
    exact b))) (fun h' r a f k b => kk h' r a.1 a.2 f k b)

theorem wq_m_tell {a : Int32} (hS : ∀ ρ, en_SA E ρ (wl_o x y) mt_SB) (hL : wl_W E wl_H x y h) (hd : (g :: t).length ≤ 900) (kk : ∀ (h' : mm_H) (r : Int32), wl_W E wl_H x y h' → wt_K h h' → kp_F tm_F h h' → ka_F tm_K h h' → kd_Ptl (br_A h 97 (wt_s h 8818).toInt.toNat) (wt_s h 8865) (br_A h 127) a r (wt_s h' 8865) (br_A h' 127) → bh_G E FIN (mm_back (some (.int r)) (g :: t) h')) : bh_G E FIN ((96, 0, [(0, .ref (E.1 + 88)), (1, .int a)], [], 0, 0) :: g :: t, h, none) := by
  refine wq_x (A := fun h' r => wl_W E wl_H x y h' ∧ wt_K h h') (B := fun h' r => kd_Ptl (br_A h 97 (wt_s h 8818).toInt.toNat) (wt_s h 8865) (br_A h 127) a r (wt_s h' 8865) (br_A h' 127)) tm_k tm_a tm_h rfl (by decide) (ka_lc (ka_no (by decide)) (ka_lc ka_ti ka_ln)) hL (fun F9 k1 => wk_m_tell (gs := bp_mf :: t) hS hL hd (fun h' r a b => k1 _ _ ⟨a, b⟩)) (fun PO NN k1 => kd_96 (wt_P mw_W wt_mw hL) (ra_mm hL) (ra_tlm hL) (fun h' s' A' r hP' b => k1 _ _ (by
    rw [show wt_s h' 8865 = s' 8865 from bm_ws (c := 88) (k := 65) hP' mw_o88 mw_i88_65, show br_A h' 127 = A' 127 from bm_wA hP' mw_a127]
    exact b))) (fun h' r a f k b => kk h' r a.1 a.2 f k b)

theorem wq_c_forget (hS : ∀ ρ, en_SA E ρ (wl_o x y) mt_SB) (h8 : ∃ q, E.2[8]? = some q) (hL : wl_W E wl_H x y h) (hd : (g :: t).length ≤ 900) (kk : ∀ (h' : mm_H) (r : Int32), wl_W E wl_H x y h' → wt_K h h' → kp_F tc_F h h' → ka_F tc_K h h' → (wt_s h' 8403).toInt = 0 → bh_G E FIN (mm_back (some (.int r)) (g :: t) h')) : bh_G E FIN ((232, 0, [(0, .ref (E.1 + 0))], [], 0, 0) :: g :: t, h, none) := by
  refine wq_x (A := fun h' r => wl_W E wl_H x y h' ∧ wt_K h h') (B := fun h' r => (wt_s h' 8403).toInt = 0) tc_k tc_a tc_h rfl (by decide) (ka_lc (ka_no (by decide)) ka_ln) hL (fun F9 k1 => wk_c_forget (gs := bp_mf :: t) hS h8 hL hd (fun h' r a b => k1 _ _ ⟨a, b⟩)) (fun PO NN k1 => kd_232 (wt_P cw_W wt_cw hL) (fun h' s' r hP' b => k1 _ _ (by
    rw [show wt_s h' 8403 = s' 8403 from bm_ws (c := 84) (k := 3) hP' cw_o84 cw_i84_3]
    exact b))) (fun h' r a f k b => kk h' r a.1 a.2 f k b)

theorem wq_m_forget (hS : ∀ ρ, en_SA E ρ (wl_o x y) mt_SB) (hL : wl_W E wl_H x y h) (hd : (g :: t).length ≤ 900) (kk : ∀ (h' : mm_H) (r : Int32), wl_W E wl_H x y h' → wt_K h h' → kp_F tm_F h h' → ka_F tm_K h h' → (wt_s h' 8865).toInt = 0 → bh_G E FIN (mm_back (some (.int r)) (g :: t) h')) : bh_G E FIN ((35, 0, [(0, .ref (E.1 + 88))], [], 0, 0) :: g :: t, h, none) := by
  refine wq_x (A := fun h' r => wl_W E wl_H x y h' ∧ wt_K h h') (B := fun h' r => (wt_s h' 8865).toInt = 0) tm_k tm_a tm_h rfl (by decide) (ka_lc (ka_no (by decide)) ka_ln) hL (fun F9 k1 => wk_m_forget (gs := bp_mf :: t) hS hL hd (fun h' r a b => k1 _ _ ⟨a, b⟩)) (fun PO NN k1 => kd_35 (wt_P mw_W wt_mw hL) (fun h' s' r hP' b => k1 _ _ (by
    rw [show wt_s h' 8865 = s' 8865 from bm_ws (c := 88) (k := 65) hP' mw_o88 mw_i88_65]
    exact b))) (fun h' r a f k b => kk h' r a.1 a.2 f k b)

theorem wq_c_hold {p : Int32} (hS : ∀ ρ, en_SA E ρ (wl_o x y) mt_SB) (h8 : ∃ q, E.2[8]? = some q) (hL : wl_W E wl_H x y h) (hd : (g :: t).length ≤ 900) (kk : ∀ (h' : mm_H) (r : Int32), wl_W E wl_H x y h' → wt_K h h' → kp_F hc_F h h' → ka_F hc_K h h' → kd_Phd (br_A h 83) (br_A h' 83) p → bh_G E FIN (mm_back (some (.int r)) (g :: t) h')) : bh_G E FIN ((236, 0, [(0, .ref (E.1 + 0)), (1, .int p)], [], 0, 0) :: g :: t, h, none) := by
  refine wq_x (A := fun h' r => wl_W E wl_H x y h' ∧ wt_K h h') (B := fun h' r => kd_Phd (br_A h 83) (br_A h' 83) p) hc_k hc_a hc_h rfl (by decide) (ka_lc (ka_no (by decide)) (ka_lc ka_ti ka_ln)) hL (fun F9 k1 => wk_c_hold (gs := bp_mf :: t) hS h8 hL hd (fun h' r a b => k1 _ _ ⟨a, b⟩)) (fun PO NN k1 => kd_236 (wt_P cw_W wt_cw hL) (fun h' r b => k1 _ _ b)) (fun h' r a f k b => kk h' r a.1 a.2 f k b)

theorem wq_m_hold {p : Int32} (hS : ∀ ρ, en_SA E ρ (wl_o x y) mt_SB) (hL : wl_W E wl_H x y h) (hd : (g :: t).length ≤ 900) (kk : ∀ (h' : mm_H) (r : Int32), wl_W E wl_H x y h' → wt_K h h' → kp_F hm_F h h' → ka_F hm_K h h' → kd_Phd (br_A h 131) (br_A h' 131) p → bh_G E FIN (mm_back (some (.int r)) (g :: t) h')) : bh_G E FIN ((41, 0, [(0, .ref (E.1 + 88)), (1, .int p)], [], 0, 0) :: g :: t, h, none) := by
  refine wq_x (A := fun h' r => wl_W E wl_H x y h' ∧ wt_K h h') (B := fun h' r => kd_Phd (br_A h 131) (br_A h' 131) p) hm_k hm_a hm_h rfl (by decide) (ka_lc (ka_no (by decide)) (ka_lc ka_ti ka_ln)) hL (fun F9 k1 => wk_m_hold (gs := bp_mf :: t) hS hL hd (fun h' r a b => k1 _ _ ⟨a, b⟩)) (fun PO NN k1 => kd_41 (wt_P mw_W wt_mw hL) (fun h' r b => k1 _ _ b)) (fun h' r a f k b => kk h' r a.1 a.2 f k b)

theorem wq_c_restore {p : Int32} (hS : ∀ ρ, en_SA E ρ (wl_o x y) mt_SB) (h8 : ∃ q, E.2[8]? = some q) (hL : wl_W E wl_H x y h) (hd : (g :: t).length ≤ 900) (kk : ∀ (h' : mm_H) (r : Int32), wl_W E wl_H x y h' → wt_K h h' → kp_F q0_F h h' → ka_F q0_K h h' → kd_Prs (br_A h 83) p r → bh_G E FIN (mm_back (some (.int r)) (g :: t) h')) : bh_G E FIN ((254, 0, [(0, .ref (E.1 + 0)), (1, .int p)], [], 0, 0) :: g :: t, h, none) := by
  refine wq_x (A := fun h' r => wl_W E wl_H x y h' ∧ wt_K h h') (B := fun h' r => kd_Prs (br_A h 83) p r) q0_k q0_a q0_h rfl (by decide) (ka_lc (ka_no (by decide)) (ka_lc ka_ti ka_ln)) hL (fun F9 k1 => wk_c_restore (gs := bp_mf :: t) hS h8 hL hd (fun h' r a b => k1 _ _ ⟨a, b⟩)) (fun PO NN k1 => kd_254 (wt_P cw_W wt_cw hL) (fun h' r b => k1 _ _ b)) (fun h' r a f k b => kk h' r a.1 a.2 f k b)

theorem wq_m_restore {p : Int32} (hS : ∀ ρ, en_SA E ρ (wl_o x y) mt_SB) (hL : wl_W E wl_H x y h) (hd : (g :: t).length ≤ 900) (kk : ∀ (h' : mm_H) (r : Int32), wl_W E wl_H x y h' → wt_K h h' → kp_F q0_F h h' → ka_F q0_K h h' → kd_Prs (br_A h 131) p r → bh_G E FIN (mm_back (some (.int r)) (g :: t) h')) : bh_G E FIN ((78, 0, [(0, .ref (E.1 + 88)), (1, .int p)], [], 0, 0) :: g :: t, h, none) := by
  refine wq_x (A := fun h' r => wl_W E wl_H x y h' ∧ wt_K h h') (B := fun h' r => kd_Prs (br_A h 131) p r) q0_k q0_a q0_h rfl (by decide) (ka_lc (ka_no (by decide)) (ka_lc ka_ti ka_ln)) hL (fun F9 k1 => wk_m_restore (gs := bp_mf :: t) hS hL hd (fun h' r a b => k1 _ _ ⟨a, b⟩)) (fun PO NN k1 => kd_78 (wt_P mw_W wt_mw hL) (fun h' r b => k1 _ _ b)) (fun h' r a f k b => kk h' r a.1 a.2 f k b)

theorem wq_c_likely {a p b : Int32} (hb : b.toInt = 0 ∨ b.toInt = 1) (hS : ∀ ρ, en_SA E ρ (wl_o x y) mt_SB) (h8 : ∃ q, E.2[8]? = some q) (hL : wl_W E wl_H x y h) (hd : (g :: t).length ≤ 900) (kk : ∀ (h' : mm_H) (r : Int32), wl_W E wl_H x y h' → wt_K h h' → kp_F q0_F h h' → ka_F q0_K h h' → kd_Plk (wt_s h 204) a p b r → bh_G E FIN (mm_back (some (.int r)) (g :: t) h')) : bh_G E FIN ((242, 0, [(0, .ref (E.1 + 0)), (1, .int a), (2, .int p), (3, .int b)], [], 0, 0) :: g :: t, h, none) := by
  refine wq_x (A := fun h' r => wl_W E wl_H x y h' ∧ wt_K h h') (B := fun h' r => kd_Plk (wt_s h 204) a p b r) q0_k q0_a q0_h rfl (by decide) (ka_lc (ka_no (by decide)) (ka_lc ka_ti (ka_lc ka_ti (ka_lc ka_ti ka_ln)))) hL (fun F9 k1 => wk_c_likely (gs := bp_mf :: t) hb hS h8 hL hd (fun h' r a b => k1 _ _ ⟨a, b⟩)) (fun PO NN k1 => kd_242 (wt_P cw_W wt_cw hL) (ra_men hL) (fun r q => k1 _ _ q)) (fun h' r a f k b => kk h' r a.1 a.2 f k b)

theorem wq_m_likely {a p b : Int32} (hb : b.toInt = 0 ∨ b.toInt = 1) (hS : ∀ ρ, en_SA E ρ (wl_o x y) mt_SB) (hL : wl_W E wl_H x y h) (hd : (g :: t).length ≤ 900) (kk : ∀ (h' : mm_H) (r : Int32), wl_W E wl_H x y h' → wt_K h h' → kp_F q0_F h h' → ka_F q0_K h h' → kd_Plk (br_A h 97 (wt_s h 8818).toInt.toNat) a p b r → bh_G E FIN (mm_back (some (.int r)) (g :: t) h')) : bh_G E FIN ((58, 0, [(0, .ref (E.1 + 88)), (1, .int a), (2, .int p), (3, .int b)], [], 0, 0) :: g :: t, h, none) := by
  refine wq_x (A := fun h' r => wl_W E wl_H x y h' ∧ wt_K h h') (B := fun h' r => kd_Plk (br_A h 97 (wt_s h 8818).toInt.toNat) a p b r) q0_k q0_a q0_h rfl (by decide) (ka_lc (ka_no (by decide)) (ka_lc ka_ti (ka_lc ka_ti (ka_lc ka_ti ka_ln)))) hL (fun F9 k1 => wk_m_likely (gs := bp_mf :: t) hb hS hL hd (fun h' r a b => k1 _ _ ⟨a, b⟩)) (fun PO NN k1 => kd_58 (wt_P mw_W wt_mw hL) (ra_mm hL) (fun r q => k1 _ _ q)) (fun h' r a f k b => kk h' r a.1 a.2 f k b)

theorem wq_c_surely {p : Int32} (hS : ∀ ρ, en_SA E ρ (wl_o x y) mt_SB) (h8 : ∃ q, E.2[8]? = some q) (hL : wl_W E wl_H x y h) (hd : (g :: t).length ≤ 900) (kk : ∀ (h' : mm_H) (r : Int32), wl_W E wl_H x y h' → wt_K h h' → kp_F q0_F h h' → ka_F q0_K h h' → kd_Psu (wt_s h 204) p r → bh_G E FIN (mm_back (some (.int r)) (g :: t) h')) : bh_G E FIN ((264, 0, [(0, .ref (E.1 + 0)), (1, .int p)], [], 0, 0) :: g :: t, h, none) := by
  refine wq_x (A := fun h' r => wl_W E wl_H x y h' ∧ wt_K h h') (B := fun h' r => kd_Psu (wt_s h 204) p r) q0_k q0_a q0_h rfl (by decide) (ka_lc (ka_no (by decide)) (ka_lc ka_ti ka_ln)) hL (fun F9 k1 => wk_c_surely (gs := bp_mf :: t) hS h8 hL hd (fun h' r a b => k1 _ _ ⟨a, b⟩)) (fun PO NN k1 => kd_264 (wt_P cw_W wt_cw hL) (ra_men hL) (fun r q => k1 _ _ q)) (fun h' r a f k b => kk h' r a.1 a.2 f k b)

theorem wq_m_surely {p : Int32} (hS : ∀ ρ, en_SA E ρ (wl_o x y) mt_SB) (hL : wl_W E wl_H x y h) (hd : (g :: t).length ≤ 900) (kk : ∀ (h' : mm_H) (r : Int32), wl_W E wl_H x y h' → wt_K h h' → kp_F q0_F h h' → ka_F q0_K h h' → kd_Psu (br_A h 97 (wt_s h 8818).toInt.toNat) p r → bh_G E FIN (mm_back (some (.int r)) (g :: t) h')) : bh_G E FIN ((95, 0, [(0, .ref (E.1 + 88)), (1, .int p)], [], 0, 0) :: g :: t, h, none) := by
  refine wq_x (A := fun h' r => wl_W E wl_H x y h' ∧ wt_K h h') (B := fun h' r => kd_Psu (br_A h 97 (wt_s h 8818).toInt.toNat) p r) q0_k q0_a q0_h rfl (by decide) (ka_lc (ka_no (by decide)) (ka_lc ka_ti ka_ln)) hL (fun F9 k1 => wk_m_surely (gs := bp_mf :: t) hS hL hd (fun h' r a b => k1 _ _ ⟨a, b⟩)) (fun PO NN k1 => kd_95 (wt_P mw_W wt_mw hL) (ra_mm hL) (fun r q => k1 _ _ q)) (fun h' r a f k b => kk h' r a.1 a.2 f k b)

theorem wq_c_cheats {a k b : Int32} (hb : b.toInt = 0 ∨ b.toInt = 1) (hS : ∀ ρ, en_SA E ρ (wl_o x y) mt_SB) (h8 : ∃ q, E.2[8]? = some q) (hL : wl_W E wl_H x y h) (hd : (g :: t).length ≤ 900) (kk : ∀ (h' : mm_H) (r : Int32), wl_W E wl_H x y h' → wt_K h h' → kp_F q0_F h h' → ka_F q0_K h h' → kd_Pch (wt_s h 204) (wt_s h 8403) (br_A h 85) a k b r → bh_G E FIN (mm_back (some (.int r)) (g :: t) h')) : bh_G E FIN ((225, 0, [(0, .ref (E.1 + 0)), (1, .int a), (2, .int k), (3, .int b)], [], 0, 0) :: g :: t, h, none) := by
  refine wq_x (A := fun h' r => wl_W E wl_H x y h' ∧ wt_K h h') (B := fun h' r => kd_Pch (wt_s h 204) (wt_s h 8403) (br_A h 85) a k b r) q0_k q0_a q0_h rfl (by decide) (ka_lc (ka_no (by decide)) (ka_lc ka_ti (ka_lc ka_ti (ka_lc ka_ti ka_ln)))) hL (fun F9 k1 => wk_c_cheats (gs := bp_mf :: t) hb hS h8 hL hd (fun h' r a b => k1 _ _ ⟨a, b⟩)) (fun PO NN k1 => kd_225 (wt_P cw_W wt_cw hL) (ra_men hL) (ra_tld hL) (fun r q => k1 _ _ q)) (fun h' r a f k b => kk h' r a.1 a.2 f k b)

theorem wq_m_cheats {a k b : Int32} (hb : b.toInt = 0 ∨ b.toInt = 1) (hS : ∀ ρ, en_SA E ρ (wl_o x y) mt_SB) (hL : wl_W E wl_H x y h) (hd : (g :: t).length ≤ 900) (kk : ∀ (h' : mm_H) (r : Int32), wl_W E wl_H x y h' → wt_K h h' → kp_F q0_F h h' → ka_F q0_K h h' → kd_Pch (br_A h 97 (wt_s h 8818).toInt.toNat) (wt_s h 8865) (br_A h 127) a k b r → bh_G E FIN (mm_back (some (.int r)) (g :: t) h')) : bh_G E FIN ((14, 0, [(0, .ref (E.1 + 88)), (1, .int a), (2, .int k), (3, .int b)], [], 0, 0) :: g :: t, h, none) := by
  refine wq_x (A := fun h' r => wl_W E wl_H x y h' ∧ wt_K h h') (B := fun h' r => kd_Pch (br_A h 97 (wt_s h 8818).toInt.toNat) (wt_s h 8865) (br_A h 127) a k b r) q0_k q0_a q0_h rfl (by decide) (ka_lc (ka_no (by decide)) (ka_lc ka_ti (ka_lc ka_ti (ka_lc ka_ti ka_ln)))) hL (fun F9 k1 => wk_m_cheats (gs := bp_mf :: t) hb hS hL hd (fun h' r a b => k1 _ _ ⟨a, b⟩)) (fun PO NN k1 => kd_14 (wt_P mw_W wt_mw hL) (ra_mm hL) (ra_tlm hL) (fun r q => k1 _ _ q)) (fun h' r a f k b => kk h' r a.1 a.2 f k b)

variable {h1 h2 : mm_H} {r r' : Int32}
theorem ra_mn (hQ : ra_R h) : br_A h 97 (wt_s h 8818).toInt.toNat = wt_s h 204 := kd_ti hQ.1.symm
theorem ra_tell {a : Int32} (hL : wl_W E wl_H x y h) (hL1 : wl_W E wl_H x y h1) (hQ : ra_R h) (F1 : kp_F tc_F h h1) (K1 : ka_F tc_K h h1) (B1 : kd_Ptl (wt_s h 204) (wt_s h 8403) (br_A h 85) a r (wt_s h1 8403) (br_A h1 85)) (F2 : kp_F tm_F h1 h2) (K2 : ka_F tm_K h1 h2) (B2 : kd_Ptl (br_A h1 97 (wt_s h1 8818).toInt.toNat) (wt_s h1 8865) (br_A h1 127) a r' (wt_s h2 8865) (br_A h2 127)) : r = r' ∧ ra_R h2 := by
  have hm := ra_mn hQ
  obtain ⟨r1, r2, r3, r4⟩ := hQ
  have a1 : wt_s h1 204 = wt_s h 204 := kp_ws (c := 2) (k := 4) (by decide) (wq_o2 hL) F1 rfl
  have a3 : wt_s h1 8818 = wt_s h 8818 := kp_ws (c := 88) (k := 18) (by decide) (wq_o88 hL) F1 rfl
  have a4 : wt_s h1 8865 = wt_s h 8865 := kp_ws (c := 88) (k := 65) (by decide) (wq_o88 hL) F1 rfl
  have b1 : wt_s h2 204 = wt_s h1 204 := kp_ws (c := 2) (k := 4) (by decide) (wq_o2 hL1) F2 rfl
  have b2 : wt_s h2 8403 = wt_s h1 8403 := kp_ws (c := 84) (k := 3) (by decide) (wq_o84 hL1) F2 rfl
  have b3 : wt_s h2 8818 = wt_s h1 8818 := kp_ws (c := 88) (k := 18) (by decide) (wq_o88 hL1) F2 rfl
  rw [a3, a4, ka_wA K1 (c := 97) (by decide), ka_wA K1 (c := 127) (by decide), hm, ← r2] at B2
  obtain ⟨e, e2, e3⟩ := kd_Utl (ra_tld hL).1 r3 B1 B2
  refine ⟨e, ?_, by rw [b2]; exact e2, fun i hi => ?_, fun i hi => ?_⟩
  · rw [b1, a1, b3, a3, ka_wA K2 (c := 97) (by decide), ka_wA K1 (c := 97) (by decide)]
    exact r1
  · rw [ka_wA K2 (c := 85) (by decide)]
    rw [b2] at hi
    exact e3 i hi
  · rw [ka_wA K2 (c := 83) (by decide), ka_wA K1 (c := 83) (by decide), ka_wA K2 (c := 131) (by decide), ka_wA K1 (c := 131) (by decide)]
    exact r4 i hi
theorem ra_forget (hL : wl_W E wl_H x y h) (hL1 : wl_W E wl_H x y h1) (hQ : ra_R h) (F1 : kp_F tc_F h h1) (K1 : ka_F tc_K h h1) (B1 : (wt_s h1 8403).toInt = 0) (F2 : kp_F tm_F h1 h2) (K2 : ka_F tm_K h1 h2) (B2 : (wt_s h2 8865).toInt = 0) : ra_R h2 := by
  obtain ⟨r1, r2, r3, r4⟩ := hQ
  have a1 : wt_s h1 204 = wt_s h 204 := kp_ws (c := 2) (k := 4) (by decide) (wq_o2 hL) F1 rfl
  have a3 : wt_s h1 8818 = wt_s h 8818 := kp_ws (c := 88) (k := 18) (by decide) (wq_o88 hL) F1 rfl
  have b1 : wt_s h2 204 = wt_s h1 204 := kp_ws (c := 2) (k := 4) (by decide) (wq_o2 hL1) F2 rfl
  have b2 : wt_s h2 8403 = wt_s h1 8403 := kp_ws (c := 84) (k := 3) (by decide) (wq_o84 hL1) F2 rfl
  have b3 : wt_s h2 8818 = wt_s h1 8818 := kp_ws (c := 88) (k := 18) (by decide) (wq_o88 hL1) F2 rfl
  refine ⟨?_, by rw [b2]; exact kd_ti (B1.trans B2.symm), fun i hi => ?_, fun i hi => ?_⟩
  · rw [b1, a1, b3, a3, ka_wA K2 (c := 97) (by decide), ka_wA K1 (c := 97) (by decide)]
    exact r1
  · rw [b2] at hi
    omega
  · rw [ka_wA K2 (c := 83) (by decide), ka_wA K1 (c := 83) (by decide), ka_wA K2 (c := 131) (by decide), ka_wA K1 (c := 131) (by decide)]
    exact r4 i hi
theorem ra_hold {p : Int32} (hL : wl_W E wl_H x y h) (hL1 : wl_W E wl_H x y h1) (hQ : ra_R h) (F1 : kp_F hc_F h h1) (K1 : ka_F hc_K h h1) (B1 : kd_Phd (br_A h 83) (br_A h1 83) p) (F2 : kp_F hm_F h1 h2) (K2 : ka_F hm_K h1 h2) (B2 : kd_Phd (br_A h1 131) (br_A h2 131) p) : ra_R h2 := by
  obtain ⟨r1, r2, r3, r4⟩ := hQ
  have a1 : wt_s h1 204 = wt_s h 204 := kp_ws (c := 2) (k := 4) (by decide) (wq_o2 hL) F1 rfl
  have a2 : wt_s h1 8403 = wt_s h 8403 := kp_ws (c := 84) (k := 3) (by decide) (wq_o84 hL) F1 rfl
  have a3 : wt_s h1 8818 = wt_s h 8818 := kp_ws (c := 88) (k := 18) (by decide) (wq_o88 hL) F1 rfl
  have a4 : wt_s h1 8865 = wt_s h 8865 := kp_ws (c := 88) (k := 65) (by decide) (wq_o88 hL) F1 rfl
  have b1 : wt_s h2 204 = wt_s h1 204 := kp_ws (c := 2) (k := 4) (by decide) (wq_o2 hL1) F2 rfl
  have b2 : wt_s h2 8403 = wt_s h1 8403 := kp_ws (c := 84) (k := 3) (by decide) (wq_o84 hL1) F2 rfl
  have b3 : wt_s h2 8818 = wt_s h1 8818 := kp_ws (c := 88) (k := 18) (by decide) (wq_o88 hL1) F2 rfl
  have b4 : wt_s h2 8865 = wt_s h1 8865 := kp_ws (c := 88) (k := 65) (by decide) (wq_o88 hL1) F2 rfl
  rw [ka_wA K1 (c := 131) (by decide)] at B2
  refine ⟨?_, by rw [b2, a2, b4, a4]; exact r2, fun i hi => ?_, fun i hi => ?_⟩
  · rw [b1, a1, b3, a3, ka_wA K2 (c := 97) (by decide), ka_wA K1 (c := 97) (by decide)]
    exact r1
  · rw [b2, a2] at hi
    rw [ka_wA K2 (c := 85) (by decide), ka_wA K1 (c := 85) (by decide), ka_wA K2 (c := 127) (by decide), ka_wA K1 (c := 127) (by decide)]
    exact r3 i hi
  · rw [ka_wA K2 (c := 83) (by decide)]
    exact kd_Uhd r4 B1 B2 i hi
theorem wt_es {k : Nat} (e : h1[k / 100]? = h[k / 100]?) : wt_s h1 k = wt_s h k := by
  unfold wt_s
  rw [e]
theorem ra_read {n : Int} (hQ : ra_R h) (hr : r.toInt = r'.toInt) (k1 : ∀ k, 85 ≤ k → h1[k]? = h[k]?) (k2 : ∀ k, k < 88 ∨ k = 127 → h2[k]? = h1[k]?) (z1 : r.toInt = 0 → bw_Z n h1) (z2 : r.toInt ≠ 0 → bw_K h h1) (z3 : r'.toInt = 0 → rz_Z n h2) (z4 : r'.toInt ≠ 0 → rz_K h1 h2) : ra_R h2 := by
  obtain ⟨r1, r2, r3, r4⟩ := hQ
  have c1 : wt_s h2 204 = wt_s h1 204 := wt_es (k2 2 (by omega))
  have c2 : wt_s h2 8403 = wt_s h1 8403 := wt_es (k2 84 (by omega))
  have c3 : br_A h2 83 = br_A h1 83 := wt_eA (k2 83 (by omega))
  by_cases q : r.toInt = 0
  · obtain ⟨y1, y2, y3⟩ := z1 q
    obtain ⟨x1, x2, x3⟩ := z3 (by omega)
    refine ⟨by rw [c1, y1, x1], by rw [c2]; exact kd_ti (y2.trans x2.symm), fun i hi => ?_, fun i hi => ?_⟩
    · rw [c2] at hi
      omega
    · rw [c3]
      exact kd_ti ((y3 i hi).trans (x3 i hi).symm)
  · obtain ⟨y1, y2, y3, -⟩ := z2 q
    obtain ⟨x1, x2, x3, x4⟩ := z4 (by omega)
    have d1 : wt_s h1 8818 = wt_s h 8818 := wt_es (k1 88 (by omega))
    have d2 : wt_s h1 8865 = wt_s h 8865 := wt_es (k1 88 (by omega))
    have d3 : br_A h1 97 = br_A h 97 := wt_eA (k1 97 (by omega))
    have d4 : br_A h1 131 = br_A h 131 := wt_eA (k1 131 (by omega))
    have d5 : br_A h1 85 = br_A h 85 := wt_eA (k1 85 (by omega))
    have d6 : br_A h1 127 = br_A h 127 := wt_eA (k1 127 (by omega))
    have d7 : br_A h2 85 = br_A h1 85 := wt_eA (k2 85 (by omega))
    have d8 : br_A h2 127 = br_A h1 127 := wt_eA (k2 127 (by omega))
    refine ⟨?_, by rw [c2, y2, x3, d2]; exact r2, fun i hi => ?_, fun i hi => ?_⟩
    · rw [c1, y1, x1, x2 97 _ (by decide) (by decide) (Or.inr (Or.inr ⟨by decide, by decide, rfl⟩)), d1, d3]
      exact r1
    · rw [c2, y2] at hi
      rw [d7, d8, d5, d6]
      exact r3 i hi
    · rw [c3, y3, x4, d4]
      exact r4 i hi

theorem ra_likely {a p b : Int32} (hL : wl_W E wl_H x y h) (hQ1 : ra_R h1) (F1 : kp_F q0_F h h1) (K1 : ka_F q0_K h h1) (B1 : kd_Plk (wt_s h 204) a p b r) (B2 : kd_Plk (br_A h1 97 (wt_s h1 8818).toInt.toNat) a p b r') : r = r' := by
  have a1 : wt_s h1 204 = wt_s h 204 := kp_ws (c := 2) (k := 4) (by decide) (wq_o2 hL) F1 rfl
  rw [ra_mn hQ1, a1] at B2
  exact kd_Ulk B1 B2
theorem ra_surely {p : Int32} (hL : wl_W E wl_H x y h) (hQ1 : ra_R h1) (F1 : kp_F q0_F h h1) (K1 : ka_F q0_K h h1) (B1 : kd_Psu (wt_s h 204) p r) (B2 : kd_Psu (br_A h1 97 (wt_s h1 8818).toInt.toNat) p r') : r = r' := by
  have a1 : wt_s h1 204 = wt_s h 204 := kp_ws (c := 2) (k := 4) (by decide) (wq_o2 hL) F1 rfl
  rw [ra_mn hQ1, a1] at B2
  exact kd_Usu B1 B2
theorem ra_cheats {a k b : Int32} (hL : wl_W E wl_H x y h) (hQ1 : ra_R h1) (F1 : kp_F q0_F h h1) (K1 : ka_F q0_K h h1) (B1 : kd_Pch (wt_s h 204) (wt_s h 8403) (br_A h 85) a k b r) (B2 : kd_Pch (br_A h1 97 (wt_s h1 8818).toInt.toNat) (wt_s h1 8865) (br_A h1 127) a k b r') : r = r' := by
  have a1 : wt_s h1 204 = wt_s h 204 := kp_ws (c := 2) (k := 4) (by decide) (wq_o2 hL) F1 rfl
  have a2 : wt_s h1 8403 = wt_s h 8403 := kp_ws (c := 84) (k := 3) (by decide) (wq_o84 hL) F1 rfl
  rw [ra_mn hQ1, a1, ← hQ1.2.1, a2] at B2
  refine kd_Uch (fun j hj => ?_) B1 B2
  rw [← hQ1.2.2.1 j (by rw [a2]; exact hj), ka_wA K1 (c := 85) (by decide)]
theorem ra_restore {p : Int32} (hL : wl_W E wl_H x y h) (hQ1 : ra_R h1) (F1 : kp_F q0_F h h1) (K1 : ka_F q0_K h h1) (B1 : kd_Prs (br_A h 83) p r) (B2 : kd_Prs (br_A h1 131) p r') : r = r' := by
  refine kd_Urs (fun j hj => ?_) B1 B2
  rw [← hQ1.2.2.2 j hj, ka_wA K1 (c := 83) (by decide)]

end QJ
