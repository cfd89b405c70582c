/-! THE FAULT'S PLACE BETWEEN THE LAW'S CALLS (wip/p6/mkp4.py) -/
def pl_Fc : Nat → Nat → Bool := fun ci k => Nat.beq ci 8 && Nat.beq k 2
def pl_Fm : Nat → Nat → Bool := fun ci k => Nat.beq ci 9 && Nat.beq k 17
def pl_Sc : List Nat := [2, 3, 4, 5, 6, 7, 8, 9, 10, 11, 12, 13, 14, 15, 16, 17, 18, 19, 20, 21, 22, 23, 24, 25, 26, 27, 28, 29, 30, 31, 32, 33, 34, 35, 36, 37, 38, 39, 40, 41, 42, 43, 45, 46, 47, 48, 49, 50, 51, 52, 53, 54, 55, 56, 57, 58, 59, 60, 61, 62, 63, 64, 65, 66, 67, 68, 69, 70, 71, 72, 73, 74, 75, 76, 77, 78, 79, 80, 81, 82, 83, 84, 85, 86, 87, 88, 89, 90, 91, 92, 93, 94, 95, 96, 97, 98, 99, 100, 101, 102, 103, 104, 105, 106, 107, 108, 109, 110, 112, 113, 114, 115, 118, 119, 121, 122, 123, 124, 125, 126, 127, 128, 129, 130, 131, 138, 140, 141, 142, 145, 146, 147, 148, 149, 151, 152, 154, 155, 157, 158, 159, 160, 179, 180, 181, 182, 183, 185, 186, 187, 188, 189, 190, 191, 192, 193, 194, 195, 196, 197, 198, 199, 203, 206, 208, 220, 221, 222, 223, 224, 225, 226, 227, 228, 229, 230, 231, 232, 233, 234, 235, 236, 238, 239, 240, 241, 242, 243, 244, 245, 246, 247, 248, 249, 250, 251, 252, 254, 255, 256, 257, 258, 259, 260, 261, 262, 263, 264, 265, 266, 267, 268, 269, 270, 271, 272, 273, 274, 287, 288, 289, 290]
def pl_Sm : List Nat := [3, 4, 5, 6, 8, 9, 11, 13, 14, 16, 17, 18, 20, 21, 22, 24, 25, 28, 29, 30, 31, 32, 33, 34, 35, 36, 38, 39, 40, 41, 42, 43, 46, 47, 49, 51, 52, 53, 54, 55, 56, 57, 58, 59, 60, 61, 62, 63, 64, 65, 66, 68, 69, 70, 71, 73, 74, 75, 76, 78, 79, 80, 81, 82, 83, 84, 85, 86, 87, 88, 90, 91, 92, 93, 94, 95, 96, 101, 102, 104, 106, 107, 108, 109, 110, 113, 114, 115, 116, 117, 118, 119, 121, 122, 123, 124, 125, 126, 127, 128, 129, 130, 131, 132, 133, 134, 135, 136, 137, 138, 140, 141, 142, 143, 144, 145, 146, 147, 148, 149, 151, 152, 153, 154, 155, 157, 158, 159, 160, 161, 163, 164, 165, 166, 167, 168, 169, 170, 171, 172, 173, 174, 175, 176, 177, 178, 179, 180, 181, 182, 183, 185, 186, 187, 188, 189, 190, 191, 192, 193, 194, 195, 196, 197, 198, 199, 200, 201, 202, 203, 205, 206, 207, 208, 210, 211, 212, 213, 214, 215, 216, 217, 218, 219, 220, 221, 222, 223, 224, 225, 226, 227, 228, 229, 230, 231, 232, 233, 234, 235, 236, 238, 239, 240, 241, 242, 243, 244, 245, 246, 247, 248, 249, 250, 251, 252, 253, 254, 255, 256, 257, 258, 259, 260, 261, 262, 263, 264, 265, 266, 267, 268, 269, 270, 271, 272, 273, 274, 275, 276, 277, 278, 279, 280, 281, 282, 283, 284, 285, 286, 287, 288, 289, 290]
theorem pl_c : kp_chk pl_Sc pl_Fc mt_P = true := by decide +kernel
theorem pl_m : kp_chk pl_Sm pl_Fm mt_P = true := by decide +kernel
theorem bu_71_0 : mm_at mt_P 71 0 = some ((0, 1, .aload_n 0, 0, 0, 0, 0), 1, 0, 1, 9, 1, 0, 0) := rfl
theorem bu_71_1 : mm_at mt_P 71 1 = some ((1, 3, .getfield 37, 9, 17, 0, 1234), 1, 0, 1, 9, 1, 0, 0) := rfl
theorem bu_71_4 : mm_at mt_P 71 4 = some ((4, 1, .ireturn, 0, 0, 0, 0), 1, 0, 1, 9, 1, 0, 0) := rfl
theorem bu_250_0 : mm_at mt_P 250 0 = some ((0, 1, .aload_n 0, 0, 0, 0, 0), 1, 0, 1, 8, 1, 0, 0) := rfl
theorem bu_250_1 : mm_at mt_P 250 1 = some ((1, 3, .getfield 17, 8, 2, 0, 434), 1, 0, 1, 8, 1, 0, 0) := rfl
theorem bu_250_4 : mm_at mt_P 250 4 = some ((4, 1, .ireturn, 0, 0, 0, 0), 1, 0, 1, 8, 1, 0, 0) := rfl
section FBQ
variable {E : mm_E} {PO : mm_C → Prop} {NN : Nat} {h0 h : mm_H} {s : Nat → Int32} {A : Nat → Nat → Int32} {L : Nat → Nat → Int64} {gs : List mm_F} {n : Nat}
theorem bf_pl (hP : bm_P bf_T E h0 h s A L) (kk : bp_G E PO NN (mm_back (some (.int (s 2))) gs h)) : bp_G E PO NN ((250, 0, [(0, .ref (E.1 + 0))], [], 0, 0) :: gs, h, none) := by
  refine bp_ld (pc' := 1) bu_250_0 rfl rfl (fun _ _ _ => rfl) rfl rfl ?_
  refine bn_gi (pc' := 4) (K := 2) bu_250_1 rfl rfl (fun _ _ _ => rfl) hP bf_o0 bf_i0_2 rfl rfl ?_
  refine bp_ri bu_250_4 ?_
  exact kk
theorem rz_pl (hP : bm_P rz_T E h0 h s A L) (kk : bp_G E PO NN (mm_back (some (.int (s 8817))) gs h)) : bp_G E PO NN ((71, 0, [(0, .ref (E.1 + 88))], [], 0, 0) :: gs, h, none) := by
  refine bp_ld (pc' := 1) bu_71_0 rfl rfl (fun _ _ _ => rfl) rfl rfl ?_
  refine bn_gi (pc' := 4) (K := 8817) bu_71_1 rfl rfl (fun _ _ _ => rfl) hP rz_o88 rz_i88_17 rfl rfl ?_
  refine bp_ri bu_71_4 ?_
  exact kk
end FBQ
def wt_PL (X : Nat → Int32) (n : Nat) : Int := py_pl (fun j => px_at X n j) (py_end (fun j => px_kd X n (px_at X n j)) (fun j => px_vl X n (px_at X n j)) (rq_Q X n))
section PLQ
variable {E : mm_E} {x y : Int32} {h h' : mm_H} {g : mm_F} {t : List mm_F} {FIN : mm_C → Prop}
theorem pl_s {h : mm_H} {c ci k : Nat} {fs : List Value} (hk : k < 100) (e : h[c]? = some (.inr (ci, fs))) : wt_s h (100 * c + k) = br_s fs k := by
  unfold wt_s
  rw [show (100 * c + k) / 100 = c by omega, show (100 * c + k) % 100 = k by omega, e]
theorem pl_2 (hL : wl_W E wl_H x y h) (hF : kp_F pl_Fc h h') : wt_s h' 2 = wt_s h 2 := by
  obtain ⟨fs, f1⟩ := wl_o0 hL
  obtain ⟨fs', e', -, k'⟩ := hF.2 _ _ _ f1
  have k2 := k' 2 rfl
  show wt_s h' (100 * 0 + 2) = wt_s h (100 * 0 + 2)
  rw [pl_s (by decide) f1, pl_s (by decide) e']
  unfold br_s
  rw [k2]
theorem pl_17 (hL : wl_W E wl_H x y h) (hF : kp_F pl_Fm h h') : wt_s h' 8817 = wt_s h 8817 := by
  obtain ⟨fs, f1⟩ := wl_o88 hL
  obtain ⟨fs', e', -, k'⟩ := hF.2 _ _ _ f1
  have k2 := k' 17 rfl
  show wt_s h' (100 * 88 + 17) = wt_s h (100 * 88 + 17)
  rw [pl_s (by decide) f1, pl_s (by decide) e']
  unfold br_s
  rw [k2]
theorem wj_c {K nL np kd ci rk mc ms : Nat} {cs : List (List mm_I)} {lv : mm_V} {A : mm_H → Int32 → Prop} (hK : mt_P[K]? = some (cs, nL, np, kd, ci, rk, mc, ms)) (hc : K ∈ pl_Sc) (hL : wl_W E wl_H x y h) (T : ∀ (FIN' : mm_C → Prop), (∀ h' r, A h' r → bh_G E FIN' (mm_back (some (.int r)) (bp_mf :: t) h')) → bh_G E FIN' ((K, 0, lv, [], 0, 0) :: bp_mf :: t, h, none)) (kk : ∀ h' r, A h' r → wt_s h' 2 = wt_s h 2 → bh_G E FIN (mm_back (some (.int r)) (g :: t) h')) : bh_G E FIN ((K, 0, lv, [], 0, 0) :: g :: t, h, none) := by
  refine bp_join (A := fun vo h' => ∃ r, vo = some (.int r) ∧ A h' r) (B := fun _ h' => wt_s h' 2 = wt_s h 2) (fun FIN' k1 => T FIN' (fun h' r a => k1 _ _ ⟨r, rfl, a⟩)) (fun PO NN k1 => kp_call0 pl_c hc hK (fun vo h' F _ _ => k1 _ _ (pl_2 hL F))) (fun vo h' p q => ?_)
  obtain ⟨r, e, a⟩ := p
  subst e
  exact kk h' r a q
theorem wj_m {K nL np kd ci rk mc ms : Nat} {cs : List (List mm_I)} {lv : mm_V} {A : mm_H → Int32 → Prop} (hK : mt_P[K]? = some (cs, nL, np, kd, ci, rk, mc, ms)) (hc : K ∈ pl_Sm) (hL : wl_W E wl_H x y h) (T : ∀ (FIN' : mm_C → Prop), (∀ h' r, A h' r → bh_G E FIN' (mm_back (some (.int r)) (bp_mf :: t) h')) → bh_G E FIN' ((K, 0, lv, [], 0, 0) :: bp_mf :: t, h, none)) (kk : ∀ h' r, A h' r → wt_s h' 8817 = wt_s h 8817 → bh_G E FIN (mm_back (some (.int r)) (g :: t) h')) : bh_G E FIN ((K, 0, lv, [], 0, 0) :: g :: t, h, none) := by
  refine bp_join (A := fun vo h' => ∃ r, vo = some (.int r) ∧ A h' r) (B := fun _ h' => wt_s h' 8817 = wt_s h 8817) (fun FIN' k1 => T FIN' (fun h' r a => k1 _ _ ⟨r, rfl, a⟩)) (fun PO NN k1 => kp_call0 pl_m hc hK (fun vo h' F _ _ => k1 _ _ (pl_17 hL F))) (fun vo h' p q => ?_)
  obtain ⟨r, e, a⟩ := p
  subst e
  exact kk h' r a q
theorem wj_b {K nL np kd ci rk mc ms : Nat} {cs : List (List mm_I)} {lv : mm_V} {A : mm_H → Int32 → Prop} (hK : mt_P[K]? = some (cs, nL, np, kd, ci, rk, mc, ms)) (hc : K ∈ pl_Sc) (hm : K ∈ pl_Sm) (hL : wl_W E wl_H x y h) (T : ∀ (FIN' : mm_C → Prop), (∀ h' r, A h' r → bh_G E FIN' (mm_back (some (.int r)) (bp_mf :: t) h')) → bh_G E FIN' ((K, 0, lv, [], 0, 0) :: bp_mf :: t, h, none)) (kk : ∀ h' r, A h' r → wt_s h' 2 = wt_s h 2 ∧ wt_s h' 8817 = wt_s h 8817 → bh_G E FIN (mm_back (some (.int r)) (g :: t) h')) : bh_G E FIN ((K, 0, lv, [], 0, 0) :: g :: t, h, none) :=
  wj_c (A := fun h' r => A h' r ∧ wt_s h' 8817 = wt_s h 8817) hK hc hL (fun F9 k1 => wj_m hK hm hL T (fun h' r a b => k1 _ _ ⟨a, b⟩)) (fun h' r a b => kk h' r a.1 ⟨b, a.2⟩)
theorem wt_q {h h' : mm_H} (hQ : wt_s h 2 = wt_s h 8817) (b : wt_s h' 2 = wt_s h 2 ∧ wt_s h' 8817 = wt_s h 8817) : wt_s h' 2 = wt_s h' 8817 := by rw [b.1, b.2, hQ]
theorem wk_c_place5 (hS : ∀ ρ, en_SA E ρ (wl_o x y) mt_SB) (h8 : ∃ q, E.2[8]? = some q) (hL : wl_W E wl_H x y h) (hd : (g :: t).length ≤ 900) (kk : ∀ (h' : mm_H) (r : Int32), wl_W E wl_H x y h' → wt_K h h' → r = wt_s h 2 → h' = h → bh_G E FIN (mm_back (some (.int r)) (g :: t) h')) : bh_G E FIN ((250, 0, [(0, .ref (E.1 + 0))], [], 0, 0) :: g :: t, h, none) := by
  refine bp_join (A := fun vo h' => ∃ r, vo = some (.int r) ∧ wl_W E wl_H x y h' ∧ wt_K h h') (B := fun vo h' => vo = some (.int (wt_s h 2)) ∧ h' = h) (fun FIN' k1 => wk_c_place (gs := bp_mf :: t) hS h8 hL hd (fun h' r a b => k1 _ _ ⟨r, rfl, a, b⟩)) (fun PO NN k1 => bf_pl (wt_P bf_W wt_bf hL) (k1 _ _ ⟨rfl, rfl⟩)) (fun vo h' p q => ?_)
  obtain ⟨r, e1, a, b⟩ := p
  obtain ⟨e2, e3⟩ := q
  subst e3
  subst e1
  cases e2
  exact kk _ _ a b rfl rfl
theorem wk_m_place5 (hS : ∀ ρ, en_SA E ρ (wl_o x y) mt_SB) (hL : wl_W E wl_H x y h) (hd : (g :: t).length ≤ 900) (kk : ∀ (h' : mm_H) (r : Int32), wl_W E wl_H x y h' → wt_K h h' → r = wt_s h 8817 → h' = h → bh_G E FIN (mm_back (some (.int r)) (g :: t) h')) : bh_G E FIN ((71, 0, [(0, .ref (E.1 + 88))], [], 0, 0) :: g :: t, h, none) := by
  refine bp_join (A := fun vo h' => ∃ r, vo = some (.int r) ∧ wl_W E wl_H x y h' ∧ wt_K h h') (B := fun vo h' => vo = some (.int (wt_s h 8817)) ∧ h' = h) (fun FIN' k1 => wk_m_place (gs := bp_mf :: t) hS hL hd (fun h' r a b => k1 _ _ ⟨r, rfl, a, b⟩)) (fun PO NN k1 => rz_pl (wt_P rz_W wt_rz hL) (k1 _ _ ⟨rfl, rfl⟩)) (fun vo h' p q => ?_)
  obtain ⟨r, e1, a, b⟩ := p
  obtain ⟨e2, e3⟩ := q
  subst e3
  subst e1
  cases e2
  exact kk _ _ a b rfl rfl
end PLQ
