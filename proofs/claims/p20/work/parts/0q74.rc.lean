/-! HANDY, ROSTER, BETTER: what both sides answer (wip/p8/mkrb.py) -/
section RBM
variable {E : mm_E} {x y : Int32} {h h1 : mm_H} {g : mm_F} {t : List mm_F} {FIN : mm_C → Prop} {r r' : Int32}
theorem wt_kw : wt_ck kw_T := ⟨by decide +kernel, by decide +kernel, by decide +kernel, by decide +kernel, by decide +kernel, by decide +kernel⟩
theorem wt_nw : wt_ck nw_T := ⟨by decide +kernel, by decide +kernel, by decide +kernel, by decide +kernel, by decide +kernel, by decide +kernel⟩
/-- skills of the class, of the reference -/
def rj_c (h : mm_H) (a q : Nat) : Int32 := br_A h 8 (4 * a + q)
def rj_m (h : mm_H) (a q : Nat) : Int32 := br_A h 98 (4 * (6 * (wt_s h 8818).toInt.toNat + a) + q)
theorem rj_b (hB : rb_R h) : ∀ a : Nat, a < (wt_s h 204).toInt.toNat → ∀ q, q < 4 → rj_c h a q = rj_m h a q ∧ 0 ≤ (rj_c h a q).toInt ∧ (rj_c h a q).toInt ≤ 9 := fun a ha q hq => (hB.2.1.1 a (by omega)).1 q hq
theorem rj_men (hB : rb_R h) : br_A h 97 (wt_s h 8818).toInt.toNat = wt_s h 204 := ra_mn hB.1
theorem rj_mb (hB : rb_R h) : ∀ a : Nat, a < (br_A h 97 (wt_s h 8818).toInt.toNat).toInt.toNat → ∀ q, q < 4 → 0 ≤ (br_A h 98 (4 * (6 * (wt_s h 8818).toInt.toNat + a) + q)).toInt ∧ (br_A h 98 (4 * (6 * (wt_s h 8818).toInt.toNat + a) + q)).toInt ≤ 9 := fun a ha q hq => by
  rw [rj_men hB] at ha
  have b := rj_b hB a ha q hq
  have e : br_A h 98 (4 * (6 * (wt_s h 8818).toInt.toNat + a) + q) = rj_c h a q := b.1.symm
  rw [e]
  exact b.2
theorem rj_cb (hB : rb_R h) : ∀ a : Nat, a < (wt_s h 204).toInt.toNat → ∀ q, q < 4 → 0 ≤ (br_A h 8 (4 * a + q)).toInt ∧ (br_A h 8 (4 * a + q)).toInt ≤ 9 := fun a ha q hq => (rj_b hB a ha q hq).2
theorem wq_c_handy {p : Int32} (hS : ∀ ρ, en_SA E ρ (wl_o x y) mt_SB) (h8 : ∃ q, E.2[8]? = some q) (hL : wl_W E wl_H x y h) (hB : rb_R h) (hd : (g :: t).length ≤ 900) (kk : ∀ (h' : mm_H) (r : Int32), wl_W E wl_H x y h' → wt_K h h' → kp_F q0_F h h' → ka_F q0_K h h' → kd_Phy (wt_s h 204) (rj_c h) p r → bh_G E FIN (mm_back (some (.int r)) (g :: t) h')) : bh_G E FIN ((234, 0, [(0, .ref (E.1 + 0)), (1, .int p)], [], 0, 0) :: g :: t, h, none) := by
  refine wq_x (A := fun h' r => wl_W E wl_H x y h' ∧ wt_K h h') (B := fun h' r => kd_Phy (wt_s h 204) (rj_c h) p r) q0_k q0_a q0_h rfl (by decide) (ka_lc (ka_no (by decide)) (ka_lc ka_ti ka_ln)) hL (fun F9 k1 => wk_c_handy (gs := bp_mf :: t) hS h8 hL hd (fun h' r a b => k1 _ _ ⟨a, b⟩)) (fun PO NN k1 => hy_234 (wt_P kw_W wt_kw hL) (ra_men hL) (fun hp i hi => (rj_cb hB i (by omega) _ (by omega)).1) (fun r q => k1 _ _ q)) (fun h' r a f k b => kk h' r a.1 a.2 f k b)
theorem wq_m_handy {p : Int32} (hS : ∀ ρ, en_SA E ρ (wl_o x y) mt_SB) (hL : wl_W E wl_H x y h) (hB : rb_R h) (hd : (g :: t).length ≤ 900) (kk : ∀ (h' : mm_H) (r : Int32), wl_W E wl_H x y h' → wt_K h h' → kp_F q0_F h h' → ka_F q0_K h h' → kd_Phy (br_A h 97 (wt_s h 8818).toInt.toNat) (rj_m h) p r → bh_G E FIN (mm_back (some (.int r)) (g :: t) h')) : bh_G E FIN ((38, 0, [(0, .ref (E.1 + 88)), (1, .int p)], [], 0, 0) :: g :: t, h, none) := by
  refine wq_x (A := fun h' r => wl_W E wl_H x y h' ∧ wt_K h h') (B := fun h' r => kd_Phy (br_A h 97 (wt_s h 8818).toInt.toNat) (rj_m h) p r) q0_k q0_a q0_h rfl (by decide) (ka_lc (ka_no (by decide)) (ka_lc ka_ti ka_ln)) hL (fun F9 k1 => wk_m_handy (gs := bp_mf :: t) hS hL hd (fun h' r a b => k1 _ _ ⟨a, b⟩)) (fun PO NN k1 => hy_38 (wt_P nw_W wt_nw hL) (ra_mm hL) (wt_18 hL) (fun r q => k1 _ _ q)) (fun h' r a f k b => kk h' r a.1 a.2 f k b)
theorem wq_c_roster {p : Int32} (hS : ∀ ρ, en_SA E ρ (wl_o x y) mt_SB) (h8 : ∃ q, E.2[8]? = some q) (hL : wl_W E wl_H x y h) (hB : rb_R h) (hd : (g :: t).length ≤ 900) (kk : ∀ (h' : mm_H) (r : Int32), wl_W E wl_H x y h' → wt_K h h' → kp_F q0_F h h' → ka_F q0_K h h' → kd_Pro (wt_s h 204).toInt.toNat (fun a q => (rj_c h a q).toInt) p r → bh_G E FIN (mm_back (some (.int r)) (g :: t) h')) : bh_G E FIN ((256, 0, [(0, .ref (E.1 + 0)), (1, .int p)], [], 0, 0) :: g :: t, h, none) := by
  refine wq_x (A := fun h' r => wl_W E wl_H x y h' ∧ wt_K h h') (B := fun h' r => kd_Pro (wt_s h 204).toInt.toNat (fun a q => (rj_c h a q).toInt) p r) q0_k q0_a q0_h rfl (by decide) (ka_lc (ka_no (by decide)) (ka_lc ka_ti ka_ln)) hL (fun F9 k1 => wk_c_roster (gs := bp_mf :: t) hS h8 hL hd (fun h' r a b => k1 _ _ ⟨a, b⟩)) (fun PO NN k1 => dc_256 (wt_P kw_W wt_kw hL) (ra_men hL) hB.2.2.1 hB.2.2.2 (rj_cb hB) (fun r q => k1 _ _ q)) (fun h' r a f k b => kk h' r a.1 a.2 f k b)
theorem wq_m_roster {p : Int32} (hS : ∀ ρ, en_SA E ρ (wl_o x y) mt_SB) (hL : wl_W E wl_H x y h) (hB : rb_R h) (hd : (g :: t).length ≤ 900) (kk : ∀ (h' : mm_H) (r : Int32), wl_W E wl_H x y h' → wt_K h h' → kp_F q0_F h h' → ka_F q0_K h h' → kd_Pro (br_A h 97 (wt_s h 8818).toInt.toNat).toInt.toNat (fun a q => (rj_m h a q).toInt) p r → bh_G E FIN (mm_back (some (.int r)) (g :: t) h')) : bh_G E FIN ((80, 0, [(0, .ref (E.1 + 88)), (1, .int p)], [], 0, 0) :: g :: t, h, none) := by
  refine wq_x (A := fun h' r => wl_W E wl_H x y h' ∧ wt_K h h') (B := fun h' r => kd_Pro (br_A h 97 (wt_s h 8818).toInt.toNat).toInt.toNat (fun a q => (rj_m h a q).toInt) p r) q0_k q0_a q0_h rfl (by decide) (ka_lc (ka_no (by decide)) (ka_lc ka_ti ka_ln)) hL (fun F9 k1 => wk_m_roster (gs := bp_mf :: t) hS hL hd (fun h' r a b => k1 _ _ ⟨a, b⟩)) (fun PO NN k1 => dm_80 (wt_P nw_W wt_nw hL) (ra_mm hL) (wt_18 hL) (rj_mb hB) (fun h' s' r _ _ q => k1 _ _ q)) (fun h' r a f k b => kk h' r a.1 a.2 f k b)
theorem wq_c_better {b : Int32} (hb : b.toInt = 0 ∨ b.toInt = 1) (hS : ∀ ρ, en_SA E ρ (wl_o x y) mt_SB) (h8 : ∃ q, E.2[8]? = some q) (hL : wl_W E wl_H x y h) (hB : rb_R h) (hd : (g :: t).length ≤ 900) (kk : ∀ (h' : mm_H) (r : Int32), wl_W E wl_H x y h' → wt_K h h' → kp_F q0_F h h' → ka_F q0_K h h' → kd_Pbt (wt_s h 204).toInt.toNat (fun a q => (rj_c h a q).toInt) b r → bh_G E FIN (mm_back (some (.int r)) (g :: t) h')) : bh_G E FIN ((223, 0, [(0, .ref (E.1 + 0)), (1, .int b)], [], 0, 0) :: g :: t, h, none) := by
  refine wq_x (A := fun h' r => wl_W E wl_H x y h' ∧ wt_K h h') (B := fun h' r => kd_Pbt (wt_s h 204).toInt.toNat (fun a q => (rj_c h a q).toInt) b r) q0_k q0_a q0_h rfl (by decide) (ka_lc (ka_no (by decide)) (ka_lc ka_ti ka_ln)) hL (fun F9 k1 => wk_c_better (gs := bp_mf :: t) hb hS h8 hL hd (fun h' r a b => k1 _ _ ⟨a, b⟩)) (fun PO NN k1 => dc_223 (wt_P kw_W wt_kw hL) (ra_men hL) hB.2.2.1 hB.2.2.2 (rj_cb hB) (fun r q => k1 _ _ q)) (fun h' r a f k b => kk h' r a.1 a.2 f k b)
theorem wq_m_better {b : Int32} (hb : b.toInt = 0 ∨ b.toInt = 1) (hS : ∀ ρ, en_SA E ρ (wl_o x y) mt_SB) (hL : wl_W E wl_H x y h) (hB : rb_R h) (hd : (g :: t).length ≤ 900) (kk : ∀ (h' : mm_H) (r : Int32), wl_W E wl_H x y h' → wt_K h h' → kp_F q0_F h h' → ka_F q0_K h h' → kd_Pbt (br_A h 97 (wt_s h 8818).toInt.toNat).toInt.toNat (fun a q => (rj_m h a q).toInt) b r → bh_G E FIN (mm_back (some (.int r)) (g :: t) h')) : bh_G E FIN ((9, 0, [(0, .ref (E.1 + 88)), (1, .int b)], [], 0, 0) :: g :: t, h, none) := by
  refine wq_x (A := fun h' r => wl_W E wl_H x y h' ∧ wt_K h h') (B := fun h' r => kd_Pbt (br_A h 97 (wt_s h 8818).toInt.toNat).toInt.toNat (fun a q => (rj_m h a q).toInt) b r) q0_k q0_a q0_h rfl (by decide) (ka_lc (ka_no (by decide)) (ka_lc ka_ti ka_ln)) hL (fun F9 k1 => wk_m_better (gs := bp_mf :: t) hb hS hL hd (fun h' r a b => k1 _ _ ⟨a, b⟩)) (fun PO NN k1 => dm_9 (wt_P nw_W wt_nw hL) (ra_mm hL) (wt_18 hL) (rj_mb hB) (fun h' s' r _ _ q => k1 _ _ q)) (fun h' r a f k b => kk h' r a.1 a.2 f k b)
theorem rb_handy {p : Int32} (hL : wl_W E wl_H x y h) (hQ1 : rb_R h1) (F1 : kp_F q0_F h h1) (K1 : ka_F q0_K h h1) (B1 : kd_Phy (wt_s h 204) (rj_c h) p r) (B2 : kd_Phy (br_A h1 97 (wt_s h1 8818).toInt.toNat) (rj_m h1) p r') : r = r' := by
  have a1 : wt_s h1 204 = wt_s h 204 := kp_ws (c := 2) (k := 4) (by decide) (wq_o2 hL) F1 rfl
  rw [rj_men hQ1, a1] at B2
  refine kd_Uhy (fun i hi q hq => ?_) B1 B2
  have b := (rj_b hQ1 i (by rw [a1]; omega) q hq).1
  rw [← b]
  unfold rj_c
  rw [ka_wA K1 (c := 8) (by decide)]
theorem rb_roster {p : Int32} (hL : wl_W E wl_H x y h) (hQ1 : rb_R h1) (F1 : kp_F q0_F h h1) (K1 : ka_F q0_K h h1) (B1 : kd_Pro (wt_s h 204).toInt.toNat (fun a q => (rj_c h a q).toInt) p r) (B2 : kd_Pro (br_A h1 97 (wt_s h1 8818).toInt.toNat).toInt.toNat (fun a q => (rj_m h1 a q).toInt) p r') : r = r' := by
  have a1 : wt_s h1 204 = wt_s h 204 := kp_ws (c := 2) (k := 4) (by decide) (wq_o2 hL) F1 rfl
  rw [rj_men hQ1, a1] at B2
  refine kd_Uro (fun i hi q hq => ?_) B1 B2
  have b := (rj_b hQ1 i (by rw [a1]; exact hi) q hq).1
  show (rj_c h i q).toInt = (rj_m h1 i q).toInt
  rw [← b]
  unfold rj_c
  rw [ka_wA K1 (c := 8) (by decide)]
theorem rb_better {b : Int32} (hL : wl_W E wl_H x y h) (hQ1 : rb_R h1) (F1 : kp_F q0_F h h1) (K1 : ka_F q0_K h h1) (B1 : kd_Pbt (wt_s h 204).toInt.toNat (fun a q => (rj_c h a q).toInt) b r) (B2 : kd_Pbt (br_A h1 97 (wt_s h1 8818).toInt.toNat).toInt.toNat (fun a q => (rj_m h1 a q).toInt) b r') : r = r' := by
  have a1 : wt_s h1 204 = wt_s h 204 := kp_ws (c := 2) (k := 4) (by decide) (wq_o2 hL) F1 rfl
  rw [rj_men hQ1, a1] at B2
  refine kd_Ubt (fun i hi q hq => ?_) B1 B2
  have b := (rj_b hQ1 i (by rw [a1]; exact hi) q hq).1
  show (rj_c h i q).toInt = (rj_m h1 i q).toInt
  rw [← b]
  unfold rj_c
  rw [ka_wA K1 (c := 8) (by decide)]
end RBM
