/-! FEED, BACK AND READ, WITH THE TAPES (wip/p5/mkp3.py) -/
/-- what the Strings hold -/
def wt_ST (E : mm_E) : Prop := ∃ q4 q4' q6 q6' : mm_S, E.2[4]? = some q4 ∧ bs_E E 0 q4 q4' ∧ q4'.2.1 = 192 ∧ (∀ k, k < 24 → ∀ i, i < 8 → (q4'.2.2 (8 * k + i)).toInt = px_wc k i) ∧ E.2[6]? = some q6 ∧ bs_E E 1 q6 q6' ∧ q6'.2.1 = 9 ∧ ∀ i, i < 9 → (q6'.2.2 i).toInt = px_sw i
def wt_F (k k' : Nat) (a b c d e x : Int32) (h h' : mm_H) : Prop := (x.toInt ≤ 1980 → fb_5 x.toInt.toNat a b c d e (br_A h k) (br_A h' k)) ∧ (1980 < x.toInt → br_A h' k = br_A h k) ∧ br_A h' k' = br_A h k' ∧ wt_L h' 95 = wt_L h 95
theorem wt_eA {h h' : mm_H} {k : Nat} (e : h'[k]? = h[k]?) : br_A h' k = br_A h k := by
  unfold br_A
  rw [e]
theorem wt_eL {h h' : mm_H} {k : Nat} (e : h'[k]? = h[k]?) : wt_L h' k = wt_L h k := by
  funext j
  unfold wt_L
  rw [e]
theorem wt_fd {x v v' r r' : Int32} {h h1 h2 : mm_H} {a b c d e : Int32} (hx : 0 ≤ x.toInt ∧ x.toInt ≤ 2000) (hR : wt_R x x h) (z : (x.toInt + 20 ≤ 2000 ∧ v.toInt = x.toInt + 20 ∧ r.toInt = x.toInt + 20) ∨ (2000 < x.toInt + 20 ∧ v.toInt = x.toInt ∧ r.toInt = -1)) (z' : (x.toInt + 20 ≤ 2000 ∧ v'.toInt = x.toInt + 20 ∧ r'.toInt = x.toInt + 20) ∨ (2000 < x.toInt + 20 ∧ v'.toInt = x.toInt ∧ r'.toInt = -1)) (f : wt_F 1 89 a b c d e x h h1) (f' : wt_F 89 1 a b c d e x h1 h2) : wt_R v v' h2 := by
  have e9 : wt_L h2 95 = wt_L h 95 := f'.2.2.2.trans f.2.2.2
  unfold wt_R
  rw [e9]
  refine ⟨?_, hR.2⟩
  rw [f'.2.2.1]
  by_cases g : x.toInt ≤ 1980
  · have p := f.1 g
    have q := f'.1 g
    rw [f.2.2.1] at q
    rw [show v.toInt.toNat = x.toInt.toNat + 20 by omega, show v'.toInt.toNat = x.toInt.toNat + 20 by omega]
    exact fb_R5 hR.1 p q
  · rw [f'.2.1 (by omega), f.2.1 (by omega), f.2.2.1, show v.toInt.toNat = x.toInt.toNat by omega, show v'.toInt.toNat = x.toInt.toNat by omega]
    exact hR.1
theorem wt_bk {x v v' : Int32} {h h1 h2 : mm_H} (hR : wt_R x x h) (hv : v.toInt ≤ x.toInt) (hv' : v'.toInt ≤ x.toInt) (k1 : wt_K h h1) (k2 : wt_K h1 h2) : wt_R v v' h2 := by
  have hR2 := wt_RK (wt_RK hR k1) k2
  refine ⟨fun j hj => ?_, hR2.2⟩
  have q := hR2.1 j (by omega)
  exact ⟨q.1, fun _ => q.2 (by omega)⟩
theorem wt_rd {h h2 : mm_H} {x y : Int32} (hR : wt_R x y h) (e : wt_L h2 95 = wt_L h 95) : wt_R 0 0 h2 := by
  unfold wt_R
  rw [e]
  exact ⟨fun j hj => absurd hj (Nat.not_lt_zero j), hR.2⟩
section WKR
variable {E : mm_E} {x y : Int32} {h : mm_H} {g : mm_F} {t : List mm_F} {FIN : mm_C → Prop}
theorem wk_c_feed {a b c d e : Int32} (hL : wl_W E wl_H x y h) (hd : (g :: t).length ≤ 900) (kk : ∀ (h' : mm_H) (r v : Int32), wl_W E wl_H v y h' → ((x.toInt + 20 ≤ 2000 ∧ v.toInt = x.toInt + 20 ∧ r.toInt = x.toInt + 20) ∨ (2000 < x.toInt + 20 ∧ v.toInt = x.toInt ∧ r.toInt = -1)) → wt_F 1 89 a b c d e x h h' → bh_G E FIN (mm_back (some (.int r)) (g :: t) h')) : bh_G E FIN ((230, 0, [(0, .ref (E.1 + 0)), (1, .int a), (2, .int b), (3, .int c), (4, .int d), (5, .int e)], [], 0, 0) :: g :: t, h, none) := by
  have hx := hL.2.2.1
  refine bp_join (A := fun vo h' => ∃ r v, vo = some (.int r) ∧ wl_W E wl_H v y h' ∧ ((x.toInt + 20 ≤ 2000 ∧ v.toInt = x.toInt + 20 ∧ r.toInt = x.toInt + 20) ∨ (2000 < x.toInt + 20 ∧ v.toInt = x.toInt ∧ r.toInt = -1))) (B := fun _ h' => wt_F 1 89 a b c d e x h h') (fun FIN' k1 => wl_c_feed (gs := bp_mf :: t) hL hd (fun h' r v w z => k1 _ _ ⟨r, v, rfl, w, z⟩)) (fun PO NN k1 => ?_) (fun vo h' p q => ?_)
  · refine bf_fe (n := x.toInt.toNat) (wt_P bf_W wt_bf hL) (by rw [wt_x hL]; omega) (by omega) (fun h' s' A' r hP' z1 z2 => k1 _ _ ⟨fun q => ?_, fun q => ?_, wt_eA (hP'.2.2.2.2.2 89 (by decide) (by decide) (by decide)), wt_eL (hP'.2.2.2.2.2 95 (by decide) (by decide) (by decide))⟩)
    · rw [br_A_eq (hP'.2.2.2.1 (1, 1, 2000) bf_a1)]
      exact (z1 (by omega)).2.2
    · rw [br_A_eq (hP'.2.2.2.1 (1, 1, 2000) bf_a1), (z2 (by omega)).2.2]
  · obtain ⟨r, v, e1, w, z⟩ := p
    subst e1
    exact kk h' r v w z q
theorem wk_c_back {n : Int32} (hL : wl_W E wl_H x y h) (kk : ∀ (h' : mm_H) (r v : Int32), wl_W E wl_H v y h' → ((0 ≤ n.toInt ∧ n.toInt ≤ x.toInt ∧ v.toInt = x.toInt - n.toInt ∧ r.toInt = x.toInt - n.toInt) ∨ ((n.toInt < 0 ∨ x.toInt < n.toInt) ∧ v.toInt = x.toInt ∧ r.toInt = -1)) → wt_K h h' → bh_G E FIN (mm_back (some (.int r)) (g :: t) h')) : bh_G E FIN ((221, 0, [(0, .ref (E.1 + 0)), (1, .int n)], [], 0, 0) :: g :: t, h, none) := by
  refine bp_join (A := fun vo h' => ∃ r v, vo = some (.int r) ∧ wl_W E wl_H v y h' ∧ ((0 ≤ n.toInt ∧ n.toInt ≤ x.toInt ∧ v.toInt = x.toInt - n.toInt ∧ r.toInt = x.toInt - n.toInt) ∨ ((n.toInt < 0 ∨ x.toInt < n.toInt) ∧ v.toInt = x.toInt ∧ r.toInt = -1))) (B := fun _ h' => wt_K h h') (fun FIN' k1 => wl_c_back (gs := bp_mf :: t) hL (fun h' r v w z => k1 _ _ ⟨r, v, rfl, w, z⟩)) (fun PO NN k1 => ?_) (fun vo h' p q => ?_)
  · refine bf_bk (wt_P bf_W wt_bf hL) (fun h' s' r hP' => k1 _ _ ?_)
    exact ⟨br_A_eq (hP'.2.2.2.1 (1, 1, 2000) bf_a1), wt_eA (hP'.2.2.2.2.2 89 (by decide) (by decide) (by decide)), wt_eL (hP'.2.2.2.2.2 95 (by decide) (by decide) (by decide))⟩
  · obtain ⟨r, v, e1, w, z⟩ := p
    subst e1
    exact kk h' r v w z q
theorem wk_m_feed {a b c d e : Int32} (hL : wl_W E wl_H x y h) (hd : (g :: t).length ≤ 900) (kk : ∀ (h' : mm_H) (r v : Int32), wl_W E wl_H x v h' → ((y.toInt + 20 ≤ 2000 ∧ v.toInt = y.toInt + 20 ∧ r.toInt = y.toInt + 20) ∨ (2000 < y.toInt + 20 ∧ v.toInt = y.toInt ∧ r.toInt = -1)) → wt_F 89 1 a b c d e y h h' → bh_G E FIN (mm_back (some (.int r)) (g :: t) h')) : bh_G E FIN ((28, 0, [(0, .ref (E.1 + 88)), (1, .int a), (2, .int b), (3, .int c), (4, .int d), (5, .int e)], [], 0, 0) :: g :: t, h, none) := by
  have hx := hL.2.2.2.1
  refine bp_join (A := fun vo h' => ∃ r v, vo = some (.int r) ∧ wl_W E wl_H x v h' ∧ ((y.toInt + 20 ≤ 2000 ∧ v.toInt = y.toInt + 20 ∧ r.toInt = y.toInt + 20) ∨ (2000 < y.toInt + 20 ∧ v.toInt = y.toInt ∧ r.toInt = -1))) (B := fun _ h' => wt_F 89 1 a b c d e y h h') (fun FIN' k1 => wl_m_feed (gs := bp_mf :: t) hL hd (fun h' r v w z => k1 _ _ ⟨r, v, rfl, w, z⟩)) (fun PO NN k1 => ?_) (fun vo h' p q => ?_)
  · refine bg_fe (n := y.toInt.toNat) (wt_P bg_W wt_bg hL) (by rw [wt_y hL]; omega) (by omega) (fun h' s' A' r hP' z1 z2 => k1 _ _ ⟨fun q => ?_, fun q => ?_, wt_eA (hP'.2.2.2.2.2 1 (by decide) (by decide) (by decide)), wt_eL (hP'.2.2.2.2.2 95 (by decide) (by decide) (by decide))⟩)
    · rw [br_A_eq (hP'.2.2.2.1 (89, 1, 2000) bg_a89)]
      exact (z1 (by omega)).2.2
    · rw [br_A_eq (hP'.2.2.2.1 (89, 1, 2000) bg_a89), (z2 (by omega)).2.2]
  · obtain ⟨r, v, e1, w, z⟩ := p
    subst e1
    exact kk h' r v w z q
theorem wk_m_back {n : Int32} (hL : wl_W E wl_H x y h) (kk : ∀ (h' : mm_H) (r v : Int32), wl_W E wl_H x v h' → ((0 ≤ n.toInt ∧ n.toInt ≤ y.toInt ∧ v.toInt = y.toInt - n.toInt ∧ r.toInt = y.toInt - n.toInt) ∨ ((n.toInt < 0 ∨ y.toInt < n.toInt) ∧ v.toInt = y.toInt ∧ r.toInt = -1)) → wt_K h h' → bh_G E FIN (mm_back (some (.int r)) (g :: t) h')) : bh_G E FIN ((5, 0, [(0, .ref (E.1 + 88)), (1, .int n)], [], 0, 0) :: g :: t, h, none) := by
  refine bp_join (A := fun vo h' => ∃ r v, vo = some (.int r) ∧ wl_W E wl_H x v h' ∧ ((0 ≤ n.toInt ∧ n.toInt ≤ y.toInt ∧ v.toInt = y.toInt - n.toInt ∧ r.toInt = y.toInt - n.toInt) ∨ ((n.toInt < 0 ∨ y.toInt < n.toInt) ∧ v.toInt = y.toInt ∧ r.toInt = -1))) (B := fun _ h' => wt_K h h') (fun FIN' k1 => wl_m_back (gs := bp_mf :: t) hL (fun h' r v w z => k1 _ _ ⟨r, v, rfl, w, z⟩)) (fun PO NN k1 => ?_) (fun vo h' p q => ?_)
  · refine bg_bk (wt_P bg_W wt_bg hL) (fun h' s' r hP' => k1 _ _ ?_)
    exact ⟨wt_eA (hP'.2.2.2.2.2 1 (by decide) (by decide) (by decide)), br_A_eq (hP'.2.2.2.1 (89, 1, 2000) bg_a89), wt_eL (hP'.2.2.2.2.2 95 (by decide) (by decide) (by decide))⟩
  · obtain ⟨r, v, e1, w, z⟩ := p
    subst e1
    exact kk h' r v w z q
def rz_Z (n : Int) (h' : mm_H) : Prop := (br_A h' 97 (wt_s h' 8818).toInt.toNat).toInt = n ∧ (wt_s h' 8865).toInt = 0 ∧ ∀ j, j < 3 → (br_A h' 131 j).toInt = 0
def rz_K (h h' : mm_H) : Prop := wt_s h' 8818 = wt_s h 8818 ∧ (∀ c j, 97 ≤ c → c ≤ 105 → rq_own (wt_s h 8818).toInt.toNat c j → br_A h' c j = br_A h c j) ∧ wt_s h' 8865 = wt_s h 8865 ∧ br_A h' 131 = br_A h 131
/-- what the text tells, as the reference keeps it -/
def rx_O (V : Nat → Int) (ns : List Nat) (ω : Nat → Nat) (h' : mm_H) : Prop := rq_O V ns ω (wt_s h' 8818).toInt.toNat (br_A h')
theorem rx_of {V : Nat → Int} {ns : List Nat} {ω : Nat → Nat} {d : Nat} {A A' : Nat → Nat → Int32} (h : rq_O V ns ω d A') (e : ∀ c, 97 ≤ c → c ≤ 105 → A c = A' c) : rq_O V ns ω d A := by
  unfold rq_O
  rw [e 98 (by decide) (by decide), e 99 (by decide) (by decide), e 100 (by decide) (by decide), e 101 (by decide) (by decide), e 102 (by decide) (by decide), e 103 (by decide) (by decide), e 104 (by decide) (by decide), e 105 (by decide) (by decide)]
  exact h
theorem rz_A {E : mm_E} {h0 h' : mm_H} {s' : Nat → Int32} {A' : Nat → Nat → Int32} {L' : Nat → Nat → Int64} (hP' : bm_P rz_T E h0 h' s' A' L') : ∀ c, 97 ≤ c → c ≤ 105 → br_A h' c = A' c := by
  intro c c1 c2
  rcases (show c = 97 ∨ c = 98 ∨ c = 99 ∨ c = 100 ∨ c = 101 ∨ c = 102 ∨ c = 103 ∨ c = 104 ∨ c = 105 by omega) with rfl | rfl | rfl | rfl | rfl | rfl | rfl | rfl | rfl
  · exact bm_wA hP' rz_a97
  · exact bm_wA hP' rz_a98
  · exact bm_wA hP' rz_a99
  · exact bm_wA hP' rz_a100
  · exact bm_wA hP' rz_a101
  · exact bm_wA hP' rz_a102
  · exact bm_wA hP' rz_a103
  · exact bm_wA hP' rz_a104
  · exact bm_wA hP' rz_a105
theorem wt_bz : wt_ck bz_T := ⟨by decide +kernel, by decide +kernel, by decide +kernel, by decide +kernel, by decide +kernel, by decide +kernel⟩
theorem wt_bw : wt_ck bw_T := ⟨by decide +kernel, by decide +kernel, by decide +kernel, by decide +kernel, by decide +kernel, by decide +kernel⟩
theorem wt_18 {E : mm_E} {x y : Int32} {h : mm_H} (hL : wl_W E wl_H x y h) : 0 ≤ (wt_s h 8818).toInt ∧ (wt_s h 8818).toInt ≤ 1 := by
  obtain ⟨fs, f1, f2, f3⟩ := br_o wl_k1 (hL.2.2.2.2 (fun _ => 0))
  rw [wl_k2] at f2
  obtain ⟨v, e1⟩ : ∃ v, fs[18]? = some v := ⟨_, List.getElem?_eq_getElem (by rw [f2]; decide)⟩
  have g := f3 18 _ e1
  rw [show en_elt (en_get wl_H 88) 18 = 83010348333840465921 from by decide +kernel] at g
  obtain ⟨r, e, g1, g2⟩ := (en_v_rng (by decide) (by decide)).mp g
  subst e
  have hz := en_z_int r
  rw [show (8818 : Nat) = 100 * 88 + 18 from rfl, wt_s_eq (c := 88) (k := 18) (by decide) f1 e1]
  omega
/-- the class reads -/
theorem wk_c_read {X : Nat → Int32} {n : Nat} (hS : ∀ ρ, en_SA E ρ (wl_o x y) mt_SB) (h8 : ∃ q, E.2[8]? = some q) (hST : wt_ST E) (hL : wl_W E wl_H x y h) (hR : wt_R x x h) (hX : br_A h 1 = X) (hn : x.toInt.toNat = n) (hd : (g :: t).length ≤ 900) (kk : ∀ (h' : mm_H) (r : Int32), wl_W E wl_H 0 y h' → (∀ k, 85 ≤ k → h'[k]? = h[k]?) → r.toInt = (py_ft (py_end (fun j => px_kd X n (px_at X n j)) (fun j => px_vl X n (px_at X n j)) (rq_Q X n)) : Int) → (wt_s h' 2).toInt = py_pl (fun j => px_at X n j) (py_end (fun j => px_kd X n (px_at X n j)) (fun j => px_vl X n (px_at X n j)) (rq_Q X n)) → (r.toInt = 0 → bw_Z (((py_end (fun j => px_kd X n (px_at X n j)) (fun j => px_vl X n (px_at X n j)) (rq_Q X n))).2.2.2.2.length : Int) h' ∧ bx_O (fun j => px_vl X n (px_at X n j)) ((py_end (fun j => px_kd X n (px_at X n j)) (fun j => px_vl X n (px_at X n j)) (rq_Q X n))).2.2.2.2 (py_wend (fun j => px_kd X n (px_at X n j)) (fun j => px_vl X n (px_at X n j)) (rq_Q X n)) h' ∧ bd_D ((py_end (fun j => px_kd X n (px_at X n j)) (fun j => px_vl X n (px_at X n j)) (rq_Q X n))).2.2.2.2.length h') → (r.toInt ≠ 0 → bw_K h h') → bh_G E FIN (mm_back (some (.int r)) (g :: t) h')) : bh_G E FIN ((253, 0, [(0, .ref (E.1 + 0))], [], 0, 0) :: g :: t, h, none) := by
  have hx := hL.2.2.1
  have hd2 : (bp_mf :: t).length ≤ 900 := hd
  refine bp_join (A := fun vo h' => ∃ r, vo = some (.int r) ∧ wl_W E wl_H 0 y h' ∧ (∀ k, 85 ≤ k → h'[k]? = h[k]?)) (B := fun vo h' => ∃ r : Int32, vo = some (.int r) ∧ r.toInt = (py_ft (py_end (fun j => px_kd X n (px_at X n j)) (fun j => px_vl X n (px_at X n j)) (rq_Q X n)) : Int) ∧ (wt_s h' 2).toInt = py_pl (fun j => px_at X n j) (py_end (fun j => px_kd X n (px_at X n j)) (fun j => px_vl X n (px_at X n j)) (rq_Q X n)) ∧ (r.toInt = 0 → bw_Z (((py_end (fun j => px_kd X n (px_at X n j)) (fun j => px_vl X n (px_at X n j)) (rq_Q X n))).2.2.2.2.length : Int) h' ∧ bx_O (fun j => px_vl X n (px_at X n j)) ((py_end (fun j => px_kd X n (px_at X n j)) (fun j => px_vl X n (px_at X n j)) (rq_Q X n))).2.2.2.2 (py_wend (fun j => px_kd X n (px_at X n j)) (fun j => px_vl X n (px_at X n j)) (rq_Q X n)) h' ∧ bd_D ((py_end (fun j => px_kd X n (px_at X n j)) (fun j => px_vl X n (px_at X n j)) (rq_Q X n))).2.2.2.2.length h') ∧ (r.toInt ≠ 0 → bw_K h h')) (fun FIN' k1 => wk_c_read0 (gs := bp_mf :: t) hS h8 hL hd2 (fun h' r w k => k1 _ _ ⟨r, rfl, w, k⟩)) (fun PO NN k1 => ?_) (fun vo h' p q => ?_)
  · obtain ⟨q4, q4', q6, q6', a1, a2, a3, a4, a5, a6, a7, a8⟩ := hST
    exact bt_253 a1 a2 a3 a4 a5 a6 a7 a8 hS (wt_P bz_W wt_bz hL) (wt_P bq_W wt_bq hL) (by omega) hX (by rw [wt_x hL]; omega) (by omega) (fun j hj => by rw [← hX]; exact (hR.1 j (by omega)).1) (wt_P bw_W wt_bw hL) (ka_hW bw_hk hL) (fun h' r e b3 b4 b5 => k1 _ _ ⟨r, rfl, e, b3, b4, b5⟩)
  · obtain ⟨r, e1, w, k⟩ := p
    obtain ⟨r2, e2, e3, e4, e5, e6⟩ := q
    subst e1
    cases e2
    exact kk h' r w k e3 e4 e5 e6
/-- the reference reads -/
theorem wk_m_read {X : Nat → Int32} {n : Nat} (hS : ∀ ρ, en_SA E ρ (wl_o x 0) mt_SB) (hL : wl_W E wl_H x y h) (hK : ∀ j, j < 24 → (wt_L h 95 j).toInt = (px_ky j : Nat)) (hX : ∀ j, j < n → (br_A h 89 j).toInt % 256 = (X j).toInt % 256) (hn : y.toInt.toNat = n) (hd : (g :: t).length ≤ 900) (kk : ∀ (h' : mm_H) (r : Int32), wl_W E wl_H x 0 h' → wt_L h' 95 = wt_L h 95 → r.toInt = (py_ft (py_end (fun j => px_kd X n (px_at X n j)) (fun j => px_vl X n (px_at X n j)) (rq_Q X n)) : Int) → (wt_s h' 8817).toInt = py_pl (fun j => px_at X n j) (py_end (fun j => px_kd X n (px_at X n j)) (fun j => px_vl X n (px_at X n j)) (rq_Q X n)) → (∀ k, k < 88 ∨ k = 127 → h'[k]? = h[k]?) → (r.toInt = 0 → rz_Z (((py_end (fun j => px_kd X n (px_at X n j)) (fun j => px_vl X n (px_at X n j)) (rq_Q X n))).2.2.2.2.length : Int) h' ∧ rx_O (fun j => px_vl X n (px_at X n j)) ((py_end (fun j => px_kd X n (px_at X n j)) (fun j => px_vl X n (px_at X n j)) (rq_Q X n))).2.2.2.2 (py_wend (fun j => px_kd X n (px_at X n j)) (fun j => px_vl X n (px_at X n j)) (rq_Q X n)) h') → (r.toInt ≠ 0 → rz_K h h') → bh_G E FIN (mm_back (some (.int r)) (g :: t) h')) : bh_G E FIN ((77, 0, [(0, .ref (E.1 + 88))], [], 0, 0) :: g :: t, h, none) := by
  have hy := hL.2.2.2.1
  have hd2 : (bp_mf :: t).length ≤ 900 := hd
  refine bp_join (A := fun vo h' => ∃ r, vo = some (.int r) ∧ wl_W E wl_H x 0 h') (B := fun vo h' => ∃ r : Int32, vo = some (.int r) ∧ wt_L h' 95 = wt_L h 95 ∧ r.toInt = (py_ft (py_end (fun j => px_kd X n (px_at X n j)) (fun j => px_vl X n (px_at X n j)) (rq_Q X n)) : Int) ∧ (wt_s h' 8817).toInt = py_pl (fun j => px_at X n j) (py_end (fun j => px_kd X n (px_at X n j)) (fun j => px_vl X n (px_at X n j)) (rq_Q X n)) ∧ (∀ k, k < 88 ∨ k = 127 → h'[k]? = h[k]?) ∧ (r.toInt = 0 → rz_Z (((py_end (fun j => px_kd X n (px_at X n j)) (fun j => px_vl X n (px_at X n j)) (rq_Q X n))).2.2.2.2.length : Int) h' ∧ rx_O (fun j => px_vl X n (px_at X n j)) ((py_end (fun j => px_kd X n (px_at X n j)) (fun j => px_vl X n (px_at X n j)) (rq_Q X n))).2.2.2.2 (py_wend (fun j => px_kd X n (px_at X n j)) (fun j => px_vl X n (px_at X n j)) (rq_Q X n)) h') ∧ (r.toInt ≠ 0 → rz_K h h')) (fun FIN' k1 => wl_read (gs := bp_mf :: t) hS hL (by omega) (fun h' r w => k1 _ _ ⟨r, rfl, w⟩)) (fun PO NN k1 => ?_) (fun vo h' p q => ?_)
  · refine rr_77 (wt_P rz_W wt_rz hL) (by rw [wt_y hL]; omega) hX (by omega) hK (wt_18 hL) (fun h' s' A' L' r hP' e ep _ e95 ez ek => k1 _ _ ⟨r, rfl, (wt_L_ar (hP'.2.2.2.2.1 (95, 24) rz_l95)).trans e95, e, ?_, fun k hk => hP'.2.2.2.2.2 k (fun q hq g => absurd ((by decide : ∀ q ∈ rz_T.1, 88 ≤ q.1 ∧ q.1 ≠ 127) q hq) (by omega)) (fun q hq g => absurd ((by decide : ∀ q ∈ rz_T.2.2.2.2.1, 88 ≤ q.1 ∧ q.1 ≠ 127) q hq) (by omega)) (fun q hq g => absurd ((by decide : ∀ q ∈ rz_T.2.2.2.2.2, 88 ≤ q.1 ∧ q.1 ≠ 127) q hq) (by omega)), fun q => ?_, fun q => ?_⟩)
    · rw [show (8817 : Nat) = 100 * 88 + 17 from rfl, bm_ws (c := 88) (k := 17) hP' rz_o88 rz_i88_17]
      exact ep
    · have w1 := bm_ws (c := 88) (k := 18) hP' rz_o88 rz_i88_18
      have w2 := bm_ws (c := 88) (k := 65) hP' rz_o88 rz_i88_65
      have w3 : br_A h' 97 = _ := bm_wA hP' rz_a97
      have w4 : br_A h' 131 = _ := bm_wA hP' rz_a131
      refine ⟨?_, ?_⟩
      · unfold rz_Z
        rw [show (8818 : Nat) = 100 * 88 + 18 from rfl, show (8865 : Nat) = 100 * 88 + 65 from rfl, w1, w2, w3, w4]
        exact (ez q).1
      · unfold rx_O
        rw [show (8818 : Nat) = 100 * 88 + 18 from rfl, w1]
        exact rx_of (ez q).2 (rz_A hP')
    · have w1 := bm_ws (c := 88) (k := 18) hP' rz_o88 rz_i88_18
      have w2 := bm_ws (c := 88) (k := 65) hP' rz_o88 rz_i88_65
      have w3 : br_A h' 97 = _ := bm_wA hP' rz_a97
      have w4 : br_A h' 131 = _ := bm_wA hP' rz_a131
      have k9 := ek q
      refine ⟨w1.trans k9.1, fun c j c1 c2 c3 => ?_, w2.trans k9.2.2.1, w4.trans k9.2.2.2⟩
      rw [rz_A hP' c c1 c2]
      exact k9.2.1 c j c1 c2 c3
  · obtain ⟨r, e1, w⟩ := p
    obtain ⟨r2, e2, k, e3, e4, e5, e6, e7⟩ := q
    subst e1
    cases e2
    exact kk h' r w k e3 e4 e5 e6 e7
end WKR
