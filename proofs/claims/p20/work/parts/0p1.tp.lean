/-! THE TAPES BETWEEN THE LAW'S CALLS (wip/p5/mkp1.py) -/
/-- the int fields of the heap -/
def wt_s (h : mm_H) (K : Nat) : Int32 := match h[K / 100]? with
  | some (.inr (_, fs)) => br_s fs (K % 100)
  | _ => 0
/-- its longs: of arrays and of objects -/
def wt_L (h : mm_H) (c j : Nat) : Int64 := match h[c]? with
  | some (.inl (_, _, .inr (.inl f))) => f j
  | some (.inr (_, fs)) => (match fs[j]? with
    | some (.long v) => v
    | _ => 0)
  | _ => 0
theorem wt_s_eq {h : mm_H} {c ci k : Nat} {fs : List Value} {r : Int32} (hk : k < 100) (e : h[c]? = some (.inr (ci, fs))) (e2 : fs[k]? = some (.int r)) : wt_s h (100 * c + k) = r := by
  unfold wt_s
  rw [show (100 * c + k) / 100 = c by omega, show (100 * c + k) % 100 = k by omega, e]
  show br_s fs k = r
  unfold br_s
  rw [e2]
theorem wt_L_ar {h : mm_H} {c t n : Nat} {f : Nat → Int64} (e : h[c]? = some (.inl (t, n, .inr (.inl f)))) : wt_L h c = f := by
  funext j
  unfold wt_L
  rw [e]
theorem wt_L_ob {h : mm_H} {c ci k : Nat} {fs : List Value} {v : Int64} (e : h[c]? = some (.inr (ci, fs))) (e2 : fs[k]? = some (.long v)) : wt_L h c k = v := by
  unfold wt_L
  rw [e]
  simp only [e2]
theorem wt_o {E : mm_E} {ω : Nat → Value} {h0 h : mm_H} {H : en_H} {ρ : Nat → Int32} {k ci : Nat} (hk0 : k < 136) (hk : en_kind (en_get H k) = ci + 6) (hh : en_h E ρ ω h0 H h) : ∃ fs : List Value, h[k]? = some (.inr (ci, fs)) ∧ fs.length = en_len (en_get H k) ∧ ∀ (j : Nat) (v : Value), fs[j]? = some v → en_v E ρ ω (en_elt (en_get H k) j) v := by
  rcases (hh k).1 hk0 (by rw [hk]; omega) with ⟨t, f, d1, d2, d3, d4⟩ | ⟨f, d1, d2, d3⟩ | ⟨f, d1, d2, d3⟩ | ⟨ci2, fs, d1, d2, d3, d4⟩
  · omega
  · omega
  · omega
  · have e : ci2 = ci := by omega
    subst e
    exact ⟨fs, d2, d3, d4⟩
theorem wt_i {E : mm_E} {ρ : Nat → Int32} {x y : Int32} {c : Nat} {v : Value} (hc : en_isI c = true ∨ c = 17179869184 ∨ c = 17179869185) (hv : en_v E ρ (wl_o x y) c v) : ∃ r : Int32, v = .int r := by
  rcases hc with h | rfl | rfl
  · exact en_isI_int h hv
  · have g := (en_v_opq (by decide) (by decide)).mp hv
    have g : v = .int x := g
    exact ⟨x, g⟩
  · have g := (en_v_opq (by decide) (by decide)).mp hv
    have g : v = .int y := g
    exact ⟨y, g⟩
theorem wt_l {E : mm_E} {ρ : Nat → Int32} {ω : Nat → Value} {v : Value} (hv : en_v E ρ ω 12884901890 v) : ∃ r : Int64, v = .long r := en_v_anyL.mp hv
/-- what a table says is so of the heap between two calls -/
def wt_ck (T : bm_T) : Prop :=
  (∀ q ∈ T.1, q.1 < 136 ∧ en_kind (en_get wl_H q.1) = q.2 + 6) ∧
  (∀ r ∈ T.2.1, r.2.1 < en_len (en_get wl_H r.1) ∧ en_elt (en_get wl_H r.1) r.2.1 = 8589934592 + r.2.2 ∧ r.2.2 < 136) ∧
  (∀ r ∈ T.2.2.1, r.2 < 100 ∧ r.2 < en_len (en_get wl_H r.1) ∧ (en_isI (en_elt (en_get wl_H r.1) r.2) = true ∨ en_elt (en_get wl_H r.1) r.2 = 17179869184 ∨ en_elt (en_get wl_H r.1) r.2 = 17179869185)) ∧
  (∀ r ∈ T.2.2.2.1, r.2 < en_len (en_get wl_H r.1) ∧ en_elt (en_get wl_H r.1) r.2 = 12884901890) ∧
  (∀ q ∈ T.2.2.2.2.1, q ∈ rd_XT ∨ (q.1 < 136 ∧ en_kind (en_get wl_H q.1) = q.2.1 + 1 ∧ q.2.1 < 3 ∧ en_len (en_get wl_H q.1) = q.2.2)) ∧
  (∀ q ∈ T.2.2.2.2.2, q.1 < 136 ∧ en_kind (en_get wl_H q.1) = 4 ∧ en_len (en_get wl_H q.1) = q.2)
theorem wt_P {E : mm_E} {x y : Int32} {h : mm_H} {T : bm_T} (hW : bm_W T) (c : wt_ck T) (hL : wl_W E wl_H x y h) : bm_P T E h h (wt_s h) (br_A h) (wt_L h) := by
  obtain ⟨c1, c2, c3, c4, c5, c6⟩ := c
  obtain ⟨hl, ⟨A0, hA0, hJA⟩, hx, hy, hh⟩ := hL
  have hh := hh (fun _ => 0)
  refine ⟨hW, hl, fun q hq => ?_, fun q hq => ?_, fun q hq => ?_, fun _ _ _ _ => rfl⟩
  · obtain ⟨k1, k2⟩ := c1 q hq
    obtain ⟨fs, f1, f2, f3⟩ := wt_o k1 k2 hh
    refine ⟨fs, fs, f1, f1, rfl, fun _ _ _ => rfl, fun k t hk => ?_, fun k hk => ?_, fun k hk => ?_⟩
    · obtain ⟨m2, m3, m4⟩ := c2 _ hk
      exact br_ref (by rw [f2]; exact m2) f3 m3 m4
    · obtain ⟨m1, m2, m3⟩ := c3 _ hk
      obtain ⟨v, e1⟩ : ∃ v, fs[k]? = some v := ⟨_, List.getElem?_eq_getElem (by rw [f2]; exact m2)⟩
      obtain ⟨r, rfl⟩ := wt_i m3 (f3 k _ e1)
      rw [e1, wt_s_eq m1 f1 e1]
    · obtain ⟨m2, m3⟩ := c4 _ hk
      obtain ⟨v, e1⟩ : ∃ v, fs[k]? = some v := ⟨_, List.getElem?_eq_getElem (by rw [f2]; exact m2)⟩
      have g3 := f3 k _ e1
      have m3 : en_elt (en_get wl_H q.1) k = 12884901890 := m3
      rw [m3] at g3
      obtain ⟨r, rfl⟩ := wt_l g3
      rw [e1, wt_L_ob f1 e1]
  · rcases c5 q hq with m | ⟨m1, m2, m3, m4⟩
    · have g := hA0 q m
      rw [br_A_eq g]
      exact g
    · obtain ⟨f, g, -⟩ := br_a m1 m2 m3 m4 hh
      rw [br_A_eq g]
      exact g
  · obtain ⟨m1, m2, m3⟩ := c6 q hq
    obtain ⟨f, g⟩ := br_l4 m1 m2 m3 hh
    rw [wt_L_ar g]
    exact g
theorem wt_x {E : mm_E} {x y : Int32} {h : mm_H} (hL : wl_W E wl_H x y h) : wt_s h 1 = x := by
  obtain ⟨fs, f1, f2, f3⟩ := br_o0 wl_c1 (hL.2.2.2.2 (fun _ => 0))
  rw [wl_c2] at f2
  obtain ⟨v, e1⟩ : ∃ v, fs[1]? = some v := ⟨_, List.getElem?_eq_getElem (by rw [f2]; decide)⟩
  have g := f3 1 _ e1
  rw [wl_c7] at g
  have g := (en_v_opq (by decide) (by decide)).mp g
  have g : v = .int x := g
  subst g
  exact wt_s_eq (c := 0) (by decide) f1 e1
theorem wt_y {E : mm_E} {x y : Int32} {h : mm_H} (hL : wl_W E wl_H x y h) : wt_s h 8802 = y := by
  obtain ⟨fs, f1, f2, f3⟩ := br_o wl_k1 (hL.2.2.2.2 (fun _ => 0))
  rw [wl_k2] at f2
  obtain ⟨v, e1⟩ : ∃ v, fs[2]? = some v := ⟨_, List.getElem?_eq_getElem (by rw [f2]; decide)⟩
  have g := f3 2 _ e1
  rw [wl_k5] at g
  have g := (en_v_opq (by decide) (by decide)).mp g
  have g : v = .int y := g
  subst g
  exact wt_s_eq (c := 88) (by decide) f1 e1
theorem wt_bf : wt_ck bf_T := ⟨by decide +kernel, by decide +kernel, by decide +kernel, by decide +kernel, by decide +kernel, by decide +kernel⟩
theorem wt_bg : wt_ck bg_T := ⟨by decide +kernel, by decide +kernel, by decide +kernel, by decide +kernel, by decide +kernel, by decide +kernel⟩
theorem wt_bq : wt_ck bq_T := ⟨by decide +kernel, by decide +kernel, by decide +kernel, by decide +kernel, by decide +kernel, by decide +kernel⟩
theorem wt_rz : wt_ck rz_T := ⟨by decide +kernel, by decide +kernel, by decide +kernel, by decide +kernel, by decide +kernel, by decide +kernel⟩
/-- the three rows are as they were -/
def wt_K (h h' : mm_H) : Prop := br_A h' 1 = br_A h 1 ∧ br_A h' 89 = br_A h 89 ∧ wt_L h' 95 = wt_L h 95
theorem wt_K_of {h h' : mm_H} (a : h'[1]? = h[1]?) (b : h'[89]? = h[89]?) (c : h'[95]? = h[95]?) : wt_K h h' := by
  refine ⟨?_, ?_, ?_⟩
  · unfold br_A
    rw [a]
  · unfold br_A
    rw [b]
  · funext j
    unfold wt_L
    rw [c]
/-- both tapes, and the keys -/
def wt_R (x y : Int32) (h : mm_H) : Prop := fb_R x.toInt.toNat y.toInt.toNat (br_A h 1) (br_A h 89) ∧ ∀ j, j < 24 → (wt_L h 95 j).toInt = (px_ky j : Nat)
theorem wt_RK {x y : Int32} {h h' : mm_H} (hR : wt_R x y h) (hK : wt_K h h') : wt_R x y h' := by
  unfold wt_R
  rw [hK.1, hK.2.1, hK.2.2]
  exact hR
/-- a call by a contract, and what it cannot write -/
theorem wl_callk {E : mm_E} {x y : Int32} {M : sf_M} {n dp : Nat} {Hi Ho : en_H} {FIN : mm_C → Prop} (hK : sf_Kok E (wl_o x y) rd_Jh n dp 133 M) (hin : sf_cells (sf_w0 0 0) Hi M.2.2.1 M.2.2.2.2.1 = true) (hout : sf_cells (sf_w0 0 0) M.2.2.2.1 Ho M.2.2.2.2.1 = true) (hio : ∀ k, k < 136 → k ∉ M.2.2.2.2.1 → en_get Ho k = en_get Hi k) (hX : ∀ k ∈ sf_X, k ∉ M.2.2.2.2.1) (hn : sf_nlh Hi 136 = true) (hn2 : sf_nlh Ho 136 = true) {cs : List (List mm_I)} {nL : Nat} {dd : mm_M} (hP : mt_P[M.1 / 65536]? = some (cs, nL, dd)) {lv : mm_V} {gs : List mm_F} {h : mm_H} {o : Option Value} (hL : wl_W E Hi x y h) (hloc : ∀ ρ, en_lr E ρ (wl_o x y) nL M.2.1 lv) (hd : gs.length + 0 + 1 + dp ≤ 1000) (kk : ∀ (vo : Option Value) (h' : mm_H), wl_W E Ho x y h' → (∀ k, k ∉ M.2.2.2.2.1 → h'[k]? = h[k]?) → (∀ ρ, en_vo E ρ (wl_o x y) M.2.2.2.2.2 vo) → en_Good E mt_kds mt_P 1000 FIN (mm_back vo gs h')) : en_Good E mt_kds mt_P 1000 FIN ((M.1 / 65536, M.1 % 65536, lv, [], 0, 0) :: gs, h, o) := by
  obtain ⟨-, hnl, hcov, hcov2, hlt, hKK⟩ := hK
  obtain ⟨hl, hJ, hx, hy, hh⟩ := hL
  have hc := sf_cov_t 136 hcov
  have hc2 := sf_cov_t 136 hcov2
  have hi := sf_cells_t _ hin
  have ho := sf_cells_t _ hout
  have he : ∀ ρ : Nat → Int32, en_e ρ (en_ev (sf_w0 0 0)) := fun ρ => sf_full_e ρ 40
  refine hKK h gs FIN _ hJ (fun ρ => ⟨lv, [], gs, h, o, rfl, ⟨cs, nL, dd, hP, hloc ρ⟩, trivial, fun k => ⟨fun hk hkd => ?_, fun _ => rfl⟩, sf_full_e ρ 40, hl, hd, rfl⟩) (fun vo h' hq hl' => kk vo h' ⟨hl', rd_JX h h' (fun k hk => ?_) hJ, hx, hy, fun ρ k => ⟨fun hk hkd => ?_, fun _ => rfl⟩⟩ (fun k hm => ((hq (fun _ => 0)).2 k).2 (fun g => hm ((hc2 k g.1).mpr g.2))) (fun ρ => (hq ρ).1))
  · have hm := (hc k hk).mpr hkd
    exact sf_cell_v ρ (he ρ) (sf_nlh_t _ hnl k hk) (hi k hm) ((hh ρ k).1 hk (by rw [sf_cell_kind (hi k hm)]; exact hkd))
  · exact (((hq (fun _ => 0)).2 k).2 (fun g => hX k hk ((hc2 k g.1).mpr g.2))).symm
  · by_cases hm : k ∈ M.2.2.2.2.1
    · have hkm := (hc2 k hk).mp hm
      exact sf_cell_v ρ (he ρ) (sf_nlh_t _ hn2 k hk) (ho k hm) (((hq ρ).2 k).1 hk hkm)
    · have e := ((hq ρ).2 k).2 (fun g => hm ((hc2 k g.1).mpr g.2))
      rw [e, hio k hk hm]
      rw [hio k hk hm] at hkd
      exact (hh ρ k).1 hk hkd
