/-! THE TEXT: what both sides hold alike of what is told (wip/p8, by hand) -/
/-- what is told stands alike on both sides, within its bounds -/
def rb_T (h : mm_H) : Prop := (∀ i : Nat, (i : Int) < (wt_s h 204).toInt → (∀ p, p < 4 → br_A h 8 (4 * i + p) = br_A h 98 (4 * (6 * (wt_s h 8818).toInt.toNat + i) + p) ∧ 0 ≤ (br_A h 8 (4 * i + p)).toInt ∧ (br_A h 8 (4 * i + p)).toInt ≤ 9) ∧ br_A h 9 i = br_A h 99 (6 * (wt_s h 8818).toInt.toNat + i) ∧ 0 ≤ (br_A h 9 i).toInt ∧ (br_A h 9 i).toInt ≤ 9) ∧
  (wt_s h 205 = br_A h 100 (wt_s h 8818).toInt.toNat ∧ wt_s h 206 = br_A h 101 (wt_s h 8818).toInt.toNat ∧ wt_s h 207 = br_A h 102 (wt_s h 8818).toInt.toNat ∧ wt_s h 208 = br_A h 103 (wt_s h 8818).toInt.toNat ∧ wt_s h 209 = br_A h 104 (wt_s h 8818).toInt.toNat ∧ wt_s h 210 = br_A h 105 (wt_s h 8818).toInt.toNat) ∧
  (1 ≤ (wt_s h 205).toInt ∧ (wt_s h 205).toInt ≤ 99) ∧ (0 ≤ (wt_s h 206).toInt ∧ (wt_s h 206).toInt ≤ 999) ∧ (0 ≤ (wt_s h 207).toInt ∧ (wt_s h 207).toInt ≤ 99) ∧ (1 ≤ (wt_s h 208).toInt ∧ (wt_s h 208).toInt ≤ 999) ∧ (0 ≤ (wt_s h 209).toInt ∧ (wt_s h 209).toInt ≤ 9999) ∧ 0 ≤ (wt_s h 210).toInt ∧ (wt_s h 210).toInt ≤ 9999
/-- the draws that are dealt -/
def rd_D (h : mm_H) : Prop := bd_D (wt_s h 204).toInt.toNat h
def rb_R (h : mm_H) : Prop := ra_R h ∧ rb_T h ∧ rd_D h
section RB
variable {E : mm_E} {x y : Int32} {h h1 h2 : mm_H} {r r' : Int32}
/-- the cells that it speaks of are as they were -/
theorem rb_Te (e2 : ∀ k, 204 ≤ k → k ≤ 210 → wt_s h2 k = wt_s h k) (e3 : wt_s h2 8818 = wt_s h 8818) (e4 : br_A h2 8 = br_A h 8) (e5 : br_A h2 9 = br_A h 9) (e6 : ∀ c j, 98 ≤ c → c ≤ 105 → rq_own (wt_s h 8818).toInt.toNat c j → br_A h2 c j = br_A h c j) (hm : (wt_s h 204).toInt ≤ 6) (hT : rb_T h) : rb_T h2 := by
  obtain ⟨t1, ⟨t2, t3, t4, t5, t6, t7⟩, t8⟩ := hT
  unfold rb_T
  rw [e2 204 (by decide) (by decide), e2 205 (by decide) (by decide), e2 206 (by decide) (by decide), e2 207 (by decide) (by decide), e2 208 (by decide) (by decide), e2 209 (by decide) (by decide), e2 210 (by decide) (by decide), e3, e4, e5]
  have d : ∀ c, 98 ≤ c → c ≤ 105 → c ≠ 98 → c ≠ 99 → br_A h2 c (wt_s h 8818).toInt.toNat = br_A h c (wt_s h 8818).toInt.toNat := fun c c1 c2 c3 c4 => e6 c _ c1 c2 (Or.inr (Or.inr ⟨c3, c4, rfl⟩))
  refine ⟨fun i hi => ⟨fun p hp => ?_, ?_, ((t1 i hi).2).2⟩, ⟨by rw [d 100 (by decide) (by decide) (by decide) (by decide)]; exact t2, by rw [d 101 (by decide) (by decide) (by decide) (by decide)]; exact t3, by rw [d 102 (by decide) (by decide) (by decide) (by decide)]; exact t4, by rw [d 103 (by decide) (by decide) (by decide) (by decide)]; exact t5, by rw [d 104 (by decide) (by decide) (by decide) (by decide)]; exact t6, by rw [d 105 (by decide) (by decide) (by decide) (by decide)]; exact t7⟩, t8⟩
  · rw [e6 98 _ (by decide) (by decide) (Or.inl ⟨rfl, by omega, by omega⟩)]
    exact (t1 i hi).1 p hp
  · rw [e6 99 _ (by decide) (by decide) (Or.inr (Or.inl ⟨rfl, by omega, by omega⟩))]
    exact (t1 i hi).2.1
/-- a call that writes none of it -/
theorem rb_Tk {F : Nat → Nat → Bool} {K : List Nat} (hL : wl_W E wl_H x y h) (hF : kp_F F h h1) (hA : ka_F K h h1) (f : ∀ k, 4 ≤ k → k ≤ 10 → F 6 k = true) (f18 : F 9 18 = true) (k : ∀ c, c = 8 ∨ c = 9 ∨ (98 ≤ c ∧ c ≤ 105) → c ∈ K) (hT : rb_T h) : rb_T h1 := by
  refine rb_Te (fun k k1 k2 => ?_) (kp_ws (c := 88) (k := 18) (by decide) (wq_o88 hL) hF f18) (ka_wA hA (k 8 (by omega))) (ka_wA hA (k 9 (by omega))) (fun c j c1 c2 _ => by rw [ka_wA hA (k c (by omega))]) (ra_men hL).2 hT
  obtain ⟨i, rfl⟩ : ∃ i, k = 100 * 2 + i := ⟨k - 200, by omega⟩
  exact kp_ws (c := 2) (k := i) (by omega) (wq_o2 hL) hF (f i (by omega) (by omega))
theorem wq_o31 (hL : wl_W E wl_H x y h) : ∃ fs : List Value, h[31]? = some (.inr (0, fs)) := wq_o (by decide) (by decide +kernel) hL
theorem rd_De (e2 : wt_s h2 204 = wt_s h 204) (e6 : wt_s h2 3106 = wt_s h 3106) (e32 : br_A h2 32 = br_A h 32) (hT : rd_D h) : rd_D h2 := by
  unfold rd_D bd_D
  rw [e2, e6, e32]
  exact hT
theorem rd_Tk {F : Nat → Nat → Bool} {K : List Nat} (hL : wl_W E wl_H x y h) (hF : kp_F F h h1) (hA : ka_F K h h1) (f : F 6 4 = true) (f0 : F 0 6 = true) (k : 32 ∈ K) (hT : rd_D h) : rd_D h1 := rd_De (kp_ws (c := 2) (k := 4) (by decide) (wq_o2 hL) hF f) (kp_ws (c := 31) (k := 6) (by decide) (wq_o31 hL) hF f0) (ka_wA hA k) hT
theorem rb_fk {F : Nat → Nat → Bool} (h : (F 6 4 && (F 6 5 && (F 6 6 && (F 6 7 && (F 6 8 && (F 6 9 && F 6 10)))))) = true) : ∀ k, 4 ≤ k → k ≤ 10 → F 6 k = true := by
  simp only [Bool.and_eq_true] at h
  obtain ⟨a, b, c, d, e, f, g⟩ := h
  intro k k1 k2
  rcases (show k = 4 ∨ k = 5 ∨ k = 6 ∨ k = 7 ∨ k = 8 ∨ k = 9 ∨ k = 10 by omega) with rfl | rfl | rfl | rfl | rfl | rfl | rfl
  · exact a
  · exact b
  · exact c
  · exact d
  · exact e
  · exact f
  · exact g
theorem rb_kk {K : List Nat} (h : 8 ∈ K ∧ 9 ∈ K ∧ ∀ i, i < 8 → 98 + i ∈ K) : ∀ c, c = 8 ∨ c = 9 ∨ (98 ≤ c ∧ c ≤ 105) → c ∈ K := by
  rintro c (rfl | rfl | ⟨c1, c2⟩)
  · exact h.1
  · exact h.2.1
  · have g := h.2.2 (c - 98) (by omega)
    rw [show 98 + (c - 98) = c by omega] at g
    exact g
theorem rb_q0 (hL : wl_W E wl_H x y h) (hQ : rb_R h) (hF : kp_F q0_F h h1) (hA : ka_F q0_K h h1) : rb_R h1 := ⟨ra_q0 hL hQ.1 hF hA, rb_Tk hL hF hA (rb_fk (by decide)) (by decide) (rb_kk (by decide)) hQ.2.1, rd_Tk hL hF hA (by decide) (by decide) (by decide) hQ.2.2⟩
theorem rb_tell {a : Int32} (hL : wl_W E wl_H x y h) (hL1 : wl_W E wl_H x y h1) (hQ : rb_R h) (F1 : kp_F tc_F h h1) (K1 : ka_F tc_K h h1) (B1 : kd_Ptl (wt_s h 204) (wt_s h 8403) (br_A h 85) a r (wt_s h1 8403) (br_A h1 85)) (F2 : kp_F tm_F h1 h2) (K2 : ka_F tm_K h1 h2) (B2 : kd_Ptl (br_A h1 97 (wt_s h1 8818).toInt.toNat) (wt_s h1 8865) (br_A h1 127) a r' (wt_s h2 8865) (br_A h2 127)) : r = r' ∧ rb_R h2 := by
  have g := ra_tell hL hL1 hQ.1 F1 K1 B1 F2 K2 B2
  exact ⟨g.1, g.2, rb_Tk hL1 F2 K2 (rb_fk (by decide)) (by decide) (rb_kk (by decide)) (rb_Tk hL F1 K1 (rb_fk (by decide)) (by decide) (rb_kk (by decide)) hQ.2.1), rd_Tk hL1 F2 K2 (by decide) (by decide) (by decide) (rd_Tk hL F1 K1 (by decide) (by decide) (by decide) hQ.2.2)⟩
theorem rb_forget (hL : wl_W E wl_H x y h) (hL1 : wl_W E wl_H x y h1) (hQ : rb_R h) (F1 : kp_F tc_F h h1) (K1 : ka_F tc_K h h1) (B1 : (wt_s h1 8403).toInt = 0) (F2 : kp_F tm_F h1 h2) (K2 : ka_F tm_K h1 h2) (B2 : (wt_s h2 8865).toInt = 0) : rb_R h2 :=
  ⟨ra_forget hL hL1 hQ.1 F1 K1 B1 F2 K2 B2, rb_Tk hL1 F2 K2 (rb_fk (by decide)) (by decide) (rb_kk (by decide)) (rb_Tk hL F1 K1 (rb_fk (by decide)) (by decide) (rb_kk (by decide)) hQ.2.1), rd_Tk hL1 F2 K2 (by decide) (by decide) (by decide) (rd_Tk hL F1 K1 (by decide) (by decide) (by decide) hQ.2.2)⟩
theorem rb_hold {p : Int32} (hL : wl_W E wl_H x y h) (hL1 : wl_W E wl_H x y h1) (hQ : rb_R h) (F1 : kp_F hc_F h h1) (K1 : ka_F hc_K h h1) (B1 : kd_Phd (br_A h 83) (br_A h1 83) p) (F2 : kp_F hm_F h1 h2) (K2 : ka_F hm_K h1 h2) (B2 : kd_Phd (br_A h1 131) (br_A h2 131) p) : rb_R h2 :=
  ⟨ra_hold hL hL1 hQ.1 F1 K1 B1 F2 K2 B2, rb_Tk hL1 F2 K2 (rb_fk (by decide)) (by decide) (rb_kk (by decide)) (rb_Tk hL F1 K1 (rb_fk (by decide)) (by decide) (rb_kk (by decide)) hQ.2.1), rd_Tk hL1 F2 K2 (by decide) (by decide) (by decide) (rd_Tk hL F1 K1 (by decide) (by decide) (by decide) hQ.2.2)⟩
theorem rb_likely {a p b : Int32} (hL : wl_W E wl_H x y h) (hQ1 : rb_R h1) (F1 : kp_F q0_F h h1) (K1 : ka_F q0_K h h1) (B1 : kd_Plk (wt_s h 204) a p b r) (B2 : kd_Plk (br_A h1 97 (wt_s h1 8818).toInt.toNat) a p b r') : r = r' := ra_likely hL hQ1.1 F1 K1 B1 B2
theorem rb_surely {p : Int32} (hL : wl_W E wl_H x y h) (hQ1 : rb_R h1) (F1 : kp_F q0_F h h1) (K1 : ka_F q0_K h h1) (B1 : kd_Psu (wt_s h 204) p r) (B2 : kd_Psu (br_A h1 97 (wt_s h1 8818).toInt.toNat) p r') : r = r' := ra_surely hL hQ1.1 F1 K1 B1 B2
theorem rb_cheats {a k b : Int32} (hL : wl_W E wl_H x y h) (hQ1 : rb_R h1) (F1 : kp_F q0_F h h1) (K1 : ka_F q0_K h h1) (B1 : kd_Pch (wt_s h 204) (wt_s h 8403) (br_A h 85) a k b r) (B2 : kd_Pch (br_A h1 97 (wt_s h1 8818).toInt.toNat) (wt_s h1 8865) (br_A h1 127) a k b r') : r = r' := ra_cheats hL hQ1.1 F1 K1 B1 B2
theorem rb_restore {p : Int32} (hL : wl_W E wl_H x y h) (hQ1 : rb_R h1) (F1 : kp_F q0_F h h1) (K1 : ka_F q0_K h h1) (B1 : kd_Prs (br_A h 83) p r) (B2 : kd_Prs (br_A h1 131) p r') : r = r' := ra_restore hL hQ1.1 F1 K1 B1 B2
/-- both sides have read the same text -/
theorem rb_rd {V : Nat → Int} {ns : List Nat} {ω : Nat → Nat} (hn : (wt_s h 204).toInt = (ns.length : Int)) (hc : bx_O V ns ω h) (hm : rx_O V ns ω h) (hg : py_RG V ns ω) : rb_T h := by
  obtain ⟨c1, c2, c3, c4, c5, c6, c7⟩ := hc
  obtain ⟨m1, m2, m3, m4, m5, m6, m7⟩ := hm
  obtain ⟨g1, g2, g3, g4, g5, g6, g7⟩ := hg
  refine ⟨fun i hi => ?_, ⟨kd_ti (c2.trans m2.symm), kd_ti (c3.trans m3.symm), kd_ti (c4.trans m4.symm), kd_ti (c5.trans m5.symm), kd_ti (c6.trans m6.symm), kd_ti (c7.trans m7.symm)⟩, by rw [c2]; exact g2, by rw [c3]; exact g3, by rw [c4]; exact g4, by rw [c5]; exact g5, by rw [c6]; exact g6, by rw [c7]; exact g7⟩
  have hi : i < ns.length := by omega
  refine ⟨fun p hp => ⟨kd_ti (((c1 i hi).1 p hp).trans ((m1 i hi).1 p hp).symm), by rw [(c1 i hi).1 p hp]; exact g1 i hi p (by omega)⟩, kd_ti ((c1 i hi).2.trans (m1 i hi).2.symm), by rw [(c1 i hi).2]; exact g1 i hi 4 (by decide)⟩
theorem rb_read {K V : Nat → Int} {Q : Nat → Nat → Bool} (hL : wl_W E wl_H x y h) (hQ : rb_R h) (hr : r.toInt = (py_ft (py_end K V Q) : Int)) (hr' : r.toInt = r'.toInt) (k1 : ∀ k, 85 ≤ k → h1[k]? = h[k]?) (k2 : ∀ k, k < 88 ∨ k = 127 → h2[k]? = h1[k]?) (z1 : r.toInt = 0 → bw_Z ((py_end K V Q).2.2.2.2.length : Int) h1 ∧ bx_O V (py_end K V Q).2.2.2.2 (py_wend K V Q) h1 ∧ bd_D (py_end K V Q).2.2.2.2.length h1) (z2 : r.toInt ≠ 0 → bw_K h h1) (z3 : r'.toInt = 0 → rz_Z ((py_end K V Q).2.2.2.2.length : Int) h2 ∧ rx_O V (py_end K V Q).2.2.2.2 (py_wend K V Q) h2) (z4 : r'.toInt ≠ 0 → rz_K h1 h2) : rb_R h2 := by
  refine ⟨ra_read hQ.1 hr' k1 k2 (fun q => (z1 q).1) z2 (fun q => (z3 q).1) z4, ?_, ?_⟩
  rotate_left
  · by_cases q : r.toInt = 0
    · have a := z1 q
      have e : (wt_s h2 204).toInt.toNat = (py_end K V Q).2.2.2.2.length := by
        rw [show wt_s h2 204 = wt_s h1 204 from wt_es (k2 2 (by omega)), a.1.1]
        omega
      unfold rd_D bd_D
      rw [e, show wt_s h2 3106 = wt_s h1 3106 from wt_es (k2 31 (by omega)), show br_A h2 32 = br_A h1 32 from wt_eA (k2 32 (by omega))]
      exact a.2.2
    · obtain ⟨y1, y2, y3, y4, y5, y6, y7⟩ := z2 q
      exact rd_De ((show wt_s h2 204 = wt_s h1 204 from wt_es (k2 2 (by omega))).trans y1) ((show wt_s h2 3106 = wt_s h1 3106 from wt_es (k2 31 (by omega))).trans y7) ((show br_A h2 32 = br_A h1 32 from wt_eA (k2 32 (by omega))).trans (y6 32 (by omega))) hQ.2.2
  have es : ∀ k, k / 100 < 88 → wt_s h2 k = wt_s h1 k := fun k hk => wt_es (k2 _ (Or.inl hk))
  have e8 : br_A h2 8 = br_A h1 8 := wt_eA (k2 8 (by omega))
  have e9 : br_A h2 9 = br_A h1 9 := wt_eA (k2 9 (by omega))
  by_cases q : r.toInt = 0
  · have a := z1 q
    have b := z3 (by omega)
    have ft := py_RG_ft (hr.symm.trans q)
    refine rb_rd (by rw [es 204 (by decide)]; exact a.1.1) ?_ b.2 (py_RG_end ft.1 ft.2)
    obtain ⟨c1, c2, c3, c4, c5, c6, c7⟩ := a.2.1
    unfold bx_O
    rw [e8, e9, es 205 (by decide), es 206 (by decide), es 207 (by decide), es 208 (by decide), es 209 (by decide), es 210 (by decide)]
    exact ⟨c1, c2, c3, c4, c5, c6, c7⟩
  · obtain ⟨y1, y2, y3, y4, y5, y6, -⟩ := z2 q
    obtain ⟨x1, x2, x3, x4⟩ := z4 (by omega)
    have d1 : wt_s h1 8818 = wt_s h 8818 := wt_es (k1 88 (by omega))
    refine rb_Te (fun k a1 a2 => ?_) (x1.trans d1) (e8.trans (y6 8 (by omega))) (e9.trans (y6 9 (by omega))) (fun c j c1 c2 o => ?_) (ra_men hL).2 hQ.2.1
    · rw [es k (by omega)]
      by_cases e : k = 204
      · rw [e]
        exact y1
      · exact y4 k (by omega) a2
    · rw [x2 c j (by omega) c2 (by rw [d1]; exact o), wt_eA (k1 c (by omega))]
end RB
