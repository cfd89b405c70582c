/-! PARTIAL: the class reads, exact (wip/p5/mkq9.py) -/
def bz_T : bm_T := ([(0, 8), (2, 6), (20, 4), (25, 5), (28, 5), (31, 0), (37, 3), (84, 2)], [(0, 0, 1), (0, 3, 2), (0, 4, 11), (0, 5, 20), (0, 6, 25), (0, 7, 28), (0, 8, 31), (0, 9, 37), (0, 10, 84)], [(0, 1), (0, 2)], [], [], [])
theorem bz_o0 : (0, 8) ∈ bz_T.1 := by decide
theorem bz_o2 : (2, 6) ∈ bz_T.1 := by decide
theorem bz_o20 : (20, 4) ∈ bz_T.1 := by decide
theorem bz_o25 : (25, 5) ∈ bz_T.1 := by decide
theorem bz_o28 : (28, 5) ∈ bz_T.1 := by decide
theorem bz_o31 : (31, 0) ∈ bz_T.1 := by decide
theorem bz_o37 : (37, 3) ∈ bz_T.1 := by decide
theorem bz_o84 : (84, 2) ∈ bz_T.1 := by decide
theorem bz_r0_0 : (0, 0, 1) ∈ bz_T.2.1 := by decide
theorem bz_r0_3 : (0, 3, 2) ∈ bz_T.2.1 := by decide
theorem bz_r0_4 : (0, 4, 11) ∈ bz_T.2.1 := by decide
theorem bz_r0_5 : (0, 5, 20) ∈ bz_T.2.1 := by decide
theorem bz_r0_6 : (0, 6, 25) ∈ bz_T.2.1 := by decide
theorem bz_r0_7 : (0, 7, 28) ∈ bz_T.2.1 := by decide
theorem bz_r0_8 : (0, 8, 31) ∈ bz_T.2.1 := by decide
theorem bz_r0_9 : (0, 9, 37) ∈ bz_T.2.1 := by decide
theorem bz_r0_10 : (0, 10, 84) ∈ bz_T.2.1 := by decide
theorem bz_i0_1 : (0, 1) ∈ bz_T.2.2.1 := by decide
theorem bz_i0_2 : (0, 2) ∈ bz_T.2.2.1 := by decide
theorem bz_W : bm_W bz_T := by unfold bm_W; decide
def bz_F : Nat → Nat → Bool := fun ci _ => Nat.beq ci 8
def bz_S : List Nat := [116, 117, 133, 149, 153, 154, 168, 180, 194, 201, 265, 287, 289]
theorem bz_chk : kp_chk bz_S bz_F mt_P = true := by decide +kernel
theorem bz_r0 : ∀ r ∈ bz_T.2.1, r.1 = 0 := by decide
theorem bz_i0 : ∀ r ∈ bz_T.2.2.1, r.1 = 0 := by decide
theorem bz_o8 : ∀ q ∈ bz_T.1, q.1 = 0 → q.2 = 8 := by decide
theorem bz_f0 : bz_T.2.2.2.1 = [] := rfl
theorem bz_of {E : mm_E} {h' : mm_H} {s : Nat → Int32} {A : Nat → Nat → Int32} {L : Nat → Nat → Int64} (hl : h'.length = 133) (hO : ∀ q ∈ bz_T.1, ∃ fs : List Value, h'[q.1]? = some (.inr (q.2, fs)) ∧ (q.1 = 0 → (∀ k t, (0, k, t) ∈ bz_T.2.1 → fs[k]? = some (.ref (E.1 + t))) ∧ (∀ k, (0, k) ∈ bz_T.2.2.1 → fs[k]? = some (.int (s k))))) : bm_P bz_T E h' h' s A L := by
  refine ⟨bz_W, hl, fun q hq => ?_, fun q hq => (List.not_mem_nil hq).elim, fun q hq => (List.not_mem_nil hq).elim, fun _ _ _ _ => rfl⟩
  obtain ⟨fs, e, g⟩ := hO q hq
  refine ⟨fs, fs, e, e, rfl, fun _ _ _ => rfl, fun k t hk => ?_, fun k hk => ?_, fun k hk => (List.not_mem_nil hk).elim⟩
  · have z : q.1 = 0 := bz_r0 _ hk
    rw [z] at hk
    exact (g z).1 k t hk
  · have z : q.1 = 0 := bz_i0 (q.1, k) hk
    rw [z] at hk ⊢
    rw [(g z).2 k hk, Nat.mul_zero, Nat.zero_add]
theorem bz_at {E : mm_E} {h0 h : mm_H} {s : Nat → Int32} {A : Nat → Nat → Int32} {L : Nat → Nat → Int64} (hP : bm_P bz_T E h0 h s A L) : ∀ q ∈ bz_T.1, ∃ fs : List Value, h[q.1]? = some (.inr (q.2, fs)) ∧ (q.1 = 0 → (∀ k t, (0, k, t) ∈ bz_T.2.1 → fs[k]? = some (.ref (E.1 + t))) ∧ (∀ k, (0, k) ∈ bz_T.2.2.1 → fs[k]? = some (.int (s k)))) := by
  intro q hq
  obtain ⟨fs0, fs, a1, a2, a3, a4, a5, a6, a7⟩ := hP.2.2.1 q hq
  refine ⟨fs, a2, fun z => ⟨fun k t hk => a5 k t (by rw [z]; exact hk), fun k hk => ?_⟩⟩
  have b := a6 k (by rw [z]; exact hk)
  rw [z, Nat.mul_zero, Nat.zero_add] at b
  exact b
theorem bz_re {E : mm_E} {h0 h h' : mm_H} {s : Nat → Int32} {A : Nat → Nat → Int32} {L : Nat → Nat → Int64} (hP : bm_P bz_T E h0 h s A L) (hF : kp_F bz_F h h') : bm_P bz_T E h' h' s A L := by
  refine bz_of (hF.1.trans hP.2.1) (fun q hq => ?_)
  obtain ⟨fs, e, g⟩ := bz_at hP q hq
  obtain ⟨fs', e', -, k'⟩ := hF.2 _ _ _ e
  refine ⟨fs', e', fun z => ?_⟩
  have c8 : ∀ k, bz_F q.2 k = true := fun k => by
    rw [bz_o8 q hq z]
    rfl
  exact ⟨fun k t hk => (k' k (c8 k)).trans ((g z).1 k t hk), fun k hk => (k' k (c8 k)).trans ((g z).2 k hk)⟩
theorem bz_q {E : mm_E} {h0 h h' : mm_H} {s sq : Nat → Int32} {A Aq : Nat → Nat → Int32} {L Lq : Nat → Nat → Int64} (hP : bm_P bz_T E h0 h s A L) (hQ : bm_P bq_T E h h' sq Aq Lq) : bm_P bz_T E h' h' s A L := by
  refine bz_of hQ.2.1 (fun q hq => ?_)
  by_cases c : q.1 = 20
  · have e : q = (20, 4) := (by decide : ∀ q ∈ bz_T.1, q.1 = 20 → q = (20, 4)) q hq c
    subst e
    obtain ⟨fs0, fs, a1, a2, -⟩ := hQ.2.2.1 (20, 4) bq_o20
    exact ⟨fs, a2, fun z => by cases z⟩
  · obtain ⟨fs, e, g⟩ := bz_at hP q hq
    have d := (by decide : ∀ q ∈ bz_T.1, q.1 ≠ 20 → (∀ p ∈ bq_T.1, p.1 ≠ q.1) ∧ (∀ p ∈ bq_T.2.2.2.2.1, p.1 ≠ q.1) ∧ (∀ p ∈ bq_T.2.2.2.2.2, p.1 ≠ q.1)) q hq c
    exact ⟨fs, (hQ.2.2.2.2.2 q.1 d.1 d.2.1 d.2.2).trans e, g⟩
def bw_T : bm_T := ([(0, 8), (2, 6), (3, 1), (11, 6), (12, 1), (25, 5), (31, 0), (37, 3), (84, 2)], [(0, 3, 2), (0, 4, 11), (0, 6, 25), (0, 8, 31), (0, 9, 37), (0, 10, 84), (2, 0, 3), (2, 1, 8), (2, 2, 9), (3, 1, 5), (3, 2, 6), (11, 0, 12), (11, 1, 17), (11, 2, 18), (12, 1, 14), (12, 2, 15), (37, 2, 83)], [(0, 2), (2, 4), (2, 5), (2, 6), (2, 7), (2, 8), (2, 9), (2, 10), (3, 4), (11, 4), (11, 5), (11, 6), (11, 7), (11, 8), (11, 9), (11, 10), (12, 4), (37, 4), (84, 3)], [], [(83, 2, 3)], [])
theorem bw_o0 : (0, 8) ∈ bw_T.1 := by decide
theorem bw_o2 : (2, 6) ∈ bw_T.1 := by decide
theorem bw_o3 : (3, 1) ∈ bw_T.1 := by decide
theorem bw_o11 : (11, 6) ∈ bw_T.1 := by decide
theorem bw_o12 : (12, 1) ∈ bw_T.1 := by decide
theorem bw_o25 : (25, 5) ∈ bw_T.1 := by decide
theorem bw_o31 : (31, 0) ∈ bw_T.1 := by decide
theorem bw_o37 : (37, 3) ∈ bw_T.1 := by decide
theorem bw_o84 : (84, 2) ∈ bw_T.1 := by decide
theorem bw_r0_3 : (0, 3, 2) ∈ bw_T.2.1 := by decide
theorem bw_r0_4 : (0, 4, 11) ∈ bw_T.2.1 := by decide
theorem bw_r0_6 : (0, 6, 25) ∈ bw_T.2.1 := by decide
theorem bw_r0_8 : (0, 8, 31) ∈ bw_T.2.1 := by decide
theorem bw_r0_9 : (0, 9, 37) ∈ bw_T.2.1 := by decide
theorem bw_r0_10 : (0, 10, 84) ∈ bw_T.2.1 := by decide
theorem bw_r2_0 : (2, 0, 3) ∈ bw_T.2.1 := by decide
theorem bw_r2_1 : (2, 1, 8) ∈ bw_T.2.1 := by decide
theorem bw_r2_2 : (2, 2, 9) ∈ bw_T.2.1 := by decide
theorem bw_r3_1 : (3, 1, 5) ∈ bw_T.2.1 := by decide
theorem bw_r3_2 : (3, 2, 6) ∈ bw_T.2.1 := by decide
theorem bw_r11_0 : (11, 0, 12) ∈ bw_T.2.1 := by decide
theorem bw_r11_1 : (11, 1, 17) ∈ bw_T.2.1 := by decide
theorem bw_r11_2 : (11, 2, 18) ∈ bw_T.2.1 := by decide
theorem bw_r12_1 : (12, 1, 14) ∈ bw_T.2.1 := by decide
theorem bw_r12_2 : (12, 2, 15) ∈ bw_T.2.1 := by decide
theorem bw_r37_2 : (37, 2, 83) ∈ bw_T.2.1 := by decide
theorem bw_i0_2 : (0, 2) ∈ bw_T.2.2.1 := by decide
theorem bw_i2_4 : (2, 4) ∈ bw_T.2.2.1 := by decide
theorem bw_i2_5 : (2, 5) ∈ bw_T.2.2.1 := by decide
theorem bw_i2_6 : (2, 6) ∈ bw_T.2.2.1 := by decide
theorem bw_i2_7 : (2, 7) ∈ bw_T.2.2.1 := by decide
theorem bw_i2_8 : (2, 8) ∈ bw_T.2.2.1 := by decide
theorem bw_i2_9 : (2, 9) ∈ bw_T.2.2.1 := by decide
theorem bw_i2_10 : (2, 10) ∈ bw_T.2.2.1 := by decide
theorem bw_i3_4 : (3, 4) ∈ bw_T.2.2.1 := by decide
theorem bw_i11_4 : (11, 4) ∈ bw_T.2.2.1 := by decide
theorem bw_i11_5 : (11, 5) ∈ bw_T.2.2.1 := by decide
theorem bw_i11_6 : (11, 6) ∈ bw_T.2.2.1 := by decide
theorem bw_i11_7 : (11, 7) ∈ bw_T.2.2.1 := by decide
theorem bw_i11_8 : (11, 8) ∈ bw_T.2.2.1 := by decide
theorem bw_i11_9 : (11, 9) ∈ bw_T.2.2.1 := by decide
theorem bw_i11_10 : (11, 10) ∈ bw_T.2.2.1 := by decide
theorem bw_i12_4 : (12, 4) ∈ bw_T.2.2.1 := by decide
theorem bw_i37_4 : (37, 4) ∈ bw_T.2.2.1 := by decide
theorem bw_i84_3 : (84, 3) ∈ bw_T.2.2.1 := by decide
theorem bw_a83 : (83, 2, 3) ∈ bw_T.2.2.2.2.1 := by decide
theorem bw_W : bm_W bw_T := by unfold bm_W; decide
def bw_F : Nat → Nat → Bool := fun ci k => ([1001, 1002, 1004, 2003, 3002, 3004, 6000, 6001, 6002, 6004, 6005, 6006, 6007, 6008, 6009, 6010, 8002, 8003, 8004, 8006, 8008, 8009, 8010] : List Nat).elem (1000 * ci + k)
def bw_S : List Nat := [116, 117, 180, 194, 265, 287, 289]
theorem bw_chk : kp_chk bw_S bw_F mt_P = true := by decide +kernel
theorem bw_b : ∀ q ∈ bw_T.2.2.2.2.1, q.2.1 ≠ 0 := by decide
theorem bw_fr : ∀ q ∈ bw_T.1, (∀ r ∈ bw_T.2.1, r.1 = q.1 → bw_F q.2 r.2.1 = true) ∧ (∀ r ∈ bw_T.2.2.1, r.1 = q.1 → bw_F q.2 r.2 = true) := by decide
theorem bw_re {E : mm_E} {h0 h h' : mm_H} {s : Nat → Int32} {A : Nat → Nat → Int32} {L : Nat → Nat → Int64} (hP : bm_P bw_T E h0 h s A L) (hF : kp_F bw_F h h' ∧ kq_A h h') : ∃ A' : Nat → Nat → Int32, bm_P bw_T E h' h' s A' L := by
  obtain ⟨f, hf⟩ : ∃ f : Nat → Int32, h'[83]? = some (.inl (2, 3, .inl f)) := by
    obtain ⟨x', e, g⟩ := hF.2 83 2 3 _ (hP.2.2.2.1 (83, 2, 3) bw_a83)
    obtain ⟨f', e2⟩ := g _ rfl
    exact ⟨f', by rw [e, e2]⟩
  refine ⟨fun _ => f, bw_W, hF.1.1.trans hP.2.1, fun q hq => ?_, fun q hq => ?_, fun q hq => (List.not_mem_nil hq).elim, fun _ _ _ _ => rfl⟩
  · obtain ⟨fs0, fs, a1, a2, o1, o2, o3, o4, o5⟩ := hP.2.2.1 q hq
    obtain ⟨fs', e', -, k'⟩ := hF.1.2 _ _ _ a2
    have w := bw_fr q hq
    exact ⟨fs', fs', e', e', rfl, fun _ _ _ => rfl, fun k t hk => (k' k (w.1 _ hk rfl)).trans (o3 k t hk), fun k hk => (k' k (w.2 _ hk rfl)).trans (o4 k hk), fun k hk => (List.not_mem_nil hk).elim⟩
  · rcases List.mem_cons.mp hq with rfl | hq
    · exact hf
    · cases hq
def bw_Z (n : Int) (h' : mm_H) : Prop := (wt_s h' 204).toInt = n ∧ (wt_s h' 8403).toInt = 0 ∧ ∀ j, j < 3 → (br_A h' 83 j).toInt = 0
def bw_K (h h' : mm_H) : Prop := wt_s h' 204 = wt_s h 204 ∧ wt_s h' 8403 = wt_s h 8403 ∧ br_A h' 83 = br_A h 83
theorem bw_ws {h h' : mm_H} {c ci k : Nat} {fs fs' : List Value} (hk : k < 100) (a : h[c]? = some (.inr (ci, fs))) (b : h'[c]? = some (.inr (ci, fs'))) (e : fs'[k]? = fs[k]?) : wt_s h' (100 * c + k) = wt_s h (100 * c + k) := by
  unfold wt_s
  rw [show (100 * c + k) / 100 = c by omega, show (100 * c + k) % 100 = k by omega, a, b]
  show br_s fs' k = br_s fs k
  unfold br_s
  rw [e]
theorem bw_fail {E : mm_E} {h hb h' : mm_H} {s sq : Nat → Int32} {A Aq : Nat → Nat → Int32} {L Lq : Nat → Nat → Int64} (hP : bm_P bz_T E hb h' s A L) (hQ : bm_P bq_T E h hb sq Aq Lq) : bw_K h h' := by
  have d : ∀ c, c = 2 ∨ c = 84 ∨ c = 83 → (∀ p ∈ bq_T.1, p.1 ≠ c) ∧ (∀ p ∈ bq_T.2.2.2.2.1, p.1 ≠ c) ∧ (∀ p ∈ bq_T.2.2.2.2.2, p.1 ≠ c) := by
    rintro c (rfl | rfl | rfl) <;> exact ⟨by decide, by decide, by decide⟩
  have e2 := hQ.2.2.2.2.2 2 (d 2 (by decide)).1 (d 2 (by decide)).2.1 (d 2 (by decide)).2.2
  have e84 := hQ.2.2.2.2.2 84 (d 84 (by decide)).1 (d 84 (by decide)).2.1 (d 84 (by decide)).2.2
  have e83 := hQ.2.2.2.2.2 83 (d 83 (by decide)).1 (d 83 (by decide)).2.1 (d 83 (by decide)).2.2
  refine ⟨?_, ?_, ?_⟩
  · obtain ⟨fs0, fs, a1, a2, o⟩ := hP.2.2.1 (2, 6) bz_o2
    exact bw_ws (c := 2) (k := 4) (by decide) (by rw [← e2]; exact a1) a2 (o.2.1 4 (by decide) (by decide))
  · obtain ⟨fs0, fs, a1, a2, o⟩ := hP.2.2.1 (84, 2) bz_o84
    exact bw_ws (c := 84) (k := 3) (by decide) (by rw [← e84]; exact a1) a2 (o.2.1 3 (by decide) (by decide))
  · have g := hP.2.2.2.2.2 83 (by decide) (by decide) (by decide)
    unfold br_A
    rw [g, e83]
theorem bm_ob {T : bm_T} {E : mm_E} {h0 h : mm_H} {s : Nat → Int32} {A : Nat → Nat → Int32} {L : Nat → Nat → Int64} (hP : bm_P T E h0 h s A L) {c ci : Nat} {fs0 : List Value} (e : h0[c]? = some (.inr (ci, fs0))) (h1 : ∀ q ∈ T.2.2.2.2.1, q.1 ≠ c) (h2 : ∀ q ∈ T.2.2.2.2.2, q.1 ≠ c) : ∃ fs : List Value, h[c]? = some (.inr (ci, fs)) ∧ (∀ k, (c, k) ∉ T.2.2.1 → (c, k) ∉ T.2.2.2.1 → fs[k]? = fs0[k]?) ∧ ∀ k, (c, k) ∈ T.2.2.1 → (∃ q ∈ T.1, q.1 = c) → fs[k]? = some (.int (s (100 * c + k))) := by
  by_cases hc : ∃ q ∈ T.1, q.1 = c
  · obtain ⟨q, hq, rfl⟩ := hc
    obtain ⟨fs1, fs, a1, a2, o1, o2, o3, o4, o5⟩ := hP.2.2.1 q hq
    rw [e] at a1
    cases a1
    exact ⟨fs, a2, o2, fun k hk _ => o4 k hk⟩
  · exact ⟨fs0, (hP.2.2.2.2.2 c (fun q hq g => hc ⟨q, hq, g⟩) h1 h2).trans e, fun _ _ _ => rfl, fun k _ g => absurd g hc⟩
theorem bw_d1 : ∀ q ∈ bw_T.1, (∀ p ∈ bq_T.2.2.2.2.1, p.1 ≠ q.1) ∧ (∀ p ∈ bq_T.2.2.2.2.2, p.1 ≠ q.1) ∧ (∀ p ∈ bz_T.2.2.2.2.1, p.1 ≠ q.1) ∧ (∀ p ∈ bz_T.2.2.2.2.2, p.1 ≠ q.1) := by decide
theorem bw_d2 : ∀ r ∈ bw_T.2.1, (r.1, r.2.1) ∉ bq_T.2.2.1 ∧ (r.1, r.2.1) ∉ bq_T.2.2.2.1 ∧ (r.1, r.2.1) ∉ bz_T.2.2.1 ∧ (r.1, r.2.1) ∉ bz_T.2.2.2.1 := by decide
theorem bw_d3 : ∀ r ∈ bw_T.2.2.1, (r ∈ bz_T.2.2.1 ∧ ∃ q ∈ bz_T.1, q.1 = r.1) ∨ (r ∉ bz_T.2.2.1 ∧ r ∉ bz_T.2.2.2.1 ∧ ((r ∈ bq_T.2.2.1 ∧ ∃ q ∈ bq_T.1, q.1 = r.1) ∨ (r ∉ bq_T.2.2.1 ∧ r ∉ bq_T.2.2.2.1))) := by decide
theorem wt_s_of {h : mm_H} {c ci k : Nat} {fs : List Value} {r : Int32} (hk : k < 100) (e : h[c]? = some (.inr (ci, fs))) (e2 : fs[k]? = some (.int r)) : fs[k]? = some (.int (wt_s h (100 * c + k))) := by rw [wt_s_eq hk e e2, e2]
/-- behind the reading: what the tail works on -/
theorem bw_of {E : mm_E} {h hb h' : mm_H} {s sq sw : Nat → Int32} {A Aq Aw : Nat → Nat → Int32} {L Lq Lw : Nat → Nat → Int64} (hW : bm_P bw_T E h h sw Aw Lw) (hP : bm_P bz_T E hb h' s A L) (hQ : bm_P bq_T E h hb sq Aq Lq) : ∃ (s' : Nat → Int32) (A' : Nat → Nat → Int32), bm_P bw_T E h' h' s' A' Lw ∧ s' 1104 = sq 1104 ∧ s' 2 = s 2 := by
  refine ⟨wt_s h', br_A h', ⟨bw_W, hP.2.1, fun q hq => ?_, fun q hq => ?_, fun q hq => (List.not_mem_nil hq).elim, fun _ _ _ _ => rfl⟩, ?_, ?_⟩
  · obtain ⟨fs0, fs, a1, a2, o1, o2, o3, o4, o5⟩ := hW.2.2.1 q hq
    obtain ⟨d1, d2, d3, d4⟩ := bw_d1 q hq
    obtain ⟨fb, b1, b2, b3⟩ := bm_ob hQ a2 d1 d2
    obtain ⟨fc, c1, c2, c3⟩ := bm_ob hP b1 d3 d4
    refine ⟨fc, fc, c1, c1, rfl, fun _ _ _ => rfl, fun k t hk => ?_, fun k hk => ?_, fun k hk => (List.not_mem_nil hk).elim⟩
    · obtain ⟨e1, e2, e3, e4⟩ := bw_d2 _ hk
      rw [c2 k e3 e4, b2 k e1 e2]
      exact o3 k t hk
    · have hk100 : k < 100 := (bw_W.2.2.2.2.2.2.2.1 (q.1, k) hk).2
      rcases bw_d3 _ hk with ⟨g1, g2⟩ | ⟨g1, g2, g3 | g3⟩
      · exact wt_s_of hk100 c1 (c3 k g1 g2)
      · exact wt_s_of hk100 c1 ((c2 k g1 g2).trans (b3 k g3.1 g3.2))
      · exact wt_s_of hk100 c1 (((c2 k g1 g2).trans (b2 k g3.1 g3.2)).trans (o4 k hk))
  · rcases List.mem_cons.mp hq with rfl | hq
    · have g := hP.2.2.2.2.2 83 (by decide) (by decide) (by decide)
      have e83 := hQ.2.2.2.2.2 83 (by decide) (by decide) (by decide)
      have w := hW.2.2.2.1 (83, 2, 3) bw_a83
      have w2 : h'[83]? = some (.inl (2, 3, .inl (Aw 83))) := by
        rw [g, e83]
        exact w
      rw [br_A_eq w2]
      exact w2
    · cases hq
  · obtain ⟨fs0, fs, a1, a2, o1, o2, o3, o4, o5⟩ := hW.2.2.1 (11, 6) bw_o11
    obtain ⟨d1, d2, d3, d4⟩ := bw_d1 (11, 6) bw_o11
    obtain ⟨fb, b1, b2, b3⟩ := bm_ob hQ a2 d1 d2
    obtain ⟨fc, c1, c2, c3⟩ := bm_ob hP b1 d3 d4
    exact wt_s_eq (c := 11) (k := 4) (by decide) c1 ((c2 4 (by decide) (by decide)).trans (b3 4 (by decide) ⟨(11, 6), by decide, rfl⟩))
  · exact bm_ws (c := 0) (k := 2) hP bz_o0 bz_i0_2
def b7_T : bm_T := ([(20, 4)], [], [(20, 7)], [], [], [])
theorem b7_o20 : (20, 4) ∈ b7_T.1 := by decide
theorem b7_i20_7 : (20, 7) ∈ b7_T.2.2.1 := by decide
theorem b7_W : bm_W b7_T := by unfold bm_W; decide
theorem b7_of {E : mm_E} {h : mm_H} {fs : List Value} {p : Int32} (hl : h.length = 133) (e1 : h[20]? = some (.inr (4, fs))) (e2 : fs[7]? = some (.int p)) : bm_P b7_T E h h (fun _ => p) (fun _ _ => 0) (fun _ _ => 0) := by
  refine ⟨b7_W, hl, fun q hq => ?_, fun q hq => (List.not_mem_nil hq).elim, fun q hq => (List.not_mem_nil hq).elim, fun _ _ _ _ => rfl⟩
  rcases List.mem_cons.mp hq with rfl | hq
  · refine ⟨fs, fs, e1, e1, rfl, fun _ _ _ => rfl, fun k t hk => (List.not_mem_nil hk).elim, fun k hk => ?_, fun k hk => (List.not_mem_nil hk).elim⟩
    rcases List.mem_cons.mp hk with e | hk
    · cases e
      exact e2
    · cases hk
  · cases hq
theorem bz_20 {E : mm_E} {h0 h : mm_H} {s : Nat → Int32} {A : Nat → Nat → Int32} {L : Nat → Nat → Int64} {p : Int32} (hP : bm_P bz_T E h0 h s A L) (f : ∃ fs : List Value, h0[20]? = some (.inr (4, fs)) ∧ fs[7]? = some (.int p)) : ∃ fs : List Value, h[20]? = some (.inr (4, fs)) ∧ fs[7]? = some (.int p) := by
  obtain ⟨fs0, fs, a1, a2, a3, a4, -⟩ := hP.2.2.1 (20, 4) bz_o20
  obtain ⟨fs9, e1, e2⟩ := f
  cases e1.symm.trans a1
  exact ⟨fs, a2, (a4 7 (by decide) (by decide)).trans e2⟩
theorem bw_self {E : mm_E} {h0 h : mm_H} {s : Nat → Int32} {A : Nat → Nat → Int32} {L : Nat → Nat → Int64} (hP : bm_P bw_T E h0 h s A L) : bm_P bw_T E h h s A L := bm_sub bw_W (fun _ q => q) (fun _ q => q) (fun _ q => q) (fun _ q => q) (fun _ q => q) (fun _ q => q) hP
theorem bu_133_0 : mm_at mt_P 133 0 = some ((0, 1, .aload_n 1, 0, 0, 0, 0), 2, 1, 1, 1, 0, 0, 0) := rfl
theorem bu_133_1 : mm_at mt_P 133 1 = some ((1, 3, .getfield 15, 1, 1, 0, 144), 2, 1, 1, 1, 0, 0, 0) := rfl
theorem bu_133_4 : mm_at mt_P 133 4 = some ((4, 1, .iconst 0, 0, 0, 0, 0), 2, 1, 1, 1, 0, 0, 0) := rfl
theorem bu_133_5 : mm_at mt_P 133 5 = some ((5, 1, .aload_n 0, 0, 0, 0, 0), 2, 1, 1, 1, 0, 0, 0) := rfl
theorem bu_133_6 : mm_at mt_P 133 6 = some ((6, 3, .getfield 15, 1, 1, 0, 144), 2, 1, 1, 1, 0, 0, 0) := rfl
theorem bu_133_9 : mm_at mt_P 133 9 = some ((9, 1, .iconst 0, 0, 0, 0, 0), 2, 1, 1, 1, 0, 0, 0) := rfl
theorem bu_133_10 : mm_at mt_P 133 10 = some ((10, 3, .sipush 432, 0, 0, 0, 0), 2, 1, 1, 1, 0, 0, 0) := rfl
theorem bu_133_13 : mm_at mt_P 133 13 = some ((13, 3, .invokestatic 35, 1, 0, 0, 738), 2, 1, 1, 1, 0, 0, 0) := rfl
theorem bu_133_16 : mm_at mt_P 133 16 = some ((16, 1, .aload_n 1, 0, 0, 0, 0), 2, 1, 1, 1, 0, 0, 0) := rfl
theorem bu_133_17 : mm_at mt_P 133 17 = some ((17, 3, .getfield 18, 1, 2, 0, 145), 2, 1, 1, 1, 0, 0, 0) := rfl
theorem bu_133_20 : mm_at mt_P 133 20 = some ((20, 1, .iconst 0, 0, 0, 0, 0), 2, 1, 1, 1, 0, 0, 0) := rfl
theorem bu_133_21 : mm_at mt_P 133 21 = some ((21, 1, .aload_n 0, 0, 0, 0, 0), 2, 1, 1, 1, 0, 0, 0) := rfl
theorem bu_133_22 : mm_at mt_P 133 22 = some ((22, 3, .getfield 18, 1, 2, 0, 145), 2, 1, 1, 1, 0, 0, 0) := rfl
theorem bu_133_25 : mm_at mt_P 133 25 = some ((25, 1, .iconst 0, 0, 0, 0, 0), 2, 1, 1, 1, 0, 0, 0) := rfl
theorem bu_133_26 : mm_at mt_P 133 26 = some ((26, 2, .bipush 7, 0, 0, 0, 0), 2, 1, 1, 1, 0, 0, 0) := rfl
theorem bu_133_28 : mm_at mt_P 133 28 = some ((28, 3, .invokestatic 35, 1, 0, 0, 738), 2, 1, 1, 1, 0, 0, 0) := rfl
theorem bu_133_31 : mm_at mt_P 133 31 = some ((31, 1, .aload_n 0, 0, 0, 0, 0), 2, 1, 1, 1, 0, 0, 0) := rfl
theorem bu_133_32 : mm_at mt_P 133 32 = some ((32, 1, .aload_n 1, 0, 0, 0, 0), 2, 1, 1, 1, 0, 0, 0) := rfl
theorem bu_133_33 : mm_at mt_P 133 33 = some ((33, 3, .getfield 24, 1, 4, 0, 147), 2, 1, 1, 1, 0, 0, 0) := rfl
theorem bu_133_36 : mm_at mt_P 133 36 = some ((36, 3, .putfield 24, 1, 4, 0, 147), 2, 1, 1, 1, 0, 0, 0) := rfl
theorem bu_133_39 : mm_at mt_P 133 39 = some ((39, 1, .return_, 0, 0, 0, 0), 2, 1, 1, 1, 0, 0, 0) := rfl
theorem bu_153_0 : mm_at mt_P 153 0 = some ((0, 1, .iconst 0, 0, 0, 0, 0), 2, 0, 1, 3, 0, 0, 0) := rfl
theorem bu_153_1 : mm_at mt_P 153 1 = some ((1, 1, .istore_n 1, 0, 0, 0, 0), 2, 0, 1, 3, 0, 0, 0) := rfl
theorem bu_153_2 : mm_at mt_P 153 2 = some ((2, 1, .iload_n 1, 0, 0, 0, 0), 2, 0, 1, 3, 0, 0, 0) := rfl
theorem bu_153_3 : mm_at mt_P 153 3 = some ((3, 1, .iconst 3, 0, 0, 0, 0), 2, 0, 1, 3, 0, 0, 0) := rfl
theorem bu_153_4 : mm_at mt_P 153 4 = some ((4, 3, .if_icmp .ge 16, 0, 0, 0, 0), 2, 0, 1, 3, 0, 0, 0) := rfl
theorem bu_153_7 : mm_at mt_P 153 7 = some ((7, 1, .aload_n 0, 0, 0, 0, 0), 2, 0, 1, 3, 0, 0, 0) := rfl
theorem bu_153_8 : mm_at mt_P 153 8 = some ((8, 3, .getfield 19, 3, 2, 0, 367), 2, 0, 1, 3, 0, 0, 0) := rfl
theorem bu_153_11 : mm_at mt_P 153 11 = some ((11, 1, .iload_n 1, 0, 0, 0, 0), 2, 0, 1, 3, 0, 0, 0) := rfl
theorem bu_153_12 : mm_at mt_P 153 12 = some ((12, 1, .iconst 0, 0, 0, 0, 0), 2, 0, 1, 3, 0, 0, 0) := rfl
theorem bu_153_13 : mm_at mt_P 153 13 = some ((13, 1, .bastore, 0, 0, 0, 0), 2, 0, 1, 3, 0, 0, 0) := rfl
theorem bu_153_14 : mm_at mt_P 153 14 = some ((14, 3, .iinc 1 1, 0, 0, 0, 0), 2, 0, 1, 3, 0, 0, 0) := rfl
theorem bu_153_17 : mm_at mt_P 153 17 = some ((17, 3, .goto (-15), 0, 0, 0, 0), 2, 0, 1, 3, 0, 0, 0) := rfl
theorem bu_153_20 : mm_at mt_P 153 20 = some ((20, 1, .return_, 0, 0, 0, 0), 2, 0, 1, 3, 0, 0, 0) := rfl
theorem bu_168_0 : mm_at mt_P 168 0 = some ((0, 1, .aload_n 0, 0, 0, 0, 0), 1, 0, 1, 4, 1, 0, 0) := rfl
theorem bu_168_1 : mm_at mt_P 168 1 = some ((1, 3, .getfield 24, 4, 7, 0, 281), 1, 0, 1, 4, 1, 0, 0) := rfl
theorem bu_168_4 : mm_at mt_P 168 4 = some ((4, 1, .ireturn, 0, 0, 0, 0), 1, 0, 1, 4, 1, 0, 0) := rfl
theorem bu_201_0 : mm_at mt_P 201 0 = some ((0, 1, .aload_n 0, 0, 0, 0, 0), 2, 1, 1, 6, 0, 0, 0) := rfl
theorem bu_201_1 : mm_at mt_P 201 1 = some ((1, 3, .getfield 12, 6, 0, 0, 177), 2, 1, 1, 6, 0, 0, 0) := rfl
theorem bu_201_4 : mm_at mt_P 201 4 = some ((4, 1, .aload_n 1, 0, 0, 0, 0), 2, 1, 1, 6, 0, 0, 0) := rfl
theorem bu_201_5 : mm_at mt_P 201 5 = some ((5, 3, .getfield 12, 6, 0, 0, 177), 2, 1, 1, 6, 0, 0, 0) := rfl
theorem bu_201_8 : mm_at mt_P 201 8 = some ((8, 3, .invokevirtual 55, 133, 0, 0, 734), 2, 1, 1, 6, 0, 0, 0) := rfl
theorem bu_201_11 : mm_at mt_P 201 11 = some ((11, 1, .aload_n 1, 0, 0, 0, 0), 2, 1, 1, 6, 0, 0, 0) := rfl
theorem bu_201_12 : mm_at mt_P 201 12 = some ((12, 3, .getfield 18, 6, 1, 0, 182), 2, 1, 1, 6, 0, 0, 0) := rfl
theorem bu_201_15 : mm_at mt_P 201 15 = some ((15, 1, .iconst 0, 0, 0, 0, 0), 2, 1, 1, 6, 0, 0, 0) := rfl
theorem bu_201_16 : mm_at mt_P 201 16 = some ((16, 1, .aload_n 0, 0, 0, 0, 0), 2, 1, 1, 6, 0, 0, 0) := rfl
theorem bu_201_17 : mm_at mt_P 201 17 = some ((17, 3, .getfield 18, 6, 1, 0, 182), 2, 1, 1, 6, 0, 0, 0) := rfl
theorem bu_201_20 : mm_at mt_P 201 20 = some ((20, 1, .iconst 0, 0, 0, 0, 0), 2, 1, 1, 6, 0, 0, 0) := rfl
theorem bu_201_21 : mm_at mt_P 201 21 = some ((21, 2, .bipush 24, 0, 0, 0, 0), 2, 1, 1, 6, 0, 0, 0) := rfl
theorem bu_201_23 : mm_at mt_P 201 23 = some ((23, 3, .invokestatic 59, 1, 0, 0, 741), 2, 1, 1, 6, 0, 0, 0) := rfl
theorem bu_201_26 : mm_at mt_P 201 26 = some ((26, 1, .aload_n 1, 0, 0, 0, 0), 2, 1, 1, 6, 0, 0, 0) := rfl
theorem bu_201_27 : mm_at mt_P 201 27 = some ((27, 3, .getfield 22, 6, 2, 0, 183), 2, 1, 1, 6, 0, 0, 0) := rfl
theorem bu_201_30 : mm_at mt_P 201 30 = some ((30, 1, .iconst 0, 0, 0, 0, 0), 2, 1, 1, 6, 0, 0, 0) := rfl
theorem bu_201_31 : mm_at mt_P 201 31 = some ((31, 1, .aload_n 0, 0, 0, 0, 0), 2, 1, 1, 6, 0, 0, 0) := rfl
theorem bu_201_32 : mm_at mt_P 201 32 = some ((32, 3, .getfield 22, 6, 2, 0, 183), 2, 1, 1, 6, 0, 0, 0) := rfl
theorem bu_201_35 : mm_at mt_P 201 35 = some ((35, 1, .iconst 0, 0, 0, 0, 0), 2, 1, 1, 6, 0, 0, 0) := rfl
theorem bu_201_36 : mm_at mt_P 201 36 = some ((36, 2, .bipush 6, 0, 0, 0, 0), 2, 1, 1, 6, 0, 0, 0) := rfl
theorem bu_201_38 : mm_at mt_P 201 38 = some ((38, 3, .invokestatic 59, 1, 0, 0, 741), 2, 1, 1, 6, 0, 0, 0) := rfl
theorem bu_201_41 : mm_at mt_P 201 41 = some ((41, 1, .aload_n 0, 0, 0, 0, 0), 2, 1, 1, 6, 0, 0, 0) := rfl
theorem bu_201_42 : mm_at mt_P 201 42 = some ((42, 1, .aload_n 1, 0, 0, 0, 0), 2, 1, 1, 6, 0, 0, 0) := rfl
theorem bu_201_43 : mm_at mt_P 201 43 = some ((43, 3, .getfield 32, 6, 4, 0, 186), 2, 1, 1, 6, 0, 0, 0) := rfl
theorem bu_201_46 : mm_at mt_P 201 46 = some ((46, 3, .putfield 32, 6, 4, 0, 186), 2, 1, 1, 6, 0, 0, 0) := rfl
theorem bu_201_49 : mm_at mt_P 201 49 = some ((49, 1, .aload_n 0, 0, 0, 0, 0), 2, 1, 1, 6, 0, 0, 0) := rfl
theorem bu_201_50 : mm_at mt_P 201 50 = some ((50, 1, .aload_n 1, 0, 0, 0, 0), 2, 1, 1, 6, 0, 0, 0) := rfl
theorem bu_201_51 : mm_at mt_P 201 51 = some ((51, 3, .getfield 36, 6, 5, 0, 191), 2, 1, 1, 6, 0, 0, 0) := rfl
theorem bu_201_54 : mm_at mt_P 201 54 = some ((54, 3, .putfield 36, 6, 5, 0, 191), 2, 1, 1, 6, 0, 0, 0) := rfl
theorem bu_201_57 : mm_at mt_P 201 57 = some ((57, 1, .aload_n 0, 0, 0, 0, 0), 2, 1, 1, 6, 0, 0, 0) := rfl
theorem bu_201_58 : mm_at mt_P 201 58 = some ((58, 1, .aload_n 1, 0, 0, 0, 0), 2, 1, 1, 6, 0, 0, 0) := rfl
theorem bu_201_59 : mm_at mt_P 201 59 = some ((59, 3, .getfield 39, 6, 6, 0, 194), 2, 1, 1, 6, 0, 0, 0) := rfl
theorem bu_201_62 : mm_at mt_P 201 62 = some ((62, 3, .putfield 39, 6, 6, 0, 194), 2, 1, 1, 6, 0, 0, 0) := rfl
theorem bu_201_65 : mm_at mt_P 201 65 = some ((65, 1, .aload_n 0, 0, 0, 0, 0), 2, 1, 1, 6, 0, 0, 0) := rfl
theorem bu_201_66 : mm_at mt_P 201 66 = some ((66, 1, .aload_n 1, 0, 0, 0, 0), 2, 1, 1, 6, 0, 0, 0) := rfl
theorem bu_201_67 : mm_at mt_P 201 67 = some ((67, 3, .getfield 42, 6, 7, 0, 197), 2, 1, 1, 6, 0, 0, 0) := rfl
theorem bu_201_70 : mm_at mt_P 201 70 = some ((70, 3, .putfield 42, 6, 7, 0, 197), 2, 1, 1, 6, 0, 0, 0) := rfl
theorem bu_201_73 : mm_at mt_P 201 73 = some ((73, 1, .aload_n 0, 0, 0, 0, 0), 2, 1, 1, 6, 0, 0, 0) := rfl
theorem bu_201_74 : mm_at mt_P 201 74 = some ((74, 1, .aload_n 1, 0, 0, 0, 0), 2, 1, 1, 6, 0, 0, 0) := rfl
theorem bu_201_75 : mm_at mt_P 201 75 = some ((75, 3, .getfield 45, 6, 8, 0, 200), 2, 1, 1, 6, 0, 0, 0) := rfl
theorem bu_201_78 : mm_at mt_P 201 78 = some ((78, 3, .putfield 45, 6, 8, 0, 200), 2, 1, 1, 6, 0, 0, 0) := rfl
theorem bu_201_81 : mm_at mt_P 201 81 = some ((81, 1, .aload_n 0, 0, 0, 0, 0), 2, 1, 1, 6, 0, 0, 0) := rfl
theorem bu_201_82 : mm_at mt_P 201 82 = some ((82, 1, .aload_n 1, 0, 0, 0, 0), 2, 1, 1, 6, 0, 0, 0) := rfl
theorem bu_201_83 : mm_at mt_P 201 83 = some ((83, 3, .getfield 48, 6, 9, 0, 205), 2, 1, 1, 6, 0, 0, 0) := rfl
theorem bu_201_86 : mm_at mt_P 201 86 = some ((86, 3, .putfield 48, 6, 9, 0, 205), 2, 1, 1, 6, 0, 0, 0) := rfl
theorem bu_201_89 : mm_at mt_P 201 89 = some ((89, 1, .aload_n 0, 0, 0, 0, 0), 2, 1, 1, 6, 0, 0, 0) := rfl
theorem bu_201_90 : mm_at mt_P 201 90 = some ((90, 1, .aload_n 1, 0, 0, 0, 0), 2, 1, 1, 6, 0, 0, 0) := rfl
theorem bu_201_91 : mm_at mt_P 201 91 = some ((91, 3, .getfield 51, 6, 10, 0, 208), 2, 1, 1, 6, 0, 0, 0) := rfl
theorem bu_201_94 : mm_at mt_P 201 94 = some ((94, 3, .putfield 51, 6, 10, 0, 208), 2, 1, 1, 6, 0, 0, 0) := rfl
theorem bu_201_97 : mm_at mt_P 201 97 = some ((97, 1, .return_, 0, 0, 0, 0), 2, 1, 1, 6, 0, 0, 0) := rfl
theorem bu_253_0 : mm_at mt_P 253 0 = some ((0, 1, .aload_n 0, 0, 0, 0, 0), 2, 0, 1, 8, 1, 0, 0) := rfl
theorem bu_253_1 : mm_at mt_P 253 1 = some ((1, 3, .getfield 35, 8, 5, 0, 437), 2, 0, 1, 8, 1, 0, 0) := rfl
theorem bu_253_4 : mm_at mt_P 253 4 = some ((4, 1, .aload_n 0, 0, 0, 0, 0), 2, 0, 1, 8, 1, 0, 0) := rfl
theorem bu_253_5 : mm_at mt_P 253 5 = some ((5, 3, .getfield 13, 8, 1, 0, 433), 2, 0, 1, 8, 1, 0, 0) := rfl
theorem bu_253_8 : mm_at mt_P 253 8 = some ((8, 3, .invokevirtual 82, 173, 0, 0, 482), 2, 0, 1, 8, 1, 0, 0) := rfl
theorem bu_253_11 : mm_at mt_P 253 11 = some ((11, 1, .istore_n 1, 0, 0, 0, 0), 2, 0, 1, 8, 1, 0, 0) := rfl
theorem bu_253_12 : mm_at mt_P 253 12 = some ((12, 1, .aload_n 0, 0, 0, 0, 0), 2, 0, 1, 8, 1, 0, 0) := rfl
theorem bu_253_13 : mm_at mt_P 253 13 = some ((13, 1, .iconst 0, 0, 0, 0, 0), 2, 0, 1, 8, 1, 0, 0) := rfl
theorem bu_253_14 : mm_at mt_P 253 14 = some ((14, 3, .putfield 13, 8, 1, 0, 433), 2, 0, 1, 8, 1, 0, 0) := rfl
theorem bu_253_17 : mm_at mt_P 253 17 = some ((17, 1, .aload_n 0, 0, 0, 0, 0), 2, 0, 1, 8, 1, 0, 0) := rfl
theorem bu_253_18 : mm_at mt_P 253 18 = some ((18, 1, .aload_n 0, 0, 0, 0, 0), 2, 0, 1, 8, 1, 0, 0) := rfl
theorem bu_253_19 : mm_at mt_P 253 19 = some ((19, 3, .getfield 35, 8, 5, 0, 437), 2, 0, 1, 8, 1, 0, 0) := rfl
theorem bu_253_22 : mm_at mt_P 253 22 = some ((22, 3, .invokevirtual 86, 168, 0, 0, 726), 2, 0, 1, 8, 1, 0, 0) := rfl
theorem bu_253_25 : mm_at mt_P 253 25 = some ((25, 3, .putfield 17, 8, 2, 0, 434), 2, 0, 1, 8, 1, 0, 0) := rfl
theorem bu_253_28 : mm_at mt_P 253 28 = some ((28, 1, .iload_n 1, 0, 0, 0, 0), 2, 0, 1, 8, 1, 0, 0) := rfl
theorem bu_253_29 : mm_at mt_P 253 29 = some ((29, 3, .ifCond .ne 50, 0, 0, 0, 0), 2, 0, 1, 8, 1, 0, 0) := rfl
theorem bu_253_32 : mm_at mt_P 253 32 = some ((32, 1, .aload_n 0, 0, 0, 0, 0), 2, 0, 1, 8, 1, 0, 0) := rfl
theorem bu_253_33 : mm_at mt_P 253 33 = some ((33, 3, .getfield 23, 8, 3, 0, 435), 2, 0, 1, 8, 1, 0, 0) := rfl
theorem bu_253_36 : mm_at mt_P 253 36 = some ((36, 1, .aload_n 0, 0, 0, 0, 0), 2, 0, 1, 8, 1, 0, 0) := rfl
theorem bu_253_37 : mm_at mt_P 253 37 = some ((37, 3, .getfield 27, 8, 4, 0, 436), 2, 0, 1, 8, 1, 0, 0) := rfl
theorem bu_253_40 : mm_at mt_P 253 40 = some ((40, 3, .invokevirtual 90, 201, 0, 0, 730), 2, 0, 1, 8, 1, 0, 0) := rfl
theorem bu_253_43 : mm_at mt_P 253 43 = some ((43, 1, .aload_n 0, 0, 0, 0, 0), 2, 0, 1, 8, 1, 0, 0) := rfl
theorem bu_253_44 : mm_at mt_P 253 44 = some ((44, 3, .getfield 44, 8, 6, 0, 438), 2, 0, 1, 8, 1, 0, 0) := rfl
theorem bu_253_47 : mm_at mt_P 253 47 = some ((47, 1, .iconst 0, 0, 0, 0, 0), 2, 0, 1, 8, 1, 0, 0) := rfl
theorem bu_253_48 : mm_at mt_P 253 48 = some ((48, 3, .invokevirtual 72, 194, 0, 0, 407), 2, 0, 1, 8, 1, 0, 0) := rfl
theorem bu_253_51 : mm_at mt_P 253 51 = some ((51, 1, .aload_n 0, 0, 0, 0, 0), 2, 0, 1, 8, 1, 0, 0) := rfl
theorem bu_253_52 : mm_at mt_P 253 52 = some ((52, 3, .getfield 54, 8, 8, 0, 440), 2, 0, 1, 8, 1, 0, 0) := rfl
theorem bu_253_55 : mm_at mt_P 253 55 = some ((55, 3, .invokevirtual 76, 116, 0, 0, 418), 2, 0, 1, 8, 1, 0, 0) := rfl
theorem bu_253_58 : mm_at mt_P 253 58 = some ((58, 1, .aload_n 0, 0, 0, 0, 0), 2, 0, 1, 8, 1, 0, 0) := rfl
theorem bu_253_59 : mm_at mt_P 253 59 = some ((59, 3, .getfield 61, 8, 9, 0, 441), 2, 0, 1, 8, 1, 0, 0) := rfl
theorem bu_253_62 : mm_at mt_P 253 62 = some ((62, 3, .invokevirtual 93, 154, 0, 0, 742), 2, 0, 1, 8, 1, 0, 0) := rfl
theorem bu_253_65 : mm_at mt_P 253 65 = some ((65, 1, .aload_n 0, 0, 0, 0, 0), 2, 0, 1, 8, 1, 0, 0) := rfl
theorem bu_253_66 : mm_at mt_P 253 66 = some ((66, 3, .getfield 61, 8, 9, 0, 441), 2, 0, 1, 8, 1, 0, 0) := rfl
theorem bu_253_69 : mm_at mt_P 253 69 = some ((69, 3, .invokevirtual 96, 153, 0, 0, 746), 2, 0, 1, 8, 1, 0, 0) := rfl
theorem bu_253_72 : mm_at mt_P 253 72 = some ((72, 1, .aload_n 0, 0, 0, 0, 0), 2, 0, 1, 8, 1, 0, 0) := rfl
theorem bu_253_73 : mm_at mt_P 253 73 = some ((73, 3, .getfield 68, 8, 10, 0, 442), 2, 0, 1, 8, 1, 0, 0) := rfl
theorem bu_253_76 : mm_at mt_P 253 76 = some ((76, 3, .invokevirtual 99, 149, 0, 0, 750), 2, 0, 1, 8, 1, 0, 0) := rfl
theorem bu_253_79 : mm_at mt_P 253 79 = some ((79, 1, .iload_n 1, 0, 0, 0, 0), 2, 0, 1, 8, 1, 0, 0) := rfl
theorem bu_253_80 : mm_at mt_P 253 80 = some ((80, 1, .ireturn, 0, 0, 0, 0), 2, 0, 1, 8, 1, 0, 0) := rfl
section BWQ
variable {E : mm_E} {PO : mm_C → Prop} {NN : Nat} {h0 h : mm_H} {s : Nat → Int32} {A : Nat → Nat → Int32} {L : Nat → Nat → Int64} {gs : List mm_F}
set_option maxHeartbeats 4000000 in
theorem bw_133 (hP : bm_P bw_T E h h s A L) (kk : ∀ (h' : mm_H) (s' : Nat → Int32), bm_P bw_T E h' h' s' A L → (∀ j, j ≠ 304 → s' j = s j) → bp_G E PO NN (mm_back none gs h')) : bp_G E PO NN ((133, 0, [(0, .ref (E.1 + 3)), (1, .ref (E.1 + 12))], [], 0, 0) :: gs, h, none) := by
  refine bp_ld (pc' := 1) bu_133_0 rfl rfl (fun _ _ _ => rfl) rfl rfl ?_
  refine bn_gr (pc' := 4) (t := 14) bu_133_1 rfl rfl (fun _ _ _ => rfl) hP bw_o12 bw_r12_1 ?_
  refine bp_c (pc' := 5) (n := 0) bu_133_4 rfl rfl (fun _ _ _ => rfl) (by decide) (fun c5482 e5483 => ?_)
  refine bp_ld (pc' := 6) bu_133_5 rfl rfl (fun _ _ _ => rfl) rfl rfl ?_
  refine bn_gr (pc' := 9) (t := 5) bu_133_6 rfl rfl (fun _ _ _ => rfl) hP bw_o3 bw_r3_1 ?_
  refine bp_c (pc' := 10) (n := 0) bu_133_9 rfl rfl (fun _ _ _ => rfl) (by decide) (fun c5484 e5485 => ?_)
  refine bp_c (pc' := 13) (n := 432) bu_133_10 rfl rfl (fun _ _ _ => rfl) (by decide) (fun c5486 e5487 => ?_)
  have hP5491 := bw_self hP
  refine bn_acB (pc' := 16) bu_133_13 rfl bw_b hP5491 (fun h5488 hP5490 => ?_)
  refine bp_ld (pc' := 17) bu_133_16 rfl rfl (fun _ _ _ => rfl) rfl rfl ?_
  refine bn_gr (pc' := 20) (t := 15) bu_133_17 rfl rfl (fun _ _ _ => rfl) hP5490 bw_o12 bw_r12_2 ?_
  refine bp_c (pc' := 21) (n := 0) bu_133_20 rfl rfl (fun _ _ _ => rfl) (by decide) (fun c5492 e5493 => ?_)
  refine bp_ld (pc' := 22) bu_133_21 rfl rfl (fun _ _ _ => rfl) rfl rfl ?_
  refine bn_gr (pc' := 25) (t := 6) bu_133_22 rfl rfl (fun _ _ _ => rfl) hP5490 bw_o3 bw_r3_2 ?_
  refine bp_c (pc' := 26) (n := 0) bu_133_25 rfl rfl (fun _ _ _ => rfl) (by decide) (fun c5494 e5495 => ?_)
  refine bp_c (pc' := 28) (n := 7) bu_133_26 rfl rfl (fun _ _ _ => rfl) (by decide) (fun c5496 e5497 => ?_)
  have hP5501 := bw_self hP5490
  refine bn_acB (pc' := 31) bu_133_28 rfl bw_b hP5501 (fun h5498 hP5500 => ?_)
  refine bp_ld (pc' := 32) bu_133_31 rfl rfl (fun _ _ _ => rfl) rfl rfl ?_
  refine bp_ld (pc' := 33) bu_133_32 rfl rfl (fun _ _ _ => rfl) rfl rfl ?_
  refine bn_gi (pc' := 36) (K := 1204) bu_133_33 rfl rfl (fun _ _ _ => rfl) hP5500 bw_o12 bw_i12_4 rfl rfl ?_
  refine bn_pf (pc' := 39) (K := 304) bu_133_36 rfl rfl (fun _ _ _ => rfl) hP5500 bw_o3 bw_i3_4 rfl rfl (fun h5502 s5503 hP5504 e5505 f5506 => ?_)
  refine bp_rv bu_133_39 ?_
  exact kk _ _ (bw_self hP5504) f5506
set_option maxHeartbeats 4000000 in
theorem bw_201 (hP : bm_P bw_T E h h s A L) (kk : ∀ (h' : mm_H) (s' : Nat → Int32), bm_P bw_T E h' h' s' A L → s' 204 = s 1104 → s' 2 = s 2 → bp_G E PO NN (mm_back none gs h')) : bp_G E PO NN ((201, 0, [(0, .ref (E.1 + 2)), (1, .ref (E.1 + 11))], [], 0, 0) :: gs, h, none) := by
  refine bp_ld (pc' := 1) bu_201_0 rfl rfl (fun _ _ _ => rfl) rfl rfl ?_
  refine bn_gr (pc' := 4) (t := 3) bu_201_1 rfl rfl (fun _ _ _ => rfl) hP bw_o2 bw_r2_0 ?_
  refine bp_ld (pc' := 5) bu_201_4 rfl rfl (fun _ _ _ => rfl) rfl rfl ?_
  refine bn_gr (pc' := 8) (t := 12) bu_201_5 rfl rfl (fun _ _ _ => rfl) hP bw_o11 bw_r11_0 ?_
  refine bn_cvF (pc' := 11) (st := []) (args := [.ref (E.1 + 12)]) bu_201_8 rfl rfl rfl (by decide) hP bw_o3 (by decide) rfl (Nat.le_of_ble_eq_true rfl) (Nat.le_of_ble_eq_true rfl) ?_
  refine bw_133 (bw_self hP) (fun h5507 s5508 hP5509 f5510 => ?_)
  show bp_G E PO NN ((201, 11, _, [], 0, 0) :: gs, h5507, none)
  refine bp_ld (pc' := 12) bu_201_11 rfl rfl (fun _ _ _ => rfl) rfl rfl ?_
  refine bn_gr (pc' := 15) (t := 17) bu_201_12 rfl rfl (fun _ _ _ => rfl) hP5509 bw_o11 bw_r11_1 ?_
  refine bp_c (pc' := 16) (n := 0) bu_201_15 rfl rfl (fun _ _ _ => rfl) (by decide) (fun c5511 e5512 => ?_)
  refine bp_ld (pc' := 17) bu_201_16 rfl rfl (fun _ _ _ => rfl) rfl rfl ?_
  refine bn_gr (pc' := 20) (t := 8) bu_201_17 rfl rfl (fun _ _ _ => rfl) hP5509 bw_o2 bw_r2_1 ?_
  refine bp_c (pc' := 21) (n := 0) bu_201_20 rfl rfl (fun _ _ _ => rfl) (by decide) (fun c5513 e5514 => ?_)
  refine bp_c (pc' := 23) (n := 24) bu_201_21 rfl rfl (fun _ _ _ => rfl) (by decide) (fun c5515 e5516 => ?_)
  have hP5520 := bw_self hP5509
  refine bn_acB (pc' := 26) bu_201_23 rfl bw_b hP5520 (fun h5517 hP5519 => ?_)
  refine bp_ld (pc' := 27) bu_201_26 rfl rfl (fun _ _ _ => rfl) rfl rfl ?_
  refine bn_gr (pc' := 30) (t := 18) bu_201_27 rfl rfl (fun _ _ _ => rfl) hP5519 bw_o11 bw_r11_2 ?_
  refine bp_c (pc' := 31) (n := 0) bu_201_30 rfl rfl (fun _ _ _ => rfl) (by decide) (fun c5521 e5522 => ?_)
  refine bp_ld (pc' := 32) bu_201_31 rfl rfl (fun _ _ _ => rfl) rfl rfl ?_
  refine bn_gr (pc' := 35) (t := 9) bu_201_32 rfl rfl (fun _ _ _ => rfl) hP5519 bw_o2 bw_r2_2 ?_
  refine bp_c (pc' := 36) (n := 0) bu_201_35 rfl rfl (fun _ _ _ => rfl) (by decide) (fun c5523 e5524 => ?_)
  refine bp_c (pc' := 38) (n := 6) bu_201_36 rfl rfl (fun _ _ _ => rfl) (by decide) (fun c5525 e5526 => ?_)
  have hP5530 := bw_self hP5519
  refine bn_acB (pc' := 41) bu_201_38 rfl bw_b hP5530 (fun h5527 hP5529 => ?_)
  refine bp_ld (pc' := 42) bu_201_41 rfl rfl (fun _ _ _ => rfl) rfl rfl ?_
  refine bp_ld (pc' := 43) bu_201_42 rfl rfl (fun _ _ _ => rfl) rfl rfl ?_
  refine bn_gi (pc' := 46) (K := 1104) bu_201_43 rfl rfl (fun _ _ _ => rfl) hP5529 bw_o11 bw_i11_4 rfl (f5510 1104 (by decide)) ?_
  refine bn_pf (pc' := 49) (K := 204) bu_201_46 rfl rfl (fun _ _ _ => rfl) hP5529 bw_o2 bw_i2_4 rfl rfl (fun h5531 s5532 hP5533 e5534 f5535 => ?_)
  refine bp_ld (pc' := 50) bu_201_49 rfl rfl (fun _ _ _ => rfl) rfl rfl ?_
  refine bp_ld (pc' := 51) bu_201_50 rfl rfl (fun _ _ _ => rfl) rfl rfl ?_
  refine bn_gi (pc' := 54) (K := 1105) bu_201_51 rfl rfl (fun _ _ _ => rfl) hP5533 bw_o11 bw_i11_5 rfl ((f5535 1105 (by decide)).trans (f5510 1105 (by decide))) ?_
  refine bn_pf (pc' := 57) (K := 205) bu_201_54 rfl rfl (fun _ _ _ => rfl) hP5533 bw_o2 bw_i2_5 rfl rfl (fun h5536 s5537 hP5538 e5539 f5540 => ?_)
  refine bp_ld (pc' := 58) bu_201_57 rfl rfl (fun _ _ _ => rfl) rfl rfl ?_
  refine bp_ld (pc' := 59) bu_201_58 rfl rfl (fun _ _ _ => rfl) rfl rfl ?_
  refine bn_gi (pc' := 62) (K := 1106) bu_201_59 rfl rfl (fun _ _ _ => rfl) hP5538 bw_o11 bw_i11_6 rfl ((f5540 1106 (by decide)).trans ((f5535 1106 (by decide)).trans (f5510 1106 (by decide)))) ?_
  refine bn_pf (pc' := 65) (K := 206) bu_201_62 rfl rfl (fun _ _ _ => rfl) hP5538 bw_o2 bw_i2_6 rfl rfl (fun h5541 s5542 hP5543 e5544 f5545 => ?_)
  refine bp_ld (pc' := 66) bu_201_65 rfl rfl (fun _ _ _ => rfl) rfl rfl ?_
  refine bp_ld (pc' := 67) bu_201_66 rfl rfl (fun _ _ _ => rfl) rfl rfl ?_
  refine bn_gi (pc' := 70) (K := 1107) bu_201_67 rfl rfl (fun _ _ _ => rfl) hP5543 bw_o11 bw_i11_7 rfl ((f5545 1107 (by decide)).trans ((f5540 1107 (by decide)).trans ((f5535 1107 (by decide)).trans (f5510 1107 (by decide))))) ?_
  refine bn_pf (pc' := 73) (K := 207) bu_201_70 rfl rfl (fun _ _ _ => rfl) hP5543 bw_o2 bw_i2_7 rfl rfl (fun h5546 s5547 hP5548 e5549 f5550 => ?_)
  refine bp_ld (pc' := 74) bu_201_73 rfl rfl (fun _ _ _ => rfl) rfl rfl ?_
  refine bp_ld (pc' := 75) bu_201_74 rfl rfl (fun _ _ _ => rfl) rfl rfl ?_
  refine bn_gi (pc' := 78) (K := 1108) bu_201_75 rfl rfl (fun _ _ _ => rfl) hP5548 bw_o11 bw_i11_8 rfl ((f5550 1108 (by decide)).trans ((f5545 1108 (by decide)).trans ((f5540 1108 (by decide)).trans ((f5535 1108 (by decide)).trans (f5510 1108 (by decide)))))) ?_
  refine bn_pf (pc' := 81) (K := 208) bu_201_78 rfl rfl (fun _ _ _ => rfl) hP5548 bw_o2 bw_i2_8 rfl rfl (fun h5551 s5552 hP5553 e5554 f5555 => ?_)
  refine bp_ld (pc' := 82) bu_201_81 rfl rfl (fun _ _ _ => rfl) rfl rfl ?_
  refine bp_ld (pc' := 83) bu_201_82 rfl rfl (fun _ _ _ => rfl) rfl rfl ?_
  refine bn_gi (pc' := 86) (K := 1109) bu_201_83 rfl rfl (fun _ _ _ => rfl) hP5553 bw_o11 bw_i11_9 rfl ((f5555 1109 (by decide)).trans ((f5550 1109 (by decide)).trans ((f5545 1109 (by decide)).trans ((f5540 1109 (by decide)).trans ((f5535 1109 (by decide)).trans (f5510 1109 (by decide))))))) ?_
  refine bn_pf (pc' := 89) (K := 209) bu_201_86 rfl rfl (fun _ _ _ => rfl) hP5553 bw_o2 bw_i2_9 rfl rfl (fun h5556 s5557 hP5558 e5559 f5560 => ?_)
  refine bp_ld (pc' := 90) bu_201_89 rfl rfl (fun _ _ _ => rfl) rfl rfl ?_
  refine bp_ld (pc' := 91) bu_201_90 rfl rfl (fun _ _ _ => rfl) rfl rfl ?_
  refine bn_gi (pc' := 94) (K := 1110) bu_201_91 rfl rfl (fun _ _ _ => rfl) hP5558 bw_o11 bw_i11_10 rfl ((f5560 1110 (by decide)).trans ((f5555 1110 (by decide)).trans ((f5550 1110 (by decide)).trans ((f5545 1110 (by decide)).trans ((f5540 1110 (by decide)).trans ((f5535 1110 (by decide)).trans (f5510 1110 (by decide)))))))) ?_
  refine bn_pf (pc' := 97) (K := 210) bu_201_94 rfl rfl (fun _ _ _ => rfl) hP5558 bw_o2 bw_i2_10 rfl rfl (fun h5561 s5562 hP5563 e5564 f5565 => ?_)
  refine bp_rv bu_201_97 ?_
  exact kk _ _ (bw_self hP5563) (by rw [((f5565 204 (by decide)).trans ((f5560 204 (by decide)).trans ((f5555 204 (by decide)).trans ((f5550 204 (by decide)).trans ((f5545 204 (by decide)).trans ((f5540 204 (by decide)).trans e5534))))))]) ((f5565 2 (by decide)).trans ((f5560 2 (by decide)).trans ((f5555 2 (by decide)).trans ((f5550 2 (by decide)).trans ((f5545 2 (by decide)).trans ((f5540 2 (by decide)).trans ((f5535 2 (by decide)).trans (f5510 2 (by decide)))))))))
set_option maxHeartbeats 4000000 in
theorem bw_153l : ∀ NN : Nat, (∀ (h' : mm_H) (A' : Nat → Nat → Int32), bm_P bw_T E h0 h' s A' L → (∀ j : Nat, (j : Int) < 3 → (A' 83 j).toInt = 0) → bp_G E PO NN (mm_back none gs h')) → (∀ (h : mm_H) (A : Nat → Nat → Int32) (lv : mm_V) (o : Option Value) (k : Int32), bm_P bw_T E h0 h s A L → (∀ j : Nat, (j : Int) < k.toInt → (A 83 j).toInt = 0) → mm_get lv 0 = some (.ref (E.1 + 37)) → mm_get lv 1 = some (.int k) → bp_G E PO NN ((153, 2, lv, [], 0, 0) :: gs, h, o)) := by
  intro NN
  induction NN with
  | zero => intro kk h A lv o k hP hb g0 g1; exact bp_zero bu_153_2
  | succ NN ih =>
    intro kk h A lv o k hP hb g0 g1
    refine bp_ld (pc' := 3) bu_153_2 rfl rfl (fun _ _ _ => rfl) g1 rfl ?_
    refine bp_c (pc' := 4) (n := 3) bu_153_3 rfl rfl (fun _ _ _ => rfl) (by decide) (fun c5566 e5567 => ?_)
    refine bp_ic (pc' := 7) (pt := 20) bu_153_4 rfl rfl (fun k5568 => ?_) (fun k5568 => ?_)
    · replace k5568 : (c5566).toInt ≤ (k).toInt := k5568
      refine bp_rv bu_153_20 ?_
      exact kk _ _ hP (fun j hj => hb j (by omega))
    · replace k5568 : ¬ ((c5566).toInt ≤ (k).toInt) := k5568
      refine bp_ld (pc' := 8) bu_153_7 rfl rfl (fun _ _ _ => rfl) g0 rfl ?_
      refine bn_gr (pc' := 11) (t := 83) bu_153_8 rfl rfl (fun _ _ _ => rfl) hP bw_o37 bw_r37_2 ?_
      refine bp_ld (pc' := 12) bu_153_11 rfl rfl (fun _ _ _ => rfl) g1 rfl ?_
      refine bp_c (pc' := 13) (n := 0) bu_153_12 rfl rfl (fun _ _ _ => rfl) (by decide) (fun c5569 e5570 => ?_)
      refine bn_iasF (pc' := 14) bu_153_13 rfl rfl (fun _ _ _ => rfl) hP bw_a83 (Or.inr rfl) (fun b5573 b5574 h5571 hP5572 => ?_)
      refine bn_incx (pc' := 17) bu_153_14 rfl (by decide) g1 (by decide) (fun lv5575 y5578 F5576 g5577 e5579 => ?_)
      have g5580 := F5576 0 (.ref (E.1 + 37)) g0 (by decide) (Or.inl rfl)
      refine bp_goD (pc' := 2) bu_153_17 rfl ?_
      exact ih (fun h' A' a0 a1 => bp_mono (Nat.le_succ NN) (kk h' A' a0 a1)) _ _ _ _ _ hP5572 (fun j hj => by
        by_cases e : j = k.toInt.toNat
        · rw [e, bh_up_i]
          exact bp_nar20 (by omega)
        · rw [bh_up_j e]
          exact hb j (by omega)) g5580 g5577
set_option maxHeartbeats 4000000 in
theorem bw_153 (hP : bm_P bw_T E h0 h s A L) (kk : (∀ (h' : mm_H) (A' : Nat → Nat → Int32), bm_P bw_T E h0 h' s A' L → (∀ j : Nat, (j : Int) < 3 → (A' 83 j).toInt = 0) → bp_G E PO NN (mm_back none gs h'))) : bp_G E PO NN ((153, 0, [(0, .ref (E.1 + 37))], [], 0, 0) :: gs, h, none) := by
  refine bp_c (pc' := 1) (n := 0) bu_153_0 rfl rfl (fun _ _ _ => rfl) (by decide) (fun c5581 e5582 => ?_)
  refine bp_st (pc' := 2) bu_153_1 rfl rfl (fun _ _ _ => rfl) rfl (by decide) (by decide) (fun lv5583 F5584 g5585 => ?_)
  have g5586 := F5584 0 (.ref (E.1 + 37)) rfl (by decide) (Or.inl rfl)
  exact bw_153l NN kk _ _ _ _ _ hP (fun j hj => by omega) g5586 g5585
set_option maxHeartbeats 4000000 in
theorem bw_154 (hP : bm_P bw_T E h0 h s A L) (kk : ∀ (h' : mm_H) (s' : Nat → Int32), bm_P bw_T E h0 h' s' A L → (s' 3704).toInt = 0 → (∀ j, j ≠ 3704 → s' j = s j) → bp_G E PO NN (mm_back none gs h')) : bp_G E PO NN ((154, 0, [(0, .ref (E.1 + 37))], [], 0, 0) :: gs, h, none) := by
  refine bp_ld (pc' := 1) bu_154_0 rfl rfl (fun _ _ _ => rfl) rfl rfl ?_
  refine bp_c (pc' := 2) (n := 0) bu_154_1 rfl rfl (fun _ _ _ => rfl) (by decide) (fun c5587 e5588 => ?_)
  refine bn_pf (pc' := 5) (K := 3704) bu_154_2 rfl rfl (fun _ _ _ => rfl) hP bw_o37 bw_i37_4 rfl rfl (fun h5589 s5590 hP5591 e5592 f5593 => ?_)
  refine bp_rv bu_154_5 ?_
  exact kk _ _ hP5591 (by rw [e5592]; omega) f5593
set_option maxHeartbeats 4000000 in
theorem bw_149 (hP : bm_P bw_T E h0 h s A L) (kk : ∀ (h' : mm_H) (s' : Nat → Int32), bm_P bw_T E h0 h' s' A L → (s' 8403).toInt = 0 → (∀ j, j ≠ 8403 → s' j = s j) → bp_G E PO NN (mm_back none gs h')) : bp_G E PO NN ((149, 0, [(0, .ref (E.1 + 84))], [], 0, 0) :: gs, h, none) := by
  refine bp_ld (pc' := 1) bu_149_0 rfl rfl (fun _ _ _ => rfl) rfl rfl ?_
  refine bp_c (pc' := 2) (n := 0) bu_149_1 rfl rfl (fun _ _ _ => rfl) (by decide) (fun c5594 e5595 => ?_)
  refine bn_pf (pc' := 5) (K := 8403) bu_149_2 rfl rfl (fun _ _ _ => rfl) hP bw_o84 bw_i84_3 rfl rfl (fun h5596 s5597 hP5598 e5599 f5600 => ?_)
  refine bp_rv bu_149_5 ?_
  exact kk _ _ hP5598 (by rw [e5599]; omega) f5600
set_option maxHeartbeats 4000000 in
theorem bw_253t {lv : mm_V} {o : Option Value} {r : Int32} {n : Int} (g0 : mm_get lv 0 = some (.ref (E.1 + 0))) (g1 : mm_get lv 1 = some (.int r)) (hP : bm_P bw_T E h0 h s A L) (hn : (s 1104).toInt = n) (kk : ∀ h' : mm_H, bw_Z n h' → wt_s h' 2 = s 2 → bp_G E PO NN (mm_back (some (.int r)) gs h')) : bp_G E PO NN ((253, 32, lv, [], 0, 0) :: gs, h, o) := by
  refine bp_ld (pc' := 33) bu_253_32 rfl rfl (fun _ _ _ => rfl) g0 rfl ?_
  refine bn_gr (pc' := 36) (t := 2) bu_253_33 rfl rfl (fun _ _ _ => rfl) hP bw_o0 bw_r0_3 ?_
  refine bp_ld (pc' := 37) bu_253_36 rfl rfl (fun _ _ _ => rfl) g0 rfl ?_
  refine bn_gr (pc' := 40) (t := 11) bu_253_37 rfl rfl (fun _ _ _ => rfl) hP bw_o0 bw_r0_4 ?_
  refine bn_cvF (pc' := 43) (st := []) (args := [.ref (E.1 + 11)]) bu_253_40 rfl rfl rfl (by decide) hP bw_o2 (by decide) rfl (Nat.le_of_ble_eq_true rfl) (Nat.le_of_ble_eq_true rfl) ?_
  refine bw_201 (bw_self hP) (fun h5601 s5602 hP5603 e5604 e5605 => ?_)
  show bp_G E PO NN ((253, 43, lv, [], 0, 0) :: gs, h5601, none)
  refine bp_ld (pc' := 44) bu_253_43 rfl rfl (fun _ _ _ => rfl) g0 rfl ?_
  refine bn_gr (pc' := 47) (t := 25) bu_253_44 rfl rfl (fun _ _ _ => rfl) hP5603 bw_o0 bw_r0_6 ?_
  refine bp_c (pc' := 48) (n := 0) bu_253_47 rfl rfl (fun _ _ _ => rfl) (by decide) (fun c5606 e5607 => ?_)
  refine bn_cvF (pc' := 51) (st := []) (args := [.int c5606]) bu_253_48 rfl rfl rfl (by decide) hP5603 bw_o25 (by decide) rfl (Nat.le_of_ble_eq_true rfl) (Nat.le_of_ble_eq_true rfl) ?_
  refine kq_call0 bw_chk (K := 194) (by decide) rfl (fun vo5608 h5609 F5610 e5611 e5612 => ?_)
  obtain rfl := e5611 rfl
  obtain ⟨A5613, hP5614⟩ := bw_re hP5603 F5610
  show bp_G E PO NN ((253, 51, lv, [], 0, 0) :: gs, h5609, none)
  refine bp_ld (pc' := 52) bu_253_51 rfl rfl (fun _ _ _ => rfl) g0 rfl ?_
  refine bn_gr (pc' := 55) (t := 31) bu_253_52 rfl rfl (fun _ _ _ => rfl) hP5614 bw_o0 bw_r0_8 ?_
  refine bn_cvF (pc' := 58) (st := []) (args := []) bu_253_55 rfl rfl rfl (by decide) hP5614 bw_o31 (by decide) rfl (Nat.le_of_ble_eq_true rfl) (Nat.le_of_ble_eq_true rfl) ?_
  refine kq_call0 bw_chk (K := 116) (by decide) rfl (fun vo5615 h5616 F5617 e5618 e5619 => ?_)
  obtain rfl := e5618 rfl
  obtain ⟨A5620, hP5621⟩ := bw_re hP5614 F5617
  show bp_G E PO NN ((253, 58, lv, [], 0, 0) :: gs, h5616, none)
  refine bp_ld (pc' := 59) bu_253_58 rfl rfl (fun _ _ _ => rfl) g0 rfl ?_
  refine bn_gr (pc' := 62) (t := 37) bu_253_59 rfl rfl (fun _ _ _ => rfl) hP5621 bw_o0 bw_r0_9 ?_
  refine bn_cvF (pc' := 65) (st := []) (args := []) bu_253_62 rfl rfl rfl (by decide) hP5621 bw_o37 (by decide) rfl (Nat.le_of_ble_eq_true rfl) (Nat.le_of_ble_eq_true rfl) ?_
  refine bw_154 hP5621 (fun h5622 s5623 hP5624 e5625 f5626 => ?_)
  show bp_G E PO NN ((253, 65, lv, [], 0, 0) :: gs, h5622, none)
  refine bp_ld (pc' := 66) bu_253_65 rfl rfl (fun _ _ _ => rfl) g0 rfl ?_
  refine bn_gr (pc' := 69) (t := 37) bu_253_66 rfl rfl (fun _ _ _ => rfl) hP5624 bw_o0 bw_r0_9 ?_
  refine bn_cvF (pc' := 72) (st := []) (args := []) bu_253_69 rfl rfl rfl (by decide) hP5624 bw_o37 (by decide) rfl (Nat.le_of_ble_eq_true rfl) (Nat.le_of_ble_eq_true rfl) ?_
  refine bw_153 hP5624 (fun h5627 A5628 hP5629 z5630 => ?_)
  show bp_G E PO NN ((253, 72, lv, [], 0, 0) :: gs, h5627, none)
  refine bp_ld (pc' := 73) bu_253_72 rfl rfl (fun _ _ _ => rfl) g0 rfl ?_
  refine bn_gr (pc' := 76) (t := 84) bu_253_73 rfl rfl (fun _ _ _ => rfl) hP5629 bw_o0 bw_r0_10 ?_
  refine bn_cvF (pc' := 79) (st := []) (args := []) bu_253_76 rfl rfl rfl (by decide) hP5629 bw_o84 (by decide) rfl (Nat.le_of_ble_eq_true rfl) (Nat.le_of_ble_eq_true rfl) ?_
  refine bw_149 hP5629 (fun h5631 s5632 hP5633 e5634 f5635 => ?_)
  show bp_G E PO NN ((253, 79, lv, [], 0, 0) :: gs, h5631, none)
  refine bp_ld (pc' := 80) bu_253_79 rfl rfl (fun _ _ _ => rfl) g1 rfl ?_
  refine bp_ri bu_253_80 ?_
  have w1 := bm_ws (c := 2) (k := 4) hP5633 bw_o2 bw_i2_4
  have w2 := bm_ws (c := 84) (k := 3) hP5633 bw_o84 bw_i84_3
  have w3 : br_A _ 83 = _ := bm_wA hP5633 bw_a83
  have w4 := bm_ws (c := 0) (k := 2) hP5633 bw_o0 bw_i0_2
  exact kk _ ⟨by rw [show (204 : Nat) = 100 * 2 + 4 from rfl, w1, ((f5635 204 (by decide)).trans (f5626 204 (by decide))), e5604]; exact hn, by rw [show (8403 : Nat) = 100 * 84 + 3 from rfl, w2]; exact e5634, fun j hj => by rw [w3]; exact z5630 j (by omega)⟩ (by rw [show (2 : Nat) = 100 * 0 + 2 from rfl, w4]; exact ((f5635 2 (by decide)).trans (f5626 2 (by decide))).trans e5605)
end BWQ
section BTQ
variable {X : Nat → Int32} {n : Nat} {E : mm_E} {PO : mm_C → Prop} {NN : Nat} {h0 h : mm_H} {s : Nat → Int32} {A : Nat → Nat → Int32} {L : Nat → Nat → Int64} {gs : List mm_F}
theorem bt_pof0 (hP : bm_P b7_T E h0 h s A L) (kk : bp_G E PO NN (mm_back (some (.int (s 2007))) gs h)) : bp_G E PO NN ((168, 0, [(0, .ref (E.1 + 20))], [], 0, 0) :: gs, h, none) := by
  refine bp_ld (pc' := 1) bu_168_0 rfl rfl (fun _ _ _ => rfl) rfl rfl ?_
  refine bn_gi (pc' := 4) (K := 2007) bu_168_1 rfl rfl (fun _ _ _ => rfl) hP b7_o20 b7_i20_7 rfl rfl ?_
  refine bp_ri bu_168_4 ?_
  exact kk
theorem bt_pof {fs : List Value} {p : Int32} (hl : h.length = 133) (e1 : h[20]? = some (.inr (4, fs))) (e2 : fs[7]? = some (.int p)) (kk : bp_G E PO NN (mm_back (some (.int p)) gs h)) : bp_G E PO NN ((168, 0, [(0, .ref (E.1 + 20))], [], 0, 0) :: gs, h, none) := bt_pof0 (b7_of hl e1 e2) kk
set_option maxHeartbeats 4000000 in
theorem bt_253 {x9 y9 : Int32} {sq : Nat → Int32} {Aq : Nat → Nat → Int32} {Lq : Nat → Nat → Int64} {sw : Nat → Int32} {Aw : Nat → Nat → Int32} {Lw : Nat → Nat → Int64} {q4 q4' q6 q6' : mm_S} (hq4 : E.2[4]? = some q4) (hE4 : bs_E E 0 q4 q4') (hn4 : q4'.2.1 = 192) (hW4 : ∀ k, k < 24 → ∀ i, i < 8 → (q4'.2.2 (8 * k + i)).toInt = px_wc k i) (hq6 : E.2[6]? = some q6) (hE6 : bs_E E 1 q6 q6') (hn6 : q6'.2.1 = 9) (hW6 : ∀ i, i < 9 → (q6'.2.2 i).toInt = px_sw i) (hS : ∀ ρ, en_SA E ρ (wl_o x9 y9) mt_SB) (hP : bm_P bz_T E h0 h s A L) (hPq : bm_P bq_T E h h sq Aq Lq) (hd : gs.length + 70 ≤ 999) (hX : Aq 1 = X) (htl : (s 1).toInt = (n : Int)) (hn2 : n ≤ 2000) (hb : ∀ j, j < n → -128 ≤ (X j).toInt ∧ (X j).toInt ≤ 127) (hPw : bm_P bw_T E h h sw Aw Lw) (kk : ∀ (h' : mm_H) (r : Int32), r.toInt = (py_ft (py_end (fun j => px_kd X n (px_at X n j)) (fun j => px_vl X n (px_at X n j)) (rq_Q X n)) : Int) → (wt_s h' 2).toInt = py_pl (fun j => px_at X n j) (py_end (fun j => px_kd X n (px_at X n j)) (fun j => px_vl X n (px_at X n j)) (rq_Q X n)) → (r.toInt = 0 → bw_Z (((py_end (fun j => px_kd X n (px_at X n j)) (fun j => px_vl X n (px_at X n j)) (rq_Q X n))).2.2.2.2.length : Int) h') → (r.toInt ≠ 0 → bw_K h h') → bp_G E PO NN (mm_back (some (.int r)) gs h')) : bp_G E PO NN ((253, 0, [(0, .ref (E.1 + 0))], [], 0, 0) :: gs, h, none) := by
  refine bp_ld (pc' := 1) bu_253_0 rfl rfl (fun _ _ _ => rfl) rfl rfl ?_
  refine bn_gr (pc' := 4) (t := 20) bu_253_1 rfl rfl (fun _ _ _ => rfl) hP bz_o0 bz_r0_5 ?_
  refine bp_ld (pc' := 5) bu_253_4 rfl rfl (fun _ _ _ => rfl) rfl rfl ?_
  refine bn_gi (pc' := 8) (K := 1) bu_253_5 rfl rfl (fun _ _ _ => rfl) hP bz_o0 bz_i0_1 rfl rfl ?_
  refine bn_cvF (pc' := 11) (st := []) (args := [.int (s 1)]) bu_253_8 rfl rfl rfl (by decide) hP bz_o20 (by decide) rfl (Nat.le_of_ble_eq_true rfl) (Nat.le_of_ble_eq_true rfl) ?_
  refine bt_173 hq4 hE4 hn4 hW4 hq6 hE6 hn6 hW6 hS hPq (by simp only [List.length_cons]; omega) hX htl hn2 hb (fun h5636 s5637 A5638 L5639 r5640 hP5641 e5642 ep5643 em5644 => ?_)
  have hP5646 := bz_q hP hP5641
  have f75645 : ∃ fs : List Value, h5636[20]? = some (.inr (4, fs)) ∧ fs[7]? = some (.int (s5637 2007)) := by
    obtain ⟨_, fs, -, a2, o⟩ := hP5641.2.2.1 (20, 4) bq_o20
    exact ⟨fs, a2, o.2.2.2.1 7 bq_i20_7⟩
  show bp_G E PO NN ((253, 11, _, [.int r5640], 0, 0) :: gs, h5636, none)
  refine bp_st (pc' := 12) bu_253_11 rfl rfl (fun _ _ _ => rfl) rfl (by decide) (by decide) (fun lv5647 F5648 g5649 => ?_)
  have g5650 := F5648 0 (.ref (E.1 + 0)) rfl (by decide) (Or.inl rfl)
  refine bp_ld (pc' := 13) bu_253_12 rfl rfl (fun _ _ _ => rfl) g5650 rfl ?_
  refine bp_c (pc' := 14) (n := 0) bu_253_13 rfl rfl (fun _ _ _ => rfl) (by decide) (fun c5651 e5652 => ?_)
  refine bn_pf (pc' := 17) (K := 1) bu_253_14 rfl rfl (fun _ _ _ => rfl) hP5646 bz_o0 bz_i0_1 rfl rfl (fun h5653 s5654 hP5655 e5656 f5657 => ?_)
  refine bp_ld (pc' := 18) bu_253_17 rfl rfl (fun _ _ _ => rfl) g5650 rfl ?_
  refine bp_ld (pc' := 19) bu_253_18 rfl rfl (fun _ _ _ => rfl) g5650 rfl ?_
  refine bn_gr (pc' := 22) (t := 20) bu_253_19 rfl rfl (fun _ _ _ => rfl) hP5655 bz_o0 bz_r0_5 ?_
  refine bn_cvF (pc' := 25) (st := [.ref (E.1 + 0)]) (args := []) bu_253_22 rfl rfl rfl (by decide) hP5655 bz_o20 (by decide) rfl (Nat.le_of_ble_eq_true rfl) (Nat.le_of_ble_eq_true rfl) ?_
  obtain ⟨fs5658, e5659, e5660⟩ := bz_20 hP5655 f75645
  refine bt_pof hP5655.2.1 e5659 e5660 ?_
  show bp_G E PO NN ((253, 25, lv5647, [.int (s5637 2007), .ref (E.1 + 0)], 0, 0) :: gs, h5653, none)
  refine bn_pf (pc' := 28) (K := 2) bu_253_25 rfl rfl (fun _ _ _ => rfl) hP5655 bz_o0 bz_i0_2 rfl rfl (fun h5661 s5662 hP5663 e5664 f5665 => ?_)
  refine bp_ld (pc' := 29) bu_253_28 rfl rfl (fun _ _ _ => rfl) g5649 rfl ?_
  refine bp_i0 (pc' := 32) (pt := 79) bu_253_29 rfl rfl (fun k5666 => ?_) (fun k5666 => ?_)
  · replace k5666 : (r5640).toInt ≠ 0 := k5666
    refine bp_ld (pc' := 80) bu_253_79 rfl rfl (fun _ _ _ => rfl) g5649 rfl ?_
    refine bp_ri bu_253_80 ?_
    refine kk _ _ e5642 ?_ (fun q => absurd q (by omega)) (fun _ => bw_fail hP5663 hP5641)
    rw [show (2 : Nat) = 100 * 0 + 2 from rfl, bm_ws (c := 0) (k := 2) hP5663 bz_o0 bz_i0_2, e5664]
    exact ep5643
  · replace k5666 : ¬ ((r5640).toInt ≠ 0) := k5666
    obtain ⟨s5667, A5668, hW5669, w5670, w5671⟩ := bw_of hPw hP5663 hP5641
    refine bw_253t g5650 g5649 hW5669 (by rw [w5670]; exact em5644 (by omega)) (fun h' z1 z2 => kk _ _ e5642 ?_ (fun _ => z1) (fun q => absurd (by omega) q))
    rw [z2, w5671, e5664]
    exact ep5643
end BTQ
