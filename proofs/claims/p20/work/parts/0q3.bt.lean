/-! PARTIAL: the class reads, exact (wip/p5/mkq9.py) -/
def bz_T : bm_T := ([(0, 8), (2, 6), (20, 4), (25, 5), (28, 5), (31, 0), (37, 3), (84, 2)], [(0, 0, 1), (0, 3, 2), (0, 4, 11), (0, 5, 20), (0, 6, 25), (0, 7, 28), (0, 8, 31), (0, 9, 37), (0, 10, 84)], [(0, 1), (0, 2)], [], [], [])
theorem bz_o0 : (0, 8) ∈ bz_T.1 := by decide
theorem bz_o2 : (2, 6) ∈ bz_T.1 := by decide
theorem bz_o20 : (20, 4) ∈ bz_T.1 := by decide
theorem bz_o25 : (25, 5) ∈ bz_T.1 := by decide
theorem bz_o28 : (28, 5) ∈ bz_T.1 := by decide
theorem bz_o31 : (31, 0) ∈ bz_T.1 := by decide
theorem bz_o37 : (37, 3) ∈ bz_T.1 := by decide
theorem bz_o84 : (84, 2) ∈ bz_T.1 := by decide
theorem bz_r0_0 : (0, 0, 1) ∈ bz_T.2.1 := by decide
theorem bz_r0_3 : (0, 3, 2) ∈ bz_T.2.1 := by decide
theorem bz_r0_4 : (0, 4, 11) ∈ bz_T.2.1 := by decide
theorem bz_r0_5 : (0, 5, 20) ∈ bz_T.2.1 := by decide
theorem bz_r0_6 : (0, 6, 25) ∈ bz_T.2.1 := by decide
theorem bz_r0_7 : (0, 7, 28) ∈ bz_T.2.1 := by decide
theorem bz_r0_8 : (0, 8, 31) ∈ bz_T.2.1 := by decide
theorem bz_r0_9 : (0, 9, 37) ∈ bz_T.2.1 := by decide
theorem bz_r0_10 : (0, 10, 84) ∈ bz_T.2.1 := by decide
theorem bz_i0_1 : (0, 1) ∈ bz_T.2.2.1 := by decide
theorem bz_i0_2 : (0, 2) ∈ bz_T.2.2.1 := by decide
theorem bz_W : bm_W bz_T := by unfold bm_W; decide
def bz_F : Nat → Nat → Bool := fun ci _ => Nat.beq ci 8
def bz_S : List Nat := [116, 117, 133, 149, 153, 154, 168, 180, 194, 201, 265, 287, 289]
theorem bz_chk : kp_chk bz_S bz_F mt_P = true := by decide +kernel
theorem bz_r0 : ∀ r ∈ bz_T.2.1, r.1 = 0 := by decide
theorem bz_i0 : ∀ r ∈ bz_T.2.2.1, r.1 = 0 := by decide
theorem bz_o8 : ∀ q ∈ bz_T.1, q.1 = 0 → q.2 = 8 := by decide
theorem bz_f0 : bz_T.2.2.2.1 = [] := rfl
theorem bz_of {E : mm_E} {h' : mm_H} {s : Nat → Int32} {A : Nat → Nat → Int32} {L : Nat → Nat → Int64} (hl : h'.length = 133) (hO : ∀ q ∈ bz_T.1, ∃ fs : List Value, h'[q.1]? = some (.inr (q.2, fs)) ∧ (q.1 = 0 → (∀ k t, (0, k, t) ∈ bz_T.2.1 → fs[k]? = some (.ref (E.1 + t))) ∧ (∀ k, (0, k) ∈ bz_T.2.2.1 → fs[k]? = some (.int (s k))))) : bm_P bz_T E h' h' s A L := by
  refine ⟨bz_W, hl, fun q hq => ?_, fun q hq => (List.not_mem_nil hq).elim, fun q hq => (List.not_mem_nil hq).elim, fun _ _ _ _ => rfl⟩
  obtain ⟨fs, e, g⟩ := hO q hq
  refine ⟨fs, fs, e, e, rfl, fun _ _ _ => rfl, fun k t hk => ?_, fun k hk => ?_, fun k hk => (List.not_mem_nil hk).elim⟩
  · have z : q.1 = 0 := bz_r0 _ hk
    rw [z] at hk
    exact (g z).1 k t hk
  · have z : q.1 = 0 := bz_i0 (q.1, k) hk
    rw [z] at hk ⊢
    rw [(g z).2 k hk, Nat.mul_zero, Nat.zero_add]
theorem bz_at {E : mm_E} {h0 h : mm_H} {s : Nat → Int32} {A : Nat → Nat → Int32} {L : Nat → Nat → Int64} (hP : bm_P bz_T E h0 h s A L) : ∀ q ∈ bz_T.1, ∃ fs : List Value, h[q.1]? = some (.inr (q.2, fs)) ∧ (q.1 = 0 → (∀ k t, (0, k, t) ∈ bz_T.2.1 → fs[k]? = some (.ref (E.1 + t))) ∧ (∀ k, (0, k) ∈ bz_T.2.2.1 → fs[k]? = some (.int (s k)))) := by
  intro q hq
  obtain ⟨fs0, fs, a1, a2, a3, a4, a5, a6, a7⟩ := hP.2.2.1 q hq
  refine ⟨fs, a2, fun z => ⟨fun k t hk => a5 k t (by rw [z]; exact hk), fun k hk => ?_⟩⟩
  have b := a6 k (by rw [z]; exact hk)
  rw [z, Nat.mul_zero, Nat.zero_add] at b
  exact b
theorem bz_re {E : mm_E} {h0 h h' : mm_H} {s : Nat → Int32} {A : Nat → Nat → Int32} {L : Nat → Nat → Int64} (hP : bm_P bz_T E h0 h s A L) (hF : kp_F bz_F h h') : bm_P bz_T E h' h' s A L := by
  refine bz_of (hF.1.trans hP.2.1) (fun q hq => ?_)
  obtain ⟨fs, e, g⟩ := bz_at hP q hq
  obtain ⟨fs', e', -, k'⟩ := hF.2 _ _ _ e
  refine ⟨fs', e', fun z => ?_⟩
  have c8 : ∀ k, bz_F q.2 k = true := fun k => by
    rw [bz_o8 q hq z]
    rfl
  exact ⟨fun k t hk => (k' k (c8 k)).trans ((g z).1 k t hk), fun k hk => (k' k (c8 k)).trans ((g z).2 k hk)⟩
theorem bz_q {E : mm_E} {h0 h h' : mm_H} {s sq : Nat → Int32} {A Aq : Nat → Nat → Int32} {L Lq : Nat → Nat → Int64} (hP : bm_P bz_T E h0 h s A L) (hQ : bm_P bq_T E h h' sq Aq Lq) : bm_P bz_T E h' h' s A L := by
  refine bz_of hQ.2.1 (fun q hq => ?_)
  by_cases c : q.1 = 20
  · have e : q = (20, 4) := (by decide : ∀ q ∈ bz_T.1, q.1 = 20 → q = (20, 4)) q hq c
    subst e
    obtain ⟨fs0, fs, a1, a2, -⟩ := hQ.2.2.1 (20, 4) bq_o20
    exact ⟨fs, a2, fun z => by cases z⟩
  · obtain ⟨fs, e, g⟩ := bz_at hP q hq
    have d := (by decide : ∀ q ∈ bz_T.1, q.1 ≠ 20 → (∀ p ∈ bq_T.1, p.1 ≠ q.1) ∧ (∀ p ∈ bq_T.2.2.2.2.1, p.1 ≠ q.1) ∧ (∀ p ∈ bq_T.2.2.2.2.2, p.1 ≠ q.1)) q hq c
    exact ⟨fs, (hQ.2.2.2.2.2 q.1 d.1 d.2.1 d.2.2).trans e, g⟩
def bw_T : bm_T := ([(0, 8), (2, 6), (3, 1), (11, 6), (12, 1), (25, 5), (31, 0), (37, 3), (84, 2)], [(0, 3, 2), (0, 4, 11), (0, 6, 25), (0, 8, 31), (0, 9, 37), (0, 10, 84), (2, 0, 3), (2, 1, 8), (2, 2, 9), (3, 1, 5), (3, 2, 6), (11, 0, 12), (11, 1, 17), (11, 2, 18), (12, 1, 14), (12, 2, 15), (31, 0, 2), (31, 1, 32), (31, 2, 33), (37, 2, 83)], [(0, 2), (2, 4), (2, 5), (2, 6), (2, 7), (2, 8), (2, 9), (2, 10), (3, 4), (11, 4), (11, 5), (11, 6), (11, 7), (11, 8), (11, 9), (11, 10), (12, 4), (31, 6), (37, 4), (84, 3)], [], [(5, 0, 432), (6, 0, 7), (8, 0, 24), (9, 0, 6), (14, 0, 432), (15, 0, 7), (17, 0, 24), (18, 0, 6), (32, 0, 1440), (33, 0, 6), (83, 2, 3)], [])
theorem bw_o0 : (0, 8) ∈ bw_T.1 := by decide
theorem bw_o2 : (2, 6) ∈ bw_T.1 := by decide
theorem bw_o3 : (3, 1) ∈ bw_T.1 := by decide
theorem bw_o11 : (11, 6) ∈ bw_T.1 := by decide
theorem bw_o12 : (12, 1) ∈ bw_T.1 := by decide
theorem bw_o25 : (25, 5) ∈ bw_T.1 := by decide
theorem bw_o31 : (31, 0) ∈ bw_T.1 := by decide
theorem bw_o37 : (37, 3) ∈ bw_T.1 := by decide
theorem bw_o84 : (84, 2) ∈ bw_T.1 := by decide
theorem bw_r0_3 : (0, 3, 2) ∈ bw_T.2.1 := by decide
theorem bw_r0_4 : (0, 4, 11) ∈ bw_T.2.1 := by decide
theorem bw_r0_6 : (0, 6, 25) ∈ bw_T.2.1 := by decide
theorem bw_r0_8 : (0, 8, 31) ∈ bw_T.2.1 := by decide
theorem bw_r0_9 : (0, 9, 37) ∈ bw_T.2.1 := by decide
theorem bw_r0_10 : (0, 10, 84) ∈ bw_T.2.1 := by decide
theorem bw_r2_0 : (2, 0, 3) ∈ bw_T.2.1 := by decide
theorem bw_r2_1 : (2, 1, 8) ∈ bw_T.2.1 := by decide
theorem bw_r2_2 : (2, 2, 9) ∈ bw_T.2.1 := by decide
theorem bw_r3_1 : (3, 1, 5) ∈ bw_T.2.1 := by decide
theorem bw_r3_2 : (3, 2, 6) ∈ bw_T.2.1 := by decide
theorem bw_r11_0 : (11, 0, 12) ∈ bw_T.2.1 := by decide
theorem bw_r11_1 : (11, 1, 17) ∈ bw_T.2.1 := by decide
theorem bw_r11_2 : (11, 2, 18) ∈ bw_T.2.1 := by decide
theorem bw_r12_1 : (12, 1, 14) ∈ bw_T.2.1 := by decide
theorem bw_r12_2 : (12, 2, 15) ∈ bw_T.2.1 := by decide
theorem bw_r31_0 : (31, 0, 2) ∈ bw_T.2.1 := by decide
theorem bw_r31_1 : (31, 1, 32) ∈ bw_T.2.1 := by decide
theorem bw_r31_2 : (31, 2, 33) ∈ bw_T.2.1 := by decide
theorem bw_r37_2 : (37, 2, 83) ∈ bw_T.2.1 := by decide
theorem bw_i0_2 : (0, 2) ∈ bw_T.2.2.1 := by decide
theorem bw_i2_4 : (2, 4) ∈ bw_T.2.2.1 := by decide
theorem bw_i2_5 : (2, 5) ∈ bw_T.2.2.1 := by decide
theorem bw_i2_6 : (2, 6) ∈ bw_T.2.2.1 := by decide
theorem bw_i2_7 : (2, 7) ∈ bw_T.2.2.1 := by decide
theorem bw_i2_8 : (2, 8) ∈ bw_T.2.2.1 := by decide
theorem bw_i2_9 : (2, 9) ∈ bw_T.2.2.1 := by decide
theorem bw_i2_10 : (2, 10) ∈ bw_T.2.2.1 := by decide
theorem bw_i3_4 : (3, 4) ∈ bw_T.2.2.1 := by decide
theorem bw_i11_4 : (11, 4) ∈ bw_T.2.2.1 := by decide
theorem bw_i11_5 : (11, 5) ∈ bw_T.2.2.1 := by decide
theorem bw_i11_6 : (11, 6) ∈ bw_T.2.2.1 := by decide
theorem bw_i11_7 : (11, 7) ∈ bw_T.2.2.1 := by decide
theorem bw_i11_8 : (11, 8) ∈ bw_T.2.2.1 := by decide
theorem bw_i11_9 : (11, 9) ∈ bw_T.2.2.1 := by decide
theorem bw_i11_10 : (11, 10) ∈ bw_T.2.2.1 := by decide
theorem bw_i12_4 : (12, 4) ∈ bw_T.2.2.1 := by decide
theorem bw_i31_6 : (31, 6) ∈ bw_T.2.2.1 := by decide
theorem bw_i37_4 : (37, 4) ∈ bw_T.2.2.1 := by decide
theorem bw_i84_3 : (84, 3) ∈ bw_T.2.2.1 := by decide
theorem bw_a5 : (5, 0, 432) ∈ bw_T.2.2.2.2.1 := by decide
theorem bw_a6 : (6, 0, 7) ∈ bw_T.2.2.2.2.1 := by decide
theorem bw_a8 : (8, 0, 24) ∈ bw_T.2.2.2.2.1 := by decide
theorem bw_a9 : (9, 0, 6) ∈ bw_T.2.2.2.2.1 := by decide
theorem bw_a14 : (14, 0, 432) ∈ bw_T.2.2.2.2.1 := by decide
theorem bw_a15 : (15, 0, 7) ∈ bw_T.2.2.2.2.1 := by decide
theorem bw_a17 : (17, 0, 24) ∈ bw_T.2.2.2.2.1 := by decide
theorem bw_a18 : (18, 0, 6) ∈ bw_T.2.2.2.2.1 := by decide
theorem bw_a32 : (32, 0, 1440) ∈ bw_T.2.2.2.2.1 := by decide
theorem bw_a33 : (33, 0, 6) ∈ bw_T.2.2.2.2.1 := by decide
theorem bw_a83 : (83, 2, 3) ∈ bw_T.2.2.2.2.1 := by decide
theorem bw_W : bm_W bw_T := by unfold bm_W; decide
def bw_F : Nat → Nat → Bool := fun ci k => ([0, 1, 2, 6, 1001, 1002, 1004, 2003, 3002, 3004, 6000, 6001, 6002, 6004, 6005, 6006, 6007, 6008, 6009, 6010, 8002, 8003, 8004, 8006, 8008, 8009, 8010] : List Nat).elem (1000 * ci + k)
def bw_S : List Nat := [180, 194, 287]
def bw_G : Nat → Nat → Bool := fun ci k => ([1, 2, 101, 102, 200, 302, 601, 602, 603, 921, 922, 923, 924, 925, 926, 927, 928, 929, 930, 931, 932, 934, 935, 936, 937, 938, 940, 941, 966, 971] : List Nat).elem (100 * ci + k) && Nat.blt k 100
def bw_Kr : List Nat := [5, 6, 8, 9, 14, 15, 17, 18, 32, 33, 83]
def bw_Tg : ka_T := [(194, [(134, [true]), (135, [false, true])])]
theorem bw_chk : kp_chk bw_S bw_F mt_P = true := by decide +kernel
theorem bw_cka : ka_chk bw_S bw_G bw_Tg = true := by decide +kernel
theorem bw_hk : ka_hk bw_G bw_Kr = true := by decide +kernel
theorem bw_fr : ∀ q ∈ bw_T.1, (∀ r ∈ bw_T.2.1, r.1 = q.1 → bw_F q.2 r.2.1 = true) ∧ (∀ r ∈ bw_T.2.2.1, r.1 = q.1 → bw_F q.2 r.2 = true) := by decide
theorem bw_kr : ∀ q ∈ bw_T.2.2.2.2.1, q.1 ∈ bw_Kr := by decide
theorem bw_re {E : mm_E} {h0 h h' : mm_H} {s : Nat → Int32} {A : Nat → Nat → Int32} {L : Nat → Nat → Int64} (hP : bm_P bw_T E h0 h s A L) (hF : kb_P bw_F E bw_G bw_Kr h h') : bm_P bw_T E h' h' s A L := by
  obtain ⟨-, hK, hF, -⟩ := hF
  refine ⟨bw_W, hF.1.trans hP.2.1, fun q hq => ?_, fun q hq => ?_, fun q hq => (List.not_mem_nil hq).elim, fun _ _ _ _ => rfl⟩
  · obtain ⟨fs0, fs, a1, a2, o1, o2, o3, o4, o5⟩ := hP.2.2.1 q hq
    obtain ⟨fs', e', -, k'⟩ := hF.2 _ _ _ a2
    have w := bw_fr q hq
    exact ⟨fs', fs', e', e', rfl, fun _ _ _ => rfl, fun k t hk => (k' k (w.1 _ hk rfl)).trans (o3 k t hk), fun k hk => (k' k (w.2 _ hk rfl)).trans (o4 k hk), fun k hk => (List.not_mem_nil hk).elim⟩
  · rw [hK q.1 (bw_kr q hq)]
    exact hP.2.2.2.1 q hq
/-- one Text becomes another -/
def bw_C (s : Nat → Int32) (A : Nat → Nat → Int32) (s' : Nat → Int32) (A' : Nat → Nat → Int32) : Prop := (s' 204 = s 1104 ∧ s' 205 = s 1105 ∧ s' 206 = s 1106 ∧ s' 207 = s 1107 ∧ s' 208 = s 1108 ∧ s' 209 = s 1109 ∧ s' 210 = s 1110) ∧ s' 304 = s 1204 ∧ (∀ j, j < 432 → A' 5 j = A 14 j) ∧ (∀ j, j < 7 → A' 6 j = A 15 j) ∧ (∀ j, j < 24 → A' 8 j = A 17 j) ∧ ∀ j, j < 6 → A' 9 j = A 18 j
/-- what the text tells, as the class keeps it -/
def bd_D (m : Nat) (h' : mm_H) : Prop := (wt_s h' 3106).toInt = (dl_sz m : Int) ∧ ∀ d, d < dl_sz m → ∀ p, p < 4 → (br_A h' 32 (4 * d + p)).toInt = dr_cv (dl_m m d p)
def bx_O (V : Nat → Int) (ns : List Nat) (ω : Nat → Nat) (h' : mm_H) : Prop := (∀ i, i < ns.length → (∀ p, p < 4 → (br_A h' 8 (4 * i + p)).toInt = V (ns.getD i 0 + 1 + p)) ∧ (br_A h' 9 i).toInt = V (ns.getD i 0 + 5)) ∧ (wt_s h' 205).toInt = py_v V (ω 0) 0 20 ∧ (wt_s h' 206).toInt = py_v V (ω 0) 1 99 ∧ (wt_s h' 207).toInt = py_v V (ω 0) 2 50 ∧ (wt_s h' 208).toInt = py_v V (ω 1) 0 60 ∧ (wt_s h' 209).toInt = py_v V (ω 2) 0 999 ∧ (wt_s h' 210).toInt = py_v V (ω 3) 0 0
theorem bx_of {V : Nat → Int} {ns : List Nat} {ω : Nat → Nat} {s sq s' : Nat → Int32} {A Aq A' : Nat → Nat → Int32} {h' : mm_H} (hn : ns.length ≤ 6) (hO : rc_O V ns ω sq Aq) (hs : ∀ j, 1104 ≤ j → j ≤ 1110 → s j = sq j) (h17 : A 17 = Aq 17) (h18 : A 18 = Aq 18) (hC : bw_C s A s' A') (w : ∀ k, 204 ≤ k → k ≤ 210 → wt_s h' k = s' k) (w8 : br_A h' 8 = A' 8) (w9 : br_A h' 9 = A' 9) : bx_O V ns ω h' := by
  obtain ⟨o1, o2, o3, o4, o5, o6, o7⟩ := hO
  obtain ⟨⟨c4, c5, c6, c7, c8, c9, c10⟩, -, -, -, r8, r9⟩ := hC
  refine ⟨fun i hi => ⟨fun p hp => ?_, ?_⟩, ?_, ?_, ?_, ?_, ?_, ?_⟩
  · rw [w8, r8 _ (by omega), h17]
    exact (o1 i hi).1 p hp
  · rw [w9, r9 _ (by omega), h18]
    exact (o1 i hi).2
  · rw [w 205 (by decide) (by decide), c5, hs 1105 (by decide) (by decide)]
    exact o2
  · rw [w 206 (by decide) (by decide), c6, hs 1106 (by decide) (by decide)]
    exact o3
  · rw [w 207 (by decide) (by decide), c7, hs 1107 (by decide) (by decide)]
    exact o4
  · rw [w 208 (by decide) (by decide), c8, hs 1108 (by decide) (by decide)]
    exact o5
  · rw [w 209 (by decide) (by decide), c9, hs 1109 (by decide) (by decide)]
    exact o6
  · rw [w 210 (by decide) (by decide), c10, hs 1110 (by decide) (by decide)]
    exact o7
def bw_Z (n : Int) (h' : mm_H) : Prop := (wt_s h' 204).toInt = n ∧ (wt_s h' 8403).toInt = 0 ∧ ∀ j, j < 3 → (br_A h' 83 j).toInt = 0
def bw_K (h h' : mm_H) : Prop := wt_s h' 204 = wt_s h 204 ∧ wt_s h' 8403 = wt_s h 8403 ∧ br_A h' 83 = br_A h 83 ∧ (∀ k, 205 ≤ k → k ≤ 210 → wt_s h' k = wt_s h k) ∧ wt_s h' 304 = wt_s h 304 ∧ (∀ c, c = 5 ∨ c = 6 ∨ c = 8 ∨ c = 9 ∨ c = 32 → br_A h' c = br_A h c) ∧ wt_s h' 3106 = wt_s h 3106
theorem bw_ws {h h' : mm_H} {c ci k : Nat} {fs fs' : List Value} (hk : k < 100) (a : h[c]? = some (.inr (ci, fs))) (b : h'[c]? = some (.inr (ci, fs'))) (e : fs'[k]? = fs[k]?) : wt_s h' (100 * c + k) = wt_s h (100 * c + k) := by
  unfold wt_s
  rw [show (100 * c + k) / 100 = c by omega, show (100 * c + k) % 100 = k by omega, a, b]
  show br_s fs' k = br_s fs k
  unfold br_s
  rw [e]
theorem bw_fail {E : mm_E} {h hb h' : mm_H} {s sq : Nat → Int32} {A Aq : Nat → Nat → Int32} {L Lq : Nat → Nat → Int64} (hP : bm_P bz_T E hb h' s A L) (hQ : bm_P bq_T E h hb sq Aq Lq) : bw_K h h' := by
  have d : ∀ c, c = 2 ∨ c = 3 ∨ c = 5 ∨ c = 6 ∨ c = 8 ∨ c = 9 ∨ c = 84 ∨ c = 83 ∨ c = 31 ∨ c = 32 → (∀ p ∈ bq_T.1, p.1 ≠ c) ∧ (∀ p ∈ bq_T.2.2.2.2.1, p.1 ≠ c) ∧ (∀ p ∈ bq_T.2.2.2.2.2, p.1 ≠ c) := by
    rintro c (rfl | rfl | rfl | rfl | rfl | rfl | rfl | rfl | rfl | rfl) <;> exact ⟨by decide, by decide, by decide⟩
  have d' : ∀ c, c = 3 ∨ c = 5 ∨ c = 6 ∨ c = 8 ∨ c = 9 ∨ c = 83 ∨ c = 32 → (∀ p ∈ bz_T.1, p.1 ≠ c) ∧ (∀ p ∈ bz_T.2.2.2.2.1, p.1 ≠ c) ∧ (∀ p ∈ bz_T.2.2.2.2.2, p.1 ≠ c) := by
    rintro c (rfl | rfl | rfl | rfl | rfl | rfl | rfl) <;> exact ⟨by decide, by decide, by decide⟩
  have eq : ∀ c, c = 2 ∨ c = 3 ∨ c = 5 ∨ c = 6 ∨ c = 8 ∨ c = 9 ∨ c = 84 ∨ c = 83 ∨ c = 31 ∨ c = 32 → hb[c]? = h[c]? := fun c hc => hQ.2.2.2.2.2 c (d c hc).1 (d c hc).2.1 (d c hc).2.2
  have ez : ∀ c, c = 3 ∨ c = 5 ∨ c = 6 ∨ c = 8 ∨ c = 9 ∨ c = 83 ∨ c = 32 → h'[c]? = h[c]? := fun c hc => (hP.2.2.2.2.2 c (d' c hc).1 (d' c hc).2.1 (d' c hc).2.2).trans (eq c (by omega))
  obtain ⟨fs0, fs, a1, a2, o⟩ := hP.2.2.1 (2, 6) bz_o2
  have a3 : h[2]? = some (.inr (6, fs0)) := by rw [← eq 2 (by decide)]; exact a1
  have w2 : ∀ k, k < 100 → wt_s h' (100 * 2 + k) = wt_s h (100 * 2 + k) := fun k hk => bw_ws (c := 2) hk a3 a2 (o.2.1 k (fun g => (by decide : ∀ q ∈ bz_T.2.2.1, q.1 ≠ 2) (2, k) g rfl) (fun g => by cases g))
  refine ⟨w2 4 (by decide), ?_, ?_, fun k k1 k2 => ?_, ?_, fun c hc => ?_, ?_⟩
  · obtain ⟨fs0, fs, a1, a2, o⟩ := hP.2.2.1 (84, 2) bz_o84
    exact bw_ws (c := 84) (k := 3) (by decide) (by rw [← eq 84 (by decide)]; exact a1) a2 (o.2.1 3 (by decide) (by decide))
  · unfold br_A
    rw [ez 83 (by decide)]
  · obtain ⟨i, rfl⟩ : ∃ i, k = 100 * 2 + i := ⟨k - 200, by omega⟩
    exact w2 i (by omega)
  · unfold wt_s
    rw [ez (304 / 100) (by decide)]
  · unfold br_A
    rw [ez c (by omega)]
  · obtain ⟨fs0, fs, a1, a2, o⟩ := hP.2.2.1 (31, 0) bz_o31
    exact bw_ws (c := 31) (k := 6) (by decide) (by rw [← eq 31 (by decide)]; exact a1) a2 (o.2.1 6 (by decide) (by decide))
theorem bm_ob {T : bm_T} {E : mm_E} {h0 h : mm_H} {s : Nat → Int32} {A : Nat → Nat → Int32} {L : Nat → Nat → Int64} (hP : bm_P T E h0 h s A L) {c ci : Nat} {fs0 : List Value} (e : h0[c]? = some (.inr (ci, fs0))) (h1 : ∀ q ∈ T.2.2.2.2.1, q.1 ≠ c) (h2 : ∀ q ∈ T.2.2.2.2.2, q.1 ≠ c) : ∃ fs : List Value, h[c]? = some (.inr (ci, fs)) ∧ (∀ k, (c, k) ∉ T.2.2.1 → (c, k) ∉ T.2.2.2.1 → fs[k]? = fs0[k]?) ∧ ∀ k, (c, k) ∈ T.2.2.1 → (∃ q ∈ T.1, q.1 = c) → fs[k]? = some (.int (s (100 * c + k))) := by
  by_cases hc : ∃ q ∈ T.1, q.1 = c
  · obtain ⟨q, hq, rfl⟩ := hc
    obtain ⟨fs1, fs, a1, a2, o1, o2, o3, o4, o5⟩ := hP.2.2.1 q hq
    rw [e] at a1
    cases a1
    exact ⟨fs, a2, o2, fun k hk _ => o4 k hk⟩
  · exact ⟨fs0, (hP.2.2.2.2.2 c (fun q hq g => hc ⟨q, hq, g⟩) h1 h2).trans e, fun _ _ _ => rfl, fun k _ g => absurd g hc⟩
theorem bw_d1 : ∀ q ∈ bw_T.1, (∀ p ∈ bq_T.2.2.2.2.1, p.1 ≠ q.1) ∧ (∀ p ∈ bq_T.2.2.2.2.2, p.1 ≠ q.1) ∧ (∀ p ∈ bz_T.2.2.2.2.1, p.1 ≠ q.1) ∧ (∀ p ∈ bz_T.2.2.2.2.2, p.1 ≠ q.1) := by decide
theorem bw_d2 : ∀ r ∈ bw_T.2.1, (r.1, r.2.1) ∉ bq_T.2.2.1 ∧ (r.1, r.2.1) ∉ bq_T.2.2.2.1 ∧ (r.1, r.2.1) ∉ bz_T.2.2.1 ∧ (r.1, r.2.1) ∉ bz_T.2.2.2.1 := by decide
theorem bw_d3 : ∀ r ∈ bw_T.2.2.1, (r ∈ bz_T.2.2.1 ∧ ∃ q ∈ bz_T.1, q.1 = r.1) ∨ (r ∉ bz_T.2.2.1 ∧ r ∉ bz_T.2.2.2.1 ∧ ((r ∈ bq_T.2.2.1 ∧ ∃ q ∈ bq_T.1, q.1 = r.1) ∨ (r ∉ bq_T.2.2.1 ∧ r ∉ bq_T.2.2.2.1))) := by decide
theorem wt_s_of {h : mm_H} {c ci k : Nat} {fs : List Value} {r : Int32} (hk : k < 100) (e : h[c]? = some (.inr (ci, fs))) (e2 : fs[k]? = some (.int r)) : fs[k]? = some (.int (wt_s h (100 * c + k))) := by rw [wt_s_eq hk e e2, e2]
/-- behind the reading: what the tail works on -/
theorem bw_of {E : mm_E} {h hb h' : mm_H} {s sq sw : Nat → Int32} {A Aq Aw : Nat → Nat → Int32} {L Lq Lw : Nat → Nat → Int64} (hW : bm_P bw_T E h h sw Aw Lw) (hP : bm_P bz_T E hb h' s A L) (hQ : bm_P bq_T E h hb sq Aq Lq) : bm_P bw_T E h' h' (wt_s h') (br_A h') Lw ∧ ((∀ j, 1104 ≤ j → j ≤ 1110 → wt_s h' j = sq j) ∧ wt_s h' 1204 = sq 1204) ∧ (br_A h' 14 = Aq 14 ∧ br_A h' 15 = Aq 15 ∧ br_A h' 17 = Aq 17 ∧ br_A h' 18 = Aq 18) ∧ wt_s h' 2 = s 2 := by
  have dz : ∀ q ∈ bw_T.2.2.2.2.1, (∀ p ∈ bz_T.1, p.1 ≠ q.1) ∧ (∀ p ∈ bz_T.2.2.2.2.1, p.1 ≠ q.1) ∧ (∀ p ∈ bz_T.2.2.2.2.2, p.1 ≠ q.1) := by decide
  have dq : ∀ q ∈ bw_T.2.2.2.2.1, q ∈ bq_T.2.2.2.2.1 ∨ ((∀ p ∈ bq_T.1, p.1 ≠ q.1) ∧ (∀ p ∈ bq_T.2.2.2.2.1, p.1 ≠ q.1) ∧ (∀ p ∈ bq_T.2.2.2.2.2, p.1 ≠ q.1)) := by decide
  have ar : ∀ q ∈ bw_T.2.2.2.2.1, ∃ f : Nat → Int32, h'[q.1]? = some (.inl (q.2.1, q.2.2, .inl f)) ∧ (q ∈ bq_T.2.2.2.2.1 → f = Aq q.1) := fun q hq => by
    have e1 := hP.2.2.2.2.2 q.1 (dz q hq).1 (dz q hq).2.1 (dz q hq).2.2
    by_cases c : q ∈ bq_T.2.2.2.2.1
    · exact ⟨Aq q.1, e1.trans (hQ.2.2.2.1 q c), fun _ => rfl⟩
    · have g := (dq q hq).resolve_left c
      exact ⟨Aw q.1, (e1.trans (hQ.2.2.2.2.2 q.1 g.1 g.2.1 g.2.2)).trans (hW.2.2.2.1 q hq), fun u => absurd u c⟩
  have ax : ∀ q ∈ bw_T.2.2.2.2.1, q ∈ bq_T.2.2.2.2.1 → br_A h' q.1 = Aq q.1 := fun q hq c => by
    obtain ⟨f, e, g⟩ := ar q hq
    rw [br_A_eq e]
    exact g c
  have hT : bm_P bw_T E h' h' (wt_s h') (br_A h') Lw := by
    refine ⟨bw_W, hP.2.1, fun q hq => ?_, fun q hq => ?_, fun q hq => (List.not_mem_nil hq).elim, fun _ _ _ _ => rfl⟩
    · obtain ⟨fs0, fs, a1, a2, o1, o2, o3, o4, o5⟩ := hW.2.2.1 q hq
      obtain ⟨d1, d2, d3, d4⟩ := bw_d1 q hq
      obtain ⟨fb, b1, b2, b3⟩ := bm_ob hQ a2 d1 d2
      obtain ⟨fc, c1, c2, c3⟩ := bm_ob hP b1 d3 d4
      refine ⟨fc, fc, c1, c1, rfl, fun _ _ _ => rfl, fun k t hk => ?_, fun k hk => ?_, fun k hk => (List.not_mem_nil hk).elim⟩
      · obtain ⟨e1, e2, e3, e4⟩ := bw_d2 _ hk
        rw [c2 k e3 e4, b2 k e1 e2]
        exact o3 k t hk
      · have hk100 : k < 100 := (bw_W.2.2.2.2.2.2.2.1 (q.1, k) hk).2
        rcases bw_d3 _ hk with ⟨g1, g2⟩ | ⟨g1, g2, g3 | g3⟩
        · exact wt_s_of hk100 c1 (c3 k g1 g2)
        · exact wt_s_of hk100 c1 ((c2 k g1 g2).trans (b3 k g3.1 g3.2))
        · exact wt_s_of hk100 c1 (((c2 k g1 g2).trans (b2 k g3.1 g3.2)).trans (o4 k hk))
    · obtain ⟨f, e, -⟩ := ar q hq
      rw [br_A_eq e]
      exact e
  have ob : ∀ c ci, (c, ci) ∈ bw_T.1 → ∀ k, (c, k) ∉ bz_T.2.2.1 → (c, k) ∉ bz_T.2.2.2.1 → (c, k) ∈ bq_T.2.2.1 → (∃ q ∈ bq_T.1, q.1 = c) → k < 100 → wt_s h' (100 * c + k) = sq (100 * c + k) := fun c ci hq k n1 n2 n3 n4 hk => by
    obtain ⟨fs0, fs, a1, a2, o⟩ := hW.2.2.1 (c, ci) hq
    obtain ⟨d1, d2, d3, d4⟩ := bw_d1 (c, ci) hq
    obtain ⟨fb, b1, b2, b3⟩ := bm_ob hQ a2 d1 d2
    obtain ⟨fc, c1, c2, c3⟩ := bm_ob hP b1 d3 d4
    exact wt_s_eq hk c1 ((c2 k n1 n2).trans (b3 k n3 n4))
  refine ⟨hT, ⟨fun j j1 j2 => ?_, ob 12 1 (by decide) 4 (by decide) (by decide) (by decide) ⟨(12, 1), by decide, rfl⟩ (by decide)⟩, ⟨ax (14, 0, 432) (by decide) (by decide), ax (15, 0, 7) (by decide) (by decide), ax (17, 0, 24) (by decide) (by decide), ax (18, 0, 6) (by decide) (by decide)⟩, bm_ws (c := 0) (k := 2) hP bz_o0 bz_i0_2⟩
  rcases (show j = 1104 ∨ j = 1105 ∨ j = 1106 ∨ j = 1107 ∨ j = 1108 ∨ j = 1109 ∨ j = 1110 by omega) with rfl | rfl | rfl | rfl | rfl | rfl | rfl
  · exact ob 11 6 (by decide) 4 (by decide) (by decide) (by decide) ⟨(11, 6), by decide, rfl⟩ (by decide)
  · exact ob 11 6 (by decide) 5 (by decide) (by decide) (by decide) ⟨(11, 6), by decide, rfl⟩ (by decide)
  · exact ob 11 6 (by decide) 6 (by decide) (by decide) (by decide) ⟨(11, 6), by decide, rfl⟩ (by decide)
  · exact ob 11 6 (by decide) 7 (by decide) (by decide) (by decide) ⟨(11, 6), by decide, rfl⟩ (by decide)
  · exact ob 11 6 (by decide) 8 (by decide) (by decide) (by decide) ⟨(11, 6), by decide, rfl⟩ (by decide)
  · exact ob 11 6 (by decide) 9 (by decide) (by decide) (by decide) ⟨(11, 6), by decide, rfl⟩ (by decide)
  · exact ob 11 6 (by decide) 10 (by decide) (by decide) (by decide) ⟨(11, 6), by decide, rfl⟩ (by decide)
def b7_T : bm_T := ([(20, 4)], [], [(20, 7)], [], [], [])
theorem b7_o20 : (20, 4) ∈ b7_T.1 := by decide
theorem b7_i20_7 : (20, 7) ∈ b7_T.2.2.1 := by decide
theorem b7_W : bm_W b7_T := by unfold bm_W; decide
theorem b7_of {E : mm_E} {h : mm_H} {fs : List Value} {p : Int32} (hl : h.length = 133) (e1 : h[20]? = some (.inr (4, fs))) (e2 : fs[7]? = some (.int p)) : bm_P b7_T E h h (fun _ => p) (fun _ _ => 0) (fun _ _ => 0) := by
  refine ⟨b7_W, hl, fun q hq => ?_, fun q hq => (List.not_mem_nil hq).elim, fun q hq => (List.not_mem_nil hq).elim, fun _ _ _ _ => rfl⟩
  rcases List.mem_cons.mp hq with rfl | hq
  · refine ⟨fs, fs, e1, e1, rfl, fun _ _ _ => rfl, fun k t hk => (List.not_mem_nil hk).elim, fun k hk => ?_, fun k hk => (List.not_mem_nil hk).elim⟩
    rcases List.mem_cons.mp hk with e | hk
    · cases e
      exact e2
    · cases hk
  · cases hq
theorem bz_20 {E : mm_E} {h0 h : mm_H} {s : Nat → Int32} {A : Nat → Nat → Int32} {L : Nat → Nat → Int64} {p : Int32} (hP : bm_P bz_T E h0 h s A L) (f : ∃ fs : List Value, h0[20]? = some (.inr (4, fs)) ∧ fs[7]? = some (.int p)) : ∃ fs : List Value, h[20]? = some (.inr (4, fs)) ∧ fs[7]? = some (.int p) := by
  obtain ⟨fs0, fs, a1, a2, a3, a4, -⟩ := hP.2.2.1 (20, 4) bz_o20
  obtain ⟨fs9, e1, e2⟩ := f
  cases e1.symm.trans a1
  exact ⟨fs, a2, (a4 7 (by decide) (by decide)).trans e2⟩
theorem dl_max {m p : Nat} {x : Int32} (h : (x.toInt = 1 ∧ (m : Int) - (p : Int) ≤ 1) ∨ (x.toInt = (m : Int) - (p : Int) ∧ 1 < (m : Int) - (p : Int))) : x.toInt = ((max 1 (m - p) : Nat) : Int) := by
  rcases h with ⟨a, b⟩ | ⟨a, b⟩
  · rw [Nat.max_eq_left (by omega)]
    exact a
  · rw [Nat.max_eq_right (by omega), a]
    omega
theorem dl_pzx {v x : Int32} {m p : Nat} (hm : m ≤ 6) (hp4 : p < 4) (hv : v.toInt = (dl_pz m p : Int)) (hx : x.toInt = ((max 1 (m - p) : Nat) : Int)) : (v * x).toInt = (dl_pz m (p + 1) : Int) := by
  have b := (by decide +kernel : ∀ m, m ≤ 6 → ∀ p, p ≤ 4 → 1 ≤ dl_pz m p ∧ dl_pz m p ≤ 360) m hm (p + 1) (by omega)
  have e : v.toInt * x.toInt = (dl_pz m (p + 1) : Int) := by
    rw [hv, hx]
    show (dl_pz m p : Int) * ((max 1 (m - p) : Nat) : Int) = ((dl_pz m p * max 1 (m - p) : Nat) : Int)
    rw [Int.natCast_mul]
  rw [Int32.toInt_mul, e]
  exact Int.bmod_eq_of_le (by show _ ≤ _; omega) (by show _ < _; omega)
theorem dl_quo {x y v : Int32} {a b : Nat} (hx : x.toInt = (a : Int)) (hy : y.toInt = (b : Int)) (hb : 0 < b) (e : v = x / y) : v.toInt = ((a / b : Nat) : Int) := by
  have hx0 : 0 ≤ x.toInt := by omega
  have h1 : 0 ≤ x.toInt / y.toInt := Int.ediv_nonneg hx0 (by omega)
  have h2 : x.toInt / y.toInt ≤ x.toInt := Int.ediv_le_self _ hx0
  have h3 := x.toInt_lt
  rw [e, Int32.toInt_div, Int.tdiv_eq_ediv_of_nonneg hx0]
  refine (Int.bmod_eq_of_le (by show _ ≤ _; omega) (by show _ < _; omega)).trans ?_
  rw [hx, hy]
  rfl
theorem dl_rem {x y v : Int32} {a b : Nat} (hx : x.toInt = (a : Int)) (hy : y.toInt = (b : Int)) (e : v.toInt = x.toInt.tmod y.toInt) : v.toInt = ((a % b : Nat) : Int) := by
  rw [e, Int.tmod_eq_emod_of_nonneg (by omega), hx, hy]
  rfl
theorem dl_sp_s {m p : Nat} (h : p < m) : dl_sp m (p + 1) = max 1 (dl_sp m p / (m - p)) := if_pos h
theorem dl_sp_n {m p : Nat} (h : ¬ p < m) : dl_sp m (p + 1) = dl_sp m p := if_neg h
theorem dl_rs_s {m d p : Nat} (h : p < m) : dl_rs m d (p + 1) = dl_rs m d p % dl_sp m (p + 1) := if_pos h
theorem dl_rs_n {m d p : Nat} (h : ¬ p < m) : dl_rs m d (p + 1) = dl_rs m d p := if_neg h
theorem dl_l_s {m d p : Nat} (h : p < m) : dl_l m d (p + 1) = dl_A (dl_l m d p) (m - p) (dl_rs m d p / dl_sp m (p + 1)) := if_pos h
theorem dl_l_n {m d p : Nat} (h : ¬ p < m) : dl_l m d (p + 1) = dl_l m d p := if_neg h
theorem dl_m_s {m d p : Nat} (h : p < m) : dl_m m d p = dl_l m d p (dl_rs m d p / dl_sp m (p + 1)) := if_pos h
theorem dl_m_n {m d p : Nat} (h : ¬ p < m) : dl_m m d p = 6 := if_neg h
theorem dl_mx {x c : Int32} {a : Nat} {r : Int32} (hc : c.toInt = 1) (hx : x.toInt = (a : Int)) (h : (r = c ∧ x.toInt ≤ c.toInt) ∨ (r = x ∧ c.toInt < x.toInt)) : r.toInt = ((max 1 a : Nat) : Int) := by
  rcases h with ⟨rfl, b⟩ | ⟨rfl, b⟩
  · rw [Nat.max_eq_left (by omega)]
    exact hc
  · rw [Nat.max_eq_right (by omega)]
    exact hx
/-- who is dealt is one of the m -/
theorem dl_m_lt {m d p : Nat} (hm : m ≤ 6) (hd : d < dl_sz m) (hp : p < 4) : dl_m m d p = 6 ∨ dl_m m d p < m := by
  have g : dl_w m d ∈ dl_L m (dl_sz m) := List.mem_map.mpr ⟨d, List.mem_range.mpr hd, rfl⟩
  rw [dr_E hm] at g
  have q := dr_ok_lt (List.mem_filter.mp g).2 hp
  rw [(dr_d hm hd).1 p hp] at q
  exact q
theorem dl_six {m d p : Nat} (hm : m ≤ 6) (hd : d < dl_sz m) (hp : p < 4) (h : p < m) : dl_m m d p ≠ 6 := fun e => by
  have g : dl_w m d ∈ dl_L m (dl_sz m) := List.mem_map.mpr ⟨d, List.mem_range.mpr hd, rfl⟩
  rw [dr_E hm] at g
  have q := ((dr_okp_m h).mp (dr_ok_p (List.mem_filter.mp g).2 p hp)).1
  rw [(dr_d hm hd).1 p hp, e] at q
  omega
theorem bu_116_0 : mm_at mt_P 116 0 = some ((0, 1, .aload_n 0, 0, 0, 0, 0), 2, 0, 1, 0, 0, 0, 0) := rfl
theorem bu_116_1 : mm_at mt_P 116 1 = some ((1, 1, .iconst 1, 0, 0, 0, 0), 2, 0, 1, 0, 0, 0, 0) := rfl
theorem bu_116_2 : mm_at mt_P 116 2 = some ((2, 3, .putfield 31, 0, 6, 0, 340), 2, 0, 1, 0, 0, 0, 0) := rfl
theorem bu_116_5 : mm_at mt_P 116 5 = some ((5, 1, .iconst 0, 0, 0, 0, 0), 2, 0, 1, 0, 0, 0, 0) := rfl
theorem bu_116_6 : mm_at mt_P 116 6 = some ((6, 1, .istore_n 1, 0, 0, 0, 0), 2, 0, 1, 0, 0, 0, 0) := rfl
theorem bu_116_7 : mm_at mt_P 116 7 = some ((7, 1, .iload_n 1, 0, 0, 0, 0), 2, 0, 1, 0, 0, 0, 0) := rfl
theorem bu_116_8 : mm_at mt_P 116 8 = some ((8, 1, .iconst 4, 0, 0, 0, 0), 2, 0, 1, 0, 0, 0, 0) := rfl
theorem bu_116_9 : mm_at mt_P 116 9 = some ((9, 3, .if_icmp .ge 31, 0, 0, 0, 0), 2, 0, 1, 0, 0, 0, 0) := rfl
theorem bu_116_12 : mm_at mt_P 116 12 = some ((12, 1, .aload_n 0, 0, 0, 0, 0), 2, 0, 1, 0, 0, 0, 0) := rfl
theorem bu_116_13 : mm_at mt_P 116 13 = some ((13, 1, .dup, 0, 0, 0, 0), 2, 0, 1, 0, 0, 0, 0) := rfl
theorem bu_116_14 : mm_at mt_P 116 14 = some ((14, 3, .getfield 31, 0, 6, 0, 340), 2, 0, 1, 0, 0, 0, 0) := rfl
theorem bu_116_17 : mm_at mt_P 116 17 = some ((17, 1, .iconst 1, 0, 0, 0, 0), 2, 0, 1, 0, 0, 0, 0) := rfl
theorem bu_116_18 : mm_at mt_P 116 18 = some ((18, 1, .aload_n 0, 0, 0, 0, 0), 2, 0, 1, 0, 0, 0, 0) := rfl
theorem bu_116_19 : mm_at mt_P 116 19 = some ((19, 3, .getfield 27, 0, 0, 0, 334), 2, 0, 1, 0, 0, 0, 0) := rfl
theorem bu_116_22 : mm_at mt_P 116 22 = some ((22, 3, .getfield 35, 6, 4, 0, 187), 2, 0, 1, 0, 0, 0, 0) := rfl
theorem bu_116_25 : mm_at mt_P 116 25 = some ((25, 1, .iload_n 1, 0, 0, 0, 0), 2, 0, 1, 0, 0, 0, 0) := rfl
theorem bu_116_26 : mm_at mt_P 116 26 = some ((26, 1, .isub, 0, 0, 0, 0), 2, 0, 1, 0, 0, 0, 0) := rfl
theorem bu_116_27 : mm_at mt_P 116 27 = some ((27, 3, .invokestatic 40, 289, 0, 0, 422), 2, 0, 1, 0, 0, 0, 0) := rfl
theorem bu_116_30 : mm_at mt_P 116 30 = some ((30, 1, .imul, 0, 0, 0, 0), 2, 0, 1, 0, 0, 0, 0) := rfl
theorem bu_116_31 : mm_at mt_P 116 31 = some ((31, 3, .putfield 31, 0, 6, 0, 340), 2, 0, 1, 0, 0, 0, 0) := rfl
theorem bu_116_34 : mm_at mt_P 116 34 = some ((34, 3, .iinc 1 1, 0, 0, 0, 0), 2, 0, 1, 0, 0, 0, 0) := rfl
theorem bu_116_37 : mm_at mt_P 116 37 = some ((37, 3, .goto (-30), 0, 0, 0, 0), 2, 0, 1, 0, 0, 0, 0) := rfl
theorem bu_116_40 : mm_at mt_P 116 40 = some ((40, 1, .iconst 0, 0, 0, 0, 0), 2, 0, 1, 0, 0, 0, 0) := rfl
theorem bu_116_41 : mm_at mt_P 116 41 = some ((41, 1, .istore_n 1, 0, 0, 0, 0), 2, 0, 1, 0, 0, 0, 0) := rfl
theorem bu_116_42 : mm_at mt_P 116 42 = some ((42, 1, .iload_n 1, 0, 0, 0, 0), 2, 0, 1, 0, 0, 0, 0) := rfl
theorem bu_116_43 : mm_at mt_P 116 43 = some ((43, 1, .aload_n 0, 0, 0, 0, 0), 2, 0, 1, 0, 0, 0, 0) := rfl
theorem bu_116_44 : mm_at mt_P 116 44 = some ((44, 3, .getfield 31, 0, 6, 0, 340), 2, 0, 1, 0, 0, 0, 0) := rfl
theorem bu_116_47 : mm_at mt_P 116 47 = some ((47, 3, .if_icmp .ge 21, 0, 0, 0, 0), 2, 0, 1, 0, 0, 0, 0) := rfl
theorem bu_116_50 : mm_at mt_P 116 50 = some ((50, 1, .iload_n 1, 0, 0, 0, 0), 2, 0, 1, 0, 0, 0, 0) := rfl
theorem bu_116_51 : mm_at mt_P 116 51 = some ((51, 3, .sipush 360, 0, 0, 0, 0), 2, 0, 1, 0, 0, 0, 0) := rfl
theorem bu_116_54 : mm_at mt_P 116 54 = some ((54, 3, .if_icmp .ge 14, 0, 0, 0, 0), 2, 0, 1, 0, 0, 0, 0) := rfl
theorem bu_116_57 : mm_at mt_P 116 57 = some ((57, 1, .aload_n 0, 0, 0, 0, 0), 2, 0, 1, 0, 0, 0, 0) := rfl
theorem bu_116_58 : mm_at mt_P 116 58 = some ((58, 1, .iload_n 1, 0, 0, 0, 0), 2, 0, 1, 0, 0, 0, 0) := rfl
theorem bu_116_59 : mm_at mt_P 116 59 = some ((59, 3, .invokevirtual 46, 117, 0, 0, 425), 2, 0, 1, 0, 0, 0, 0) := rfl
theorem bu_116_62 : mm_at mt_P 116 62 = some ((62, 3, .iinc 1 1, 0, 0, 0, 0), 2, 0, 1, 0, 0, 0, 0) := rfl
theorem bu_116_65 : mm_at mt_P 116 65 = some ((65, 3, .goto (-23), 0, 0, 0, 0), 2, 0, 1, 0, 0, 0, 0) := rfl
theorem bu_116_68 : mm_at mt_P 116 68 = some ((68, 1, .return_, 0, 0, 0, 0), 2, 0, 1, 0, 0, 0, 0) := rfl
theorem bu_117_0 : mm_at mt_P 117 0 = some ((0, 1, .iconst 0, 0, 0, 0, 0), 7, 1, 1, 0, 0, 0, 0) := rfl
theorem bu_117_1 : mm_at mt_P 117 1 = some ((1, 1, .istore_n 2, 0, 0, 0, 0), 7, 1, 1, 0, 0, 0, 0) := rfl
theorem bu_117_2 : mm_at mt_P 117 2 = some ((2, 1, .iload_n 2, 0, 0, 0, 0), 7, 1, 1, 0, 0, 0, 0) := rfl
theorem bu_117_3 : mm_at mt_P 117 3 = some ((3, 2, .bipush 6, 0, 0, 0, 0), 7, 1, 1, 0, 0, 0, 0) := rfl
theorem bu_117_5 : mm_at mt_P 117 5 = some ((5, 3, .if_icmp .ge 16, 0, 0, 0, 0), 7, 1, 1, 0, 0, 0, 0) := rfl
theorem bu_117_8 : mm_at mt_P 117 8 = some ((8, 1, .aload_n 0, 0, 0, 0, 0), 7, 1, 1, 0, 0, 0, 0) := rfl
theorem bu_117_9 : mm_at mt_P 117 9 = some ((9, 3, .getfield 15, 0, 2, 0, 336), 7, 1, 1, 0, 0, 0, 0) := rfl
theorem bu_117_12 : mm_at mt_P 117 12 = some ((12, 1, .iload_n 2, 0, 0, 0, 0), 7, 1, 1, 0, 0, 0, 0) := rfl
theorem bu_117_13 : mm_at mt_P 117 13 = some ((13, 1, .iload_n 2, 0, 0, 0, 0), 7, 1, 1, 0, 0, 0, 0) := rfl
theorem bu_117_14 : mm_at mt_P 117 14 = some ((14, 1, .iastore, 0, 0, 0, 0), 7, 1, 1, 0, 0, 0, 0) := rfl
theorem bu_117_15 : mm_at mt_P 117 15 = some ((15, 3, .iinc 2 1, 0, 0, 0, 0), 7, 1, 1, 0, 0, 0, 0) := rfl
theorem bu_117_18 : mm_at mt_P 117 18 = some ((18, 3, .goto (-16), 0, 0, 0, 0), 7, 1, 1, 0, 0, 0, 0) := rfl
theorem bu_117_21 : mm_at mt_P 117 21 = some ((21, 1, .aload_n 0, 0, 0, 0, 0), 7, 1, 1, 0, 0, 0, 0) := rfl
theorem bu_117_22 : mm_at mt_P 117 22 = some ((22, 3, .getfield 31, 0, 6, 0, 340), 7, 1, 1, 0, 0, 0, 0) := rfl
theorem bu_117_25 : mm_at mt_P 117 25 = some ((25, 1, .istore_n 2, 0, 0, 0, 0), 7, 1, 1, 0, 0, 0, 0) := rfl
theorem bu_117_26 : mm_at mt_P 117 26 = some ((26, 1, .iload_n 1, 0, 0, 0, 0), 7, 1, 1, 0, 0, 0, 0) := rfl
theorem bu_117_27 : mm_at mt_P 117 27 = some ((27, 1, .istore_n 3, 0, 0, 0, 0), 7, 1, 1, 0, 0, 0, 0) := rfl
theorem bu_117_28 : mm_at mt_P 117 28 = some ((28, 1, .iconst 0, 0, 0, 0, 0), 7, 1, 1, 0, 0, 0, 0) := rfl
theorem bu_117_29 : mm_at mt_P 117 29 = some ((29, 2, .istore 4, 0, 0, 0, 0), 7, 1, 1, 0, 0, 0, 0) := rfl
theorem bu_117_31 : mm_at mt_P 117 31 = some ((31, 2, .iload 4, 0, 0, 0, 0), 7, 1, 1, 0, 0, 0, 0) := rfl
theorem bu_117_33 : mm_at mt_P 117 33 = some ((33, 1, .iconst 4, 0, 0, 0, 0), 7, 1, 1, 0, 0, 0, 0) := rfl
theorem bu_117_34 : mm_at mt_P 117 34 = some ((34, 3, .if_icmp .ge 70, 0, 0, 0, 0), 7, 1, 1, 0, 0, 0, 0) := rfl
theorem bu_117_37 : mm_at mt_P 117 37 = some ((37, 1, .aload_n 0, 0, 0, 0, 0), 7, 1, 1, 0, 0, 0, 0) := rfl
theorem bu_117_38 : mm_at mt_P 117 38 = some ((38, 3, .getfield 27, 0, 0, 0, 334), 7, 1, 1, 0, 0, 0, 0) := rfl
theorem bu_117_41 : mm_at mt_P 117 41 = some ((41, 3, .getfield 35, 6, 4, 0, 187), 7, 1, 1, 0, 0, 0, 0) := rfl
theorem bu_117_44 : mm_at mt_P 117 44 = some ((44, 2, .iload 4, 0, 0, 0, 0), 7, 1, 1, 0, 0, 0, 0) := rfl
theorem bu_117_46 : mm_at mt_P 117 46 = some ((46, 1, .isub, 0, 0, 0, 0), 7, 1, 1, 0, 0, 0, 0) := rfl
theorem bu_117_47 : mm_at mt_P 117 47 = some ((47, 2, .istore 5, 0, 0, 0, 0), 7, 1, 1, 0, 0, 0, 0) := rfl
theorem bu_117_49 : mm_at mt_P 117 49 = some ((49, 2, .bipush (-2), 0, 0, 0, 0), 7, 1, 1, 0, 0, 0, 0) := rfl
theorem bu_117_51 : mm_at mt_P 117 51 = some ((51, 2, .istore 6, 0, 0, 0, 0), 7, 1, 1, 0, 0, 0, 0) := rfl
theorem bu_117_53 : mm_at mt_P 117 53 = some ((53, 2, .iload 5, 0, 0, 0, 0), 7, 1, 1, 0, 0, 0, 0) := rfl
theorem bu_117_55 : mm_at mt_P 117 55 = some ((55, 3, .ifCond .le 30, 0, 0, 0, 0), 7, 1, 1, 0, 0, 0, 0) := rfl
theorem bu_117_58 : mm_at mt_P 117 58 = some ((58, 1, .iconst 1, 0, 0, 0, 0), 7, 1, 1, 0, 0, 0, 0) := rfl
theorem bu_117_59 : mm_at mt_P 117 59 = some ((59, 1, .iload_n 2, 0, 0, 0, 0), 7, 1, 1, 0, 0, 0, 0) := rfl
theorem bu_117_60 : mm_at mt_P 117 60 = some ((60, 2, .iload 5, 0, 0, 0, 0), 7, 1, 1, 0, 0, 0, 0) := rfl
theorem bu_117_62 : mm_at mt_P 117 62 = some ((62, 1, .idiv, 0, 0, 0, 0), 7, 1, 1, 0, 0, 0, 0) := rfl
theorem bu_117_63 : mm_at mt_P 117 63 = some ((63, 3, .invokestatic 40, 289, 0, 0, 422), 7, 1, 1, 0, 0, 0, 0) := rfl
theorem bu_117_66 : mm_at mt_P 117 66 = some ((66, 1, .istore_n 2, 0, 0, 0, 0), 7, 1, 1, 0, 0, 0, 0) := rfl
theorem bu_117_67 : mm_at mt_P 117 67 = some ((67, 1, .aload_n 0, 0, 0, 0, 0), 7, 1, 1, 0, 0, 0, 0) := rfl
theorem bu_117_68 : mm_at mt_P 117 68 = some ((68, 3, .getfield 15, 0, 2, 0, 336), 7, 1, 1, 0, 0, 0, 0) := rfl
theorem bu_117_71 : mm_at mt_P 117 71 = some ((71, 2, .iload 5, 0, 0, 0, 0), 7, 1, 1, 0, 0, 0, 0) := rfl
theorem bu_117_73 : mm_at mt_P 117 73 = some ((73, 1, .iload_n 3, 0, 0, 0, 0), 7, 1, 1, 0, 0, 0, 0) := rfl
theorem bu_117_74 : mm_at mt_P 117 74 = some ((74, 1, .iload_n 2, 0, 0, 0, 0), 7, 1, 1, 0, 0, 0, 0) := rfl
theorem bu_117_75 : mm_at mt_P 117 75 = some ((75, 1, .idiv, 0, 0, 0, 0), 7, 1, 1, 0, 0, 0, 0) := rfl
theorem bu_117_76 : mm_at mt_P 117 76 = some ((76, 3, .invokestatic 50, 265, 0, 0, 429), 7, 1, 1, 0, 0, 0, 0) := rfl
theorem bu_117_79 : mm_at mt_P 117 79 = some ((79, 2, .istore 6, 0, 0, 0, 0), 7, 1, 1, 0, 0, 0, 0) := rfl
theorem bu_117_81 : mm_at mt_P 117 81 = some ((81, 1, .iload_n 3, 0, 0, 0, 0), 7, 1, 1, 0, 0, 0, 0) := rfl
theorem bu_117_82 : mm_at mt_P 117 82 = some ((82, 1, .iload_n 2, 0, 0, 0, 0), 7, 1, 1, 0, 0, 0, 0) := rfl
theorem bu_117_83 : mm_at mt_P 117 83 = some ((83, 1, .irem, 0, 0, 0, 0), 7, 1, 1, 0, 0, 0, 0) := rfl
theorem bu_117_84 : mm_at mt_P 117 84 = some ((84, 1, .istore_n 3, 0, 0, 0, 0), 7, 1, 1, 0, 0, 0, 0) := rfl
theorem bu_117_85 : mm_at mt_P 117 85 = some ((85, 1, .aload_n 0, 0, 0, 0, 0), 7, 1, 1, 0, 0, 0, 0) := rfl
theorem bu_117_86 : mm_at mt_P 117 86 = some ((86, 3, .getfield 11, 0, 1, 0, 335), 7, 1, 1, 0, 0, 0, 0) := rfl
theorem bu_117_89 : mm_at mt_P 117 89 = some ((89, 1, .iload_n 1, 0, 0, 0, 0), 7, 1, 1, 0, 0, 0, 0) := rfl
theorem bu_117_90 : mm_at mt_P 117 90 = some ((90, 1, .iconst 4, 0, 0, 0, 0), 7, 1, 1, 0, 0, 0, 0) := rfl
theorem bu_117_91 : mm_at mt_P 117 91 = some ((91, 1, .imul, 0, 0, 0, 0), 7, 1, 1, 0, 0, 0, 0) := rfl
theorem bu_117_92 : mm_at mt_P 117 92 = some ((92, 2, .iload 4, 0, 0, 0, 0), 7, 1, 1, 0, 0, 0, 0) := rfl
theorem bu_117_94 : mm_at mt_P 117 94 = some ((94, 1, .iadd, 0, 0, 0, 0), 7, 1, 1, 0, 0, 0, 0) := rfl
theorem bu_117_95 : mm_at mt_P 117 95 = some ((95, 2, .iload 6, 0, 0, 0, 0), 7, 1, 1, 0, 0, 0, 0) := rfl
theorem bu_117_97 : mm_at mt_P 117 97 = some ((97, 1, .iastore, 0, 0, 0, 0), 7, 1, 1, 0, 0, 0, 0) := rfl
theorem bu_117_98 : mm_at mt_P 117 98 = some ((98, 3, .iinc 4 1, 0, 0, 0, 0), 7, 1, 1, 0, 0, 0, 0) := rfl
theorem bu_117_101 : mm_at mt_P 117 101 = some ((101, 3, .goto (-70), 0, 0, 0, 0), 7, 1, 1, 0, 0, 0, 0) := rfl
theorem bu_117_104 : mm_at mt_P 117 104 = some ((104, 1, .return_, 0, 0, 0, 0), 7, 1, 1, 0, 0, 0, 0) := rfl
theorem bu_133_0 : mm_at mt_P 133 0 = some ((0, 1, .aload_n 1, 0, 0, 0, 0), 2, 1, 1, 1, 0, 0, 0) := rfl
theorem bu_133_1 : mm_at mt_P 133 1 = some ((1, 3, .getfield 15, 1, 1, 0, 144), 2, 1, 1, 1, 0, 0, 0) := rfl
theorem bu_133_4 : mm_at mt_P 133 4 = some ((4, 1, .iconst 0, 0, 0, 0, 0), 2, 1, 1, 1, 0, 0, 0) := rfl
theorem bu_133_5 : mm_at mt_P 133 5 = some ((5, 1, .aload_n 0, 0, 0, 0, 0), 2, 1, 1, 1, 0, 0, 0) := rfl
theorem bu_133_6 : mm_at mt_P 133 6 = some ((6, 3, .getfield 15, 1, 1, 0, 144), 2, 1, 1, 1, 0, 0, 0) := rfl
theorem bu_133_9 : mm_at mt_P 133 9 = some ((9, 1, .iconst 0, 0, 0, 0, 0), 2, 1, 1, 1, 0, 0, 0) := rfl
theorem bu_133_10 : mm_at mt_P 133 10 = some ((10, 3, .sipush 432, 0, 0, 0, 0), 2, 1, 1, 1, 0, 0, 0) := rfl
theorem bu_133_13 : mm_at mt_P 133 13 = some ((13, 3, .invokestatic 35, 1, 0, 0, 738), 2, 1, 1, 1, 0, 0, 0) := rfl
theorem bu_133_16 : mm_at mt_P 133 16 = some ((16, 1, .aload_n 1, 0, 0, 0, 0), 2, 1, 1, 1, 0, 0, 0) := rfl
theorem bu_133_17 : mm_at mt_P 133 17 = some ((17, 3, .getfield 18, 1, 2, 0, 145), 2, 1, 1, 1, 0, 0, 0) := rfl
theorem bu_133_20 : mm_at mt_P 133 20 = some ((20, 1, .iconst 0, 0, 0, 0, 0), 2, 1, 1, 1, 0, 0, 0) := rfl
theorem bu_133_21 : mm_at mt_P 133 21 = some ((21, 1, .aload_n 0, 0, 0, 0, 0), 2, 1, 1, 1, 0, 0, 0) := rfl
theorem bu_133_22 : mm_at mt_P 133 22 = some ((22, 3, .getfield 18, 1, 2, 0, 145), 2, 1, 1, 1, 0, 0, 0) := rfl
theorem bu_133_25 : mm_at mt_P 133 25 = some ((25, 1, .iconst 0, 0, 0, 0, 0), 2, 1, 1, 1, 0, 0, 0) := rfl
theorem bu_133_26 : mm_at mt_P 133 26 = some ((26, 2, .bipush 7, 0, 0, 0, 0), 2, 1, 1, 1, 0, 0, 0) := rfl
theorem bu_133_28 : mm_at mt_P 133 28 = some ((28, 3, .invokestatic 35, 1, 0, 0, 738), 2, 1, 1, 1, 0, 0, 0) := rfl
theorem bu_133_31 : mm_at mt_P 133 31 = some ((31, 1, .aload_n 0, 0, 0, 0, 0), 2, 1, 1, 1, 0, 0, 0) := rfl
theorem bu_133_32 : mm_at mt_P 133 32 = some ((32, 1, .aload_n 1, 0, 0, 0, 0), 2, 1, 1, 1, 0, 0, 0) := rfl
theorem bu_133_33 : mm_at mt_P 133 33 = some ((33, 3, .getfield 24, 1, 4, 0, 147), 2, 1, 1, 1, 0, 0, 0) := rfl
theorem bu_133_36 : mm_at mt_P 133 36 = some ((36, 3, .putfield 24, 1, 4, 0, 147), 2, 1, 1, 1, 0, 0, 0) := rfl
theorem bu_133_39 : mm_at mt_P 133 39 = some ((39, 1, .return_, 0, 0, 0, 0), 2, 1, 1, 1, 0, 0, 0) := rfl
theorem bu_153_0 : mm_at mt_P 153 0 = some ((0, 1, .iconst 0, 0, 0, 0, 0), 2, 0, 1, 3, 0, 0, 0) := rfl
theorem bu_153_1 : mm_at mt_P 153 1 = some ((1, 1, .istore_n 1, 0, 0, 0, 0), 2, 0, 1, 3, 0, 0, 0) := rfl
theorem bu_153_2 : mm_at mt_P 153 2 = some ((2, 1, .iload_n 1, 0, 0, 0, 0), 2, 0, 1, 3, 0, 0, 0) := rfl
theorem bu_153_3 : mm_at mt_P 153 3 = some ((3, 1, .iconst 3, 0, 0, 0, 0), 2, 0, 1, 3, 0, 0, 0) := rfl
theorem bu_153_4 : mm_at mt_P 153 4 = some ((4, 3, .if_icmp .ge 16, 0, 0, 0, 0), 2, 0, 1, 3, 0, 0, 0) := rfl
theorem bu_153_7 : mm_at mt_P 153 7 = some ((7, 1, .aload_n 0, 0, 0, 0, 0), 2, 0, 1, 3, 0, 0, 0) := rfl
theorem bu_153_8 : mm_at mt_P 153 8 = some ((8, 3, .getfield 19, 3, 2, 0, 367), 2, 0, 1, 3, 0, 0, 0) := rfl
theorem bu_153_11 : mm_at mt_P 153 11 = some ((11, 1, .iload_n 1, 0, 0, 0, 0), 2, 0, 1, 3, 0, 0, 0) := rfl
theorem bu_153_12 : mm_at mt_P 153 12 = some ((12, 1, .iconst 0, 0, 0, 0, 0), 2, 0, 1, 3, 0, 0, 0) := rfl
theorem bu_153_13 : mm_at mt_P 153 13 = some ((13, 1, .bastore, 0, 0, 0, 0), 2, 0, 1, 3, 0, 0, 0) := rfl
theorem bu_153_14 : mm_at mt_P 153 14 = some ((14, 3, .iinc 1 1, 0, 0, 0, 0), 2, 0, 1, 3, 0, 0, 0) := rfl
theorem bu_153_17 : mm_at mt_P 153 17 = some ((17, 3, .goto (-15), 0, 0, 0, 0), 2, 0, 1, 3, 0, 0, 0) := rfl
theorem bu_153_20 : mm_at mt_P 153 20 = some ((20, 1, .return_, 0, 0, 0, 0), 2, 0, 1, 3, 0, 0, 0) := rfl
theorem bu_168_0 : mm_at mt_P 168 0 = some ((0, 1, .aload_n 0, 0, 0, 0, 0), 1, 0, 1, 4, 1, 0, 0) := rfl
theorem bu_168_1 : mm_at mt_P 168 1 = some ((1, 3, .getfield 24, 4, 7, 0, 281), 1, 0, 1, 4, 1, 0, 0) := rfl
theorem bu_168_4 : mm_at mt_P 168 4 = some ((4, 1, .ireturn, 0, 0, 0, 0), 1, 0, 1, 4, 1, 0, 0) := rfl
theorem bu_201_0 : mm_at mt_P 201 0 = some ((0, 1, .aload_n 0, 0, 0, 0, 0), 2, 1, 1, 6, 0, 0, 0) := rfl
theorem bu_201_1 : mm_at mt_P 201 1 = some ((1, 3, .getfield 12, 6, 0, 0, 177), 2, 1, 1, 6, 0, 0, 0) := rfl
theorem bu_201_4 : mm_at mt_P 201 4 = some ((4, 1, .aload_n 1, 0, 0, 0, 0), 2, 1, 1, 6, 0, 0, 0) := rfl
theorem bu_201_5 : mm_at mt_P 201 5 = some ((5, 3, .getfield 12, 6, 0, 0, 177), 2, 1, 1, 6, 0, 0, 0) := rfl
theorem bu_201_8 : mm_at mt_P 201 8 = some ((8, 3, .invokevirtual 55, 133, 0, 0, 734), 2, 1, 1, 6, 0, 0, 0) := rfl
theorem bu_201_11 : mm_at mt_P 201 11 = some ((11, 1, .aload_n 1, 0, 0, 0, 0), 2, 1, 1, 6, 0, 0, 0) := rfl
theorem bu_201_12 : mm_at mt_P 201 12 = some ((12, 3, .getfield 18, 6, 1, 0, 182), 2, 1, 1, 6, 0, 0, 0) := rfl
theorem bu_201_15 : mm_at mt_P 201 15 = some ((15, 1, .iconst 0, 0, 0, 0, 0), 2, 1, 1, 6, 0, 0, 0) := rfl
theorem bu_201_16 : mm_at mt_P 201 16 = some ((16, 1, .aload_n 0, 0, 0, 0, 0), 2, 1, 1, 6, 0, 0, 0) := rfl
theorem bu_201_17 : mm_at mt_P 201 17 = some ((17, 3, .getfield 18, 6, 1, 0, 182), 2, 1, 1, 6, 0, 0, 0) := rfl
theorem bu_201_20 : mm_at mt_P 201 20 = some ((20, 1, .iconst 0, 0, 0, 0, 0), 2, 1, 1, 6, 0, 0, 0) := rfl
theorem bu_201_21 : mm_at mt_P 201 21 = some ((21, 2, .bipush 24, 0, 0, 0, 0), 2, 1, 1, 6, 0, 0, 0) := rfl
theorem bu_201_23 : mm_at mt_P 201 23 = some ((23, 3, .invokestatic 59, 1, 0, 0, 741), 2, 1, 1, 6, 0, 0, 0) := rfl
theorem bu_201_26 : mm_at mt_P 201 26 = some ((26, 1, .aload_n 1, 0, 0, 0, 0), 2, 1, 1, 6, 0, 0, 0) := rfl
theorem bu_201_27 : mm_at mt_P 201 27 = some ((27, 3, .getfield 22, 6, 2, 0, 183), 2, 1, 1, 6, 0, 0, 0) := rfl
theorem bu_201_30 : mm_at mt_P 201 30 = some ((30, 1, .iconst 0, 0, 0, 0, 0), 2, 1, 1, 6, 0, 0, 0) := rfl
theorem bu_201_31 : mm_at mt_P 201 31 = some ((31, 1, .aload_n 0, 0, 0, 0, 0), 2, 1, 1, 6, 0, 0, 0) := rfl
theorem bu_201_32 : mm_at mt_P 201 32 = some ((32, 3, .getfield 22, 6, 2, 0, 183), 2, 1, 1, 6, 0, 0, 0) := rfl
theorem bu_201_35 : mm_at mt_P 201 35 = some ((35, 1, .iconst 0, 0, 0, 0, 0), 2, 1, 1, 6, 0, 0, 0) := rfl
theorem bu_201_36 : mm_at mt_P 201 36 = some ((36, 2, .bipush 6, 0, 0, 0, 0), 2, 1, 1, 6, 0, 0, 0) := rfl
theorem bu_201_38 : mm_at mt_P 201 38 = some ((38, 3, .invokestatic 59, 1, 0, 0, 741), 2, 1, 1, 6, 0, 0, 0) := rfl
theorem bu_201_41 : mm_at mt_P 201 41 = some ((41, 1, .aload_n 0, 0, 0, 0, 0), 2, 1, 1, 6, 0, 0, 0) := rfl
theorem bu_201_42 : mm_at mt_P 201 42 = some ((42, 1, .aload_n 1, 0, 0, 0, 0), 2, 1, 1, 6, 0, 0, 0) := rfl
theorem bu_201_43 : mm_at mt_P 201 43 = some ((43, 3, .getfield 32, 6, 4, 0, 186), 2, 1, 1, 6, 0, 0, 0) := rfl
theorem bu_201_46 : mm_at mt_P 201 46 = some ((46, 3, .putfield 32, 6, 4, 0, 186), 2, 1, 1, 6, 0, 0, 0) := rfl
theorem bu_201_49 : mm_at mt_P 201 49 = some ((49, 1, .aload_n 0, 0, 0, 0, 0), 2, 1, 1, 6, 0, 0, 0) := rfl
theorem bu_201_50 : mm_at mt_P 201 50 = some ((50, 1, .aload_n 1, 0, 0, 0, 0), 2, 1, 1, 6, 0, 0, 0) := rfl
theorem bu_201_51 : mm_at mt_P 201 51 = some ((51, 3, .getfield 36, 6, 5, 0, 191), 2, 1, 1, 6, 0, 0, 0) := rfl
theorem bu_201_54 : mm_at mt_P 201 54 = some ((54, 3, .putfield 36, 6, 5, 0, 191), 2, 1, 1, 6, 0, 0, 0) := rfl
theorem bu_201_57 : mm_at mt_P 201 57 = some ((57, 1, .aload_n 0, 0, 0, 0, 0), 2, 1, 1, 6, 0, 0, 0) := rfl
theorem bu_201_58 : mm_at mt_P 201 58 = some ((58, 1, .aload_n 1, 0, 0, 0, 0), 2, 1, 1, 6, 0, 0, 0) := rfl
theorem bu_201_59 : mm_at mt_P 201 59 = some ((59, 3, .getfield 39, 6, 6, 0, 194), 2, 1, 1, 6, 0, 0, 0) := rfl
theorem bu_201_62 : mm_at mt_P 201 62 = some ((62, 3, .putfield 39, 6, 6, 0, 194), 2, 1, 1, 6, 0, 0, 0) := rfl
theorem bu_201_65 : mm_at mt_P 201 65 = some ((65, 1, .aload_n 0, 0, 0, 0, 0), 2, 1, 1, 6, 0, 0, 0) := rfl
theorem bu_201_66 : mm_at mt_P 201 66 = some ((66, 1, .aload_n 1, 0, 0, 0, 0), 2, 1, 1, 6, 0, 0, 0) := rfl
theorem bu_201_67 : mm_at mt_P 201 67 = some ((67, 3, .getfield 42, 6, 7, 0, 197), 2, 1, 1, 6, 0, 0, 0) := rfl
theorem bu_201_70 : mm_at mt_P 201 70 = some ((70, 3, .putfield 42, 6, 7, 0, 197), 2, 1, 1, 6, 0, 0, 0) := rfl
theorem bu_201_73 : mm_at mt_P 201 73 = some ((73, 1, .aload_n 0, 0, 0, 0, 0), 2, 1, 1, 6, 0, 0, 0) := rfl
theorem bu_201_74 : mm_at mt_P 201 74 = some ((74, 1, .aload_n 1, 0, 0, 0, 0), 2, 1, 1, 6, 0, 0, 0) := rfl
theorem bu_201_75 : mm_at mt_P 201 75 = some ((75, 3, .getfield 45, 6, 8, 0, 200), 2, 1, 1, 6, 0, 0, 0) := rfl
theorem bu_201_78 : mm_at mt_P 201 78 = some ((78, 3, .putfield 45, 6, 8, 0, 200), 2, 1, 1, 6, 0, 0, 0) := rfl
theorem bu_201_81 : mm_at mt_P 201 81 = some ((81, 1, .aload_n 0, 0, 0, 0, 0), 2, 1, 1, 6, 0, 0, 0) := rfl
theorem bu_201_82 : mm_at mt_P 201 82 = some ((82, 1, .aload_n 1, 0, 0, 0, 0), 2, 1, 1, 6, 0, 0, 0) := rfl
theorem bu_201_83 : mm_at mt_P 201 83 = some ((83, 3, .getfield 48, 6, 9, 0, 205), 2, 1, 1, 6, 0, 0, 0) := rfl
theorem bu_201_86 : mm_at mt_P 201 86 = some ((86, 3, .putfield 48, 6, 9, 0, 205), 2, 1, 1, 6, 0, 0, 0) := rfl
theorem bu_201_89 : mm_at mt_P 201 89 = some ((89, 1, .aload_n 0, 0, 0, 0, 0), 2, 1, 1, 6, 0, 0, 0) := rfl
theorem bu_201_90 : mm_at mt_P 201 90 = some ((90, 1, .aload_n 1, 0, 0, 0, 0), 2, 1, 1, 6, 0, 0, 0) := rfl
theorem bu_201_91 : mm_at mt_P 201 91 = some ((91, 3, .getfield 51, 6, 10, 0, 208), 2, 1, 1, 6, 0, 0, 0) := rfl
theorem bu_201_94 : mm_at mt_P 201 94 = some ((94, 3, .putfield 51, 6, 10, 0, 208), 2, 1, 1, 6, 0, 0, 0) := rfl
theorem bu_201_97 : mm_at mt_P 201 97 = some ((97, 1, .return_, 0, 0, 0, 0), 2, 1, 1, 6, 0, 0, 0) := rfl
theorem bu_253_0 : mm_at mt_P 253 0 = some ((0, 1, .aload_n 0, 0, 0, 0, 0), 2, 0, 1, 8, 1, 0, 0) := rfl
theorem bu_253_1 : mm_at mt_P 253 1 = some ((1, 3, .getfield 35, 8, 5, 0, 437), 2, 0, 1, 8, 1, 0, 0) := rfl
theorem bu_253_4 : mm_at mt_P 253 4 = some ((4, 1, .aload_n 0, 0, 0, 0, 0), 2, 0, 1, 8, 1, 0, 0) := rfl
theorem bu_253_5 : mm_at mt_P 253 5 = some ((5, 3, .getfield 13, 8, 1, 0, 433), 2, 0, 1, 8, 1, 0, 0) := rfl
theorem bu_253_8 : mm_at mt_P 253 8 = some ((8, 3, .invokevirtual 82, 173, 0, 0, 482), 2, 0, 1, 8, 1, 0, 0) := rfl
theorem bu_253_11 : mm_at mt_P 253 11 = some ((11, 1, .istore_n 1, 0, 0, 0, 0), 2, 0, 1, 8, 1, 0, 0) := rfl
theorem bu_253_12 : mm_at mt_P 253 12 = some ((12, 1, .aload_n 0, 0, 0, 0, 0), 2, 0, 1, 8, 1, 0, 0) := rfl
theorem bu_253_13 : mm_at mt_P 253 13 = some ((13, 1, .iconst 0, 0, 0, 0, 0), 2, 0, 1, 8, 1, 0, 0) := rfl
theorem bu_253_14 : mm_at mt_P 253 14 = some ((14, 3, .putfield 13, 8, 1, 0, 433), 2, 0, 1, 8, 1, 0, 0) := rfl
theorem bu_253_17 : mm_at mt_P 253 17 = some ((17, 1, .aload_n 0, 0, 0, 0, 0), 2, 0, 1, 8, 1, 0, 0) := rfl
theorem bu_253_18 : mm_at mt_P 253 18 = some ((18, 1, .aload_n 0, 0, 0, 0, 0), 2, 0, 1, 8, 1, 0, 0) := rfl
theorem bu_253_19 : mm_at mt_P 253 19 = some ((19, 3, .getfield 35, 8, 5, 0, 437), 2, 0, 1, 8, 1, 0, 0) := rfl
theorem bu_253_22 : mm_at mt_P 253 22 = some ((22, 3, .invokevirtual 86, 168, 0, 0, 726), 2, 0, 1, 8, 1, 0, 0) := rfl
theorem bu_253_25 : mm_at mt_P 253 25 = some ((25, 3, .putfield 17, 8, 2, 0, 434), 2, 0, 1, 8, 1, 0, 0) := rfl
theorem bu_253_28 : mm_at mt_P 253 28 = some ((28, 1, .iload_n 1, 0, 0, 0, 0), 2, 0, 1, 8, 1, 0, 0) := rfl
theorem bu_253_29 : mm_at mt_P 253 29 = some ((29, 3, .ifCond .ne 50, 0, 0, 0, 0), 2, 0, 1, 8, 1, 0, 0) := rfl
theorem bu_253_32 : mm_at mt_P 253 32 = some ((32, 1, .aload_n 0, 0, 0, 0, 0), 2, 0, 1, 8, 1, 0, 0) := rfl
theorem bu_253_33 : mm_at mt_P 253 33 = some ((33, 3, .getfield 23, 8, 3, 0, 435), 2, 0, 1, 8, 1, 0, 0) := rfl
theorem bu_253_36 : mm_at mt_P 253 36 = some ((36, 1, .aload_n 0, 0, 0, 0, 0), 2, 0, 1, 8, 1, 0, 0) := rfl
theorem bu_253_37 : mm_at mt_P 253 37 = some ((37, 3, .getfield 27, 8, 4, 0, 436), 2, 0, 1, 8, 1, 0, 0) := rfl
theorem bu_253_40 : mm_at mt_P 253 40 = some ((40, 3, .invokevirtual 90, 201, 0, 0, 730), 2, 0, 1, 8, 1, 0, 0) := rfl
theorem bu_253_43 : mm_at mt_P 253 43 = some ((43, 1, .aload_n 0, 0, 0, 0, 0), 2, 0, 1, 8, 1, 0, 0) := rfl
theorem bu_253_44 : mm_at mt_P 253 44 = some ((44, 3, .getfield 44, 8, 6, 0, 438), 2, 0, 1, 8, 1, 0, 0) := rfl
theorem bu_253_47 : mm_at mt_P 253 47 = some ((47, 1, .iconst 0, 0, 0, 0, 0), 2, 0, 1, 8, 1, 0, 0) := rfl
theorem bu_253_48 : mm_at mt_P 253 48 = some ((48, 3, .invokevirtual 72, 194, 0, 0, 407), 2, 0, 1, 8, 1, 0, 0) := rfl
theorem bu_253_51 : mm_at mt_P 253 51 = some ((51, 1, .aload_n 0, 0, 0, 0, 0), 2, 0, 1, 8, 1, 0, 0) := rfl
theorem bu_253_52 : mm_at mt_P 253 52 = some ((52, 3, .getfield 54, 8, 8, 0, 440), 2, 0, 1, 8, 1, 0, 0) := rfl
theorem bu_253_55 : mm_at mt_P 253 55 = some ((55, 3, .invokevirtual 76, 116, 0, 0, 418), 2, 0, 1, 8, 1, 0, 0) := rfl
theorem bu_253_58 : mm_at mt_P 253 58 = some ((58, 1, .aload_n 0, 0, 0, 0, 0), 2, 0, 1, 8, 1, 0, 0) := rfl
theorem bu_253_59 : mm_at mt_P 253 59 = some ((59, 3, .getfield 61, 8, 9, 0, 441), 2, 0, 1, 8, 1, 0, 0) := rfl
theorem bu_253_62 : mm_at mt_P 253 62 = some ((62, 3, .invokevirtual 93, 154, 0, 0, 742), 2, 0, 1, 8, 1, 0, 0) := rfl
theorem bu_253_65 : mm_at mt_P 253 65 = some ((65, 1, .aload_n 0, 0, 0, 0, 0), 2, 0, 1, 8, 1, 0, 0) := rfl
theorem bu_253_66 : mm_at mt_P 253 66 = some ((66, 3, .getfield 61, 8, 9, 0, 441), 2, 0, 1, 8, 1, 0, 0) := rfl
theorem bu_253_69 : mm_at mt_P 253 69 = some ((69, 3, .invokevirtual 96, 153, 0, 0, 746), 2, 0, 1, 8, 1, 0, 0) := rfl
theorem bu_253_72 : mm_at mt_P 253 72 = some ((72, 1, .aload_n 0, 0, 0, 0, 0), 2, 0, 1, 8, 1, 0, 0) := rfl
theorem bu_253_73 : mm_at mt_P 253 73 = some ((73, 3, .getfield 68, 8, 10, 0, 442), 2, 0, 1, 8, 1, 0, 0) := rfl
theorem bu_253_76 : mm_at mt_P 253 76 = some ((76, 3, .invokevirtual 99, 149, 0, 0, 750), 2, 0, 1, 8, 1, 0, 0) := rfl
theorem bu_253_79 : mm_at mt_P 253 79 = some ((79, 1, .iload_n 1, 0, 0, 0, 0), 2, 0, 1, 8, 1, 0, 0) := rfl
theorem bu_253_80 : mm_at mt_P 253 80 = some ((80, 1, .ireturn, 0, 0, 0, 0), 2, 0, 1, 8, 1, 0, 0) := rfl
theorem bu_265_0 : mm_at mt_P 265 0 = some ((0, 1, .iload_n 1, 0, 0, 0, 0), 5, 3, 0, 8, 1, 0, 0) := rfl
theorem bu_265_1 : mm_at mt_P 265 1 = some ((1, 1, .aload_n 0, 0, 0, 0, 0), 5, 3, 0, 8, 1, 0, 0) := rfl
theorem bu_265_2 : mm_at mt_P 265 2 = some ((2, 1, .arraylength, 0, 0, 0, 0), 5, 3, 0, 8, 1, 0, 0) := rfl
theorem bu_265_3 : mm_at mt_P 265 3 = some ((3, 3, .if_icmp .gt 12, 0, 0, 0, 0), 5, 3, 0, 8, 1, 0, 0) := rfl
theorem bu_265_6 : mm_at mt_P 265 6 = some ((6, 1, .iload_n 2, 0, 0, 0, 0), 5, 3, 0, 8, 1, 0, 0) := rfl
theorem bu_265_7 : mm_at mt_P 265 7 = some ((7, 3, .ifCond .lt 8, 0, 0, 0, 0), 5, 3, 0, 8, 1, 0, 0) := rfl
theorem bu_265_10 : mm_at mt_P 265 10 = some ((10, 1, .iload_n 2, 0, 0, 0, 0), 5, 3, 0, 8, 1, 0, 0) := rfl
theorem bu_265_11 : mm_at mt_P 265 11 = some ((11, 1, .iload_n 1, 0, 0, 0, 0), 5, 3, 0, 8, 1, 0, 0) := rfl
theorem bu_265_12 : mm_at mt_P 265 12 = some ((12, 3, .if_icmp .lt 6, 0, 0, 0, 0), 5, 3, 0, 8, 1, 0, 0) := rfl
theorem bu_265_15 : mm_at mt_P 265 15 = some ((15, 2, .bipush (-2), 0, 0, 0, 0), 5, 3, 0, 8, 1, 0, 0) := rfl
theorem bu_265_17 : mm_at mt_P 265 17 = some ((17, 1, .ireturn, 0, 0, 0, 0), 5, 3, 0, 8, 1, 0, 0) := rfl
theorem bu_265_18 : mm_at mt_P 265 18 = some ((18, 1, .aload_n 0, 0, 0, 0, 0), 5, 3, 0, 8, 1, 0, 0) := rfl
theorem bu_265_19 : mm_at mt_P 265 19 = some ((19, 1, .iload_n 2, 0, 0, 0, 0), 5, 3, 0, 8, 1, 0, 0) := rfl
theorem bu_265_20 : mm_at mt_P 265 20 = some ((20, 1, .iaload, 0, 0, 0, 0), 5, 3, 0, 8, 1, 0, 0) := rfl
theorem bu_265_21 : mm_at mt_P 265 21 = some ((21, 1, .istore_n 3, 0, 0, 0, 0), 5, 3, 0, 8, 1, 0, 0) := rfl
theorem bu_265_22 : mm_at mt_P 265 22 = some ((22, 1, .iload_n 2, 0, 0, 0, 0), 5, 3, 0, 8, 1, 0, 0) := rfl
theorem bu_265_23 : mm_at mt_P 265 23 = some ((23, 2, .istore 4, 0, 0, 0, 0), 5, 3, 0, 8, 1, 0, 0) := rfl
theorem bu_265_25 : mm_at mt_P 265 25 = some ((25, 2, .iload 4, 0, 0, 0, 0), 5, 3, 0, 8, 1, 0, 0) := rfl
theorem bu_265_27 : mm_at mt_P 265 27 = some ((27, 1, .iconst 1, 0, 0, 0, 0), 5, 3, 0, 8, 1, 0, 0) := rfl
theorem bu_265_28 : mm_at mt_P 265 28 = some ((28, 1, .iadd, 0, 0, 0, 0), 5, 3, 0, 8, 1, 0, 0) := rfl
theorem bu_265_29 : mm_at mt_P 265 29 = some ((29, 1, .iload_n 1, 0, 0, 0, 0), 5, 3, 0, 8, 1, 0, 0) := rfl
theorem bu_265_30 : mm_at mt_P 265 30 = some ((30, 3, .if_icmp .ge 19, 0, 0, 0, 0), 5, 3, 0, 8, 1, 0, 0) := rfl
theorem bu_265_33 : mm_at mt_P 265 33 = some ((33, 1, .aload_n 0, 0, 0, 0, 0), 5, 3, 0, 8, 1, 0, 0) := rfl
theorem bu_265_34 : mm_at mt_P 265 34 = some ((34, 2, .iload 4, 0, 0, 0, 0), 5, 3, 0, 8, 1, 0, 0) := rfl
theorem bu_265_36 : mm_at mt_P 265 36 = some ((36, 1, .aload_n 0, 0, 0, 0, 0), 5, 3, 0, 8, 1, 0, 0) := rfl
theorem bu_265_37 : mm_at mt_P 265 37 = some ((37, 2, .iload 4, 0, 0, 0, 0), 5, 3, 0, 8, 1, 0, 0) := rfl
theorem bu_265_39 : mm_at mt_P 265 39 = some ((39, 1, .iconst 1, 0, 0, 0, 0), 5, 3, 0, 8, 1, 0, 0) := rfl
theorem bu_265_40 : mm_at mt_P 265 40 = some ((40, 1, .iadd, 0, 0, 0, 0), 5, 3, 0, 8, 1, 0, 0) := rfl
theorem bu_265_41 : mm_at mt_P 265 41 = some ((41, 1, .iaload, 0, 0, 0, 0), 5, 3, 0, 8, 1, 0, 0) := rfl
theorem bu_265_42 : mm_at mt_P 265 42 = some ((42, 1, .iastore, 0, 0, 0, 0), 5, 3, 0, 8, 1, 0, 0) := rfl
theorem bu_265_43 : mm_at mt_P 265 43 = some ((43, 3, .iinc 4 1, 0, 0, 0, 0), 5, 3, 0, 8, 1, 0, 0) := rfl
theorem bu_265_46 : mm_at mt_P 265 46 = some ((46, 3, .goto (-21), 0, 0, 0, 0), 5, 3, 0, 8, 1, 0, 0) := rfl
theorem bu_265_49 : mm_at mt_P 265 49 = some ((49, 1, .iload_n 3, 0, 0, 0, 0), 5, 3, 0, 8, 1, 0, 0) := rfl
theorem bu_265_50 : mm_at mt_P 265 50 = some ((50, 1, .ireturn, 0, 0, 0, 0), 5, 3, 0, 8, 1, 0, 0) := rfl
section BWQ
variable {E : mm_E} {PO : mm_C → Prop} {NN : Nat} {h0 h : mm_H} {s : Nat → Int32} {A : Nat → Nat → Int32} {L : Nat → Nat → Int64} {gs : List mm_F}
set_option maxHeartbeats 4000000 in
theorem bw_133 (hP : bm_P bw_T E h0 h s A L) (kk : ∀ (h' : mm_H) (s' : Nat → Int32) (A' : Nat → Nat → Int32), bm_P bw_T E h0 h' s' A' L → (∀ j, j ≠ 304 → s' j = s j) → s' 304 = s 1204 → (∀ c, c ≠ 5 → c ≠ 6 → A' c = A c) → (∀ j, j < 432 → A' 5 j = A 14 j) → (∀ j, j < 7 → A' 6 j = A 15 j) → bp_G E PO NN (mm_back none gs h')) : bp_G E PO NN ((133, 0, [(0, .ref (E.1 + 3)), (1, .ref (E.1 + 12))], [], 0, 0) :: gs, h, none) := by
  refine bp_ld (pc' := 1) bu_133_0 rfl rfl (fun _ _ _ => rfl) rfl rfl ?_
  refine bn_gr (pc' := 4) (t := 14) bu_133_1 rfl rfl (fun _ _ _ => rfl) hP bw_o12 bw_r12_1 ?_
  refine bp_c (pc' := 5) (n := 0) bu_133_4 rfl rfl (fun _ _ _ => rfl) (by decide) (fun c5788 e5789 => ?_)
  refine bp_ld (pc' := 6) bu_133_5 rfl rfl (fun _ _ _ => rfl) rfl rfl ?_
  refine bn_gr (pc' := 9) (t := 5) bu_133_6 rfl rfl (fun _ _ _ => rfl) hP bw_o3 bw_r3_1 ?_
  refine bp_c (pc' := 10) (n := 0) bu_133_9 rfl rfl (fun _ _ _ => rfl) (by decide) (fun c5790 e5791 => ?_)
  refine bp_c (pc' := 13) (n := 432) bu_133_10 rfl rfl (fun _ _ _ => rfl) (by decide) (fun c5792 e5793 => ?_)
  refine bn_acE (pc' := 16) (N := 432) bu_133_13 rfl hP bw_a14 bw_a5 (by omega) (by omega) (by omega) (fun h5794 f5795 hP5796 e5797 => ?_)
  refine bp_ld (pc' := 17) bu_133_16 rfl rfl (fun _ _ _ => rfl) rfl rfl ?_
  refine bn_gr (pc' := 20) (t := 15) bu_133_17 rfl rfl (fun _ _ _ => rfl) hP5796 bw_o12 bw_r12_2 ?_
  refine bp_c (pc' := 21) (n := 0) bu_133_20 rfl rfl (fun _ _ _ => rfl) (by decide) (fun c5798 e5799 => ?_)
  refine bp_ld (pc' := 22) bu_133_21 rfl rfl (fun _ _ _ => rfl) rfl rfl ?_
  refine bn_gr (pc' := 25) (t := 6) bu_133_22 rfl rfl (fun _ _ _ => rfl) hP5796 bw_o3 bw_r3_2 ?_
  refine bp_c (pc' := 26) (n := 0) bu_133_25 rfl rfl (fun _ _ _ => rfl) (by decide) (fun c5800 e5801 => ?_)
  refine bp_c (pc' := 28) (n := 7) bu_133_26 rfl rfl (fun _ _ _ => rfl) (by decide) (fun c5802 e5803 => ?_)
  refine bn_acE (pc' := 31) (N := 7) bu_133_28 rfl hP5796 bw_a15 bw_a6 (by omega) (by omega) (by omega) (fun h5804 f5805 hP5806 e5807 => ?_)
  refine bp_ld (pc' := 32) bu_133_31 rfl rfl (fun _ _ _ => rfl) rfl rfl ?_
  refine bp_ld (pc' := 33) bu_133_32 rfl rfl (fun _ _ _ => rfl) rfl rfl ?_
  refine bn_gi (pc' := 36) (K := 1204) bu_133_33 rfl rfl (fun _ _ _ => rfl) hP5806 bw_o12 bw_i12_4 rfl rfl ?_
  refine bn_pf (pc' := 39) (K := 304) bu_133_36 rfl rfl (fun _ _ _ => rfl) hP5806 bw_o3 bw_i3_4 rfl rfl (fun h5808 s5809 hP5810 e5811 f5812 => ?_)
  refine bp_rv bu_133_39 ?_
  exact kk _ _ _ hP5810 f5812 (by rw [e5811]) (fun c u1 u2 => (bh_row_o u2).trans (bh_row_o u1)) (fun j hj => by rw [bh_row_o (by decide), bh_row_i]; exact e5797 j hj) (fun j hj => by rw [bh_row_i, e5807 j hj, bh_row_o (by decide)])
set_option maxHeartbeats 4000000 in
theorem bw_201 (hP : bm_P bw_T E h0 h s A L) (kk : ∀ (h' : mm_H) (s' : Nat → Int32) (A' : Nat → Nat → Int32), bm_P bw_T E h0 h' s' A' L → bw_C s A s' A' → s' 2 = s 2 → bp_G E PO NN (mm_back none gs h')) : bp_G E PO NN ((201, 0, [(0, .ref (E.1 + 2)), (1, .ref (E.1 + 11))], [], 0, 0) :: gs, h, none) := by
  refine bp_ld (pc' := 1) bu_201_0 rfl rfl (fun _ _ _ => rfl) rfl rfl ?_
  refine bn_gr (pc' := 4) (t := 3) bu_201_1 rfl rfl (fun _ _ _ => rfl) hP bw_o2 bw_r2_0 ?_
  refine bp_ld (pc' := 5) bu_201_4 rfl rfl (fun _ _ _ => rfl) rfl rfl ?_
  refine bn_gr (pc' := 8) (t := 12) bu_201_5 rfl rfl (fun _ _ _ => rfl) hP bw_o11 bw_r11_0 ?_
  refine bn_cvF (pc' := 11) (st := []) (args := [.ref (E.1 + 12)]) bu_201_8 rfl rfl rfl (by decide) hP bw_o3 (by decide) rfl (Nat.le_of_ble_eq_true rfl) (Nat.le_of_ble_eq_true rfl) ?_
  refine bw_133 hP (fun h5813 s5814 A5815 hP5816 f5817 e5818 a5819 a5820 a5821 => ?_)
  show bp_G E PO NN ((201, 11, _, [], 0, 0) :: gs, h5813, none)
  refine bp_ld (pc' := 12) bu_201_11 rfl rfl (fun _ _ _ => rfl) rfl rfl ?_
  refine bn_gr (pc' := 15) (t := 17) bu_201_12 rfl rfl (fun _ _ _ => rfl) hP5816 bw_o11 bw_r11_1 ?_
  refine bp_c (pc' := 16) (n := 0) bu_201_15 rfl rfl (fun _ _ _ => rfl) (by decide) (fun c5822 e5823 => ?_)
  refine bp_ld (pc' := 17) bu_201_16 rfl rfl (fun _ _ _ => rfl) rfl rfl ?_
  refine bn_gr (pc' := 20) (t := 8) bu_201_17 rfl rfl (fun _ _ _ => rfl) hP5816 bw_o2 bw_r2_1 ?_
  refine bp_c (pc' := 21) (n := 0) bu_201_20 rfl rfl (fun _ _ _ => rfl) (by decide) (fun c5824 e5825 => ?_)
  refine bp_c (pc' := 23) (n := 24) bu_201_21 rfl rfl (fun _ _ _ => rfl) (by decide) (fun c5826 e5827 => ?_)
  refine bn_acE (pc' := 26) (N := 24) bu_201_23 rfl hP5816 bw_a17 bw_a8 (by omega) (by omega) (by omega) (fun h5828 f5829 hP5830 e5831 => ?_)
  refine bp_ld (pc' := 27) bu_201_26 rfl rfl (fun _ _ _ => rfl) rfl rfl ?_
  refine bn_gr (pc' := 30) (t := 18) bu_201_27 rfl rfl (fun _ _ _ => rfl) hP5830 bw_o11 bw_r11_2 ?_
  refine bp_c (pc' := 31) (n := 0) bu_201_30 rfl rfl (fun _ _ _ => rfl) (by decide) (fun c5832 e5833 => ?_)
  refine bp_ld (pc' := 32) bu_201_31 rfl rfl (fun _ _ _ => rfl) rfl rfl ?_
  refine bn_gr (pc' := 35) (t := 9) bu_201_32 rfl rfl (fun _ _ _ => rfl) hP5830 bw_o2 bw_r2_2 ?_
  refine bp_c (pc' := 36) (n := 0) bu_201_35 rfl rfl (fun _ _ _ => rfl) (by decide) (fun c5834 e5835 => ?_)
  refine bp_c (pc' := 38) (n := 6) bu_201_36 rfl rfl (fun _ _ _ => rfl) (by decide) (fun c5836 e5837 => ?_)
  refine bn_acE (pc' := 41) (N := 6) bu_201_38 rfl hP5830 bw_a18 bw_a9 (by omega) (by omega) (by omega) (fun h5838 f5839 hP5840 e5841 => ?_)
  refine bp_ld (pc' := 42) bu_201_41 rfl rfl (fun _ _ _ => rfl) rfl rfl ?_
  refine bp_ld (pc' := 43) bu_201_42 rfl rfl (fun _ _ _ => rfl) rfl rfl ?_
  refine bn_gi (pc' := 46) (K := 1104) bu_201_43 rfl rfl (fun _ _ _ => rfl) hP5840 bw_o11 bw_i11_4 rfl (f5817 1104 (by decide)) ?_
  refine bn_pf (pc' := 49) (K := 204) bu_201_46 rfl rfl (fun _ _ _ => rfl) hP5840 bw_o2 bw_i2_4 rfl rfl (fun h5842 s5843 hP5844 e5845 f5846 => ?_)
  refine bp_ld (pc' := 50) bu_201_49 rfl rfl (fun _ _ _ => rfl) rfl rfl ?_
  refine bp_ld (pc' := 51) bu_201_50 rfl rfl (fun _ _ _ => rfl) rfl rfl ?_
  refine bn_gi (pc' := 54) (K := 1105) bu_201_51 rfl rfl (fun _ _ _ => rfl) hP5844 bw_o11 bw_i11_5 rfl ((f5846 1105 (by decide)).trans (f5817 1105 (by decide))) ?_
  refine bn_pf (pc' := 57) (K := 205) bu_201_54 rfl rfl (fun _ _ _ => rfl) hP5844 bw_o2 bw_i2_5 rfl rfl (fun h5847 s5848 hP5849 e5850 f5851 => ?_)
  refine bp_ld (pc' := 58) bu_201_57 rfl rfl (fun _ _ _ => rfl) rfl rfl ?_
  refine bp_ld (pc' := 59) bu_201_58 rfl rfl (fun _ _ _ => rfl) rfl rfl ?_
  refine bn_gi (pc' := 62) (K := 1106) bu_201_59 rfl rfl (fun _ _ _ => rfl) hP5849 bw_o11 bw_i11_6 rfl ((f5851 1106 (by decide)).trans ((f5846 1106 (by decide)).trans (f5817 1106 (by decide)))) ?_
  refine bn_pf (pc' := 65) (K := 206) bu_201_62 rfl rfl (fun _ _ _ => rfl) hP5849 bw_o2 bw_i2_6 rfl rfl (fun h5852 s5853 hP5854 e5855 f5856 => ?_)
  refine bp_ld (pc' := 66) bu_201_65 rfl rfl (fun _ _ _ => rfl) rfl rfl ?_
  refine bp_ld (pc' := 67) bu_201_66 rfl rfl (fun _ _ _ => rfl) rfl rfl ?_
  refine bn_gi (pc' := 70) (K := 1107) bu_201_67 rfl rfl (fun _ _ _ => rfl) hP5854 bw_o11 bw_i11_7 rfl ((f5856 1107 (by decide)).trans ((f5851 1107 (by decide)).trans ((f5846 1107 (by decide)).trans (f5817 1107 (by decide))))) ?_
  refine bn_pf (pc' := 73) (K := 207) bu_201_70 rfl rfl (fun _ _ _ => rfl) hP5854 bw_o2 bw_i2_7 rfl rfl (fun h5857 s5858 hP5859 e5860 f5861 => ?_)
  refine bp_ld (pc' := 74) bu_201_73 rfl rfl (fun _ _ _ => rfl) rfl rfl ?_
  refine bp_ld (pc' := 75) bu_201_74 rfl rfl (fun _ _ _ => rfl) rfl rfl ?_
  refine bn_gi (pc' := 78) (K := 1108) bu_201_75 rfl rfl (fun _ _ _ => rfl) hP5859 bw_o11 bw_i11_8 rfl ((f5861 1108 (by decide)).trans ((f5856 1108 (by decide)).trans ((f5851 1108 (by decide)).trans ((f5846 1108 (by decide)).trans (f5817 1108 (by decide)))))) ?_
  refine bn_pf (pc' := 81) (K := 208) bu_201_78 rfl rfl (fun _ _ _ => rfl) hP5859 bw_o2 bw_i2_8 rfl rfl (fun h5862 s5863 hP5864 e5865 f5866 => ?_)
  refine bp_ld (pc' := 82) bu_201_81 rfl rfl (fun _ _ _ => rfl) rfl rfl ?_
  refine bp_ld (pc' := 83) bu_201_82 rfl rfl (fun _ _ _ => rfl) rfl rfl ?_
  refine bn_gi (pc' := 86) (K := 1109) bu_201_83 rfl rfl (fun _ _ _ => rfl) hP5864 bw_o11 bw_i11_9 rfl ((f5866 1109 (by decide)).trans ((f5861 1109 (by decide)).trans ((f5856 1109 (by decide)).trans ((f5851 1109 (by decide)).trans ((f5846 1109 (by decide)).trans (f5817 1109 (by decide))))))) ?_
  refine bn_pf (pc' := 89) (K := 209) bu_201_86 rfl rfl (fun _ _ _ => rfl) hP5864 bw_o2 bw_i2_9 rfl rfl (fun h5867 s5868 hP5869 e5870 f5871 => ?_)
  refine bp_ld (pc' := 90) bu_201_89 rfl rfl (fun _ _ _ => rfl) rfl rfl ?_
  refine bp_ld (pc' := 91) bu_201_90 rfl rfl (fun _ _ _ => rfl) rfl rfl ?_
  refine bn_gi (pc' := 94) (K := 1110) bu_201_91 rfl rfl (fun _ _ _ => rfl) hP5869 bw_o11 bw_i11_10 rfl ((f5871 1110 (by decide)).trans ((f5866 1110 (by decide)).trans ((f5861 1110 (by decide)).trans ((f5856 1110 (by decide)).trans ((f5851 1110 (by decide)).trans ((f5846 1110 (by decide)).trans (f5817 1110 (by decide)))))))) ?_
  refine bn_pf (pc' := 97) (K := 210) bu_201_94 rfl rfl (fun _ _ _ => rfl) hP5869 bw_o2 bw_i2_10 rfl rfl (fun h5872 s5873 hP5874 e5875 f5876 => ?_)
  refine bp_rv bu_201_97 ?_
  exact kk _ _ _ hP5874 ⟨⟨by rw [((f5876 204 (by decide)).trans ((f5871 204 (by decide)).trans ((f5866 204 (by decide)).trans ((f5861 204 (by decide)).trans ((f5856 204 (by decide)).trans ((f5851 204 (by decide)).trans e5845))))))], by rw [((f5876 205 (by decide)).trans ((f5871 205 (by decide)).trans ((f5866 205 (by decide)).trans ((f5861 205 (by decide)).trans ((f5856 205 (by decide)).trans e5850)))))], by rw [((f5876 206 (by decide)).trans ((f5871 206 (by decide)).trans ((f5866 206 (by decide)).trans ((f5861 206 (by decide)).trans e5855))))], by rw [((f5876 207 (by decide)).trans ((f5871 207 (by decide)).trans ((f5866 207 (by decide)).trans e5860)))], by rw [((f5876 208 (by decide)).trans ((f5871 208 (by decide)).trans e5865))], by rw [((f5876 209 (by decide)).trans e5870)], by rw [e5875]⟩, by rw [((f5876 304 (by decide)).trans ((f5871 304 (by decide)).trans ((f5866 304 (by decide)).trans ((f5861 304 (by decide)).trans ((f5856 304 (by decide)).trans ((f5851 304 (by decide)).trans ((f5846 304 (by decide)).trans e5818)))))))], fun j hj => by rw [bh_row_o (by decide), bh_row_o (by decide)]; exact a5820 j hj, fun j hj => by rw [bh_row_o (by decide), bh_row_o (by decide)]; exact a5821 j hj, fun j hj => by rw [bh_row_o (by decide), bh_row_i, e5831 j hj, a5819 17 (by decide) (by decide)], fun j hj => by rw [bh_row_i, e5841 j hj, bh_row_o (by decide), a5819 18 (by decide) (by decide)]⟩ ((f5876 2 (by decide)).trans ((f5871 2 (by decide)).trans ((f5866 2 (by decide)).trans ((f5861 2 (by decide)).trans ((f5856 2 (by decide)).trans ((f5851 2 (by decide)).trans ((f5846 2 (by decide)).trans (f5817 2 (by decide)))))))))
set_option maxHeartbeats 4000000 in
theorem bw_265l {l : Nat → Nat} {y k mn : Int32} {A0 : Nat → Nat → Int32} (hy : 1 ≤ y.toInt ∧ y.toInt ≤ 6) (hk : 0 ≤ k.toInt ∧ k.toInt < y.toInt) (hmn : mn.toInt = (l k.toInt.toNat : Int)) : ∀ NN : Nat, (∀ (h' : mm_H) (A' : Nat → Nat → Int32) (r : Int32), bm_P bw_T E h0 h' s A' L → (∀ c, c ≠ 33 → A' c = A0 c) → r.toInt = (l k.toInt.toNat : Int) → (∀ j, j < 6 → (A' 33 j).toInt = (dl_A l y.toInt.toNat k.toInt.toNat j : Int)) → bp_G E PO NN (mm_back (some (.int r)) gs h')) → (∀ (h : mm_H) (A : Nat → Nat → Int32) (lv : mm_V) (o : Option Value) (i : Int32), bm_P bw_T E h0 h s A L → (∀ c, c ≠ 33 → A c = A0 c) → k.toInt ≤ i.toInt ∧ i.toInt ≤ y.toInt - 1 → (∀ j, j < 6 → (A 33 j).toInt = (if k.toInt.toNat ≤ j ∧ j < i.toInt.toNat then l (j + 1) else l j : Nat)) → mm_get lv 0 = some (.ref (E.1 + 33)) → mm_get lv 1 = some (.int y) → mm_get lv 2 = some (.int k) → mm_get lv 3 = some (.int mn) → mm_get lv 4 = some (.int i) → bp_G E PO NN ((265, 25, lv, [], 0, 0) :: gs, h, o)) := by
  intro NN
  induction NN with
  | zero => intro kk h A lv o i hP hA hi hb g0 g1 g2 g3 g4; exact bp_zero bu_265_25
  | succ NN ih =>
    intro kk h A lv o i hP hA hi hb g0 g1 g2 g3 g4
    refine bp_ld (pc' := 27) bu_265_25 rfl rfl (fun _ _ _ => rfl) g4 rfl ?_
    refine bp_c (pc' := 28) (n := 1) bu_265_27 rfl rfl (fun _ _ _ => rfl) (by decide) (fun c5877 e5878 => ?_)
    refine bp_add (pc' := 29) bu_265_28 rfl (by omega) (by omega) (fun v5879 e5880 => ?_)
    refine bp_ld (pc' := 30) bu_265_29 rfl rfl (fun _ _ _ => rfl) g1 rfl ?_
    refine bp_ic (pc' := 33) (pt := 49) bu_265_30 rfl rfl (fun k5881 => ?_) (fun k5881 => ?_)
    · replace k5881 : (y).toInt ≤ (v5879).toInt := k5881
      refine bp_ld (pc' := 50) bu_265_49 rfl rfl (fun _ _ _ => rfl) g3 rfl ?_
      refine bp_ri bu_265_50 ?_
      exact kk _ _ _ hP hA hmn (fun j hj => by
        rw [hb j hj]
        unfold dl_A
        by_cases q : k.toInt.toNat ≤ j ∧ j < i.toInt.toNat
        · rw [if_pos q, if_pos (by omega)]
        · rw [if_neg q, if_neg (by omega)])
    · replace k5881 : ¬ ((y).toInt ≤ (v5879).toInt) := k5881
      refine bp_ld (pc' := 34) bu_265_33 rfl rfl (fun _ _ _ => rfl) g0 rfl ?_
      refine bp_ld (pc' := 36) bu_265_34 rfl rfl (fun _ _ _ => rfl) g4 rfl ?_
      refine bp_ld (pc' := 37) bu_265_36 rfl rfl (fun _ _ _ => rfl) g0 rfl ?_
      refine bp_ld (pc' := 39) bu_265_37 rfl rfl (fun _ _ _ => rfl) g4 rfl ?_
      refine bp_c (pc' := 40) (n := 1) bu_265_39 rfl rfl (fun _ _ _ => rfl) (by decide) (fun c5882 e5883 => ?_)
      refine bp_add (pc' := 41) bu_265_40 rfl (by omega) (by omega) (fun v5884 e5885 => ?_)
      refine bn_iaF (pc' := 42) bu_265_41 rfl rfl (fun _ _ _ => rfl) hP bw_a33 (Or.inl rfl) (fun b5886 b5887 => ?_)
      refine bn_iasF (pc' := 43) bu_265_42 rfl rfl (fun _ _ _ => rfl) hP bw_a33 (Or.inl rfl) (fun b5890 b5891 h5888 hP5889 => ?_)
      refine bp_inc (pc' := 46) bu_265_43 rfl (by decide) g4 (by decide) (by omega) (by omega) (fun lv5892 y5895 F5893 g5894 e5896 => ?_)
      have g5897 := F5893 0 (.ref (E.1 + 33)) g0 (by decide) (Or.inl rfl)
      have g5898 := F5893 1 (.int y) g1 (by decide) (Or.inl rfl)
      have g5899 := F5893 2 (.int k) g2 (by decide) (Or.inl rfl)
      have g5900 := F5893 3 (.int mn) g3 (by decide) (Or.inl rfl)
      refine bp_goD (pc' := 25) bu_265_46 rfl ?_
      have hi2 : (y5895).toInt.toNat = i.toInt.toNat + 1 := by omega
      exact ih (fun h' A' r a0 a1 a2 a3 => bp_mono (Nat.le_succ NN) (kk h' A' r a0 a1 a2 a3)) _ _ _ _ _ hP5889 (fun c c1 => (bh_up_ne c1).trans (hA c c1)) (by omega) (fun j hj => by
        rw [hi2]
        by_cases e : j = i.toInt.toNat
        · rw [e, bh_up_i, if_pos (by omega)]
          show (A 33 (v5884).toInt.toNat).toInt = _
          rw [show (v5884).toInt.toNat = i.toInt.toNat + 1 by omega, hb _ (by omega), if_neg (by omega)]
        · rw [bh_up_j e, hb j hj]
          by_cases q : k.toInt.toNat ≤ j ∧ j < i.toInt.toNat
          · rw [if_pos q, if_pos (by omega)]
          · rw [if_neg q, if_neg (by omega)]) g5897 g5898 g5899 g5900 g5894
set_option maxHeartbeats 4000000 in
theorem bw_265 {l : Nat → Nat} {y k : Int32} (hP : bm_P bw_T E h0 h s A L) (hl : ∀ j, j < 6 → (A 33 j).toInt = (l j : Int)) (hy : 1 ≤ y.toInt ∧ y.toInt ≤ 6) (hk : 0 ≤ k.toInt ∧ k.toInt < y.toInt) (kk : (∀ (h' : mm_H) (A' : Nat → Nat → Int32) (r : Int32), bm_P bw_T E h0 h' s A' L → (∀ c, c ≠ 33 → A' c = A c) → r.toInt = (l k.toInt.toNat : Int) → (∀ j, j < 6 → (A' 33 j).toInt = (dl_A l y.toInt.toNat k.toInt.toNat j : Int)) → bp_G E PO NN (mm_back (some (.int r)) gs h'))) : bp_G E PO NN ((265, 0, [(0, .ref (E.1 + 33)), (1, .int y), (2, .int k)], [], 0, 0) :: gs, h, none) := by
  refine bp_ld (pc' := 1) bu_265_0 rfl rfl (fun _ _ _ => rfl) rfl rfl ?_
  refine bp_ld (pc' := 2) bu_265_1 rfl rfl (fun _ _ _ => rfl) rfl rfl ?_
  refine bn_al (pc' := 3) bu_265_2 rfl hP bw_a33 (by decide) (by decide) (fun v5901 e5902 => ?_)
  refine bp_ic (pc' := 6) (pt := 15) bu_265_3 rfl rfl (fun k5903 => ?_) (fun k5903 => ?_)
  · replace k5903 : (v5901).toInt < (y).toInt := k5903
    refine bp_c (pc' := 17) (n := -2) bu_265_15 rfl rfl (fun _ _ _ => rfl) (by decide) (fun c5904 e5905 => ?_)
    refine bp_ri bu_265_17 ?_
    exfalso
    omega
  · replace k5903 : ¬ ((v5901).toInt < (y).toInt) := k5903
    refine bp_ld (pc' := 7) bu_265_6 rfl rfl (fun _ _ _ => rfl) rfl rfl ?_
    refine bp_i0 (pc' := 10) (pt := 15) bu_265_7 rfl rfl (fun k5906 => ?_) (fun k5906 => ?_)
    · replace k5906 : (k).toInt < 0 := k5906
      refine bp_c (pc' := 17) (n := -2) bu_265_15 rfl rfl (fun _ _ _ => rfl) (by decide) (fun c5907 e5908 => ?_)
      refine bp_ri bu_265_17 ?_
      exfalso
      omega
    · replace k5906 : ¬ ((k).toInt < 0) := k5906
      refine bp_ld (pc' := 11) bu_265_10 rfl rfl (fun _ _ _ => rfl) rfl rfl ?_
      refine bp_ld (pc' := 12) bu_265_11 rfl rfl (fun _ _ _ => rfl) rfl rfl ?_
      refine bp_ic (pc' := 15) (pt := 18) bu_265_12 rfl rfl (fun k5909 => ?_) (fun k5909 => ?_)
      · replace k5909 : (k).toInt < (y).toInt := k5909
        refine bp_ld (pc' := 19) bu_265_18 rfl rfl (fun _ _ _ => rfl) rfl rfl ?_
        refine bp_ld (pc' := 20) bu_265_19 rfl rfl (fun _ _ _ => rfl) rfl rfl ?_
        refine bn_iaF (pc' := 21) bu_265_20 rfl rfl (fun _ _ _ => rfl) hP bw_a33 (Or.inl rfl) (fun b5910 b5911 => ?_)
        refine bp_st (pc' := 22) bu_265_21 rfl rfl (fun _ _ _ => rfl) rfl (by decide) (by decide) (fun lv5912 F5913 g5914 => ?_)
        have g5915 := F5913 0 (.ref (E.1 + 33)) rfl (by decide) (Or.inl rfl)
        have g5916 := F5913 1 (.int y) rfl (by decide) (Or.inl rfl)
        have g5917 := F5913 2 (.int k) rfl (by decide) (Or.inl rfl)
        refine bp_ld (pc' := 23) bu_265_22 rfl rfl (fun _ _ _ => rfl) g5917 rfl ?_
        refine bp_st (pc' := 25) bu_265_23 rfl rfl (fun _ _ _ => rfl) rfl (by decide) (by decide) (fun lv5918 F5919 g5920 => ?_)
        have g5921 := F5919 0 (.ref (E.1 + 33)) g5915 (by decide) (Or.inl rfl)
        have g5922 := F5919 1 (.int y) g5916 (by decide) (Or.inl rfl)
        have g5923 := F5919 2 (.int k) g5917 (by decide) (Or.inl rfl)
        have g5924 := F5919 3 (.int (A 33 (k).toInt.toNat)) g5914 (by decide) (Or.inl rfl)
        exact bw_265l hy hk (mn := (A 33 (k).toInt.toNat)) (hl _ (by omega)) NN kk _ _ _ _ _ hP (fun _ _ => rfl) (by omega) (fun j hj => by rw [if_neg (by omega)]; exact hl j hj) g5921 g5922 g5923 g5924 g5920
      · replace k5909 : ¬ ((k).toInt < (y).toInt) := k5909
        refine bp_c (pc' := 17) (n := -2) bu_265_15 rfl rfl (fun _ _ _ => rfl) (by decide) (fun c5925 e5926 => ?_)
        refine bp_ri bu_265_17 ?_
        exfalso
        omega
set_option maxHeartbeats 4000000 in
theorem bw_289 {x y : Int32} (kk : ∀ r : Int32, ((r = x ∧ y.toInt ≤ x.toInt) ∨ (r = y ∧ x.toInt < y.toInt)) → bp_G E PO NN (mm_back (some (.int r)) gs h)) : bp_G E PO NN ((289, 0, [(0, .int x), (1, .int y)], [], 0, 0) :: gs, h, none) := by
  refine bp_ld (pc' := 1) bu_289_0 rfl rfl (fun _ _ _ => rfl) rfl rfl ?_
  refine bp_ld (pc' := 2) bu_289_1 rfl rfl (fun _ _ _ => rfl) rfl rfl ?_
  refine bp_ic (pc' := 5) (pt := 9) bu_289_2 rfl rfl (fun k5927 => ?_) (fun k5927 => ?_)
  · replace k5927 : (x).toInt < (y).toInt := k5927
    refine bp_ld (pc' := 10) bu_289_9 rfl rfl (fun _ _ _ => rfl) rfl rfl ?_
    refine bp_ri bu_289_10 ?_
    exact kk _ (by first | exact Or.inl ⟨rfl, by omega⟩ | exact Or.inr ⟨rfl, by omega⟩)
  · replace k5927 : ¬ ((x).toInt < (y).toInt) := k5927
    refine bp_ld (pc' := 6) bu_289_5 rfl rfl (fun _ _ _ => rfl) rfl rfl ?_
    refine bp_go (pc' := 10) bu_289_6 rfl ?_
    refine bp_ri bu_289_10 ?_
    exact kk _ (by first | exact Or.inl ⟨rfl, by omega⟩ | exact Or.inr ⟨rfl, by omega⟩)
set_option maxHeartbeats 4000000 in
theorem bw_117a {d : Int32} {A0 : Nat → Nat → Int32} : ∀ NN : Nat, (∀ (h' : mm_H) (A' : Nat → Nat → Int32) (lv : mm_V) (o : Option Value), bm_P bw_T E h0 h' s A' L → (∀ c, c ≠ 33 → A' c = A0 c) → (∀ j : Nat, j < 6 → (A' 33 j).toInt = (j : Int)) → mm_get lv 0 = some (.ref (E.1 + 31)) → mm_get lv 1 = some (.int d) → bp_G E PO NN ((117, 21, lv, [], 0, 0) :: gs, h', o)) → (∀ (h : mm_H) (A : Nat → Nat → Int32) (lv : mm_V) (o : Option Value) (i : Int32), bm_P bw_T E h0 h s A L → (∀ c, c ≠ 33 → A c = A0 c) → (∀ j : Nat, (j : Int) < i.toInt → (A 33 j).toInt = (j : Int)) → mm_get lv 0 = some (.ref (E.1 + 31)) → mm_get lv 1 = some (.int d) → mm_get lv 2 = some (.int i) → bp_G E PO NN ((117, 2, lv, [], 0, 0) :: gs, h, o)) := by
  intro NN
  induction NN with
  | zero => intro kk h A lv o i hP hA hb g0 g1 g2; exact bp_zero bu_117_2
  | succ NN ih =>
    intro kk h A lv o i hP hA hb g0 g1 g2
    refine bp_ld (pc' := 3) bu_117_2 rfl rfl (fun _ _ _ => rfl) g2 rfl ?_
    refine bp_c (pc' := 5) (n := 6) bu_117_3 rfl rfl (fun _ _ _ => rfl) (by decide) (fun c5928 e5929 => ?_)
    refine bp_ic (pc' := 8) (pt := 21) bu_117_5 rfl rfl (fun k5930 => ?_) (fun k5930 => ?_)
    · replace k5930 : (c5928).toInt ≤ (i).toInt := k5930
      exact kk _ _ _ _ hP hA (fun j hj => hb j (by omega)) g0 g1
    · replace k5930 : ¬ ((c5928).toInt ≤ (i).toInt) := k5930
      refine bp_ld (pc' := 9) bu_117_8 rfl rfl (fun _ _ _ => rfl) g0 rfl ?_
      refine bn_gr (pc' := 12) (t := 33) bu_117_9 rfl rfl (fun _ _ _ => rfl) hP bw_o31 bw_r31_2 ?_
      refine bp_ld (pc' := 13) bu_117_12 rfl rfl (fun _ _ _ => rfl) g2 rfl ?_
      refine bp_ld (pc' := 14) bu_117_13 rfl rfl (fun _ _ _ => rfl) g2 rfl ?_
      refine bn_iasF (pc' := 15) bu_117_14 rfl rfl (fun _ _ _ => rfl) hP bw_a33 (Or.inl rfl) (fun b5933 b5934 h5931 hP5932 => ?_)
      refine bp_inc (pc' := 18) bu_117_15 rfl (by decide) g2 (by decide) (by omega) (by omega) (fun lv5935 y5938 F5936 g5937 e5939 => ?_)
      have g5940 := F5936 0 (.ref (E.1 + 31)) g0 (by decide) (Or.inl rfl)
      have g5941 := F5936 1 (.int d) g1 (by decide) (Or.inl rfl)
      refine bp_goD (pc' := 2) bu_117_18 rfl ?_
      exact ih (fun h' A' lv o a0 a1 a2 a3 a4 => bp_mono (Nat.le_succ NN) (kk h' A' lv o a0 a1 a2 a3 a4)) _ _ _ _ _ hP5932 (fun c c1 => (bh_up_ne c1).trans (hA c c1)) (fun j hj => by
        by_cases e : j = i.toInt.toNat
        · rw [e, bh_up_i]
          show i.toInt = _
          omega
        · rw [bh_up_j e]
          exact hb j (by omega)) g5940 g5941 g5937
set_option maxHeartbeats 4000000 in
theorem bw_117b {m : Nat} {d : Int32} {A0 : Nat → Nat → Int32} (hm6 : m ≤ 6) (hmen : (s 204).toInt = (m : Int)) (hd : 0 ≤ d.toInt ∧ d.toInt < (dl_sz m : Int)) (hsz : dl_sz m ≤ 360) : ∀ NN : Nat, (∀ (h' : mm_H) (A' : Nat → Nat → Int32), bm_P bw_T E h0 h' s A' L → (∀ c, c ≠ 32 → c ≠ 33 → A' c = A0 c) → (∀ j, (j < 4 * d.toInt.toNat ∨ 4 * d.toInt.toNat + 4 ≤ j) → A' 32 j = A0 32 j) → (∀ q, q < 4 → (A' 32 (4 * d.toInt.toNat + q)).toInt = dr_cv (dl_m m d.toInt.toNat q)) → bp_G E PO NN (mm_back none gs h')) → (∀ (h : mm_H) (A : Nat → Nat → Int32) (lv : mm_V) (o : Option Value) (sp rs p : Int32), bm_P bw_T E h0 h s A L → (∀ c, c ≠ 32 → c ≠ 33 → A c = A0 c) → (∀ j, (j < 4 * d.toInt.toNat ∨ 4 * d.toInt.toNat + 4 ≤ j) → A 32 j = A0 32 j) → (∀ q, q < p.toInt.toNat → (A 32 (4 * d.toInt.toNat + q)).toInt = dr_cv (dl_m m d.toInt.toNat q)) → 0 ≤ p.toInt ∧ p.toInt ≤ 4 → sp.toInt = (dl_sp m p.toInt.toNat : Int) → rs.toInt = (dl_rs m d.toInt.toNat p.toInt.toNat : Int) → (∀ j, j < 6 → (A 33 j).toInt = (dl_l m d.toInt.toNat p.toInt.toNat j : Int)) → mm_get lv 0 = some (.ref (E.1 + 31)) → mm_get lv 1 = some (.int d) → mm_get lv 2 = some (.int sp) → mm_get lv 3 = some (.int rs) → mm_get lv 4 = some (.int p) → bp_G E PO NN ((117, 31, lv, [], 0, 0) :: gs, h, o)) := by
  intro NN
  induction NN with
  | zero => intro kk h A lv o sp rs p hP hA hW hQ hp isp irs hL g0 g1 g2 g3 g4; exact bp_zero bu_117_31
  | succ NN ih =>
    intro kk h A lv o sp rs p hP hA hW hQ hp isp irs hL g0 g1 g2 g3 g4
    refine bp_ld (pc' := 33) bu_117_31 rfl rfl (fun _ _ _ => rfl) g4 rfl ?_
    refine bp_c (pc' := 34) (n := 4) bu_117_33 rfl rfl (fun _ _ _ => rfl) (by decide) (fun c5942 e5943 => ?_)
    refine bp_ic (pc' := 37) (pt := 104) bu_117_34 rfl rfl (fun k5944 => ?_) (fun k5944 => ?_)
    · replace k5944 : (c5942).toInt ≤ (p).toInt := k5944
      refine bp_rv bu_117_104 ?_
      exact kk _ _ hP hA hW (fun q hq => hQ q (by omega))
    · replace k5944 : ¬ ((c5942).toInt ≤ (p).toInt) := k5944
      refine bp_ld (pc' := 38) bu_117_37 rfl rfl (fun _ _ _ => rfl) g0 rfl ?_
      refine bn_gr (pc' := 41) (t := 2) bu_117_38 rfl rfl (fun _ _ _ => rfl) hP bw_o31 bw_r31_0 ?_
      refine bn_gi (pc' := 44) (K := 204) bu_117_41 rfl rfl (fun _ _ _ => rfl) hP bw_o2 bw_i2_4 rfl rfl ?_
      refine bp_ld (pc' := 46) bu_117_44 rfl rfl (fun _ _ _ => rfl) g4 rfl ?_
      refine bp_sub (pc' := 47) bu_117_46 rfl (by omega) (by omega) (fun v5945 e5946 => ?_)
      refine bp_st (pc' := 49) bu_117_47 rfl rfl (fun _ _ _ => rfl) rfl (by decide) (by decide) (fun lv5947 F5948 g5949 => ?_)
      have g5950 := F5948 0 (.ref (E.1 + 31)) g0 (by decide) (Or.inl rfl)
      have g5951 := F5948 1 (.int d) g1 (by decide) (Or.inl rfl)
      have g5952 := F5948 2 (.int sp) g2 (by decide) (Or.inl rfl)
      have g5953 := F5948 3 (.int rs) g3 (by decide) (Or.inl rfl)
      have g5954 := F5948 4 (.int p) g4 (by decide) (Or.inl rfl)
      refine bp_c (pc' := 51) (n := -2) bu_117_49 rfl rfl (fun _ _ _ => rfl) (by decide) (fun c5955 e5956 => ?_)
      refine bp_st (pc' := 53) bu_117_51 rfl rfl (fun _ _ _ => rfl) rfl (by decide) (by decide) (fun lv5957 F5958 g5959 => ?_)
      have g5960 := F5958 0 (.ref (E.1 + 31)) g5950 (by decide) (Or.inl rfl)
      have g5961 := F5958 1 (.int d) g5951 (by decide) (Or.inl rfl)
      have g5962 := F5958 2 (.int sp) g5952 (by decide) (Or.inl rfl)
      have g5963 := F5958 3 (.int rs) g5953 (by decide) (Or.inl rfl)
      have g5964 := F5958 4 (.int p) g5954 (by decide) (Or.inl rfl)
      have g5965 := F5958 5 (.int v5945) g5949 (by decide) (Or.inl rfl)
      refine bp_ld (pc' := 55) bu_117_53 rfl rfl (fun _ _ _ => rfl) g5965 rfl ?_
      refine bp_i0 (pc' := 58) (pt := 85) bu_117_55 rfl rfl (fun k5966 => ?_) (fun k5966 => ?_)
      · replace k5966 : (v5945).toInt ≤ 0 := k5966
        refine bp_ld (pc' := 86) bu_117_85 rfl rfl (fun _ _ _ => rfl) g5960 rfl ?_
        refine bn_gr (pc' := 89) (t := 32) bu_117_86 rfl rfl (fun _ _ _ => rfl) hP bw_o31 bw_r31_1 ?_
        refine bp_ld (pc' := 90) bu_117_89 rfl rfl (fun _ _ _ => rfl) g5961 rfl ?_
        refine bp_c (pc' := 91) (n := 4) bu_117_90 rfl rfl (fun _ _ _ => rfl) (by decide) (fun c5967 e5968 => ?_)
        refine bp_mul (pc' := 92) bu_117_91 rfl (by rw [e5968]; omega) (by rw [e5968]; omega) (fun v5969 e5970 => ?_)
        rw [e5968] at e5970
        refine bp_ld (pc' := 94) bu_117_92 rfl rfl (fun _ _ _ => rfl) g5964 rfl ?_
        refine bp_add (pc' := 95) bu_117_94 rfl (by omega) (by omega) (fun v5971 e5972 => ?_)
        refine bp_ld (pc' := 97) bu_117_95 rfl rfl (fun _ _ _ => rfl) g5959 rfl ?_
        refine bn_iasF (pc' := 98) bu_117_97 rfl rfl (fun _ _ _ => rfl) hP bw_a32 (Or.inl rfl) (fun b5975 b5976 h5973 hP5974 => ?_)
        refine bp_inc (pc' := 101) bu_117_98 rfl (by decide) g5964 (by decide) (by omega) (by omega) (fun lv5977 y5980 F5978 g5979 e5981 => ?_)
        have g5982 := F5978 0 (.ref (E.1 + 31)) g5960 (by decide) (Or.inl rfl)
        have g5983 := F5978 1 (.int d) g5961 (by decide) (Or.inl rfl)
        have g5984 := F5978 2 (.int sp) g5962 (by decide) (Or.inl rfl)
        have g5985 := F5978 3 (.int rs) g5963 (by decide) (Or.inl rfl)
        have g5986 := F5978 5 (.int v5945) g5965 (by decide) (Or.inl rfl)
        have g5987 := F5978 6 (.int c5955) g5959 (by decide) (Or.inl rfl)
        refine bp_goD (pc' := 31) bu_117_101 rfl ?_
        have hp2 : (y5980).toInt.toNat = p.toInt.toNat + 1 := by omega
        have hix : (v5971).toInt.toNat = 4 * d.toInt.toNat + p.toInt.toNat := by omega
        have hpm : ¬ p.toInt.toNat < m := by omega
        have hmn : (c5955).toInt = dr_cv (dl_m m d.toInt.toNat p.toInt.toNat) := by
          rw [dl_m_n hpm]
          show _ = (-2 : Int)
          omega
        exact ih (fun h' A' a0 a1 a2 a3 => bp_mono (Nat.le_succ NN) (kk h' A' a0 a1 a2 a3)) _ _ _ _ _ _ _ hP5974 (fun c c1 c2 => (bh_up_ne c1).trans (hA c c1 c2)) (fun j hj => by
          rw [hix, bh_up_j (by omega)]
          exact hW j hj) (fun q hq => by
          rw [hp2] at hq
          rw [hix]
          by_cases e : q = p.toInt.toNat
          · rw [e, bh_up_i]
            exact hmn
          · rw [bh_up_j (by omega)]
            exact hQ q (by omega)) (by omega) (by rw [hp2, dl_sp_n hpm]; exact isp) (by rw [hp2, dl_rs_n hpm]; exact irs) (fun j hj => by rw [bh_up_ne (by decide), hp2, dl_l_n hpm]; exact hL j hj) g5982 g5983 g5984 g5985 g5979
      · replace k5966 : ¬ ((v5945).toInt ≤ 0) := k5966
        refine bp_c (pc' := 59) (n := 1) bu_117_58 rfl rfl (fun _ _ _ => rfl) (by decide) (fun c5988 e5989 => ?_)
        refine bp_ld (pc' := 60) bu_117_59 rfl rfl (fun _ _ _ => rfl) g5962 rfl ?_
        refine bp_ld (pc' := 62) bu_117_60 rfl rfl (fun _ _ _ => rfl) g5965 rfl ?_
        refine bp_divx (pc' := 63) bu_117_62 rfl (fun v5990 n5991 e5992 => ?_)
        refine bp_csF (pc' := 66) (st := []) (args := [.int v5990, .int c5988]) bu_117_63 rfl rfl (by decide) rfl (Nat.le_of_ble_eq_true rfl) (Nat.le_of_ble_eq_true rfl) ?_
        refine bw_289 (x := c5988) (y := v5990) (fun r5993 e5994 => ?_)
        show bp_G E PO (NN + 1) ((117, 66, lv5957, [.int r5993], 0, 0) :: gs, h, none)
        refine bp_st (pc' := 67) bu_117_66 rfl rfl (fun _ _ _ => rfl) rfl (by decide) (by decide) (fun lv5995 F5996 g5997 => ?_)
        have g5998 := F5996 0 (.ref (E.1 + 31)) g5960 (by decide) (Or.inl rfl)
        have g5999 := F5996 1 (.int d) g5961 (by decide) (Or.inl rfl)
        have g6000 := F5996 3 (.int rs) g5963 (by decide) (Or.inl rfl)
        have g6001 := F5996 4 (.int p) g5964 (by decide) (Or.inl rfl)
        have g6002 := F5996 5 (.int v5945) g5965 (by decide) (Or.inl rfl)
        have g6003 := F5996 6 (.int c5955) g5959 (by decide) (Or.inl rfl)
        refine bp_ld (pc' := 68) bu_117_67 rfl rfl (fun _ _ _ => rfl) g5998 rfl ?_
        refine bn_gr (pc' := 71) (t := 33) bu_117_68 rfl rfl (fun _ _ _ => rfl) hP bw_o31 bw_r31_2 ?_
        refine bp_ld (pc' := 73) bu_117_71 rfl rfl (fun _ _ _ => rfl) g6002 rfl ?_
        refine bp_ld (pc' := 74) bu_117_73 rfl rfl (fun _ _ _ => rfl) g6000 rfl ?_
        refine bp_ld (pc' := 75) bu_117_74 rfl rfl (fun _ _ _ => rfl) g5997 rfl ?_
        refine bp_divx (pc' := 76) bu_117_75 rfl (fun v6004 n6005 e6006 => ?_)
        refine bp_csF (pc' := 79) (st := []) (args := [.int v6004, .int v5945, .ref (E.1 + 33)]) bu_117_76 rfl rfl (by decide) rfl (Nat.le_of_ble_eq_true rfl) (Nat.le_of_ble_eq_true rfl) ?_
        have hpm : p.toInt.toNat < m := by omega
        have hq1 := dl_quo (b := m - p.toInt.toNat) isp (by omega) (by omega) e5992
        have hsp2 : (r5993).toInt = (dl_sp m (p.toInt.toNat + 1) : Int) := by
          rw [dl_sp_s hpm]
          exact dl_mx (by omega) hq1 e5994
        have hd1 := dr_d (m := m) (d := d.toInt.toNat) hm6 (by omega)
        have hs1 := hd1.2.1 p.toInt.toNat (by omega)
        have hq2 := dl_quo (b := dl_sp m (p.toInt.toNat + 1)) irs hsp2 (by omega) e6006
        have hq3 := hd1.2.2 p.toInt.toNat (by omega) hpm
        have hq4 : 0 ≤ (v6004).toInt := by
          rw [hq2]
          exact Int.natCast_nonneg _
        have hq5 : (v6004).toInt.toNat = dl_rs m d.toInt.toNat p.toInt.toNat / dl_sp m (p.toInt.toNat + 1) := by
          rw [hq2]
          exact Int.toNat_natCast _
        refine bw_265 (l := dl_l m d.toInt.toNat p.toInt.toNat) (y := v5945) (k := v6004) hP hL (by omega) (by omega) (fun h6007 A6008 r6009 hP6010 a6011 e6012 e6013 => ?_)
        rw [hq5] at e6012 e6013
        rw [show (v5945).toInt.toNat = m - p.toInt.toNat by omega] at e6013
        show bp_G E PO (NN + 1) ((117, 79, lv5995, [.int r6009], 0, 0) :: gs, h6007, none)
        refine bp_st (pc' := 81) bu_117_79 rfl rfl (fun _ _ _ => rfl) rfl (by decide) (by decide) (fun lv6014 F6015 g6016 => ?_)
        have g6017 := F6015 0 (.ref (E.1 + 31)) g5998 (by decide) (Or.inl rfl)
        have g6018 := F6015 1 (.int d) g5999 (by decide) (Or.inl rfl)
        have g6019 := F6015 3 (.int rs) g6000 (by decide) (Or.inl rfl)
        have g6020 := F6015 4 (.int p) g6001 (by decide) (Or.inl rfl)
        have g6021 := F6015 5 (.int v5945) g6002 (by decide) (Or.inl rfl)
        have g6022 := F6015 2 (.int r5993) g5997 (by decide) (Or.inl rfl)
        refine bp_ld (pc' := 82) bu_117_81 rfl rfl (fun _ _ _ => rfl) g6019 rfl ?_
        refine bp_ld (pc' := 83) bu_117_82 rfl rfl (fun _ _ _ => rfl) g6022 rfl ?_
        refine bp_remx (pc' := 84) bu_117_83 rfl (fun v6023 n6024 e6025 => ?_)
        refine bp_st (pc' := 85) bu_117_84 rfl rfl (fun _ _ _ => rfl) rfl (by decide) (by decide) (fun lv6026 F6027 g6028 => ?_)
        have g6029 := F6027 0 (.ref (E.1 + 31)) g6017 (by decide) (Or.inl rfl)
        have g6030 := F6027 1 (.int d) g6018 (by decide) (Or.inl rfl)
        have g6031 := F6027 4 (.int p) g6020 (by decide) (Or.inl rfl)
        have g6032 := F6027 5 (.int v5945) g6021 (by decide) (Or.inl rfl)
        have g6033 := F6027 2 (.int r5993) g6022 (by decide) (Or.inl rfl)
        have g6034 := F6027 6 (.int r6009) g6016 (by decide) (Or.inl rfl)
        refine bp_ld (pc' := 86) bu_117_85 rfl rfl (fun _ _ _ => rfl) g6029 rfl ?_
        refine bn_gr (pc' := 89) (t := 32) bu_117_86 rfl rfl (fun _ _ _ => rfl) hP6010 bw_o31 bw_r31_1 ?_
        refine bp_ld (pc' := 90) bu_117_89 rfl rfl (fun _ _ _ => rfl) g6030 rfl ?_
        refine bp_c (pc' := 91) (n := 4) bu_117_90 rfl rfl (fun _ _ _ => rfl) (by decide) (fun c6035 e6036 => ?_)
        refine bp_mul (pc' := 92) bu_117_91 rfl (by rw [e6036]; omega) (by rw [e6036]; omega) (fun v6037 e6038 => ?_)
        rw [e6036] at e6038
        refine bp_ld (pc' := 94) bu_117_92 rfl rfl (fun _ _ _ => rfl) g6031 rfl ?_
        refine bp_add (pc' := 95) bu_117_94 rfl (by omega) (by omega) (fun v6039 e6040 => ?_)
        refine bp_ld (pc' := 97) bu_117_95 rfl rfl (fun _ _ _ => rfl) g6034 rfl ?_
        refine bn_iasF (pc' := 98) bu_117_97 rfl rfl (fun _ _ _ => rfl) hP6010 bw_a32 (Or.inl rfl) (fun b6043 b6044 h6041 hP6042 => ?_)
        refine bp_inc (pc' := 101) bu_117_98 rfl (by decide) g6031 (by decide) (by omega) (by omega) (fun lv6045 y6048 F6046 g6047 e6049 => ?_)
        have g6050 := F6046 0 (.ref (E.1 + 31)) g6029 (by decide) (Or.inl rfl)
        have g6051 := F6046 1 (.int d) g6030 (by decide) (Or.inl rfl)
        have g6052 := F6046 5 (.int v5945) g6032 (by decide) (Or.inl rfl)
        have g6053 := F6046 2 (.int r5993) g6033 (by decide) (Or.inl rfl)
        have g6054 := F6046 6 (.int r6009) g6034 (by decide) (Or.inl rfl)
        have g6055 := F6046 3 (.int v6023) g6028 (by decide) (Or.inl rfl)
        refine bp_goD (pc' := 31) bu_117_101 rfl ?_
        have hp2 : (y6048).toInt.toNat = p.toInt.toNat + 1 := by omega
        have hix : (v6039).toInt.toNat = 4 * d.toInt.toNat + p.toInt.toNat := by omega
        have hmn : (r6009).toInt = dr_cv (dl_m m d.toInt.toNat p.toInt.toNat) := by
          have g9 := dl_m_lt (m := m) (d := d.toInt.toNat) (p := p.toInt.toNat) hm6 (by omega) (by omega)
          rw [dl_m_s hpm] at g9 ⊢
          rw [e6012]
          unfold dr_cv
          rcases g9 with g9 | g9
          · exfalso
            have g8 := dl_six (m := m) (d := d.toInt.toNat) (p := p.toInt.toNat) hm6 (by omega) (by omega) hpm
            rw [dl_m_s hpm] at g8
            omega
          · rw [if_neg (by omega)]
        exact ih (fun h' A' a0 a1 a2 a3 => bp_mono (Nat.le_succ NN) (kk h' A' a0 a1 a2 a3)) _ _ _ _ _ _ _ hP6042 (fun c c1 c2 => (bh_up_ne c1).trans ((a6011 c c2).trans (hA c c1 c2))) (fun j hj => by
          rw [hix, bh_up_j (by omega), a6011 32 (by decide)]
          exact hW j hj) (fun q hq => by
          rw [hp2] at hq
          rw [hix]
          by_cases e : q = p.toInt.toNat
          · rw [e, bh_up_i]
            exact hmn
          · rw [bh_up_j (by omega), a6011 32 (by decide)]
            exact hQ q (by omega)) (by omega) (by rw [hp2]; exact hsp2) (by rw [hp2, dl_rs_s hpm]; exact dl_rem irs hsp2 e6025) (fun j hj => by rw [bh_up_ne (by decide), hp2, dl_l_s hpm]; exact e6013 j hj) g6050 g6051 g6053 g6055 g6047
set_option maxHeartbeats 4000000 in
theorem bw_117 {m : Nat} {d : Int32} (hP : bm_P bw_T E h0 h s A L) (hm6 : m ≤ 6) (hmen : (s 204).toInt = (m : Int)) (hz : (s 3106).toInt = (dl_sz m : Int)) (hd : 0 ≤ d.toInt ∧ d.toInt < (dl_sz m : Int)) (kk : (∀ (h' : mm_H) (A' : Nat → Nat → Int32), bm_P bw_T E h0 h' s A' L → (∀ c, c ≠ 32 → c ≠ 33 → A' c = A c) → (∀ j, (j < 4 * d.toInt.toNat ∨ 4 * d.toInt.toNat + 4 ≤ j) → A' 32 j = A 32 j) → (∀ q, q < 4 → (A' 32 (4 * d.toInt.toNat + q)).toInt = dr_cv (dl_m m d.toInt.toNat q)) → bp_G E PO NN (mm_back none gs h'))) : bp_G E PO NN ((117, 0, [(0, .ref (E.1 + 31)), (1, .int d)], [], 0, 0) :: gs, h, none) := by
  refine bp_c (pc' := 1) (n := 0) bu_117_0 rfl rfl (fun _ _ _ => rfl) (by decide) (fun c6056 e6057 => ?_)
  refine bp_st (pc' := 2) bu_117_1 rfl rfl (fun _ _ _ => rfl) rfl (by decide) (by decide) (fun lv6058 F6059 g6060 => ?_)
  have g6061 := F6059 0 (.ref (E.1 + 31)) rfl (by decide) (Or.inl rfl)
  have g6062 := F6059 1 (.int d) rfl (by decide) (Or.inl rfl)
  refine bw_117a (d := d) (A0 := A) NN (fun h6063 A6064 lv6065 o6066 hP6067 a6068 z6069 g6070 g6071 => ?_) _ _ _ _ _ hP (fun _ _ => rfl) (fun j hj => absurd hj (by omega)) g6061 g6062 g6060
  refine bp_ld (pc' := 22) bu_117_21 rfl rfl (fun _ _ _ => rfl) g6070 rfl ?_
  refine bn_gi (pc' := 25) (K := 3106) bu_117_22 rfl rfl (fun _ _ _ => rfl) hP6067 bw_o31 bw_i31_6 rfl rfl ?_
  refine bp_st (pc' := 26) bu_117_25 rfl rfl (fun _ _ _ => rfl) rfl (by decide) (by decide) (fun lv6072 F6073 g6074 => ?_)
  have g6075 := F6073 0 (.ref (E.1 + 31)) g6070 (by decide) (Or.inl rfl)
  have g6076 := F6073 1 (.int d) g6071 (by decide) (Or.inl rfl)
  refine bp_ld (pc' := 27) bu_117_26 rfl rfl (fun _ _ _ => rfl) g6076 rfl ?_
  refine bp_st (pc' := 28) bu_117_27 rfl rfl (fun _ _ _ => rfl) rfl (by decide) (by decide) (fun lv6077 F6078 g6079 => ?_)
  have g6080 := F6078 0 (.ref (E.1 + 31)) g6075 (by decide) (Or.inl rfl)
  have g6081 := F6078 1 (.int d) g6076 (by decide) (Or.inl rfl)
  have g6082 := F6078 2 (.int (s 3106)) g6074 (by decide) (Or.inl rfl)
  refine bp_c (pc' := 29) (n := 0) bu_117_28 rfl rfl (fun _ _ _ => rfl) (by decide) (fun c6083 e6084 => ?_)
  refine bp_st (pc' := 31) bu_117_29 rfl rfl (fun _ _ _ => rfl) rfl (by decide) (by decide) (fun lv6085 F6086 g6087 => ?_)
  have g6088 := F6086 0 (.ref (E.1 + 31)) g6080 (by decide) (Or.inl rfl)
  have g6089 := F6086 1 (.int d) g6081 (by decide) (Or.inl rfl)
  have g6090 := F6086 2 (.int (s 3106)) g6082 (by decide) (Or.inl rfl)
  have g6091 := F6086 3 (.int d) g6079 (by decide) (Or.inl rfl)
  have hp0 : (c6083).toInt.toNat = 0 := by omega
  exact bw_117b (m := m) (A0 := A) hm6 hmen hd (dr_sz hm6).2 NN kk _ _ _ _ _ _ _ hP6067 (fun c c1 c2 => a6068 c c2) (fun j hj => by rw [a6068 32 (by decide)]) (fun q hq => absurd hq (by omega)) (by omega) (by rw [hp0]; exact hz) (by rw [hp0]; show _ = ((d.toInt.toNat : Nat) : Int); omega) (fun j hj => by rw [hp0]; exact z6069 j hj) g6088 g6089 g6090 g6091 g6087
set_option maxHeartbeats 4000000 in
theorem bw_116a {m : Nat} {s0 : Nat → Int32} (hm6 : m ≤ 6) (hmen : (s0 204).toInt = (m : Int)) : ∀ NN : Nat, (∀ (h' : mm_H) (s' : Nat → Int32) (lv : mm_V) (o : Option Value), bm_P bw_T E h0 h' s' A L → (∀ j, j ≠ 3106 → s' j = s0 j) → (s' 3106).toInt = (dl_sz m : Int) → mm_get lv 0 = some (.ref (E.1 + 31)) → bp_G E PO NN ((116, 40, lv, [], 0, 0) :: gs, h', o)) → (∀ (h : mm_H) (s : Nat → Int32) (lv : mm_V) (o : Option Value) (p : Int32), bm_P bw_T E h0 h s A L → (∀ j, j ≠ 3106 → s j = s0 j) → 0 ≤ p.toInt ∧ p.toInt ≤ 4 → (s 3106).toInt = (dl_pz m p.toInt.toNat : Int) → mm_get lv 0 = some (.ref (E.1 + 31)) → mm_get lv 1 = some (.int p) → bp_G E PO NN ((116, 7, lv, [], 0, 0) :: gs, h, o)) := by
  intro NN
  induction NN with
  | zero => intro kk h s lv o p hP fr hp hv g0 g1; exact bp_zero bu_116_7
  | succ NN ih =>
    intro kk h s lv o p hP fr hp hv g0 g1
    have hm8 : (s 204).toInt = (m : Int) := by rw [fr 204 (by decide)]; exact hmen
    refine bp_ld (pc' := 8) bu_116_7 rfl rfl (fun _ _ _ => rfl) g1 rfl ?_
    refine bp_c (pc' := 9) (n := 4) bu_116_8 rfl rfl (fun _ _ _ => rfl) (by decide) (fun c6092 e6093 => ?_)
    refine bp_ic (pc' := 12) (pt := 40) bu_116_9 rfl rfl (fun k6094 => ?_) (fun k6094 => ?_)
    · replace k6094 : (c6092).toInt ≤ (p).toInt := k6094
      exact kk _ _ _ _ hP fr (by rw [show p.toInt.toNat = 4 by omega] at hv; exact hv) g0
    · replace k6094 : ¬ ((c6092).toInt ≤ (p).toInt) := k6094
      refine bp_ld (pc' := 13) bu_116_12 rfl rfl (fun _ _ _ => rfl) g0 rfl ?_
      refine bp_dup (pc' := 14) bu_116_13 rfl rfl ?_
      refine bn_gi (pc' := 17) (K := 3106) bu_116_14 rfl rfl (fun _ _ _ => rfl) hP bw_o31 bw_i31_6 rfl rfl ?_
      refine bp_c (pc' := 18) (n := 1) bu_116_17 rfl rfl (fun _ _ _ => rfl) (by decide) (fun c6095 e6096 => ?_)
      refine bp_ld (pc' := 19) bu_116_18 rfl rfl (fun _ _ _ => rfl) g0 rfl ?_
      refine bn_gr (pc' := 22) (t := 2) bu_116_19 rfl rfl (fun _ _ _ => rfl) hP bw_o31 bw_r31_0 ?_
      have hm9 : s 204 = s0 204 := fr 204 (by decide)
      refine bn_gi (pc' := 25) (K := 204) bu_116_22 rfl rfl (fun _ _ _ => rfl) hP bw_o2 bw_i2_4 rfl rfl ?_
      refine bp_ld (pc' := 26) bu_116_25 rfl rfl (fun _ _ _ => rfl) g1 rfl ?_
      refine bp_sub (pc' := 27) bu_116_26 rfl (by omega) (by omega) (fun v6097 e6098 => ?_)
      refine bp_csF (pc' := 30) (st := [.int (s 3106), .ref (E.1 + 31)]) (args := [.int v6097, .int c6095]) bu_116_27 rfl rfl (by decide) rfl (Nat.le_of_ble_eq_true rfl) (Nat.le_of_ble_eq_true rfl) ?_
      refine bw_289 (x := c6095) (y := v6097) (fun r6099 e6100 => ?_)
      show bp_G E PO (NN + 1) ((116, 30, lv, [.int r6099, .int (s 3106), .ref (E.1 + 31)], 0, 0) :: gs, h, none)
      refine bp_x (pc' := 31) (v := (s 3106) * r6099) bu_116_30 rfl rfl (fun _ _ _ => rfl) rfl ?_
      refine bn_pf (pc' := 34) (K := 3106) bu_116_31 rfl rfl (fun _ _ _ => rfl) hP bw_o31 bw_i31_6 rfl rfl (fun h6101 s6102 hP6103 e6104 f6105 => ?_)
      refine bp_inc (pc' := 37) bu_116_34 rfl (by decide) g1 (by decide) (by omega) (by omega) (fun lv6106 y6109 F6107 g6108 e6110 => ?_)
      have g6111 := F6107 0 (.ref (E.1 + 31)) g0 (by decide) (Or.inl rfl)
      refine bp_goD (pc' := 7) bu_116_37 rfl ?_
      have hp2 : (y6109).toInt.toNat = p.toInt.toNat + 1 := by omega
      have hx9 := dl_max (m := m) (p := p.toInt.toNat) (x := r6099) (by rcases e6100 with q | q; exact Or.inl ⟨by rw [q.1]; omega, by omega⟩; exact Or.inr ⟨by rw [q.1]; omega, by omega⟩)
      exact ih (fun h' s' lv o a0 a1 a2 a3 => bp_mono (Nat.le_succ NN) (kk h' s' lv o a0 a1 a2 a3)) _ _ _ _ _ hP6103 (fun j j1 => (f6105 j j1).trans (fr j j1)) (by omega) (by rw [hp2, e6104]; exact dl_pzx hm6 (by omega) hv hx9) g6111 g6108
set_option maxHeartbeats 4000000 in
theorem bw_116b {m : Nat} {A0 : Nat → Nat → Int32} (hm6 : m ≤ 6) (hmen : (s 204).toInt = (m : Int)) (hz : (s 3106).toInt = (dl_sz m : Int)) (hsz : dl_sz m ≤ 360) : ∀ NN : Nat, (∀ (h' : mm_H) (A' : Nat → Nat → Int32), bm_P bw_T E h0 h' s A' L → (∀ c, c ≠ 32 → c ≠ 33 → A' c = A0 c) → (∀ e : Nat, (e : Int) < (dl_sz m : Int) → ∀ q, q < 4 → (A' 32 (4 * e + q)).toInt = dr_cv (dl_m m e q)) → bp_G E PO NN (mm_back none gs h')) → (∀ (h : mm_H) (A : Nat → Nat → Int32) (lv : mm_V) (o : Option Value) (d : Int32), bm_P bw_T E h0 h s A L → (∀ c, c ≠ 32 → c ≠ 33 → A c = A0 c) → 0 ≤ d.toInt ∧ d.toInt ≤ (dl_sz m : Int) → (∀ e : Nat, (e : Int) < d.toInt → ∀ q, q < 4 → (A 32 (4 * e + q)).toInt = dr_cv (dl_m m e q)) → mm_get lv 0 = some (.ref (E.1 + 31)) → mm_get lv 1 = some (.int d) → bp_G E PO NN ((116, 42, lv, [], 0, 0) :: gs, h, o)) := by
  intro NN
  induction NN with
  | zero => intro kk h A lv o d hP hA hd hW g0 g1; exact bp_zero bu_116_42
  | succ NN ih =>
    intro kk h A lv o d hP hA hd hW g0 g1
    refine bp_ld (pc' := 43) bu_116_42 rfl rfl (fun _ _ _ => rfl) g1 rfl ?_
    refine bp_ld (pc' := 44) bu_116_43 rfl rfl (fun _ _ _ => rfl) g0 rfl ?_
    refine bn_gi (pc' := 47) (K := 3106) bu_116_44 rfl rfl (fun _ _ _ => rfl) hP bw_o31 bw_i31_6 rfl rfl ?_
    refine bp_ic (pc' := 50) (pt := 68) bu_116_47 rfl rfl (fun k6112 => ?_) (fun k6112 => ?_)
    · replace k6112 : ((s 3106)).toInt ≤ (d).toInt := k6112
      refine bp_rv bu_116_68 ?_
      exact kk _ _ hP hA (fun e he q9 hq9 => hW e (by omega) q9 hq9)
    · replace k6112 : ¬ (((s 3106)).toInt ≤ (d).toInt) := k6112
      refine bp_ld (pc' := 51) bu_116_50 rfl rfl (fun _ _ _ => rfl) g1 rfl ?_
      refine bp_c (pc' := 54) (n := 360) bu_116_51 rfl rfl (fun _ _ _ => rfl) (by decide) (fun c6113 e6114 => ?_)
      refine bp_ic (pc' := 57) (pt := 68) bu_116_54 rfl rfl (fun k6115 => ?_) (fun k6115 => ?_)
      · replace k6115 : (c6113).toInt ≤ (d).toInt := k6115
        refine bp_rv bu_116_68 ?_
        exact kk _ _ hP hA (fun e he q9 hq9 => hW e (by omega) q9 hq9)
      · replace k6115 : ¬ ((c6113).toInt ≤ (d).toInt) := k6115
        refine bp_ld (pc' := 58) bu_116_57 rfl rfl (fun _ _ _ => rfl) g0 rfl ?_
        refine bp_ld (pc' := 59) bu_116_58 rfl rfl (fun _ _ _ => rfl) g1 rfl ?_
        refine bn_cvF (pc' := 62) (st := []) (args := [.int d]) bu_116_59 rfl rfl rfl (by decide) hP bw_o31 (by decide) rfl (Nat.le_of_ble_eq_true rfl) (Nat.le_of_ble_eq_true rfl) ?_
        refine bw_117 (m := m) (d := d) hP hm6 hmen hz (by omega) (fun h6116 A6117 hP6118 a6119 w6120 q6121 => ?_)
        show bp_G E PO (NN + 1) ((116, 62, lv, [], 0, 0) :: gs, h6116, none)
        refine bp_inc (pc' := 65) bu_116_62 rfl (by decide) g1 (by decide) (by omega) (by omega) (fun lv6122 y6125 F6123 g6124 e6126 => ?_)
        have g6127 := F6123 0 (.ref (E.1 + 31)) g0 (by decide) (Or.inl rfl)
        refine bp_goD (pc' := 42) bu_116_65 rfl ?_
        exact ih (fun h' A' a0 a1 a2 => bp_mono (Nat.le_succ NN) (kk h' A' a0 a1 a2)) _ _ _ _ _ hP6118 (fun c c1 c2 => (a6119 c c1 c2).trans (hA c c1 c2)) (by omega) (fun e he q9 hq9 => by
          by_cases ed : e = d.toInt.toNat
          · rw [ed]
            exact q6121 q9 hq9
          · rw [w6120 _ (by omega)]
            exact hW e (by omega) q9 hq9) g6127 g6124
set_option maxHeartbeats 4000000 in
theorem bw_116 {m : Nat} (hP : bm_P bw_T E h0 h s A L) (hm6 : m ≤ 6) (hmen : (s 204).toInt = (m : Int)) (kk : ∀ (h' : mm_H) (s' : Nat → Int32) (A' : Nat → Nat → Int32), bm_P bw_T E h0 h' s' A' L → (∀ j, j ≠ 3106 → s' j = s j) → (s' 3106).toInt = (dl_sz m : Int) → (∀ c, c ≠ 32 → c ≠ 33 → A' c = A c) → (∀ e : Nat, (e : Int) < (dl_sz m : Int) → ∀ q, q < 4 → (A' 32 (4 * e + q)).toInt = dr_cv (dl_m m e q)) → bp_G E PO NN (mm_back none gs h')) : bp_G E PO NN ((116, 0, [(0, .ref (E.1 + 31))], [], 0, 0) :: gs, h, none) := by
  refine bp_ld (pc' := 1) bu_116_0 rfl rfl (fun _ _ _ => rfl) rfl rfl ?_
  refine bp_c (pc' := 2) (n := 1) bu_116_1 rfl rfl (fun _ _ _ => rfl) (by decide) (fun c6128 e6129 => ?_)
  refine bn_pf (pc' := 5) (K := 3106) bu_116_2 rfl rfl (fun _ _ _ => rfl) hP bw_o31 bw_i31_6 rfl rfl (fun h6130 s6131 hP6132 e6133 f6134 => ?_)
  refine bp_c (pc' := 6) (n := 0) bu_116_5 rfl rfl (fun _ _ _ => rfl) (by decide) (fun c6135 e6136 => ?_)
  refine bp_st (pc' := 7) bu_116_6 rfl rfl (fun _ _ _ => rfl) rfl (by decide) (by decide) (fun lv6137 F6138 g6139 => ?_)
  have g6140 := F6138 0 (.ref (E.1 + 31)) rfl (by decide) (Or.inl rfl)
  have w9 := congrArg Int32.toInt e6133
  refine bw_116a (m := m) (s0 := s) hm6 hmen NN (fun h6141 s6142 lv6143 o6144 hP6145 a6146 z6147 g6148 => ?_) _ _ _ _ _ hP6132 (fun j j1 => f6134 j j1) (by omega) (by rw [show (c6135).toInt.toNat = 0 by omega]; show _ = (1 : Int); omega) g6140 g6139
  refine bp_c (pc' := 41) (n := 0) bu_116_40 rfl rfl (fun _ _ _ => rfl) (by decide) (fun c6149 e6150 => ?_)
  refine bp_st (pc' := 42) bu_116_41 rfl rfl (fun _ _ _ => rfl) rfl (by decide) (by decide) (fun lv6151 F6152 g6153 => ?_)
  have g6154 := F6152 0 (.ref (E.1 + 31)) g6148 (by decide) (Or.inl rfl)
  exact bw_116b (m := m) (A0 := A) hm6 (by rw [a6146 204 (by decide)]; exact hmen) z6147 (dr_sz hm6).2 NN (fun h' A' b0 b1 b2 => kk h' _ A' b0 a6146 z6147 b1 b2) _ _ _ _ _ hP6145 (fun _ _ _ => rfl) (by omega) (fun e he => absurd he (by omega)) g6154 g6153
set_option maxHeartbeats 4000000 in
theorem bw_153l {A0 : Nat → Nat → Int32} : ∀ NN : Nat, (∀ (h' : mm_H) (A' : Nat → Nat → Int32), bm_P bw_T E h0 h' s A' L → (∀ c, c ≠ 83 → A' c = A0 c) → (∀ j : Nat, (j : Int) < 3 → (A' 83 j).toInt = 0) → bp_G E PO NN (mm_back none gs h')) → (∀ (h : mm_H) (A : Nat → Nat → Int32) (lv : mm_V) (o : Option Value) (k : Int32), bm_P bw_T E h0 h s A L → (∀ c, c ≠ 83 → A c = A0 c) → (∀ j : Nat, (j : Int) < k.toInt → (A 83 j).toInt = 0) → mm_get lv 0 = some (.ref (E.1 + 37)) → mm_get lv 1 = some (.int k) → bp_G E PO NN ((153, 2, lv, [], 0, 0) :: gs, h, o)) := by
  intro NN
  induction NN with
  | zero => intro kk h A lv o k hP hA hb g0 g1; exact bp_zero bu_153_2
  | succ NN ih =>
    intro kk h A lv o k hP hA hb g0 g1
    refine bp_ld (pc' := 3) bu_153_2 rfl rfl (fun _ _ _ => rfl) g1 rfl ?_
    refine bp_c (pc' := 4) (n := 3) bu_153_3 rfl rfl (fun _ _ _ => rfl) (by decide) (fun c6155 e6156 => ?_)
    refine bp_ic (pc' := 7) (pt := 20) bu_153_4 rfl rfl (fun k6157 => ?_) (fun k6157 => ?_)
    · replace k6157 : (c6155).toInt ≤ (k).toInt := k6157
      refine bp_rv bu_153_20 ?_
      exact kk _ _ hP hA (fun j hj => hb j (by omega))
    · replace k6157 : ¬ ((c6155).toInt ≤ (k).toInt) := k6157
      refine bp_ld (pc' := 8) bu_153_7 rfl rfl (fun _ _ _ => rfl) g0 rfl ?_
      refine bn_gr (pc' := 11) (t := 83) bu_153_8 rfl rfl (fun _ _ _ => rfl) hP bw_o37 bw_r37_2 ?_
      refine bp_ld (pc' := 12) bu_153_11 rfl rfl (fun _ _ _ => rfl) g1 rfl ?_
      refine bp_c (pc' := 13) (n := 0) bu_153_12 rfl rfl (fun _ _ _ => rfl) (by decide) (fun c6158 e6159 => ?_)
      refine bn_iasF (pc' := 14) bu_153_13 rfl rfl (fun _ _ _ => rfl) hP bw_a83 (Or.inr rfl) (fun b6162 b6163 h6160 hP6161 => ?_)
      refine bn_incx (pc' := 17) bu_153_14 rfl (by decide) g1 (by decide) (fun lv6164 y6167 F6165 g6166 e6168 => ?_)
      have g6169 := F6165 0 (.ref (E.1 + 37)) g0 (by decide) (Or.inl rfl)
      refine bp_goD (pc' := 2) bu_153_17 rfl ?_
      exact ih (fun h' A' a0 a1 a2 => bp_mono (Nat.le_succ NN) (kk h' A' a0 a1 a2)) _ _ _ _ _ hP6161 (fun c c83 => (bh_up_ne c83).trans (hA c c83)) (fun j hj => by
        by_cases e : j = k.toInt.toNat
        · rw [e, bh_up_i]
          exact bp_nar20 (by omega)
        · rw [bh_up_j e]
          exact hb j (by omega)) g6169 g6166
set_option maxHeartbeats 4000000 in
theorem bw_153 (hP : bm_P bw_T E h0 h s A L) (kk : (∀ (h' : mm_H) (A' : Nat → Nat → Int32), bm_P bw_T E h0 h' s A' L → (∀ c, c ≠ 83 → A' c = A c) → (∀ j : Nat, (j : Int) < 3 → (A' 83 j).toInt = 0) → bp_G E PO NN (mm_back none gs h'))) : bp_G E PO NN ((153, 0, [(0, .ref (E.1 + 37))], [], 0, 0) :: gs, h, none) := by
  refine bp_c (pc' := 1) (n := 0) bu_153_0 rfl rfl (fun _ _ _ => rfl) (by decide) (fun c6170 e6171 => ?_)
  refine bp_st (pc' := 2) bu_153_1 rfl rfl (fun _ _ _ => rfl) rfl (by decide) (by decide) (fun lv6172 F6173 g6174 => ?_)
  have g6175 := F6173 0 (.ref (E.1 + 37)) rfl (by decide) (Or.inl rfl)
  exact bw_153l NN kk _ _ _ _ _ hP (fun _ _ => rfl) (fun j hj => by omega) g6175 g6174
set_option maxHeartbeats 4000000 in
theorem bw_154 (hP : bm_P bw_T E h0 h s A L) (kk : ∀ (h' : mm_H) (s' : Nat → Int32), bm_P bw_T E h0 h' s' A L → (s' 3704).toInt = 0 → (∀ j, j ≠ 3704 → s' j = s j) → bp_G E PO NN (mm_back none gs h')) : bp_G E PO NN ((154, 0, [(0, .ref (E.1 + 37))], [], 0, 0) :: gs, h, none) := by
  refine bp_ld (pc' := 1) bu_154_0 rfl rfl (fun _ _ _ => rfl) rfl rfl ?_
  refine bp_c (pc' := 2) (n := 0) bu_154_1 rfl rfl (fun _ _ _ => rfl) (by decide) (fun c6176 e6177 => ?_)
  refine bn_pf (pc' := 5) (K := 3704) bu_154_2 rfl rfl (fun _ _ _ => rfl) hP bw_o37 bw_i37_4 rfl rfl (fun h6178 s6179 hP6180 e6181 f6182 => ?_)
  refine bp_rv bu_154_5 ?_
  exact kk _ _ hP6180 (by rw [e6181]; omega) f6182
set_option maxHeartbeats 4000000 in
theorem bw_149 (hP : bm_P bw_T E h0 h s A L) (kk : ∀ (h' : mm_H) (s' : Nat → Int32), bm_P bw_T E h0 h' s' A L → (s' 8403).toInt = 0 → (∀ j, j ≠ 8403 → s' j = s j) → bp_G E PO NN (mm_back none gs h')) : bp_G E PO NN ((149, 0, [(0, .ref (E.1 + 84))], [], 0, 0) :: gs, h, none) := by
  refine bp_ld (pc' := 1) bu_149_0 rfl rfl (fun _ _ _ => rfl) rfl rfl ?_
  refine bp_c (pc' := 2) (n := 0) bu_149_1 rfl rfl (fun _ _ _ => rfl) (by decide) (fun c6183 e6184 => ?_)
  refine bn_pf (pc' := 5) (K := 8403) bu_149_2 rfl rfl (fun _ _ _ => rfl) hP bw_o84 bw_i84_3 rfl rfl (fun h6185 s6186 hP6187 e6188 f6189 => ?_)
  refine bp_rv bu_149_5 ?_
  exact kk _ _ hP6187 (by rw [e6188]; omega) f6189
set_option maxHeartbeats 4000000 in
theorem bw_253t {lv : mm_V} {o : Option Value} {r : Int32} {m : Nat} (g0 : mm_get lv 0 = some (.ref (E.1 + 0))) (g1 : mm_get lv 1 = some (.int r)) (hP : bm_P bw_T E h0 h s A L) (hH : ka_h E bw_G bw_Kr h0) (hm6 : m ≤ 6) (hn : (s 1104).toInt = (m : Int)) (kk : ∀ (h' : mm_H) (s' : Nat → Int32) (A' : Nat → Nat → Int32), bw_Z (m : Int) h' → wt_s h' 2 = s 2 → bw_C s A s' A' → (∀ k, 204 ≤ k → k ≤ 210 → wt_s h' k = s' k) → br_A h' 8 = A' 8 → br_A h' 9 = A' 9 → bd_D m h' → bp_G E PO NN (mm_back (some (.int r)) gs h')) : bp_G E PO NN ((253, 32, lv, [], 0, 0) :: gs, h, o) := by
  refine bp_ld (pc' := 33) bu_253_32 rfl rfl (fun _ _ _ => rfl) g0 rfl ?_
  refine bn_gr (pc' := 36) (t := 2) bu_253_33 rfl rfl (fun _ _ _ => rfl) hP bw_o0 bw_r0_3 ?_
  refine bp_ld (pc' := 37) bu_253_36 rfl rfl (fun _ _ _ => rfl) g0 rfl ?_
  refine bn_gr (pc' := 40) (t := 11) bu_253_37 rfl rfl (fun _ _ _ => rfl) hP bw_o0 bw_r0_4 ?_
  refine bn_cvF (pc' := 43) (st := []) (args := [.ref (E.1 + 11)]) bu_253_40 rfl rfl rfl (by decide) hP bw_o2 (by decide) rfl (Nat.le_of_ble_eq_true rfl) (Nat.le_of_ble_eq_true rfl) ?_
  refine bw_201 hP (fun h6190 s6191 A6192 hP6193 e6194 e6195 => ?_)
  show bp_G E PO NN ((253, 43, lv, [], 0, 0) :: gs, h6190, none)
  refine bp_ld (pc' := 44) bu_253_43 rfl rfl (fun _ _ _ => rfl) g0 rfl ?_
  refine bn_gr (pc' := 47) (t := 25) bu_253_44 rfl rfl (fun _ _ _ => rfl) hP6193 bw_o0 bw_r0_6 ?_
  refine bp_c (pc' := 48) (n := 0) bu_253_47 rfl rfl (fun _ _ _ => rfl) (by decide) (fun c6196 e6197 => ?_)
  refine bn_cvF (pc' := 51) (st := []) (args := [.int c6196]) bu_253_48 rfl rfl rfl (by decide) hP6193 bw_o25 (by decide) rfl (Nat.le_of_ble_eq_true rfl) (Nat.le_of_ble_eq_true rfl) ?_
  refine kb_call0 bw_cka bw_chk (K := bw_Kr) (m := 194) (by decide) rfl (ka_hP hP6193 hH) (ka_lc (ka_no (by decide)) (ka_lc ka_ti ka_ln)) (fun vo6198 h6199 F6200 e6201 e6202 => ?_)
  obtain rfl := e6201 rfl
  have hP6203 := bw_re hP6193 F6200
  show bp_G E PO NN ((253, 51, lv, [], 0, 0) :: gs, h6199, none)
  refine bp_ld (pc' := 52) bu_253_51 rfl rfl (fun _ _ _ => rfl) g0 rfl ?_
  refine bn_gr (pc' := 55) (t := 31) bu_253_52 rfl rfl (fun _ _ _ => rfl) hP6203 bw_o0 bw_r0_8 ?_
  refine bn_cvF (pc' := 58) (st := []) (args := []) bu_253_55 rfl rfl rfl (by decide) hP6203 bw_o31 (by decide) rfl (Nat.le_of_ble_eq_true rfl) (Nat.le_of_ble_eq_true rfl) ?_
  refine bw_116 (m := m) hP6203 hm6 (by rw [show s6191 204 = s6191 204 from rfl, e6194.1.1]; exact hn) (fun h6204 s6205 A6206 hP6207 f6208 z6209 a6210 w6211 => ?_)
  show bp_G E PO NN ((253, 58, lv, [], 0, 0) :: gs, h6204, none)
  refine bp_ld (pc' := 59) bu_253_58 rfl rfl (fun _ _ _ => rfl) g0 rfl ?_
  refine bn_gr (pc' := 62) (t := 37) bu_253_59 rfl rfl (fun _ _ _ => rfl) hP6207 bw_o0 bw_r0_9 ?_
  refine bn_cvF (pc' := 65) (st := []) (args := []) bu_253_62 rfl rfl rfl (by decide) hP6207 bw_o37 (by decide) rfl (Nat.le_of_ble_eq_true rfl) (Nat.le_of_ble_eq_true rfl) ?_
  refine bw_154 hP6207 (fun h6212 s6213 hP6214 e6215 f6216 => ?_)
  show bp_G E PO NN ((253, 65, lv, [], 0, 0) :: gs, h6212, none)
  refine bp_ld (pc' := 66) bu_253_65 rfl rfl (fun _ _ _ => rfl) g0 rfl ?_
  refine bn_gr (pc' := 69) (t := 37) bu_253_66 rfl rfl (fun _ _ _ => rfl) hP6214 bw_o0 bw_r0_9 ?_
  refine bn_cvF (pc' := 72) (st := []) (args := []) bu_253_69 rfl rfl rfl (by decide) hP6214 bw_o37 (by decide) rfl (Nat.le_of_ble_eq_true rfl) (Nat.le_of_ble_eq_true rfl) ?_
  refine bw_153 hP6214 (fun h6217 A6218 hP6219 a6220 z6221 => ?_)
  show bp_G E PO NN ((253, 72, lv, [], 0, 0) :: gs, h6217, none)
  refine bp_ld (pc' := 73) bu_253_72 rfl rfl (fun _ _ _ => rfl) g0 rfl ?_
  refine bn_gr (pc' := 76) (t := 84) bu_253_73 rfl rfl (fun _ _ _ => rfl) hP6219 bw_o0 bw_r0_10 ?_
  refine bn_cvF (pc' := 79) (st := []) (args := []) bu_253_76 rfl rfl rfl (by decide) hP6219 bw_o84 (by decide) rfl (Nat.le_of_ble_eq_true rfl) (Nat.le_of_ble_eq_true rfl) ?_
  refine bw_149 hP6219 (fun h6222 s6223 hP6224 e6225 f6226 => ?_)
  show bp_G E PO NN ((253, 79, lv, [], 0, 0) :: gs, h6222, none)
  refine bp_ld (pc' := 80) bu_253_79 rfl rfl (fun _ _ _ => rfl) g1 rfl ?_
  refine bp_ri bu_253_80 ?_
  have w1 := fun (k : Nat) (hk : (2, k) ∈ bw_T.2.2.1) => bm_ws (c := 2) (k := k) hP6224 bw_o2 hk
  have w2 := bm_ws (c := 84) (k := 3) hP6224 bw_o84 bw_i84_3
  have w3 : br_A _ 83 = _ := bm_wA hP6224 bw_a83
  have w4 := bm_ws (c := 0) (k := 2) hP6224 bw_o0 bw_i0_2
  have w6 : br_A _ 8 = _ := bm_wA hP6224 bw_a8
  have w7 : br_A _ 9 = _ := bm_wA hP6224 bw_a9
  refine kk _ _ _ ⟨by rw [show (204 : Nat) = 100 * 2 + 4 from rfl, w1 4 (by decide), ((f6226 204 (by decide)).trans ((f6216 204 (by decide)).trans (f6208 204 (by decide)))), e6194.1.1]; exact hn, by rw [show (8403 : Nat) = 100 * 84 + 3 from rfl, w2]; exact e6225, fun j hj => by rw [w3]; exact z6221 j (by omega)⟩ (by rw [show (2 : Nat) = 100 * 0 + 2 from rfl, w4]; exact ((f6226 2 (by decide)).trans ((f6216 2 (by decide)).trans (f6208 2 (by decide)))).trans e6195) e6194 (fun k k1 k2 => ?_) (w6.trans ((a6220 8 (by decide)).trans (a6210 8 (by decide) (by decide)))) (w7.trans ((a6220 9 (by decide)).trans (a6210 9 (by decide) (by decide)))) ⟨?_, ?_⟩
  · rcases (show k = 204 ∨ k = 205 ∨ k = 206 ∨ k = 207 ∨ k = 208 ∨ k = 209 ∨ k = 210 by omega) with rfl | rfl | rfl | rfl | rfl | rfl | rfl
    · exact (w1 4 (by decide)).trans ((f6226 204 (by decide)).trans ((f6216 204 (by decide)).trans (f6208 204 (by decide))))
    · exact (w1 5 (by decide)).trans ((f6226 205 (by decide)).trans ((f6216 205 (by decide)).trans (f6208 205 (by decide))))
    · exact (w1 6 (by decide)).trans ((f6226 206 (by decide)).trans ((f6216 206 (by decide)).trans (f6208 206 (by decide))))
    · exact (w1 7 (by decide)).trans ((f6226 207 (by decide)).trans ((f6216 207 (by decide)).trans (f6208 207 (by decide))))
    · exact (w1 8 (by decide)).trans ((f6226 208 (by decide)).trans ((f6216 208 (by decide)).trans (f6208 208 (by decide))))
    · exact (w1 9 (by decide)).trans ((f6226 209 (by decide)).trans ((f6216 209 (by decide)).trans (f6208 209 (by decide))))
    · exact (w1 10 (by decide)).trans ((f6226 210 (by decide)).trans ((f6216 210 (by decide)).trans (f6208 210 (by decide))))
  · rw [show (3106 : Nat) = 100 * 31 + 6 from rfl, bm_ws (c := 31) (k := 6) hP6224 bw_o31 bw_i31_6, ((f6226 3106 (by decide)).trans (f6216 3106 (by decide)))]
    exact z6209
  · have w8 : br_A _ 32 = _ := bm_wA hP6224 bw_a32
    intro d hd p hp
    rw [w8, a6220 32 (by decide)]
    exact w6211 d (by omega) p hp
end BWQ
section BTQ
variable {X : Nat → Int32} {n : Nat} {E : mm_E} {PO : mm_C → Prop} {NN : Nat} {h0 h : mm_H} {s : Nat → Int32} {A : Nat → Nat → Int32} {L : Nat → Nat → Int64} {gs : List mm_F}
theorem bt_pof0 (hP : bm_P b7_T E h0 h s A L) (kk : bp_G E PO NN (mm_back (some (.int (s 2007))) gs h)) : bp_G E PO NN ((168, 0, [(0, .ref (E.1 + 20))], [], 0, 0) :: gs, h, none) := by
  refine bp_ld (pc' := 1) bu_168_0 rfl rfl (fun _ _ _ => rfl) rfl rfl ?_
  refine bn_gi (pc' := 4) (K := 2007) bu_168_1 rfl rfl (fun _ _ _ => rfl) hP b7_o20 b7_i20_7 rfl rfl ?_
  refine bp_ri bu_168_4 ?_
  exact kk
theorem bt_pof {fs : List Value} {p : Int32} (hl : h.length = 133) (e1 : h[20]? = some (.inr (4, fs))) (e2 : fs[7]? = some (.int p)) (kk : bp_G E PO NN (mm_back (some (.int p)) gs h)) : bp_G E PO NN ((168, 0, [(0, .ref (E.1 + 20))], [], 0, 0) :: gs, h, none) := bt_pof0 (b7_of hl e1 e2) kk
set_option maxHeartbeats 4000000 in
theorem bt_253 {x9 y9 : Int32} {sq : Nat → Int32} {Aq : Nat → Nat → Int32} {Lq : Nat → Nat → Int64} {sw : Nat → Int32} {Aw : Nat → Nat → Int32} {Lw : Nat → Nat → Int64} {q4 q4' q6 q6' : mm_S} (hq4 : E.2[4]? = some q4) (hE4 : bs_E E 0 q4 q4') (hn4 : q4'.2.1 = 192) (hW4 : ∀ k, k < 24 → ∀ i, i < 8 → (q4'.2.2 (8 * k + i)).toInt = px_wc k i) (hq6 : E.2[6]? = some q6) (hE6 : bs_E E 1 q6 q6') (hn6 : q6'.2.1 = 9) (hW6 : ∀ i, i < 9 → (q6'.2.2 i).toInt = px_sw i) (hS : ∀ ρ, en_SA E ρ (wl_o x9 y9) mt_SB) (hP : bm_P bz_T E h0 h s A L) (hPq : bm_P bq_T E h h sq Aq Lq) (hd : gs.length + 70 ≤ 999) (hX : Aq 1 = X) (htl : (s 1).toInt = (n : Int)) (hn2 : n ≤ 2000) (hb : ∀ j, j < n → -128 ≤ (X j).toInt ∧ (X j).toInt ≤ 127) (hPw : bm_P bw_T E h h sw Aw Lw) (hH : ka_h E bw_G bw_Kr h) (kk : ∀ (h' : mm_H) (r : Int32), r.toInt = (py_ft (py_end (fun j => px_kd X n (px_at X n j)) (fun j => px_vl X n (px_at X n j)) (rq_Q X n)) : Int) → (wt_s h' 2).toInt = py_pl (fun j => px_at X n j) (py_end (fun j => px_kd X n (px_at X n j)) (fun j => px_vl X n (px_at X n j)) (rq_Q X n)) → (r.toInt = 0 → bw_Z (((py_end (fun j => px_kd X n (px_at X n j)) (fun j => px_vl X n (px_at X n j)) (rq_Q X n))).2.2.2.2.length : Int) h' ∧ bx_O (fun j => px_vl X n (px_at X n j)) ((py_end (fun j => px_kd X n (px_at X n j)) (fun j => px_vl X n (px_at X n j)) (rq_Q X n))).2.2.2.2 (py_wend (fun j => px_kd X n (px_at X n j)) (fun j => px_vl X n (px_at X n j)) (rq_Q X n)) h' ∧ bd_D ((py_end (fun j => px_kd X n (px_at X n j)) (fun j => px_vl X n (px_at X n j)) (rq_Q X n))).2.2.2.2.length h') → (r.toInt ≠ 0 → bw_K h h') → bp_G E PO NN (mm_back (some (.int r)) gs h')) : bp_G E PO NN ((253, 0, [(0, .ref (E.1 + 0))], [], 0, 0) :: gs, h, none) := by
  refine bp_ld (pc' := 1) bu_253_0 rfl rfl (fun _ _ _ => rfl) rfl rfl ?_
  refine bn_gr (pc' := 4) (t := 20) bu_253_1 rfl rfl (fun _ _ _ => rfl) hP bz_o0 bz_r0_5 ?_
  refine bp_ld (pc' := 5) bu_253_4 rfl rfl (fun _ _ _ => rfl) rfl rfl ?_
  refine bn_gi (pc' := 8) (K := 1) bu_253_5 rfl rfl (fun _ _ _ => rfl) hP bz_o0 bz_i0_1 rfl rfl ?_
  refine bn_cvF (pc' := 11) (st := []) (args := [.int (s 1)]) bu_253_8 rfl rfl rfl (by decide) hP bz_o20 (by decide) rfl (Nat.le_of_ble_eq_true rfl) (Nat.le_of_ble_eq_true rfl) ?_
  refine bt_173 hq4 hE4 hn4 hW4 hq6 hE6 hn6 hW6 hS hPq (by simp only [List.length_cons]; omega) hX htl hn2 hb (fun h6227 s6228 A6229 L6230 r6231 hP6232 e6233 ep6234 em6235 => ?_)
  have hP6237 := bz_q hP hP6232
  have f76236 : ∃ fs : List Value, h6227[20]? = some (.inr (4, fs)) ∧ fs[7]? = some (.int (s6228 2007)) := by
    obtain ⟨_, fs, -, a2, o⟩ := hP6232.2.2.1 (20, 4) bq_o20
    exact ⟨fs, a2, o.2.2.2.1 7 bq_i20_7⟩
  show bp_G E PO NN ((253, 11, _, [.int r6231], 0, 0) :: gs, h6227, none)
  refine bp_st (pc' := 12) bu_253_11 rfl rfl (fun _ _ _ => rfl) rfl (by decide) (by decide) (fun lv6238 F6239 g6240 => ?_)
  have g6241 := F6239 0 (.ref (E.1 + 0)) rfl (by decide) (Or.inl rfl)
  refine bp_ld (pc' := 13) bu_253_12 rfl rfl (fun _ _ _ => rfl) g6241 rfl ?_
  refine bp_c (pc' := 14) (n := 0) bu_253_13 rfl rfl (fun _ _ _ => rfl) (by decide) (fun c6242 e6243 => ?_)
  refine bn_pf (pc' := 17) (K := 1) bu_253_14 rfl rfl (fun _ _ _ => rfl) hP6237 bz_o0 bz_i0_1 rfl rfl (fun h6244 s6245 hP6246 e6247 f6248 => ?_)
  refine bp_ld (pc' := 18) bu_253_17 rfl rfl (fun _ _ _ => rfl) g6241 rfl ?_
  refine bp_ld (pc' := 19) bu_253_18 rfl rfl (fun _ _ _ => rfl) g6241 rfl ?_
  refine bn_gr (pc' := 22) (t := 20) bu_253_19 rfl rfl (fun _ _ _ => rfl) hP6246 bz_o0 bz_r0_5 ?_
  refine bn_cvF (pc' := 25) (st := [.ref (E.1 + 0)]) (args := []) bu_253_22 rfl rfl rfl (by decide) hP6246 bz_o20 (by decide) rfl (Nat.le_of_ble_eq_true rfl) (Nat.le_of_ble_eq_true rfl) ?_
  obtain ⟨fs6249, e6250, e6251⟩ := bz_20 hP6246 f76236
  refine bt_pof hP6246.2.1 e6250 e6251 ?_
  show bp_G E PO NN ((253, 25, lv6238, [.int (s6228 2007), .ref (E.1 + 0)], 0, 0) :: gs, h6244, none)
  refine bn_pf (pc' := 28) (K := 2) bu_253_25 rfl rfl (fun _ _ _ => rfl) hP6246 bz_o0 bz_i0_2 rfl rfl (fun h6252 s6253 hP6254 e6255 f6256 => ?_)
  refine bp_ld (pc' := 29) bu_253_28 rfl rfl (fun _ _ _ => rfl) g6240 rfl ?_
  refine bp_i0 (pc' := 32) (pt := 79) bu_253_29 rfl rfl (fun k6257 => ?_) (fun k6257 => ?_)
  · replace k6257 : (r6231).toInt ≠ 0 := k6257
    refine bp_ld (pc' := 80) bu_253_79 rfl rfl (fun _ _ _ => rfl) g6240 rfl ?_
    refine bp_ri bu_253_80 ?_
    refine kk _ _ e6233 ?_ (fun q => absurd q (by omega)) (fun _ => bw_fail hP6254 hP6232)
    rw [show (2 : Nat) = 100 * 0 + 2 from rfl, bm_ws (c := 0) (k := 2) hP6254 bz_o0 bz_i0_2, e6255]
    exact ep6234
  · replace k6257 : ¬ ((r6231).toInt ≠ 0) := k6257
    obtain ⟨hW6258, w6259, w6260, w6261⟩ := bw_of hPw hP6254 hP6232
    have u6262 := em6235 (by omega)
    refine bw_253t (m := _) g6241 g6240 hW6258 (ka_hP hP6254 (ka_hP hP6232 hH)) u6262.2.2 (by rw [w6259.1 1104 (by decide) (by decide)]; exact u6262.1) (fun h' s' A' z1 z2 z3 z4 z5 z6 z7 => kk _ _ e6233 ?_ (fun _ => ⟨z1, bx_of u6262.2.2 u6262.2.1 (fun j j1 j2 => w6259.1 j j1 j2) w6260.2.2.1 w6260.2.2.2 z3 z4 z5 z6, z7⟩) (fun q => absurd (by omega) q))
    rw [z2, w6261, e6255]
    exact ep6234
end BTQ
