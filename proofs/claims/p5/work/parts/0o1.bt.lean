/-! PARTIAL: the class reads, exact (wip/p5/mkq9.py) -/
def bz_T : bm_T := ([(0, 8), (2, 6), (20, 4), (25, 5), (28, 5), (31, 0), (37, 3), (84, 2)], [(0, 0, 1), (0, 3, 2), (0, 4, 11), (0, 5, 20), (0, 6, 25), (0, 7, 28), (0, 8, 31), (0, 9, 37), (0, 10, 84)], [(0, 1), (0, 2)], [], [], [])
theorem bz_o0 : (0, 8) ∈ bz_T.1 := by decide
theorem bz_o2 : (2, 6) ∈ bz_T.1 := by decide
theorem bz_o20 : (20, 4) ∈ bz_T.1 := by decide
theorem bz_o25 : (25, 5) ∈ bz_T.1 := by decide
theorem bz_o28 : (28, 5) ∈ bz_T.1 := by decide
theorem bz_o31 : (31, 0) ∈ bz_T.1 := by decide
theorem bz_o37 : (37, 3) ∈ bz_T.1 := by decide
theorem bz_o84 : (84, 2) ∈ bz_T.1 := by decide
theorem bz_r0_0 : (0, 0, 1) ∈ bz_T.2.1 := by decide
theorem bz_r0_3 : (0, 3, 2) ∈ bz_T.2.1 := by decide
theorem bz_r0_4 : (0, 4, 11) ∈ bz_T.2.1 := by decide
theorem bz_r0_5 : (0, 5, 20) ∈ bz_T.2.1 := by decide
theorem bz_r0_6 : (0, 6, 25) ∈ bz_T.2.1 := by decide
theorem bz_r0_7 : (0, 7, 28) ∈ bz_T.2.1 := by decide
theorem bz_r0_8 : (0, 8, 31) ∈ bz_T.2.1 := by decide
theorem bz_r0_9 : (0, 9, 37) ∈ bz_T.2.1 := by decide
theorem bz_r0_10 : (0, 10, 84) ∈ bz_T.2.1 := by decide
theorem bz_i0_1 : (0, 1) ∈ bz_T.2.2.1 := by decide
theorem bz_i0_2 : (0, 2) ∈ bz_T.2.2.1 := by decide
theorem bz_W : bm_W bz_T := by unfold bm_W; decide
def bz_F : Nat → Nat → Bool := fun ci _ => Nat.beq ci 8
def bz_S : List Nat := [116, 117, 133, 149, 153, 154, 168, 180, 194, 201, 265, 287, 289]
theorem bz_chk : kp_chk bz_S bz_F mt_P = true := by decide +kernel
theorem bz_r0 : ∀ r ∈ bz_T.2.1, r.1 = 0 := by decide
theorem bz_i0 : ∀ r ∈ bz_T.2.2.1, r.1 = 0 := by decide
theorem bz_o8 : ∀ q ∈ bz_T.1, q.1 = 0 → q.2 = 8 := by decide
theorem bz_f0 : bz_T.2.2.2.1 = [] := rfl
theorem bz_of {E : mm_E} {h' : mm_H} {s : Nat → Int32} {A : Nat → Nat → Int32} {L : Nat → Nat → Int64} (hl : h'.length = 133) (hO : ∀ q ∈ bz_T.1, ∃ fs : List Value, h'[q.1]? = some (.inr (q.2, fs)) ∧ (q.1 = 0 → (∀ k t, (0, k, t) ∈ bz_T.2.1 → fs[k]? = some (.ref (E.1 + t))) ∧ (∀ k, (0, k) ∈ bz_T.2.2.1 → fs[k]? = some (.int (s k))))) : bm_P bz_T E h' h' s A L := by
  refine ⟨bz_W, hl, fun q hq => ?_, fun q hq => (List.not_mem_nil hq).elim, fun q hq => (List.not_mem_nil hq).elim, fun _ _ _ _ => rfl⟩
  obtain ⟨fs, e, g⟩ := hO q hq
  refine ⟨fs, fs, e, e, rfl, fun _ _ _ => rfl, fun k t hk => ?_, fun k hk => ?_, fun k hk => (List.not_mem_nil hk).elim⟩
  · have z : q.1 = 0 := bz_r0 _ hk
    rw [z] at hk
    exact (g z).1 k t hk
  · have z : q.1 = 0 := bz_i0 (q.1, k) hk
    rw [z] at hk ⊢
    rw [(g z).2 k hk, Nat.mul_zero, Nat.zero_add]
theorem bz_at {E : mm_E} {h0 h : mm_H} {s : Nat → Int32} {A : Nat → Nat → Int32} {L : Nat → Nat → Int64} (hP : bm_P bz_T E h0 h s A L) : ∀ q ∈ bz_T.1, ∃ fs : List Value, h[q.1]? = some (.inr (q.2, fs)) ∧ (q.1 = 0 → (∀ k t, (0, k, t) ∈ bz_T.2.1 → fs[k]? = some (.ref (E.1 + t))) ∧ (∀ k, (0, k) ∈ bz_T.2.2.1 → fs[k]? = some (.int (s k)))) := by
  intro q hq
  obtain ⟨fs0, fs, a1, a2, a3, a4, a5, a6, a7⟩ := hP.2.2.1 q hq
  refine ⟨fs, a2, fun z => ⟨fun k t hk => a5 k t (by rw [z]; exact hk), fun k hk => ?_⟩⟩
  have b := a6 k (by rw [z]; exact hk)
  rw [z, Nat.mul_zero, Nat.zero_add] at b
  exact b
theorem bz_re {E : mm_E} {h0 h h' : mm_H} {s : Nat → Int32} {A : Nat → Nat → Int32} {L : Nat → Nat → Int64} (hP : bm_P bz_T E h0 h s A L) (hF : kp_F bz_F h h') : bm_P bz_T E h' h' s A L := by
  refine bz_of (hF.1.trans hP.2.1) (fun q hq => ?_)
  obtain ⟨fs, e, g⟩ := bz_at hP q hq
  obtain ⟨fs', e', -, k'⟩ := hF.2 _ _ _ e
  refine ⟨fs', e', fun z => ?_⟩
  have c8 : ∀ k, bz_F q.2 k = true := fun k => by
    rw [bz_o8 q hq z]
    rfl
  exact ⟨fun k t hk => (k' k (c8 k)).trans ((g z).1 k t hk), fun k hk => (k' k (c8 k)).trans ((g z).2 k hk)⟩
theorem bz_q {E : mm_E} {h0 h h' : mm_H} {s sq : Nat → Int32} {A Aq : Nat → Nat → Int32} {L Lq : Nat → Nat → Int64} (hP : bm_P bz_T E h0 h s A L) (hQ : bm_P bq_T E h h' sq Aq Lq) : bm_P bz_T E h' h' s A L := by
  refine bz_of hQ.2.1 (fun q hq => ?_)
  by_cases c : q.1 = 20
  · have e : q = (20, 4) := (by decide : ∀ q ∈ bz_T.1, q.1 = 20 → q = (20, 4)) q hq c
    subst e
    obtain ⟨fs0, fs, a1, a2, -⟩ := hQ.2.2.1 (20, 4) bq_o20
    exact ⟨fs, a2, fun z => by cases z⟩
  · obtain ⟨fs, e, g⟩ := bz_at hP q hq
    have d := (by decide : ∀ q ∈ bz_T.1, q.1 ≠ 20 → (∀ p ∈ bq_T.1, p.1 ≠ q.1) ∧ (∀ p ∈ bq_T.2.2.2.2.1, p.1 ≠ q.1) ∧ (∀ p ∈ bq_T.2.2.2.2.2, p.1 ≠ q.1)) q hq c
    exact ⟨fs, (hQ.2.2.2.2.2 q.1 d.1 d.2.1 d.2.2).trans e, g⟩
def b7_T : bm_T := ([(20, 4)], [], [(20, 7)], [], [], [])
theorem b7_o20 : (20, 4) ∈ b7_T.1 := by decide
theorem b7_i20_7 : (20, 7) ∈ b7_T.2.2.1 := by decide
theorem b7_W : bm_W b7_T := by unfold bm_W; decide
theorem b7_of {E : mm_E} {h : mm_H} {fs : List Value} {p : Int32} (hl : h.length = 133) (e1 : h[20]? = some (.inr (4, fs))) (e2 : fs[7]? = some (.int p)) : bm_P b7_T E h h (fun _ => p) (fun _ _ => 0) (fun _ _ => 0) := by
  refine ⟨b7_W, hl, fun q hq => ?_, fun q hq => (List.not_mem_nil hq).elim, fun q hq => (List.not_mem_nil hq).elim, fun _ _ _ _ => rfl⟩
  rcases List.mem_cons.mp hq with rfl | hq
  · refine ⟨fs, fs, e1, e1, rfl, fun _ _ _ => rfl, fun k t hk => (List.not_mem_nil hk).elim, fun k hk => ?_, fun k hk => (List.not_mem_nil hk).elim⟩
    rcases List.mem_cons.mp hk with e | hk
    · cases e
      exact e2
    · cases hk
  · cases hq
theorem bz_20 {E : mm_E} {h0 h : mm_H} {s : Nat → Int32} {A : Nat → Nat → Int32} {L : Nat → Nat → Int64} {p : Int32} (hP : bm_P bz_T E h0 h s A L) (f : ∃ fs : List Value, h0[20]? = some (.inr (4, fs)) ∧ fs[7]? = some (.int p)) : ∃ fs : List Value, h[20]? = some (.inr (4, fs)) ∧ fs[7]? = some (.int p) := by
  obtain ⟨fs0, fs, a1, a2, a3, a4, -⟩ := hP.2.2.1 (20, 4) bz_o20
  obtain ⟨fs9, e1, e2⟩ := f
  cases e1.symm.trans a1
  exact ⟨fs, a2, (a4 7 (by decide) (by decide)).trans e2⟩
theorem bu_168_0 : mm_at mt_P 168 0 = some ((0, 1, .aload_n 0, 0, 0, 0, 0), 1, 0, 1, 4, 1, 0, 0) := rfl
theorem bu_168_1 : mm_at mt_P 168 1 = some ((1, 3, .getfield 24, 4, 7, 0, 281), 1, 0, 1, 4, 1, 0, 0) := rfl
theorem bu_168_4 : mm_at mt_P 168 4 = some ((4, 1, .ireturn, 0, 0, 0, 0), 1, 0, 1, 4, 1, 0, 0) := rfl
theorem bu_253_0 : mm_at mt_P 253 0 = some ((0, 1, .aload_n 0, 0, 0, 0, 0), 2, 0, 1, 8, 1, 0, 0) := rfl
theorem bu_253_1 : mm_at mt_P 253 1 = some ((1, 3, .getfield 35, 8, 5, 0, 437), 2, 0, 1, 8, 1, 0, 0) := rfl
theorem bu_253_4 : mm_at mt_P 253 4 = some ((4, 1, .aload_n 0, 0, 0, 0, 0), 2, 0, 1, 8, 1, 0, 0) := rfl
theorem bu_253_5 : mm_at mt_P 253 5 = some ((5, 3, .getfield 13, 8, 1, 0, 433), 2, 0, 1, 8, 1, 0, 0) := rfl
theorem bu_253_8 : mm_at mt_P 253 8 = some ((8, 3, .invokevirtual 82, 173, 0, 0, 482), 2, 0, 1, 8, 1, 0, 0) := rfl
theorem bu_253_11 : mm_at mt_P 253 11 = some ((11, 1, .istore_n 1, 0, 0, 0, 0), 2, 0, 1, 8, 1, 0, 0) := rfl
theorem bu_253_12 : mm_at mt_P 253 12 = some ((12, 1, .aload_n 0, 0, 0, 0, 0), 2, 0, 1, 8, 1, 0, 0) := rfl
theorem bu_253_13 : mm_at mt_P 253 13 = some ((13, 1, .iconst 0, 0, 0, 0, 0), 2, 0, 1, 8, 1, 0, 0) := rfl
theorem bu_253_14 : mm_at mt_P 253 14 = some ((14, 3, .putfield 13, 8, 1, 0, 433), 2, 0, 1, 8, 1, 0, 0) := rfl
theorem bu_253_17 : mm_at mt_P 253 17 = some ((17, 1, .aload_n 0, 0, 0, 0, 0), 2, 0, 1, 8, 1, 0, 0) := rfl
theorem bu_253_18 : mm_at mt_P 253 18 = some ((18, 1, .aload_n 0, 0, 0, 0, 0), 2, 0, 1, 8, 1, 0, 0) := rfl
theorem bu_253_19 : mm_at mt_P 253 19 = some ((19, 3, .getfield 35, 8, 5, 0, 437), 2, 0, 1, 8, 1, 0, 0) := rfl
theorem bu_253_22 : mm_at mt_P 253 22 = some ((22, 3, .invokevirtual 86, 168, 0, 0, 726), 2, 0, 1, 8, 1, 0, 0) := rfl
theorem bu_253_25 : mm_at mt_P 253 25 = some ((25, 3, .putfield 17, 8, 2, 0, 434), 2, 0, 1, 8, 1, 0, 0) := rfl
theorem bu_253_28 : mm_at mt_P 253 28 = some ((28, 1, .iload_n 1, 0, 0, 0, 0), 2, 0, 1, 8, 1, 0, 0) := rfl
theorem bu_253_29 : mm_at mt_P 253 29 = some ((29, 3, .ifCond .ne 50, 0, 0, 0, 0), 2, 0, 1, 8, 1, 0, 0) := rfl
theorem bu_253_32 : mm_at mt_P 253 32 = some ((32, 1, .aload_n 0, 0, 0, 0, 0), 2, 0, 1, 8, 1, 0, 0) := rfl
theorem bu_253_33 : mm_at mt_P 253 33 = some ((33, 3, .getfield 23, 8, 3, 0, 435), 2, 0, 1, 8, 1, 0, 0) := rfl
theorem bu_253_36 : mm_at mt_P 253 36 = some ((36, 1, .aload_n 0, 0, 0, 0, 0), 2, 0, 1, 8, 1, 0, 0) := rfl
theorem bu_253_37 : mm_at mt_P 253 37 = some ((37, 3, .getfield 27, 8, 4, 0, 436), 2, 0, 1, 8, 1, 0, 0) := rfl
theorem bu_253_40 : mm_at mt_P 253 40 = some ((40, 3, .invokevirtual 90, 201, 0, 0, 730), 2, 0, 1, 8, 1, 0, 0) := rfl
theorem bu_253_43 : mm_at mt_P 253 43 = some ((43, 1, .aload_n 0, 0, 0, 0, 0), 2, 0, 1, 8, 1, 0, 0) := rfl
theorem bu_253_44 : mm_at mt_P 253 44 = some ((44, 3, .getfield 44, 8, 6, 0, 438), 2, 0, 1, 8, 1, 0, 0) := rfl
theorem bu_253_47 : mm_at mt_P 253 47 = some ((47, 1, .iconst 0, 0, 0, 0, 0), 2, 0, 1, 8, 1, 0, 0) := rfl
theorem bu_253_48 : mm_at mt_P 253 48 = some ((48, 3, .invokevirtual 72, 194, 0, 0, 407), 2, 0, 1, 8, 1, 0, 0) := rfl
theorem bu_253_51 : mm_at mt_P 253 51 = some ((51, 1, .aload_n 0, 0, 0, 0, 0), 2, 0, 1, 8, 1, 0, 0) := rfl
theorem bu_253_52 : mm_at mt_P 253 52 = some ((52, 3, .getfield 54, 8, 8, 0, 440), 2, 0, 1, 8, 1, 0, 0) := rfl
theorem bu_253_55 : mm_at mt_P 253 55 = some ((55, 3, .invokevirtual 76, 116, 0, 0, 418), 2, 0, 1, 8, 1, 0, 0) := rfl
theorem bu_253_58 : mm_at mt_P 253 58 = some ((58, 1, .aload_n 0, 0, 0, 0, 0), 2, 0, 1, 8, 1, 0, 0) := rfl
theorem bu_253_59 : mm_at mt_P 253 59 = some ((59, 3, .getfield 61, 8, 9, 0, 441), 2, 0, 1, 8, 1, 0, 0) := rfl
theorem bu_253_62 : mm_at mt_P 253 62 = some ((62, 3, .invokevirtual 93, 154, 0, 0, 742), 2, 0, 1, 8, 1, 0, 0) := rfl
theorem bu_253_65 : mm_at mt_P 253 65 = some ((65, 1, .aload_n 0, 0, 0, 0, 0), 2, 0, 1, 8, 1, 0, 0) := rfl
theorem bu_253_66 : mm_at mt_P 253 66 = some ((66, 3, .getfield 61, 8, 9, 0, 441), 2, 0, 1, 8, 1, 0, 0) := rfl
theorem bu_253_69 : mm_at mt_P 253 69 = some ((69, 3, .invokevirtual 96, 153, 0, 0, 746), 2, 0, 1, 8, 1, 0, 0) := rfl
theorem bu_253_72 : mm_at mt_P 253 72 = some ((72, 1, .aload_n 0, 0, 0, 0, 0), 2, 0, 1, 8, 1, 0, 0) := rfl
theorem bu_253_73 : mm_at mt_P 253 73 = some ((73, 3, .getfield 68, 8, 10, 0, 442), 2, 0, 1, 8, 1, 0, 0) := rfl
theorem bu_253_76 : mm_at mt_P 253 76 = some ((76, 3, .invokevirtual 99, 149, 0, 0, 750), 2, 0, 1, 8, 1, 0, 0) := rfl
theorem bu_253_79 : mm_at mt_P 253 79 = some ((79, 1, .iload_n 1, 0, 0, 0, 0), 2, 0, 1, 8, 1, 0, 0) := rfl
theorem bu_253_80 : mm_at mt_P 253 80 = some ((80, 1, .ireturn, 0, 0, 0, 0), 2, 0, 1, 8, 1, 0, 0) := rfl
section BTQ
variable {X : Nat → Int32} {n : Nat} {E : mm_E} {PO : mm_C → Prop} {NN : Nat} {h0 h : mm_H} {s : Nat → Int32} {A : Nat → Nat → Int32} {L : Nat → Nat → Int64} {gs : List mm_F}
theorem bt_pof0 (hP : bm_P b7_T E h0 h s A L) (kk : bp_G E PO NN (mm_back (some (.int (s 2007))) gs h)) : bp_G E PO NN ((168, 0, [(0, .ref (E.1 + 20))], [], 0, 0) :: gs, h, none) := by
  refine bp_ld (pc' := 1) bu_168_0 rfl rfl (fun _ _ _ => rfl) rfl rfl ?_
  refine bn_gi (pc' := 4) (K := 2007) bu_168_1 rfl rfl (fun _ _ _ => rfl) hP b7_o20 b7_i20_7 rfl rfl ?_
  refine bp_ri bu_168_4 ?_
  exact kk
theorem bt_pof {fs : List Value} {p : Int32} (hl : h.length = 133) (e1 : h[20]? = some (.inr (4, fs))) (e2 : fs[7]? = some (.int p)) (kk : bp_G E PO NN (mm_back (some (.int p)) gs h)) : bp_G E PO NN ((168, 0, [(0, .ref (E.1 + 20))], [], 0, 0) :: gs, h, none) := bt_pof0 (b7_of hl e1 e2) kk
set_option maxHeartbeats 4000000 in
theorem bt_253 {x9 y9 : Int32} {sq : Nat → Int32} {Aq : Nat → Nat → Int32} {Lq : Nat → Nat → Int64} {q4 q4' q6 q6' : mm_S} (hq4 : E.2[4]? = some q4) (hE4 : bs_E E 0 q4 q4') (hn4 : q4'.2.1 = 192) (hW4 : ∀ k, k < 24 → ∀ i, i < 8 → (q4'.2.2 (8 * k + i)).toInt = px_wc k i) (hq6 : E.2[6]? = some q6) (hE6 : bs_E E 1 q6 q6') (hn6 : q6'.2.1 = 9) (hW6 : ∀ i, i < 9 → (q6'.2.2 i).toInt = px_sw i) (hS : ∀ ρ, en_SA E ρ (wl_o x9 y9) mt_SB) (hP : bm_P bz_T E h0 h s A L) (hPq : bm_P bq_T E h h sq Aq Lq) (hd : gs.length + 70 ≤ 999) (hX : Aq 1 = X) (htl : (s 1).toInt = (n : Int)) (hn2 : n ≤ 2000) (hb : ∀ j, j < n → -128 ≤ (X j).toInt ∧ (X j).toInt ≤ 127) (kk : ∀ (h' : mm_H) (r : Int32), r.toInt = (py_ft (py_end (fun j => px_kd X n (px_at X n j)) (fun j => px_vl X n (px_at X n j)) (rq_Q X n)) : Int) → (∃ fs : List Value, h'[0]? = some (.inr (8, fs)) ∧ ∃ p : Int32, fs[2]? = some (.int p) ∧ p.toInt = py_pl (fun j => px_at X n j) (py_end (fun j => px_kd X n (px_at X n j)) (fun j => px_vl X n (px_at X n j)) (rq_Q X n))) → bp_G E PO NN (mm_back (some (.int r)) gs h')) : bp_G E PO NN ((253, 0, [(0, .ref (E.1 + 0))], [], 0, 0) :: gs, h, none) := by
  refine bp_ld (pc' := 1) bu_253_0 rfl rfl (fun _ _ _ => rfl) rfl rfl ?_
  refine bn_gr (pc' := 4) (t := 20) bu_253_1 rfl rfl (fun _ _ _ => rfl) hP bz_o0 bz_r0_5 ?_
  refine bp_ld (pc' := 5) bu_253_4 rfl rfl (fun _ _ _ => rfl) rfl rfl ?_
  refine bn_gi (pc' := 8) (K := 1) bu_253_5 rfl rfl (fun _ _ _ => rfl) hP bz_o0 bz_i0_1 rfl rfl ?_
  refine bn_cvF (pc' := 11) (st := []) (args := [.int (s 1)]) bu_253_8 rfl rfl rfl (by decide) hP bz_o20 (by decide) rfl (Nat.le_of_ble_eq_true rfl) (Nat.le_of_ble_eq_true rfl) ?_
  refine bt_173 hq4 hE4 hn4 hW4 hq6 hE6 hn6 hW6 hS hPq (by simp only [List.length_cons]; omega) hX htl hn2 hb (fun h5477 s5478 A5479 L5480 r5481 hP5482 e5483 ep5484 => ?_)
  have hP5486 := bz_q hP hP5482
  have f75485 : ∃ fs : List Value, h5477[20]? = some (.inr (4, fs)) ∧ fs[7]? = some (.int (s5478 2007)) := by
    obtain ⟨_, fs, -, a2, o⟩ := hP5482.2.2.1 (20, 4) bq_o20
    exact ⟨fs, a2, o.2.2.2.1 7 bq_i20_7⟩
  show bp_G E PO NN ((253, 11, _, [.int r5481], 0, 0) :: gs, h5477, none)
  refine bp_st (pc' := 12) bu_253_11 rfl rfl (fun _ _ _ => rfl) rfl (by decide) (by decide) (fun lv5487 F5488 g5489 => ?_)
  have g5490 := F5488 0 (.ref (E.1 + 0)) rfl (by decide) (Or.inl rfl)
  refine bp_ld (pc' := 13) bu_253_12 rfl rfl (fun _ _ _ => rfl) g5490 rfl ?_
  refine bp_c (pc' := 14) (n := 0) bu_253_13 rfl rfl (fun _ _ _ => rfl) (by decide) (fun c5491 e5492 => ?_)
  refine bn_pf (pc' := 17) (K := 1) bu_253_14 rfl rfl (fun _ _ _ => rfl) hP5486 bz_o0 bz_i0_1 rfl rfl (fun h5493 s5494 hP5495 e5496 f5497 => ?_)
  refine bp_ld (pc' := 18) bu_253_17 rfl rfl (fun _ _ _ => rfl) g5490 rfl ?_
  refine bp_ld (pc' := 19) bu_253_18 rfl rfl (fun _ _ _ => rfl) g5490 rfl ?_
  refine bn_gr (pc' := 22) (t := 20) bu_253_19 rfl rfl (fun _ _ _ => rfl) hP5495 bz_o0 bz_r0_5 ?_
  refine bn_cvF (pc' := 25) (st := [.ref (E.1 + 0)]) (args := []) bu_253_22 rfl rfl rfl (by decide) hP5495 bz_o20 (by decide) rfl (Nat.le_of_ble_eq_true rfl) (Nat.le_of_ble_eq_true rfl) ?_
  obtain ⟨fs5498, e5499, e5500⟩ := bz_20 hP5495 f75485
  refine bt_pof hP5495.2.1 e5499 e5500 ?_
  show bp_G E PO NN ((253, 25, lv5487, [.int (s5478 2007), .ref (E.1 + 0)], 0, 0) :: gs, h5493, none)
  refine bn_pf (pc' := 28) (K := 2) bu_253_25 rfl rfl (fun _ _ _ => rfl) hP5495 bz_o0 bz_i0_2 rfl rfl (fun h5501 s5502 hP5503 e5504 f5505 => ?_)
  refine bp_ld (pc' := 29) bu_253_28 rfl rfl (fun _ _ _ => rfl) g5489 rfl ?_
  refine bp_i0 (pc' := 32) (pt := 79) bu_253_29 rfl rfl (fun k5506 => ?_) (fun k5506 => ?_)
  · replace k5506 : (r5481).toInt ≠ 0 := k5506
    refine bp_ld (pc' := 80) bu_253_79 rfl rfl (fun _ _ _ => rfl) g5489 rfl ?_
    refine bp_ri bu_253_80 ?_
    obtain ⟨fs9, b1, b2⟩ := bz_at hP5503 (0, 8) bz_o0
    exact kk _ _ e5483 ⟨fs9, b1, _, (b2 rfl).2 2 bz_i0_2, by rw [e5504]; exact ep5484⟩
  · replace k5506 : ¬ ((r5481).toInt ≠ 0) := k5506
    refine bp_ld (pc' := 33) bu_253_32 rfl rfl (fun _ _ _ => rfl) g5490 rfl ?_
    refine bn_gr (pc' := 36) (t := 2) bu_253_33 rfl rfl (fun _ _ _ => rfl) hP5503 bz_o0 bz_r0_3 ?_
    refine bp_ld (pc' := 37) bu_253_36 rfl rfl (fun _ _ _ => rfl) g5490 rfl ?_
    refine bn_gr (pc' := 40) (t := 11) bu_253_37 rfl rfl (fun _ _ _ => rfl) hP5503 bz_o0 bz_r0_4 ?_
    refine bn_cvF (pc' := 43) (st := []) (args := [.ref (E.1 + 11)]) bu_253_40 rfl rfl rfl (by decide) hP5503 bz_o2 (by decide) rfl (Nat.le_of_ble_eq_true rfl) (Nat.le_of_ble_eq_true rfl) ?_
    refine kp_call0 bz_chk (K := 201) (by decide) rfl (fun vo5507 h5508 F5509 e5510 e5511 => ?_)
    obtain rfl := e5510 rfl
    have hP5512 := bz_re hP5503 F5509
    show bp_G E PO NN ((253, 43, lv5487, [], 0, 0) :: gs, h5508, none)
    refine bp_ld (pc' := 44) bu_253_43 rfl rfl (fun _ _ _ => rfl) g5490 rfl ?_
    refine bn_gr (pc' := 47) (t := 25) bu_253_44 rfl rfl (fun _ _ _ => rfl) hP5512 bz_o0 bz_r0_6 ?_
    refine bp_c (pc' := 48) (n := 0) bu_253_47 rfl rfl (fun _ _ _ => rfl) (by decide) (fun c5513 e5514 => ?_)
    refine bn_cvF (pc' := 51) (st := []) (args := [.int c5513]) bu_253_48 rfl rfl rfl (by decide) hP5512 bz_o25 (by decide) rfl (Nat.le_of_ble_eq_true rfl) (Nat.le_of_ble_eq_true rfl) ?_
    refine kp_call0 bz_chk (K := 194) (by decide) rfl (fun vo5515 h5516 F5517 e5518 e5519 => ?_)
    obtain rfl := e5518 rfl
    have hP5520 := bz_re hP5512 F5517
    show bp_G E PO NN ((253, 51, lv5487, [], 0, 0) :: gs, h5516, none)
    refine bp_ld (pc' := 52) bu_253_51 rfl rfl (fun _ _ _ => rfl) g5490 rfl ?_
    refine bn_gr (pc' := 55) (t := 31) bu_253_52 rfl rfl (fun _ _ _ => rfl) hP5520 bz_o0 bz_r0_8 ?_
    refine bn_cvF (pc' := 58) (st := []) (args := []) bu_253_55 rfl rfl rfl (by decide) hP5520 bz_o31 (by decide) rfl (Nat.le_of_ble_eq_true rfl) (Nat.le_of_ble_eq_true rfl) ?_
    refine kp_call0 bz_chk (K := 116) (by decide) rfl (fun vo5521 h5522 F5523 e5524 e5525 => ?_)
    obtain rfl := e5524 rfl
    have hP5526 := bz_re hP5520 F5523
    show bp_G E PO NN ((253, 58, lv5487, [], 0, 0) :: gs, h5522, none)
    refine bp_ld (pc' := 59) bu_253_58 rfl rfl (fun _ _ _ => rfl) g5490 rfl ?_
    refine bn_gr (pc' := 62) (t := 37) bu_253_59 rfl rfl (fun _ _ _ => rfl) hP5526 bz_o0 bz_r0_9 ?_
    refine bn_cvF (pc' := 65) (st := []) (args := []) bu_253_62 rfl rfl rfl (by decide) hP5526 bz_o37 (by decide) rfl (Nat.le_of_ble_eq_true rfl) (Nat.le_of_ble_eq_true rfl) ?_
    refine kp_call0 bz_chk (K := 154) (by decide) rfl (fun vo5527 h5528 F5529 e5530 e5531 => ?_)
    obtain rfl := e5530 rfl
    have hP5532 := bz_re hP5526 F5529
    show bp_G E PO NN ((253, 65, lv5487, [], 0, 0) :: gs, h5528, none)
    refine bp_ld (pc' := 66) bu_253_65 rfl rfl (fun _ _ _ => rfl) g5490 rfl ?_
    refine bn_gr (pc' := 69) (t := 37) bu_253_66 rfl rfl (fun _ _ _ => rfl) hP5532 bz_o0 bz_r0_9 ?_
    refine bn_cvF (pc' := 72) (st := []) (args := []) bu_253_69 rfl rfl rfl (by decide) hP5532 bz_o37 (by decide) rfl (Nat.le_of_ble_eq_true rfl) (Nat.le_of_ble_eq_true rfl) ?_
    refine kp_call0 bz_chk (K := 153) (by decide) rfl (fun vo5533 h5534 F5535 e5536 e5537 => ?_)
    obtain rfl := e5536 rfl
    have hP5538 := bz_re hP5532 F5535
    show bp_G E PO NN ((253, 72, lv5487, [], 0, 0) :: gs, h5534, none)
    refine bp_ld (pc' := 73) bu_253_72 rfl rfl (fun _ _ _ => rfl) g5490 rfl ?_
    refine bn_gr (pc' := 76) (t := 84) bu_253_73 rfl rfl (fun _ _ _ => rfl) hP5538 bz_o0 bz_r0_10 ?_
    refine bn_cvF (pc' := 79) (st := []) (args := []) bu_253_76 rfl rfl rfl (by decide) hP5538 bz_o84 (by decide) rfl (Nat.le_of_ble_eq_true rfl) (Nat.le_of_ble_eq_true rfl) ?_
    refine kp_call0 bz_chk (K := 149) (by decide) rfl (fun vo5539 h5540 F5541 e5542 e5543 => ?_)
    obtain rfl := e5542 rfl
    have hP5544 := bz_re hP5538 F5541
    show bp_G E PO NN ((253, 79, lv5487, [], 0, 0) :: gs, h5540, none)
    refine bp_ld (pc' := 80) bu_253_79 rfl rfl (fun _ _ _ => rfl) g5489 rfl ?_
    refine bp_ri bu_253_80 ?_
    obtain ⟨fs9, b1, b2⟩ := bz_at hP5544 (0, 8) bz_o0
    exact kk _ _ e5483 ⟨fs9, b1, _, (b2 rfl).2 2 bz_i0_2, by rw [e5504]; exact ep5484⟩
end BTQ
