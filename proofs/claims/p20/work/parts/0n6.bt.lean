/-! PARTIAL: the class's tokens, all; the class reads its tape (wip/p5/mkq6.py) -/
def rk_K (X : Nat → Int32) (n m : Nat) (A : Nat → Nat → Int32) (L : Nat → Nat → Int64) : Prop := ∀ j, j < m → rc_k (px_kd X n (px_at X n j)) (px_vl X n (px_at X n j)) (A 22 j).toInt (L 24 j).toInt ∧ (A 23 j).toInt = (px_at X n j : Int) ∧ (px_kd X n (px_at X n j) = 1 → (L 24 j).toInt = (px_nm 32 X n (px_at X n j) (px_tl X n (px_at X n j)) : Nat))
theorem rk_K_s {X : Nat → Int32} {n m : Nat} {A : Nat → Nat → Int32} {L : Nat → Nat → Int64} {k p : Int32} {v : Int64} (hK : rk_K X n m A L) (h1 : rc_k (px_kd X n (px_at X n m)) (px_vl X n (px_at X n m)) k.toInt v.toInt) (h2 : p.toInt = (px_at X n m : Int)) (h3 : px_kd X n (px_at X n m) = 1 → v.toInt = (px_nm 32 X n (px_at X n m) (px_tl X n (px_at X n m)) : Nat)) : rk_K X n (m + 1) (bh_up (bh_up A 22 m k) 23 m p) (bh_upL L 24 m v) := by
  intro j hj
  by_cases e : j = m
  · subst e
    have e9 : bh_upL L 24 j v 24 j = v := by
      unfold bh_upL vp_updL
      rw [if_pos rfl, if_pos rfl]
    rw [bh_up_o (Or.inl (by decide)), bh_up_i, bh_up_i, e9]
    exact ⟨h1, h2, h3⟩
  · have e9 : bh_upL L 24 m v 24 j = L 24 j := by
      unfold bh_upL vp_updL
      rw [if_pos rfl, if_neg e]
    rw [bh_up_o (Or.inr e), bh_up_o (Or.inr e), bh_up_o (Or.inr e), bh_up_o (Or.inr e), e9]
    exact hK j (by omega)
theorem rk_Qi {X : Nat → Int32} {n M : Nat} {L : Nat → Nat → Int64} (hN : ∀ j, j < M → px_kd X n (px_at X n j) = 1 → (L 24 j).toInt = (px_nm 32 X n (px_at X n j) (px_tl X n (px_at X n j)) : Nat)) : ∀ i j, i < M → j < M → px_kd X n (px_at X n i) = 1 → px_kd X n (px_at X n j) = 1 → (rq_Q X n i j = true ↔ L 24 i = L 24 j) := by
  intro i j hi hj ki kj
  have a := hN i hi ki
  have b := hN j hj kj
  rw [px_kd_1 ki] at a
  rw [px_kd_1 kj] at b
  unfold rq_Q
  rw [px_sm_iff (b := 32) (by decide), ← Int64.toInt_inj, a, b]
  exact Int.ofNat_inj.symm
/-- more tokens, or the last one -/
def rk_mo (X : Nat → Int32) (n m : Nat) (at_ more : Int) : Prop := (more = 1 ∧ (∃ p : Nat, at_ = (p : Int) ∧ p ≤ n ∧ px_rn px_bl X n p = px_at X n m) ∧ (∀ j, j < m → px_kd X n (px_at X n j) ≠ 0 ∧ px_kd X n (px_at X n j) ≠ 3)) ∨ (more = 0 ∧ 0 < m ∧ ∀ j, j < m → px_kd X n (px_at X n j) ≠ 0 → px_kd X n (px_at X n j) ≠ 3 → j + 1 < m)
theorem bu_218_0 : mm_at mt_P 218 0 = some ((0, 1, .aload_n 0, 0, 0, 0, 0), 4, 1, 1, 7, 0, 0, 0) := rfl
theorem bu_218_1 : mm_at mt_P 218 1 = some ((1, 1, .iload_n 1, 0, 0, 0, 0), 4, 1, 1, 7, 0, 0, 0) := rfl
theorem bu_218_2 : mm_at mt_P 218 2 = some ((2, 1, .aload_n 0, 0, 0, 0, 0), 4, 1, 1, 7, 0, 0, 0) := rfl
theorem bu_218_3 : mm_at mt_P 218 3 = some ((3, 3, .getfield 22, 7, 4, 0, 256), 4, 1, 1, 7, 0, 0, 0) := rfl
theorem bu_218_6 : mm_at mt_P 218 6 = some ((6, 1, .arraylength, 0, 0, 0, 0), 4, 1, 1, 7, 0, 0, 0) := rfl
theorem bu_218_7 : mm_at mt_P 218 7 = some ((7, 3, .invokestatic 30, 290, 0, 0, 491), 4, 1, 1, 7, 0, 0, 0) := rfl
theorem bu_218_10 : mm_at mt_P 218 10 = some ((10, 3, .putfield 26, 7, 5, 0, 257), 4, 1, 1, 7, 0, 0, 0) := rfl
theorem bu_218_13 : mm_at mt_P 218 13 = some ((13, 1, .aload_n 0, 0, 0, 0, 0), 4, 1, 1, 7, 0, 0, 0) := rfl
theorem bu_218_14 : mm_at mt_P 218 14 = some ((14, 1, .iconst 0, 0, 0, 0, 0), 4, 1, 1, 7, 0, 0, 0) := rfl
theorem bu_218_15 : mm_at mt_P 218 15 = some ((15, 3, .putfield 36, 7, 6, 0, 258), 4, 1, 1, 7, 0, 0, 0) := rfl
theorem bu_218_18 : mm_at mt_P 218 18 = some ((18, 1, .aload_n 0, 0, 0, 0, 0), 4, 1, 1, 7, 0, 0, 0) := rfl
theorem bu_218_19 : mm_at mt_P 218 19 = some ((19, 1, .iconst 0, 0, 0, 0, 0), 4, 1, 1, 7, 0, 0, 0) := rfl
theorem bu_218_20 : mm_at mt_P 218 20 = some ((20, 3, .putfield 39, 7, 3, 0, 254), 4, 1, 1, 7, 0, 0, 0) := rfl
theorem bu_218_23 : mm_at mt_P 218 23 = some ((23, 1, .iconst 1, 0, 0, 0, 0), 4, 1, 1, 7, 0, 0, 0) := rfl
theorem bu_218_24 : mm_at mt_P 218 24 = some ((24, 1, .istore_n 2, 0, 0, 0, 0), 4, 1, 1, 7, 0, 0, 0) := rfl
theorem bu_218_25 : mm_at mt_P 218 25 = some ((25, 1, .iconst 0, 0, 0, 0, 0), 4, 1, 1, 7, 0, 0, 0) := rfl
theorem bu_218_26 : mm_at mt_P 218 26 = some ((26, 1, .istore_n 3, 0, 0, 0, 0), 4, 1, 1, 7, 0, 0, 0) := rfl
theorem bu_218_27 : mm_at mt_P 218 27 = some ((27, 1, .iload_n 3, 0, 0, 0, 0), 4, 1, 1, 7, 0, 0, 0) := rfl
theorem bu_218_28 : mm_at mt_P 218 28 = some ((28, 3, .sipush 400, 0, 0, 0, 0), 4, 1, 1, 7, 0, 0, 0) := rfl
theorem bu_218_31 : mm_at mt_P 218 31 = some ((31, 3, .if_icmp .gt 18, 0, 0, 0, 0), 4, 1, 1, 7, 0, 0, 0) := rfl
theorem bu_218_34 : mm_at mt_P 218 34 = some ((34, 1, .iload_n 2, 0, 0, 0, 0), 4, 1, 1, 7, 0, 0, 0) := rfl
theorem bu_218_35 : mm_at mt_P 218 35 = some ((35, 3, .ifCond .eq 14, 0, 0, 0, 0), 4, 1, 1, 7, 0, 0, 0) := rfl
theorem bu_218_38 : mm_at mt_P 218 38 = some ((38, 1, .aload_n 0, 0, 0, 0, 0), 4, 1, 1, 7, 0, 0, 0) := rfl
theorem bu_218_39 : mm_at mt_P 218 39 = some ((39, 3, .invokevirtual 42, 215, 0, 0, 494), 4, 1, 1, 7, 0, 0, 0) := rfl
theorem bu_218_42 : mm_at mt_P 218 42 = some ((42, 1, .istore_n 2, 0, 0, 0, 0), 4, 1, 1, 7, 0, 0, 0) := rfl
theorem bu_218_43 : mm_at mt_P 218 43 = some ((43, 3, .iinc 3 1, 0, 0, 0, 0), 4, 1, 1, 7, 0, 0, 0) := rfl
theorem bu_218_46 : mm_at mt_P 218 46 = some ((46, 3, .goto (-19), 0, 0, 0, 0), 4, 1, 1, 7, 0, 0, 0) := rfl
theorem bu_218_49 : mm_at mt_P 218 49 = some ((49, 1, .return_, 0, 0, 0, 0), 4, 1, 1, 7, 0, 0, 0) := rfl
section BTQ
variable {X : Nat → Int32} {n : Nat} {E : mm_E} {PO : mm_C → Prop} {NN : Nat} {h0 h : mm_H} {s : Nat → Int32} {A : Nat → Nat → Int32} {L : Nat → Nat → Int64} {gs : List mm_F}
set_option maxHeartbeats 4000000 in
theorem bt_218l {s0 : Nat → Int32} {A0 : Nat → Nat → Int32} {L0 : Nat → Nat → Int64} {q4 q4' q6 q6' : mm_S} (hq4 : E.2[4]? = some q4) (hE4 : bs_E E 0 q4 q4') (hn4 : q4'.2.1 = 192) (hW4 : ∀ k, k < 24 → ∀ i, i < 8 → (q4'.2.2 (8 * k + i)).toInt = px_wc k i) (hq6 : E.2[6]? = some q6) (hE6 : bs_E E 1 q6 q6') (hn6 : q6'.2.1 = 9) (hW6 : ∀ i, i < 9 → (q6'.2.2 i).toInt = px_sw i) (hX : A0 1 = X) (hlen : (s0 2105).toInt = (n : Int)) (hn2 : n ≤ 2000) (hb : ∀ j, j < n → -128 ≤ (X j).toInt ∧ (X j).toInt ≤ 127) : ∀ NN : Nat, (∀ (h' : mm_H) (s' : Nat → Int32) (A' : Nat → Nat → Int32) (L' : Nat → Nat → Int64) (N : Nat), bm_P bq_T E h0 h' s' A' L' → (∀ j, j ≠ 2103 → j ≠ 2106 → s' j = s0 j) → (∀ c, c ≠ 22 → c ≠ 23 → A' c = A0 c) → (∀ c, c ≠ 24 → L' c = L0 c) → (s' 2103).toInt = (N : Int) → N ≤ 401 → 0 < N → (∀ j, j < N → j < 400 → px_kd X n (px_at X n j) ≠ 0 → px_kd X n (px_at X n j) ≠ 3 → j + 1 < N) → rk_K X n N A' L' → bp_G E PO NN (mm_back none gs h')) → (∀ (h : mm_H) (s : Nat → Int32) (A : Nat → Nat → Int32) (L : Nat → Nat → Int64) (lv : mm_V) (o : Option Value) (mo i : Int32) (m : Nat), bm_P bq_T E h0 h s A L → (∀ j, j ≠ 2103 → j ≠ 2106 → s j = s0 j) → (∀ c, c ≠ 22 → c ≠ 23 → A c = A0 c) → (∀ c, c ≠ 24 → L c = L0 c) → mm_get lv 0 = some (.ref (E.1 + 21)) → mm_get lv 2 = some (.int mo) → mm_get lv 3 = some (.int i) → i.toInt = (m : Int) → m ≤ 401 → (s 2103).toInt = (m : Int) → rk_mo X n m (s 2106).toInt mo.toInt → rk_K X n m A L → bp_G E PO NN ((218, 27, lv, [], 0, 0) :: gs, h, o)) := by
  intro NN
  induction NN with
  | zero => intro kk h s A L lv o mo i m hP hf hA hL g0 g2 g3 hi hm1 hm hmo hK; exact bp_zero bu_218_27
  | succ NN ih =>
    intro kk h s A L lv o mo i m hP hf hA hL g0 g2 g3 hi hm1 hm hmo hK
    have hmo2 : mo.toInt = 1 ∨ mo.toInt = 0 := by
      rcases hmo with u | u
      · exact Or.inl u.1
      · exact Or.inr u.1
    refine bp_ld (pc' := 28) bu_218_27 rfl rfl (fun _ _ _ => rfl) g3 rfl ?_
    refine bp_c (pc' := 31) (n := 400) bu_218_28 rfl rfl (fun _ _ _ => rfl) (by decide) (fun c5029 e5030 => ?_)
    refine bp_ic (pc' := 34) (pt := 49) bu_218_31 rfl rfl (fun k5031 => ?_) (fun k5031 => ?_)
    · replace k5031 : (c5029).toInt < (i).toInt := k5031
      refine bp_rv bu_218_49 ?_
      have hcl : 0 < m ∧ ∀ j, j < m → j < 400 → px_kd X n (px_at X n j) ≠ 0 → px_kd X n (px_at X n j) ≠ 3 → j + 1 < m := by
        rcases hmo with ⟨u1, -, -⟩ | ⟨u1, u2, u3⟩
        · exact ⟨by omega, fun j j1 j2 _ _ => by omega⟩
        · exact ⟨u2, fun j j1 _ k0 k3 => u3 j j1 k0 k3⟩
      exact kk _ _ _ _ m hP hf hA hL hm hm1 hcl.1 hcl.2 hK
    · replace k5031 : ¬ ((c5029).toInt < (i).toInt) := k5031
      refine bp_ld (pc' := 35) bu_218_34 rfl rfl (fun _ _ _ => rfl) g2 rfl ?_
      refine bp_i0 (pc' := 38) (pt := 49) bu_218_35 rfl rfl (fun k5032 => ?_) (fun k5032 => ?_)
      · replace k5032 : (mo).toInt = 0 := k5032
        refine bp_rv bu_218_49 ?_
        have hcl : 0 < m ∧ ∀ j, j < m → j < 400 → px_kd X n (px_at X n j) ≠ 0 → px_kd X n (px_at X n j) ≠ 3 → j + 1 < m := by
          rcases hmo with ⟨u1, -, -⟩ | ⟨u1, u2, u3⟩
          · exact ⟨by omega, fun j j1 j2 _ _ => by omega⟩
          · exact ⟨u2, fun j j1 _ k0 k3 => u3 j j1 k0 k3⟩
        exact kk _ _ _ _ m hP hf hA hL hm hm1 hcl.1 hcl.2 hK
      · replace k5032 : ¬ ((mo).toInt = 0) := k5032
        obtain ⟨-, ⟨p, hat, hp, hrn⟩, hall⟩ := hmo.resolve_right (fun u => by have u1 := u.1; omega)
        refine bp_ld (pc' := 39) bu_218_38 rfl rfl (fun _ _ _ => rfl) g0 rfl ?_
        refine bn_cvF (pc' := 42) (st := []) (args := []) bu_218_39 rfl rfl rfl (by decide) hP bq_o21 (by decide) rfl (Nat.le_of_ble_eq_true rfl) (Nat.le_of_ble_eq_true rfl) ?_
        refine bt_215 (q := px_at X n m) (m := m) (p := p) hq4 hE4 hn4 hW4 hq6 hE6 hn6 hW6 hP (by rw [hA 1 (by decide) (by decide)]; exact hX) (by rw [hf 2105 (by decide) (by decide)]; exact hlen) hn2 hb hm (by omega) hat hp hrn (fun h5033 s5034 kv5035 pv5036 vv5037 r5038 hP5039 a5040 b5041 c5042 d5043 e5044 f5045 z5046 => ?_)
        show bp_G E PO (NN + 1) ((218, 42, lv, [.int r5038], 0, 0) :: gs, h5033, none)
        refine bp_st (pc' := 43) bu_218_42 rfl rfl (fun _ _ _ => rfl) rfl (by decide) (by decide) (fun lv5047 F5048 g5049 => ?_)
        have g5050 := F5048 0 (.ref (E.1 + 21)) g0 (by decide) (Or.inl rfl)
        have g5051 := F5048 3 (.int i) g3 (by decide) (Or.inl rfl)
        refine bp_inc (pc' := 46) bu_218_43 rfl (by decide) g5051 (by decide) (by omega) (by omega) (fun lv5052 y5055 F5053 g5054 e5056 => ?_)
        have g5057 := F5053 0 (.ref (E.1 + 21)) g5050 (by decide) (Or.inl rfl)
        have g5058 := F5053 2 (.int r5038) g5049 (by decide) (Or.inl rfl)
        refine bp_goD (pc' := 27) bu_218_46 rfl ?_
        have hK2 := rk_K_s hK d5043 e5044 f5045
        refine ih (fun h' s' A' L' N a0 a1 a2 a3 a4 a5 a6 a7 a8 => bp_mono (Nat.le_succ NN) (kk h' s' A' L' N a0 a1 a2 a3 a4 a5 a6 a7 a8)) _ _ _ _ _ _ _ _ (m + 1) hP5039 (fun j j1 j2 => (c5042 j j1 j2).trans (hf j j1 j2)) (fun c c1 c2 => (bh_up_ne c2).trans ((bh_up_ne c1).trans (hA c c1 c2))) (fun c c1 => (show _ = L c from if_neg c1).trans (hL c c1)) g5057 g5058 g5054 (by omega) (by omega) (by omega) ?_ hK2
        rcases z5046 with ⟨z1, z2, z3⟩ | ⟨z1, z2⟩
        · refine Or.inl ⟨z1, ⟨px_nx X n (px_at X n m), b5041, px_nx_n (px_at_n m), rfl⟩, fun j hj => ?_⟩
          by_cases e : j = m
          · rw [e]
            exact ⟨z2, z3⟩
          · exact hall j (by omega)
        · refine Or.inr ⟨z1, Nat.succ_pos m, fun j hj k0 k3 => ?_⟩
          by_cases e : j = m
          · rw [e] at k0 k3
            rcases z2 with z2 | z2
            · exact absurd z2 k0
            · exact absurd z2 k3
          · omega
set_option maxHeartbeats 4000000 in
theorem bt_218 {tl : Int32} {q4 q4' q6 q6' : mm_S} (hq4 : E.2[4]? = some q4) (hE4 : bs_E E 0 q4 q4') (hn4 : q4'.2.1 = 192) (hW4 : ∀ k, k < 24 → ∀ i, i < 8 → (q4'.2.2 (8 * k + i)).toInt = px_wc k i) (hq6 : E.2[6]? = some q6) (hE6 : bs_E E 1 q6 q6') (hn6 : q6'.2.1 = 9) (hW6 : ∀ i, i < 9 → (q6'.2.2 i).toInt = px_sw i) (hP : bm_P bq_T E h0 h s A L) (hX : A 1 = X) (htl : tl.toInt = (n : Int)) (hn2 : n ≤ 2000) (hb : ∀ j, j < n → -128 ≤ (X j).toInt ∧ (X j).toInt ≤ 127) (kk : (∀ (h' : mm_H) (s' : Nat → Int32) (A' : Nat → Nat → Int32) (L' : Nat → Nat → Int64) (N : Nat), bm_P bq_T E h0 h' s' A' L' → (∀ j, j ≠ 2103 → j ≠ 2105 → j ≠ 2106 → s' j = s j) → (∀ c, c ≠ 22 → c ≠ 23 → A' c = A c) → (∀ c, c ≠ 24 → L' c = L c) → (s' 2103).toInt = (N : Int) → N ≤ 401 → 0 < N → (∀ j, j < N → j < 400 → px_kd X n (px_at X n j) ≠ 0 → px_kd X n (px_at X n j) ≠ 3 → j + 1 < N) → rk_K X n N A' L' → bp_G E PO NN (mm_back none gs h'))) : bp_G E PO NN ((218, 0, [(0, .ref (E.1 + 21)), (1, .int tl)], [], 0, 0) :: gs, h, none) := by
  refine bp_ld (pc' := 1) bu_218_0 rfl rfl (fun _ _ _ => rfl) rfl rfl ?_
  refine bp_ld (pc' := 2) bu_218_1 rfl rfl (fun _ _ _ => rfl) rfl rfl ?_
  refine bp_ld (pc' := 3) bu_218_2 rfl rfl (fun _ _ _ => rfl) rfl rfl ?_
  refine bn_gr (pc' := 6) (t := 1) bu_218_3 rfl rfl (fun _ _ _ => rfl) hP bq_o21 bq_r21_4 ?_
  refine bn_al (pc' := 7) bu_218_6 rfl hP bq_a1 (by decide) (by decide) (fun v5059 e5060 => ?_)
  refine bp_csF (pc' := 10) (st := [.ref (E.1 + 21)]) (args := [.int v5059, .int tl]) bu_218_7 rfl rfl (by decide) rfl (Nat.le_of_ble_eq_true rfl) (Nat.le_of_ble_eq_true rfl) ?_
  refine bq_290 (fun r5061 p5062 => ?_)
  show bp_G E PO NN ((218, 10, _, [.int r5061, .ref (E.1 + 21)], 0, 0) :: gs, h, none)
  refine bn_pf (pc' := 13) (K := 2105) bu_218_10 rfl rfl (fun _ _ _ => rfl) hP bq_o21 bq_i21_5 rfl rfl (fun h5063 s5064 hP5065 e5066 f5067 => ?_)
  refine bp_ld (pc' := 14) bu_218_13 rfl rfl (fun _ _ _ => rfl) rfl rfl ?_
  refine bp_c (pc' := 15) (n := 0) bu_218_14 rfl rfl (fun _ _ _ => rfl) (by decide) (fun c5068 e5069 => ?_)
  refine bn_pf (pc' := 18) (K := 2106) bu_218_15 rfl rfl (fun _ _ _ => rfl) hP5065 bq_o21 bq_i21_6 rfl rfl (fun h5070 s5071 hP5072 e5073 f5074 => ?_)
  refine bp_ld (pc' := 19) bu_218_18 rfl rfl (fun _ _ _ => rfl) rfl rfl ?_
  refine bp_c (pc' := 20) (n := 0) bu_218_19 rfl rfl (fun _ _ _ => rfl) (by decide) (fun c5075 e5076 => ?_)
  refine bn_pf (pc' := 23) (K := 2103) bu_218_20 rfl rfl (fun _ _ _ => rfl) hP5072 bq_o21 bq_i21_3 rfl rfl (fun h5077 s5078 hP5079 e5080 f5081 => ?_)
  refine bp_c (pc' := 24) (n := 1) bu_218_23 rfl rfl (fun _ _ _ => rfl) (by decide) (fun c5082 e5083 => ?_)
  refine bp_st (pc' := 25) bu_218_24 rfl rfl (fun _ _ _ => rfl) rfl (by decide) (by decide) (fun lv5084 F5085 g5086 => ?_)
  have g5087 := F5085 0 (.ref (E.1 + 21)) rfl (by decide) (Or.inl rfl)
  have g5088 := F5085 1 (.int tl) rfl (by decide) (Or.inl rfl)
  refine bp_c (pc' := 26) (n := 0) bu_218_25 rfl rfl (fun _ _ _ => rfl) (by decide) (fun c5089 e5090 => ?_)
  refine bp_st (pc' := 27) bu_218_26 rfl rfl (fun _ _ _ => rfl) rfl (by decide) (by decide) (fun lv5091 F5092 g5093 => ?_)
  have g5094 := F5092 0 (.ref (E.1 + 21)) g5087 (by decide) (Or.inl rfl)
  have g5095 := F5092 1 (.int tl) g5088 (by decide) (Or.inl rfl)
  have g5096 := F5092 2 (.int c5082) g5086 (by decide) (Or.inl rfl)
  have z2103 := congrArg Int32.toInt e5080
  have z2105 := congrArg Int32.toInt ((f5081 2105 (by decide)).trans ((f5074 2105 (by decide)).trans e5066))
  have z2106 := congrArg Int32.toInt ((f5081 2106 (by decide)).trans e5073)
  refine bt_218l (s0 := s5078) hq4 hE4 hn4 hW4 hq6 hE6 hn6 hW6 hX (by omega) hn2 hb NN (fun h' s' A' L' N a0 a1 a2 a3 a4 a5 a6 a7 a8 => kk h' s' A' L' N a0 (fun j j3 j5 j6 => (a1 j j3 j6).trans ((f5081 j j3).trans ((f5074 j j6).trans (f5067 j j5)))) a2 a3 a4 a5 a6 a7 a8) _ _ _ _ _ _ _ _ 0 hP5079 (fun _ _ _ => rfl) (fun _ _ _ => rfl) (fun _ _ => rfl) g5094 g5096 g5093 (by omega) (by omega) (by omega) (Or.inl ⟨by omega, ⟨0, by omega, Nat.zero_le n, rfl⟩, fun j hj => absurd hj (Nat.not_lt_zero j)⟩) (fun j hj => absurd hj (Nat.not_lt_zero j))
end BTQ
