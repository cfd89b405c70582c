/-! PARTIAL: the reference's tokens, exact, 2: the cut (wip/p5/mkr5.py) -/
theorem px_wd_no {X : Nat → Int32} {n p len : Nat} (h : ∀ j, j < 24 → px_mw X n p len j = false) : px_wd X n p len = 24 := by
  have h1 := px_wg_le (M := px_mw X n p len) 24 0
  have h2 := px_wg_at (M := px_mw X n p len) 24 0
  have e : px_wd X n p len = px_wg (px_mw X n p len) 24 0 := rfl
  rw [← e] at h1 h2
  by_cases g : px_wd X n p len < 24
  · have a := h2 (by omega)
    rw [h _ g] at a
    cases a
  · omega
theorem px_wd_8 {X : Nat → Int32} {n p len : Nat} (h : 8 ≤ len) : px_wd X n p len = 24 := px_wd_no (fun j hj => by
  refine Bool.eq_false_iff.mpr (fun q => ?_)
  have a := (decide_eq_true_iff.mp q).1
  have b := px_wl_le j hj
  omega)
/-- the first m tokens -/
def rq_K (X : Nat → Int32) (n m : Nat) (A : Nat → Nat → Int32) (L : Nat → Nat → Int64) : Prop := ∀ j, j < m → (A 91 j).toInt = px_kd X n (px_at X n j) ∧ (A 92 j).toInt = (px_at X n j : Int) ∧ (px_kd X n (px_at X n j) = 2 → (A 93 j).toInt = px_vl X n (px_at X n j)) ∧ (px_kd X n (px_at X n j) = 1 → (L 94 j).toInt = (px_nm 27 X n (px_at X n j) (px_tl X n (px_at X n j)) : Nat))
theorem rq_K_s {X : Nat → Int32} {n m : Nat} {A : Nat → Nat → Int32} {L : Nat → Nat → Int64} {k w v : Int32} {x : Int64} (hK : rq_K X n m A L) (h1 : k.toInt = px_kd X n (px_at X n m)) (h2 : w.toInt = (px_at X n m : Int)) (h3 : px_kd X n (px_at X n m) = 2 → v.toInt = px_vl X n (px_at X n m)) (h4 : px_kd X n (px_at X n m) = 1 → x.toInt = (px_nm 27 X n (px_at X n m) (px_tl X n (px_at X n m)) : Nat)) : rq_K X n (m + 1) (bh_up (bh_up (bh_up A 91 m (mm_nar 0 k)) 92 m (mm_nar 0 w)) 93 m (mm_nar 0 v)) (bh_upL L 94 m x) := by
  intro j hj
  by_cases e : j = m
  · subst e
    rw [bh_up_o (Or.inl (by decide)), bh_up_o (Or.inl (by decide)), bh_up_i, bh_up_o (k := 92) (Or.inl (by decide)), bh_up_i, bh_up_i]
    refine ⟨h1, h2, h3, fun q => ?_⟩
    have e9 : bh_upL L 94 j x 94 j = x := by
      unfold bh_upL vp_updL
      rw [if_pos rfl, if_pos rfl]
    rw [e9]
    exact h4 q
  · have a := hK j (by omega)
    rw [bh_up_o (Or.inr e), bh_up_o (Or.inr e), bh_up_o (Or.inr e), bh_up_o (Or.inr e), bh_up_o (Or.inr e), bh_up_o (Or.inr e), bh_up_o (Or.inr e), bh_up_o (Or.inr e), bh_up_o (Or.inr e)]
    refine ⟨a.1, a.2.1, a.2.2.1, fun q => ?_⟩
    have e9 : bh_upL L 94 m x 94 j = L 94 j := by
      unfold bh_upL vp_updL
      rw [if_pos rfl, if_neg e]
    rw [e9]
    exact a.2.2.2 q
theorem bu_19_85 : mm_at mt_P 19 85 = some ((85, 1, .aload_n 0, 0, 0, 0, 0), 8, 0, 1, 9, 0, 0, 0) := rfl
theorem bu_19_86 : mm_at mt_P 19 86 = some ((86, 1, .iload_n 1, 0, 0, 0, 0), 8, 0, 1, 9, 0, 0, 0) := rfl
theorem bu_19_87 : mm_at mt_P 19 87 = some ((87, 1, .iload_n 3, 0, 0, 0, 0), 8, 0, 1, 9, 0, 0, 0) := rfl
theorem bu_19_88 : mm_at mt_P 19 88 = some ((88, 1, .iadd, 0, 0, 0, 0), 8, 0, 1, 9, 0, 0, 0) := rfl
theorem bu_19_89 : mm_at mt_P 19 89 = some ((89, 3, .invokevirtual 184, 12, 0, 0, 1457), 8, 0, 1, 9, 0, 0, 0) := rfl
theorem bu_19_92 : mm_at mt_P 19 92 = some ((92, 3, .invokestatic 192, 50, 0, 0, 1465), 8, 0, 1, 9, 0, 0, 0) := rfl
theorem bu_19_95 : mm_at mt_P 19 95 = some ((95, 3, .ifCond .eq 29, 0, 0, 0, 0), 8, 0, 1, 9, 0, 0, 0) := rfl
theorem bu_19_98 : mm_at mt_P 19 98 = some ((98, 1, .iload_n 3, 0, 0, 0, 0), 8, 0, 1, 9, 0, 0, 0) := rfl
theorem bu_19_99 : mm_at mt_P 19 99 = some ((99, 2, .bipush 8, 0, 0, 0, 0), 8, 0, 1, 9, 0, 0, 0) := rfl
theorem bu_19_101 : mm_at mt_P 19 101 = some ((101, 3, .if_icmp .ge 17, 0, 0, 0, 0), 8, 0, 1, 9, 0, 0, 0) := rfl
theorem bu_19_104 : mm_at mt_P 19 104 = some ((104, 2, .lload 4, 0, 0, 0, 0), 8, 0, 1, 9, 0, 0, 0) := rfl
theorem bu_19_106 : mm_at mt_P 19 106 = some ((106, 1, .aload_n 0, 0, 0, 0, 0), 8, 0, 1, 9, 0, 0, 0) := rfl
theorem bu_19_107 : mm_at mt_P 19 107 = some ((107, 1, .iload_n 1, 0, 0, 0, 0), 8, 0, 1, 9, 0, 0, 0) := rfl
theorem bu_19_108 : mm_at mt_P 19 108 = some ((108, 1, .iload_n 3, 0, 0, 0, 0), 8, 0, 1, 9, 0, 0, 0) := rfl
theorem bu_19_109 : mm_at mt_P 19 109 = some ((109, 1, .iadd, 0, 0, 0, 0), 8, 0, 1, 9, 0, 0, 0) := rfl
theorem bu_19_110 : mm_at mt_P 19 110 = some ((110, 3, .invokevirtual 184, 12, 0, 0, 1457), 8, 0, 1, 9, 0, 0, 0) := rfl
theorem bu_19_113 : mm_at mt_P 19 113 = some ((113, 3, .invokestatic 177, 2, 0, 0, 1198), 8, 0, 1, 9, 0, 0, 0) := rfl
theorem bu_19_116 : mm_at mt_P 19 116 = some ((116, 2, .lstore 4, 0, 0, 0, 0), 8, 0, 1, 9, 0, 0, 0) := rfl
theorem bu_19_118 : mm_at mt_P 19 118 = some ((118, 3, .iinc 3 1, 0, 0, 0, 0), 8, 0, 1, 9, 0, 0, 0) := rfl
theorem bu_19_121 : mm_at mt_P 19 121 = some ((121, 3, .goto (-36), 0, 0, 0, 0), 8, 0, 1, 9, 0, 0, 0) := rfl
theorem bu_19_146 : mm_at mt_P 19 146 = some ((146, 2, .iload 7, 0, 0, 0, 0), 8, 0, 1, 9, 0, 0, 0) := rfl
theorem bu_19_148 : mm_at mt_P 19 148 = some ((148, 2, .bipush 24, 0, 0, 0, 0), 8, 0, 1, 9, 0, 0, 0) := rfl
theorem bu_19_150 : mm_at mt_P 19 150 = some ((150, 3, .if_icmp .ge 29, 0, 0, 0, 0), 8, 0, 1, 9, 0, 0, 0) := rfl
theorem bu_19_153 : mm_at mt_P 19 153 = some ((153, 1, .aload_n 0, 0, 0, 0, 0), 8, 0, 1, 9, 0, 0, 0) := rfl
theorem bu_19_154 : mm_at mt_P 19 154 = some ((154, 3, .getfield 34, 9, 9, 0, 1226), 8, 0, 1, 9, 0, 0, 0) := rfl
theorem bu_19_157 : mm_at mt_P 19 157 = some ((157, 2, .iload 7, 0, 0, 0, 0), 8, 0, 1, 9, 0, 0, 0) := rfl
theorem bu_19_159 : mm_at mt_P 19 159 = some ((159, 1, .laload, 0, 0, 0, 0), 8, 0, 1, 9, 0, 0, 0) := rfl
theorem bu_19_160 : mm_at mt_P 19 160 = some ((160, 2, .lload 4, 0, 0, 0, 0), 8, 0, 1, 9, 0, 0, 0) := rfl
theorem bu_19_162 : mm_at mt_P 19 162 = some ((162, 1, .lcmp, 0, 0, 0, 0), 8, 0, 1, 9, 0, 0, 0) := rfl
theorem bu_19_163 : mm_at mt_P 19 163 = some ((163, 3, .ifCond .ne 10, 0, 0, 0, 0), 8, 0, 1, 9, 0, 0, 0) := rfl
theorem bu_19_166 : mm_at mt_P 19 166 = some ((166, 2, .bipush 20, 0, 0, 0, 0), 8, 0, 1, 9, 0, 0, 0) := rfl
theorem bu_19_168 : mm_at mt_P 19 168 = some ((168, 2, .iload 7, 0, 0, 0, 0), 8, 0, 1, 9, 0, 0, 0) := rfl
theorem bu_19_170 : mm_at mt_P 19 170 = some ((170, 1, .iadd, 0, 0, 0, 0), 8, 0, 1, 9, 0, 0, 0) := rfl
theorem bu_19_171 : mm_at mt_P 19 171 = some ((171, 2, .istore 6, 0, 0, 0, 0), 8, 0, 1, 9, 0, 0, 0) := rfl
theorem bu_19_173 : mm_at mt_P 19 173 = some ((173, 3, .iinc 7 1, 0, 0, 0, 0), 8, 0, 1, 9, 0, 0, 0) := rfl
theorem bu_19_176 : mm_at mt_P 19 176 = some ((176, 3, .goto (-30), 0, 0, 0, 0), 8, 0, 1, 9, 0, 0, 0) := rfl
theorem bu_19_208 : mm_at mt_P 19 208 = some ((208, 1, .aload_n 0, 0, 0, 0, 0), 8, 0, 1, 9, 0, 0, 0) := rfl
theorem bu_19_209 : mm_at mt_P 19 209 = some ((209, 1, .iload_n 1, 0, 0, 0, 0), 8, 0, 1, 9, 0, 0, 0) := rfl
theorem bu_19_210 : mm_at mt_P 19 210 = some ((210, 1, .iload_n 3, 0, 0, 0, 0), 8, 0, 1, 9, 0, 0, 0) := rfl
theorem bu_19_211 : mm_at mt_P 19 211 = some ((211, 1, .iadd, 0, 0, 0, 0), 8, 0, 1, 9, 0, 0, 0) := rfl
theorem bu_19_212 : mm_at mt_P 19 212 = some ((212, 3, .invokevirtual 184, 12, 0, 0, 1457), 8, 0, 1, 9, 0, 0, 0) := rfl
theorem bu_19_215 : mm_at mt_P 19 215 = some ((215, 3, .invokestatic 196, 48, 0, 0, 1468), 8, 0, 1, 9, 0, 0, 0) := rfl
theorem bu_19_218 : mm_at mt_P 19 218 = some ((218, 3, .ifCond .eq 32, 0, 0, 0, 0), 8, 0, 1, 9, 0, 0, 0) := rfl
theorem bu_19_221 : mm_at mt_P 19 221 = some ((221, 1, .iload_n 3, 0, 0, 0, 0), 8, 0, 1, 9, 0, 0, 0) := rfl
theorem bu_19_222 : mm_at mt_P 19 222 = some ((222, 1, .iconst 4, 0, 0, 0, 0), 8, 0, 1, 9, 0, 0, 0) := rfl
theorem bu_19_223 : mm_at mt_P 19 223 = some ((223, 3, .if_icmp .ge 21, 0, 0, 0, 0), 8, 0, 1, 9, 0, 0, 0) := rfl
theorem bu_19_226 : mm_at mt_P 19 226 = some ((226, 2, .bipush 10, 0, 0, 0, 0), 8, 0, 1, 9, 0, 0, 0) := rfl
theorem bu_19_228 : mm_at mt_P 19 228 = some ((228, 2, .iload 4, 0, 0, 0, 0), 8, 0, 1, 9, 0, 0, 0) := rfl
theorem bu_19_230 : mm_at mt_P 19 230 = some ((230, 1, .imul, 0, 0, 0, 0), 8, 0, 1, 9, 0, 0, 0) := rfl
theorem bu_19_231 : mm_at mt_P 19 231 = some ((231, 1, .aload_n 0, 0, 0, 0, 0), 8, 0, 1, 9, 0, 0, 0) := rfl
theorem bu_19_232 : mm_at mt_P 19 232 = some ((232, 1, .iload_n 1, 0, 0, 0, 0), 8, 0, 1, 9, 0, 0, 0) := rfl
theorem bu_19_233 : mm_at mt_P 19 233 = some ((233, 1, .iload_n 3, 0, 0, 0, 0), 8, 0, 1, 9, 0, 0, 0) := rfl
theorem bu_19_234 : mm_at mt_P 19 234 = some ((234, 1, .iadd, 0, 0, 0, 0), 8, 0, 1, 9, 0, 0, 0) := rfl
theorem bu_19_235 : mm_at mt_P 19 235 = some ((235, 3, .invokevirtual 184, 12, 0, 0, 1457), 8, 0, 1, 9, 0, 0, 0) := rfl
theorem bu_19_238 : mm_at mt_P 19 238 = some ((238, 1, .iadd, 0, 0, 0, 0), 8, 0, 1, 9, 0, 0, 0) := rfl
theorem bu_19_239 : mm_at mt_P 19 239 = some ((239, 2, .bipush 48, 0, 0, 0, 0), 8, 0, 1, 9, 0, 0, 0) := rfl
theorem bu_19_241 : mm_at mt_P 19 241 = some ((241, 1, .isub, 0, 0, 0, 0), 8, 0, 1, 9, 0, 0, 0) := rfl
theorem bu_19_242 : mm_at mt_P 19 242 = some ((242, 2, .istore 4, 0, 0, 0, 0), 8, 0, 1, 9, 0, 0, 0) := rfl
theorem bu_19_244 : mm_at mt_P 19 244 = some ((244, 3, .iinc 3 1, 0, 0, 0, 0), 8, 0, 1, 9, 0, 0, 0) := rfl
theorem bu_19_247 : mm_at mt_P 19 247 = some ((247, 3, .goto (-39), 0, 0, 0, 0), 8, 0, 1, 9, 0, 0, 0) := rfl
section RQB
variable {K V P : Nat → Int} {Q : Nat → Nat → Bool} {σ : py_S} {M : Nat} {ns : List Nat} {oo e : Nat} {E : mm_E} {PO : mm_C → Prop} {NN : Nat} {h0 h : mm_H} {s : Nat → Int32} {A : Nat → Nat → Int32} {L : Nat → Nat → Int64} {gs : List mm_F}
set_option maxHeartbeats 4000000 in
theorem rr_19a {X : Nat → Int32} {i : Int32} {n p : Nat} (hP : bm_P rz_T E h0 h s A L) (hn : (s 8804).toInt = (n : Int)) (hX : ∀ j, px_c (A 90) n j = px_c X n j) (hn2 : n ≤ 2000) (hi : i.toInt = (p : Int)) : ∀ NN : Nat, (∀ (lv : mm_V) (o : Option Value) (k : Int32) (x : Int64) (ki : Nat), mm_get lv 0 = some (.ref (E.1 + 88)) → mm_get lv 1 = some (.int i) → mm_get lv 3 = some (.int k) → mm_get lv 4 = some (.long x) → k.toInt = (ki : Int) → p + ki ≤ n → (∀ j, j < ki → px_lt (px_c X n (p + j)) = true) → x.toInt = (px_nm 27 X n p (min ki 8) : Nat) → ¬ px_lt (px_c X n (p + ki)) = true → bp_G E PO NN ((19, 124, lv, [], 0, 0) :: gs, h, o)) → (∀ (lv : mm_V) (o : Option Value) (k : Int32) (x : Int64) (ki : Nat), mm_get lv 0 = some (.ref (E.1 + 88)) → mm_get lv 1 = some (.int i) → mm_get lv 3 = some (.int k) → mm_get lv 4 = some (.long x) → k.toInt = (ki : Int) → p + ki ≤ n → (∀ j, j < ki → px_lt (px_c X n (p + j)) = true) → x.toInt = (px_nm 27 X n p (min ki 8) : Nat) → bp_G E PO NN ((19, 85, lv, [], 0, 0) :: gs, h, o)) := by
  intro NN
  induction NN with
  | zero => intro kk lv o k x ki g0 g1 g3 g4 hk hp hl hx; exact bp_zero bu_19_85
  | succ NN ih =>
    intro kk lv o k x ki g0 g1 g3 g4 hk hp hl hx
    refine bp_ld (pc' := 86) bu_19_85 rfl rfl (fun _ _ _ => rfl) g0 rfl ?_
    refine bp_ld (pc' := 87) bu_19_86 rfl rfl (fun _ _ _ => rfl) g1 rfl ?_
    refine bp_ld (pc' := 88) bu_19_87 rfl rfl (fun _ _ _ => rfl) g3 rfl ?_
    refine bp_add (pc' := 89) bu_19_88 rfl (by omega) (by omega) (fun v3617 e3618 => ?_)
    refine bn_cvF (pc' := 92) (st := []) (args := [.int v3617]) bu_19_89 rfl rfl rfl (by decide) hP rz_o88 (by decide) rfl (Nat.le_of_ble_eq_true rfl) (Nat.le_of_ble_eq_true rfl) ?_
    refine rr_12 (n := n) hP hn (by omega) (fun r3619 e3620 => ?_)
    rw [show (v3617).toInt.toNat = p + ki by omega] at e3620
    rw [hX] at e3620
    show bp_G E PO (NN + 1) ((19, 92, lv, [.int r3619], 0, 0) :: gs, h, none)
    refine bp_csF (pc' := 95) (st := []) (args := [.int r3619]) bu_19_92 rfl rfl (by decide) rfl (Nat.le_of_ble_eq_true rfl) (Nat.le_of_ble_eq_true rfl) ?_
    refine rr_50 (c := r3619) (fun r3621 p3622 => ?_)
    show bp_G E PO (NN + 1) ((19, 95, lv, [.int r3621], 0, 0) :: gs, h, none)
    refine bp_i0 (pc' := 98) (pt := 124) bu_19_95 rfl rfl (fun k3623 => ?_) (fun k3623 => ?_)
    · replace k3623 : (r3621).toInt = 0 := k3623
      exact kk _ _ _ _ ki g0 g1 g3 g4 hk hp hl hx (fun q => by have q := px_lt_iff.mp q; omega)
    · replace k3623 : ¬ ((r3621).toInt = 0) := k3623
      refine bp_ld (pc' := 99) bu_19_98 rfl rfl (fun _ _ _ => rfl) g3 rfl ?_
      refine bp_c (pc' := 101) (n := 8) bu_19_99 rfl rfl (fun _ _ _ => rfl) (by decide) (fun c3624 e3625 => ?_)
      refine bp_ic (pc' := 104) (pt := 118) bu_19_101 rfl rfl (fun k3626 => ?_) (fun k3626 => ?_)
      · replace k3626 : (c3624).toInt ≤ (k).toInt := k3626
        refine bp_inc (pc' := 121) bu_19_118 rfl (by decide) g3 (by decide) (by omega) (by omega) (fun lv3627 y3630 F3628 g3629 e3631 => ?_)
        have g3632 := F3628 0 (.ref (E.1 + 88)) g0 (by decide) (Or.inl rfl)
        have g3633 := F3628 1 (.int i) g1 (by decide) (Or.inl rfl)
        have g3634 := F3628 4 (.long x) g4 (by decide) (Or.inr (by decide))
        refine bp_goD (pc' := 85) bu_19_121 rfl ?_
        have hc9 := px_lt0 (X := X) (n := n) (j := p + ki) (by omega)
        have hn9 : x.toInt = (px_nm 27 X n p (min (ki + 1) 8) : Nat) := by
          rw [show min (ki + 1) 8 = min ki 8 by omega]
          exact hx
        exact ih (fun lv o k x ki a0 a1 a2 a3 a4 a5 a6 a7 a8 => bp_mono (Nat.le_succ NN) (kk lv o k x ki a0 a1 a2 a3 a4 a5 a6 a7 a8)) _ _ _ _ (ki + 1) g3632 g3633 g3629 g3634 (by omega) (by omega) (fun j hj => by
          by_cases e : j = ki
          · rw [e]
            exact px_lt_iff.mpr (by omega)
          · exact hl j (by omega)) hn9
      · replace k3626 : ¬ ((c3624).toInt ≤ (k).toInt) := k3626
        refine bp_ld (pc' := 106) bu_19_104 rfl rfl (fun _ _ _ => rfl) g4 rfl ?_
        refine bp_ld (pc' := 107) bu_19_106 rfl rfl (fun _ _ _ => rfl) g0 rfl ?_
        refine bp_ld (pc' := 108) bu_19_107 rfl rfl (fun _ _ _ => rfl) g1 rfl ?_
        refine bp_ld (pc' := 109) bu_19_108 rfl rfl (fun _ _ _ => rfl) g3 rfl ?_
        refine bp_add (pc' := 110) bu_19_109 rfl (by omega) (by omega) (fun v3635 e3636 => ?_)
        refine bn_cvF (pc' := 113) (st := [.long x]) (args := [.int v3635]) bu_19_110 rfl rfl rfl (by decide) hP rz_o88 (by decide) rfl (Nat.le_of_ble_eq_true rfl) (Nat.le_of_ble_eq_true rfl) ?_
        refine rr_12 (n := n) hP hn (by omega) (fun r3637 e3638 => ?_)
        rw [show (v3635).toInt.toNat = p + ki by omega] at e3638
        rw [hX] at e3638
        show bp_G E PO (NN + 1) ((19, 113, lv, [.int r3637, .long x], 0, 0) :: gs, h, none)
        refine bp_csF (pc' := 116) (st := []) (args := [.int r3637, .long x]) bu_19_113 rfl rfl (by decide) rfl (Nat.le_of_ble_eq_true rfl) (Nat.le_of_ble_eq_true rfl) ?_
        have e8 : min ki 8 = ki := by omega
        have hb := px_nm_b (X := X) (n := n) (p := p) (k := ki) (by omega) hl
        have hx0 := hx
        rw [e8] at hx0
        refine rr_2 (x := x) (c := r3637) (by omega) (by omega) (by omega) (fun x3639 e3640 => ?_)
        show bp_G E PO (NN + 1) ((19, 116, lv, [.long x3639], 0, 0) :: gs, h, none)
        refine bp_stL (pc' := 118) bu_19_116 rfl rfl (fun _ _ _ => rfl) (by decide) (fun lv3641 F3642 g3643 => ?_)
        have g3644 := F3642 0 (.ref (E.1 + 88)) g0 (by decide) (by decide) (Or.inl rfl)
        have g3645 := F3642 1 (.int i) g1 (by decide) (by decide) (Or.inl rfl)
        have g3646 := F3642 3 (.int k) g3 (by decide) (by decide) (Or.inl rfl)
        refine bp_inc (pc' := 121) bu_19_118 rfl (by decide) g3646 (by decide) (by omega) (by omega) (fun lv3647 y3650 F3648 g3649 e3651 => ?_)
        have g3652 := F3648 0 (.ref (E.1 + 88)) g3644 (by decide) (Or.inl rfl)
        have g3653 := F3648 1 (.int i) g3645 (by decide) (Or.inl rfl)
        have g3654 := F3648 4 (.long x3639) g3643 (by decide) (Or.inr (by decide))
        refine bp_goD (pc' := 85) bu_19_121 rfl ?_
        have hc9 := px_lt0 (X := X) (n := n) (j := p + ki) (by omega)
        have hn9 : (x3639).toInt = (px_nm 27 X n p (min (ki + 1) 8) : Nat) := by
          rw [show min (ki + 1) 8 = ki + 1 by omega]
          have en : px_nm 27 X n p (ki + 1) = 27 * px_nm 27 X n p ki + px_ld X n p ki := rfl
          have el : (px_ld X n p ki : Int) = px_c X n (p + ki) - 96 := by
            unfold px_ld
            omega
          rw [en]
          omega
        exact ih (fun lv o k x ki a0 a1 a2 a3 a4 a5 a6 a7 a8 => bp_mono (Nat.le_succ NN) (kk lv o k x ki a0 a1 a2 a3 a4 a5 a6 a7 a8)) _ _ _ _ (ki + 1) g3652 g3653 g3649 g3654 (by omega) (by omega) (fun j hj => by
          by_cases e : j = ki
          · rw [e]
            exact px_lt_iff.mpr (by omega)
          · exact hl j (by omega)) hn9
set_option maxHeartbeats 4000000 in
theorem rr_19b {X : Nat → Int32} {i k : Int32} {x : Int64} {n p len : Nat} (hP : bm_P rz_T E h0 h s A L) (hky : ∀ j, j < 24 → (L 95 j).toInt = (px_ky j : Nat)) (hl : ∀ j, j < len → px_lt (px_c X n (p + j)) = true) (hx : x.toInt = (px_nm 27 X n p len : Nat)) : ∀ NN : Nat, (∀ (lv : mm_V) (o : Option Value) (kd : Int32), mm_get lv 0 = some (.ref (E.1 + 88)) → mm_get lv 1 = some (.int i) → mm_get lv 3 = some (.int k) → mm_get lv 4 = some (.long x) → mm_get lv 6 = some (.int kd) → kd.toInt = (if px_wd X n p len < 24 then 20 + (px_wd X n p len : Nat) else 1) → bp_G E PO NN ((19, 179, lv, [], 0, 0) :: gs, h, o)) → (∀ (lv : mm_V) (o : Option Value) (kd q : Int32) (qi : Nat), mm_get lv 0 = some (.ref (E.1 + 88)) → mm_get lv 1 = some (.int i) → mm_get lv 3 = some (.int k) → mm_get lv 4 = some (.long x) → mm_get lv 6 = some (.int kd) → mm_get lv 7 = some (.int q) → q.toInt = (qi : Int) → qi ≤ 24 → ((kd.toInt = 1 ∧ ∀ j, j < qi → px_mw X n p len j = false) ∨ (∃ j, j < qi ∧ px_mw X n p len j = true ∧ kd.toInt = 20 + (j : Int))) → bp_G E PO NN ((19, 146, lv, [], 0, 0) :: gs, h, o)) := by
  intro NN
  induction NN with
  | zero => intro kk lv o kd q qi g0 g1 g3 g4 g6 g7 hq hq2 hin; exact bp_zero bu_19_146
  | succ NN ih =>
    intro kk lv o kd q qi g0 g1 g3 g4 g6 g7 hq hq2 hin
    refine bp_ld (pc' := 148) bu_19_146 rfl rfl (fun _ _ _ => rfl) g7 rfl ?_
    refine bp_c (pc' := 150) (n := 24) bu_19_148 rfl rfl (fun _ _ _ => rfl) (by decide) (fun c3655 e3656 => ?_)
    refine bp_ic (pc' := 153) (pt := 179) bu_19_150 rfl rfl (fun k3657 => ?_) (fun k3657 => ?_)
    · replace k3657 : (c3655).toInt ≤ (q).toInt := k3657
      refine kk _ _ _ g0 g1 g3 g4 g6 ?_
      rcases hin with ⟨a, b⟩ | ⟨j, a, b, c⟩
      · rw [px_wd_no (fun j hj => b j (by omega)), if_neg (by decide)]
        exact a
      · rw [px_wd_eq (by omega) b, if_pos (by omega)]
        exact c
    · replace k3657 : ¬ ((c3655).toInt ≤ (q).toInt) := k3657
      refine bp_ld (pc' := 154) bu_19_153 rfl rfl (fun _ _ _ => rfl) g0 rfl ?_
      refine bn_gr (pc' := 157) (t := 95) bu_19_154 rfl rfl (fun _ _ _ => rfl) hP rz_o88 rz_r88_9 ?_
      refine bp_ld (pc' := 159) bu_19_157 rfl rfl (fun _ _ _ => rfl) g7 rfl ?_
      refine bn_laF (pc' := 160) bu_19_159 rfl rfl (fun _ _ _ => rfl) hP rz_l95 (fun b3658 b3659 => ?_)
      refine bp_ld (pc' := 162) bu_19_160 rfl rfl (fun _ _ _ => rfl) g4 rfl ?_
      refine bn_lcmp (pc' := 163) bu_19_162 rfl (fun v3660 e3661 => ?_)
      refine bp_i0 (pc' := 166) (pt := 173) bu_19_163 rfl rfl (fun k3662 => ?_) (fun k3662 => ?_)
      · replace k3662 : (v3660).toInt ≠ 0 := k3662
        refine bp_inc (pc' := 176) bu_19_173 rfl (by decide) g7 (by decide) (by omega) (by omega) (fun lv3663 y3666 F3664 g3665 e3667 => ?_)
        have g3668 := F3664 0 (.ref (E.1 + 88)) g0 (by decide) (Or.inl rfl)
        have g3669 := F3664 1 (.int i) g1 (by decide) (Or.inl rfl)
        have g3670 := F3664 3 (.int k) g3 (by decide) (Or.inl rfl)
        have g3671 := F3664 4 (.long x) g4 (by decide) (Or.inr (by decide))
        have g3672 := F3664 6 (.int kd) g6 (by decide) (Or.inl rfl)
        refine bp_goD (pc' := 146) bu_19_176 rfl ?_
        have ek := hky qi (by omega)
        have ei := px_mw_iff (X := X) (n := n) (p := p) (len := len) (k := qi) (by omega) hl
        have eq9 : L 95 (q).toInt.toNat = L 95 qi := by rw [show (q).toInt.toNat = qi by omega]
        have eq8 := congrArg Int64.toInt eq9
        have hm : px_mw X n p len qi = false := Bool.eq_false_iff.mpr (fun u => by have u2 := ei.mp u; omega)
        exact ih (fun lv o kd a0 a1 a2 a3 a4 a5 => bp_mono (Nat.le_succ NN) (kk lv o kd a0 a1 a2 a3 a4 a5)) _ _ _ _ (qi + 1) g3668 g3669 g3670 g3671 g3672 g3665 (by omega) (by omega) (by
          rcases hin with ⟨a, b⟩ | ⟨j, a, b, c⟩
          · refine Or.inl ⟨a, fun j hj => ?_⟩
            by_cases e : j = qi
            · rw [e]
              exact hm
            · exact b j (by omega)
          · exact Or.inr ⟨j, by omega, b, c⟩)
      · replace k3662 : ¬ ((v3660).toInt ≠ 0) := k3662
        refine bp_c (pc' := 168) (n := 20) bu_19_166 rfl rfl (fun _ _ _ => rfl) (by decide) (fun c3673 e3674 => ?_)
        refine bp_ld (pc' := 170) bu_19_168 rfl rfl (fun _ _ _ => rfl) g7 rfl ?_
        refine bp_add (pc' := 171) bu_19_170 rfl (by omega) (by omega) (fun v3675 e3676 => ?_)
        refine bp_st (pc' := 173) bu_19_171 rfl rfl (fun _ _ _ => rfl) rfl (by decide) (by decide) (fun lv3677 F3678 g3679 => ?_)
        have g3680 := F3678 0 (.ref (E.1 + 88)) g0 (by decide) (Or.inl rfl)
        have g3681 := F3678 1 (.int i) g1 (by decide) (Or.inl rfl)
        have g3682 := F3678 3 (.int k) g3 (by decide) (Or.inl rfl)
        have g3683 := F3678 4 (.long x) g4 (by decide) (Or.inr (by decide))
        have g3684 := F3678 7 (.int q) g7 (by decide) (Or.inl rfl)
        refine bp_inc (pc' := 176) bu_19_173 rfl (by decide) g3684 (by decide) (by omega) (by omega) (fun lv3685 y3688 F3686 g3687 e3689 => ?_)
        have g3690 := F3686 0 (.ref (E.1 + 88)) g3680 (by decide) (Or.inl rfl)
        have g3691 := F3686 1 (.int i) g3681 (by decide) (Or.inl rfl)
        have g3692 := F3686 3 (.int k) g3682 (by decide) (Or.inl rfl)
        have g3693 := F3686 4 (.long x) g3683 (by decide) (Or.inr (by decide))
        have g3694 := F3686 6 (.int v3675) g3679 (by decide) (Or.inl rfl)
        refine bp_goD (pc' := 146) bu_19_176 rfl ?_
        have ek := hky qi (by omega)
        have ei := px_mw_iff (X := X) (n := n) (p := p) (len := len) (k := qi) (by omega) hl
        have eq9 : L 95 (q).toInt.toNat = L 95 qi := by rw [show (q).toInt.toNat = qi by omega]
        have eq8 := congrArg Int64.toInt eq9
        have hm := ei.mpr (by omega)
        exact ih (fun lv o kd a0 a1 a2 a3 a4 a5 => bp_mono (Nat.le_succ NN) (kk lv o kd a0 a1 a2 a3 a4 a5)) _ _ _ _ (qi + 1) g3690 g3691 g3692 g3693 g3694 g3687 (by omega) (by omega) (Or.inr ⟨qi, Nat.lt_succ_self _, hm, by omega⟩)
set_option maxHeartbeats 4000000 in
theorem rr_19c {X : Nat → Int32} {i : Int32} {n p : Nat} (hP : bm_P rz_T E h0 h s A L) (hn : (s 8804).toInt = (n : Int)) (hX : ∀ j, px_c (A 90) n j = px_c X n j) (hn2 : n ≤ 2000) (hi : i.toInt = (p : Int)) : ∀ NN : Nat, (∀ (lv : mm_V) (o : Option Value) (k v : Int32) (ki : Nat), mm_get lv 0 = some (.ref (E.1 + 88)) → mm_get lv 1 = some (.int i) → mm_get lv 3 = some (.int k) → mm_get lv 4 = some (.int v) → k.toInt = (ki : Int) → p + ki ≤ n → (∀ j, j < ki → px_dg (px_c X n (p + j)) = true) → v.toInt = px_dv X n p (min ki 4) → ¬ px_dg (px_c X n (p + ki)) = true → bp_G E PO NN ((19, 250, lv, [], 0, 0) :: gs, h, o)) → (∀ (lv : mm_V) (o : Option Value) (k v : Int32) (ki : Nat), mm_get lv 0 = some (.ref (E.1 + 88)) → mm_get lv 1 = some (.int i) → mm_get lv 3 = some (.int k) → mm_get lv 4 = some (.int v) → k.toInt = (ki : Int) → p + ki ≤ n → (∀ j, j < ki → px_dg (px_c X n (p + j)) = true) → v.toInt = px_dv X n p (min ki 4) → bp_G E PO NN ((19, 208, lv, [], 0, 0) :: gs, h, o)) := by
  intro NN
  induction NN with
  | zero => intro kk lv o k v ki g0 g1 g3 g4 hk hp hl hv; exact bp_zero bu_19_208
  | succ NN ih =>
    intro kk lv o k v ki g0 g1 g3 g4 hk hp hl hv
    refine bp_ld (pc' := 209) bu_19_208 rfl rfl (fun _ _ _ => rfl) g0 rfl ?_
    refine bp_ld (pc' := 210) bu_19_209 rfl rfl (fun _ _ _ => rfl) g1 rfl ?_
    refine bp_ld (pc' := 211) bu_19_210 rfl rfl (fun _ _ _ => rfl) g3 rfl ?_
    refine bp_add (pc' := 212) bu_19_211 rfl (by omega) (by omega) (fun v3695 e3696 => ?_)
    refine bn_cvF (pc' := 215) (st := []) (args := [.int v3695]) bu_19_212 rfl rfl rfl (by decide) hP rz_o88 (by decide) rfl (Nat.le_of_ble_eq_true rfl) (Nat.le_of_ble_eq_true rfl) ?_
    refine rr_12 (n := n) hP hn (by omega) (fun r3697 e3698 => ?_)
    rw [show (v3695).toInt.toNat = p + ki by omega] at e3698
    rw [hX] at e3698
    show bp_G E PO (NN + 1) ((19, 215, lv, [.int r3697], 0, 0) :: gs, h, none)
    refine bp_csF (pc' := 218) (st := []) (args := [.int r3697]) bu_19_215 rfl rfl (by decide) rfl (Nat.le_of_ble_eq_true rfl) (Nat.le_of_ble_eq_true rfl) ?_
    refine rr_48 (c := r3697) (fun r3699 p3700 => ?_)
    show bp_G E PO (NN + 1) ((19, 218, lv, [.int r3699], 0, 0) :: gs, h, none)
    refine bp_i0 (pc' := 221) (pt := 250) bu_19_218 rfl rfl (fun k3701 => ?_) (fun k3701 => ?_)
    · replace k3701 : (r3699).toInt = 0 := k3701
      exact kk _ _ _ _ ki g0 g1 g3 g4 hk hp hl hv (fun q => by have q := px_dg_iff.mp q; omega)
    · replace k3701 : ¬ ((r3699).toInt = 0) := k3701
      refine bp_ld (pc' := 222) bu_19_221 rfl rfl (fun _ _ _ => rfl) g3 rfl ?_
      refine bp_c (pc' := 223) (n := 4) bu_19_222 rfl rfl (fun _ _ _ => rfl) (by decide) (fun c3702 e3703 => ?_)
      refine bp_ic (pc' := 226) (pt := 244) bu_19_223 rfl rfl (fun k3704 => ?_) (fun k3704 => ?_)
      · replace k3704 : (c3702).toInt ≤ (k).toInt := k3704
        refine bp_inc (pc' := 247) bu_19_244 rfl (by decide) g3 (by decide) (by omega) (by omega) (fun lv3705 y3708 F3706 g3707 e3709 => ?_)
        have g3710 := F3706 0 (.ref (E.1 + 88)) g0 (by decide) (Or.inl rfl)
        have g3711 := F3706 1 (.int i) g1 (by decide) (Or.inl rfl)
        have g3712 := F3706 4 (.int v) g4 (by decide) (Or.inl rfl)
        refine bp_goD (pc' := 208) bu_19_247 rfl ?_
        have hc9 := px_dg0 (X := X) (n := n) (j := p + ki) (by omega)
        have hn9 : v.toInt = px_dv X n p (min (ki + 1) 4) := by
          rw [show min (ki + 1) 4 = min ki 4 by omega]
          exact hv
        exact ih (fun lv o k x ki a0 a1 a2 a3 a4 a5 a6 a7 a8 => bp_mono (Nat.le_succ NN) (kk lv o k x ki a0 a1 a2 a3 a4 a5 a6 a7 a8)) _ _ _ _ (ki + 1) g3710 g3711 g3707 g3712 (by omega) (by omega) (fun j hj => by
          by_cases e : j = ki
          · rw [e]
            exact px_dg_iff.mpr (by omega)
          · exact hl j (by omega)) hn9
      · replace k3704 : ¬ ((c3702).toInt ≤ (k).toInt) := k3704
        have e8 : min ki 4 = ki := by omega
        have hb := px_dv_b (X := X) (n := n) (p := p) ki (by omega) hl
        have hv0 := hv
        rw [e8] at hv0
        have hb2 : (10 : Int) ^ ki ≤ 1000 := by rcases (show ki = 0 ∨ ki = 1 ∨ ki = 2 ∨ ki = 3 by omega) with rfl | rfl | rfl | rfl <;> decide
        generalize hz : (10 : Int) ^ ki = z at hb hb2
        refine bp_c (pc' := 228) (n := 10) bu_19_226 rfl rfl (fun _ _ _ => rfl) (by decide) (fun c3713 e3714 => ?_)
        refine bp_ld (pc' := 230) bu_19_228 rfl rfl (fun _ _ _ => rfl) g4 rfl ?_
        refine bp_mul (pc' := 231) bu_19_230 rfl (by rw [e3714]; omega) (by rw [e3714]; omega) (fun v3715 e3716 => ?_)
        rw [e3714] at e3716
        refine bp_ld (pc' := 232) bu_19_231 rfl rfl (fun _ _ _ => rfl) g0 rfl ?_
        refine bp_ld (pc' := 233) bu_19_232 rfl rfl (fun _ _ _ => rfl) g1 rfl ?_
        refine bp_ld (pc' := 234) bu_19_233 rfl rfl (fun _ _ _ => rfl) g3 rfl ?_
        refine bp_add (pc' := 235) bu_19_234 rfl (by omega) (by omega) (fun v3717 e3718 => ?_)
        refine bn_cvF (pc' := 238) (st := [.int v3715]) (args := [.int v3717]) bu_19_235 rfl rfl rfl (by decide) hP rz_o88 (by decide) rfl (Nat.le_of_ble_eq_true rfl) (Nat.le_of_ble_eq_true rfl) ?_
        refine rr_12 (n := n) hP hn (by omega) (fun r3719 e3720 => ?_)
        rw [show (v3717).toInt.toNat = p + ki by omega] at e3720
        rw [hX] at e3720
        show bp_G E PO (NN + 1) ((19, 238, lv, [.int r3719, .int v3715], 0, 0) :: gs, h, none)
        refine bp_add (pc' := 239) bu_19_238 rfl (by omega) (by omega) (fun v3721 e3722 => ?_)
        refine bp_c (pc' := 241) (n := 48) bu_19_239 rfl rfl (fun _ _ _ => rfl) (by decide) (fun c3723 e3724 => ?_)
        refine bp_sub (pc' := 242) bu_19_241 rfl (by omega) (by omega) (fun v3725 e3726 => ?_)
        refine bp_st (pc' := 244) bu_19_242 rfl rfl (fun _ _ _ => rfl) rfl (by decide) (by decide) (fun lv3727 F3728 g3729 => ?_)
        have g3730 := F3728 0 (.ref (E.1 + 88)) g0 (by decide) (Or.inl rfl)
        have g3731 := F3728 1 (.int i) g1 (by decide) (Or.inl rfl)
        have g3732 := F3728 3 (.int k) g3 (by decide) (Or.inl rfl)
        refine bp_inc (pc' := 247) bu_19_244 rfl (by decide) g3732 (by decide) (by omega) (by omega) (fun lv3733 y3736 F3734 g3735 e3737 => ?_)
        have g3738 := F3734 0 (.ref (E.1 + 88)) g3730 (by decide) (Or.inl rfl)
        have g3739 := F3734 1 (.int i) g3731 (by decide) (Or.inl rfl)
        have g3740 := F3734 4 (.int v3725) g3729 (by decide) (Or.inl rfl)
        refine bp_goD (pc' := 208) bu_19_247 rfl ?_
        have hc9 := px_dg0 (X := X) (n := n) (j := p + ki) (by omega)
        have hn9 : (v3725).toInt = px_dv X n p (min (ki + 1) 4) := by
          rw [show min (ki + 1) 4 = ki + 1 by omega]
          have en : px_dv X n p (ki + 1) = 10 * px_dv X n p ki + (px_c X n (p + ki) - 48) := rfl
          rw [en]
          omega
        exact ih (fun lv o k x ki a0 a1 a2 a3 a4 a5 a6 a7 a8 => bp_mono (Nat.le_succ NN) (kk lv o k x ki a0 a1 a2 a3 a4 a5 a6 a7 a8)) _ _ _ _ (ki + 1) g3738 g3739 g3735 g3740 (by omega) (by omega) (fun j hj => by
          by_cases e : j = ki
          · rw [e]
            exact px_dg_iff.mpr (by omega)
          · exact hl j (by omega)) hn9
end RQB
