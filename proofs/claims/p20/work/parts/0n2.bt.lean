/-! PARTIAL: the class's tokens, exact (wip/p5/mkq2.py) -/
def px_sws : List Int := [59, 61, 43, 45, 42, 47, 60, 40, 41]
def px_sw (i : Nat) : Int := px_sws.getD i 0
/-- the sign at the i-th place of a word that is len long, blanks behind it -/
def px_si (X : Nat → Int32) (n p len i : Nat) : Int := if i < len then px_c X n (p + i) else 32
theorem px_wc_b : ∀ k, k < 24 → ∀ i, i < 8 → 32 ≤ px_wc k i ∧ px_wc k i ≤ 122 := by decide +kernel
theorem px_wc_e : ∀ k, k < 24 → ∀ i, i < 8 → px_wl k ≤ i → px_wc k i = 32 := by decide +kernel
theorem px_mw_si {X : Nat → Int32} {n p len k : Nat} (hk : k < 24) (h8 : len ≤ 8) (hl : ∀ j, j < len → px_lt (px_c X n (p + j)) = true) : px_mw X n p len k = true ↔ ∀ i, i < 8 → px_si X n p len i = px_wc k i := by
  constructor
  · intro h
    obtain ⟨h1, h2⟩ := decide_eq_true_iff.mp h
    intro i hi
    unfold px_si
    by_cases e : i < len
    · rw [if_pos e]
      exact h2 i e
    · rw [if_neg e]
      exact (px_wc_e k hk i hi (by omega)).symm
  · intro h
    have a1 : ∀ i, i < len → px_c X n (p + i) = px_wc k i := fun i hi => by
      have a := h i (by omega)
      unfold px_si at a
      rw [if_pos hi] at a
      exact a
    have l1 := px_wl_le k hk
    refine decide_eq_true_iff.mpr ⟨?_, a1⟩
    by_cases c : len ≤ px_wl k
    · by_cases c2 : px_wl k ≤ len
      · omega
      · have a := h len (by omega)
        unfold px_si at a
        rw [if_neg (Nat.lt_irrefl _)] at a
        have b := px_wc_lt k hk len (by omega)
        omega
    · have a := a1 (px_wl k) (by omega)
      have b := px_lt_iff.mp (hl (px_wl k) (by omega))
      have d := px_wc_e k hk (px_wl k) (by omega) (Nat.le_refl _)
      omega
/-- the class's bytes: signed -/
theorem px_c_sg {X : Nat → Int32} {n j : Nat} (hj : j < n) (h1 : -128 ≤ (X j).toInt) (h2 : (X j).toInt ≤ 127) : px_c X n j = (if 0 ≤ (X j).toInt then (X j).toInt else (X j).toInt + 256) := by
  rw [px_c_in hj]
  split <;> omega
theorem bu_213_0 : mm_at mt_P 213 0 = some ((0, 1, .iload_n 1, 0, 0, 0, 0), 7, 3, 1, 7, 2, 0, 0) := rfl
theorem bu_213_1 : mm_at mt_P 213 1 = some ((1, 2, .bipush 8, 0, 0, 0, 0), 7, 3, 1, 7, 2, 0, 0) := rfl
theorem bu_213_3 : mm_at mt_P 213 3 = some ((3, 1, .imul, 0, 0, 0, 0), 7, 3, 1, 7, 2, 0, 0) := rfl
theorem bu_213_4 : mm_at mt_P 213 4 = some ((4, 2, .istore 4, 0, 0, 0, 0), 7, 3, 1, 7, 2, 0, 0) := rfl
theorem bu_213_6 : mm_at mt_P 213 6 = some ((6, 1, .iconst 0, 0, 0, 0, 0), 7, 3, 1, 7, 2, 0, 0) := rfl
theorem bu_213_7 : mm_at mt_P 213 7 = some ((7, 2, .istore 5, 0, 0, 0, 0), 7, 3, 1, 7, 2, 0, 0) := rfl
theorem bu_213_9 : mm_at mt_P 213 9 = some ((9, 2, .iload 5, 0, 0, 0, 0), 7, 3, 1, 7, 2, 0, 0) := rfl
theorem bu_213_11 : mm_at mt_P 213 11 = some ((11, 2, .bipush 8, 0, 0, 0, 0), 7, 3, 1, 7, 2, 0, 0) := rfl
theorem bu_213_13 : mm_at mt_P 213 13 = some ((13, 3, .if_icmp .ge 72, 0, 0, 0, 0), 7, 3, 1, 7, 2, 0, 0) := rfl
theorem bu_213_16 : mm_at mt_P 213 16 = some ((16, 2, .iload 5, 0, 0, 0, 0), 7, 3, 1, 7, 2, 0, 0) := rfl
theorem bu_213_18 : mm_at mt_P 213 18 = some ((18, 1, .iload_n 3, 0, 0, 0, 0), 7, 3, 1, 7, 2, 0, 0) := rfl
theorem bu_213_19 : mm_at mt_P 213 19 = some ((19, 3, .if_icmp .ge 26, 0, 0, 0, 0), 7, 3, 1, 7, 2, 0, 0) := rfl
theorem bu_213_22 : mm_at mt_P 213 22 = some ((22, 1, .iload_n 2, 0, 0, 0, 0), 7, 3, 1, 7, 2, 0, 0) := rfl
theorem bu_213_23 : mm_at mt_P 213 23 = some ((23, 2, .iload 5, 0, 0, 0, 0), 7, 3, 1, 7, 2, 0, 0) := rfl
theorem bu_213_25 : mm_at mt_P 213 25 = some ((25, 1, .iadd, 0, 0, 0, 0), 7, 3, 1, 7, 2, 0, 0) := rfl
theorem bu_213_26 : mm_at mt_P 213 26 = some ((26, 1, .aload_n 0, 0, 0, 0, 0), 7, 3, 1, 7, 2, 0, 0) := rfl
theorem bu_213_27 : mm_at mt_P 213 27 = some ((27, 3, .getfield 26, 7, 5, 0, 257), 7, 3, 1, 7, 2, 0, 0) := rfl
theorem bu_213_30 : mm_at mt_P 213 30 = some ((30, 3, .if_icmp .ge 15, 0, 0, 0, 0), 7, 3, 1, 7, 2, 0, 0) := rfl
theorem bu_213_33 : mm_at mt_P 213 33 = some ((33, 1, .aload_n 0, 0, 0, 0, 0), 7, 3, 1, 7, 2, 0, 0) := rfl
theorem bu_213_34 : mm_at mt_P 213 34 = some ((34, 3, .getfield 22, 7, 4, 0, 256), 7, 3, 1, 7, 2, 0, 0) := rfl
theorem bu_213_37 : mm_at mt_P 213 37 = some ((37, 1, .iload_n 2, 0, 0, 0, 0), 7, 3, 1, 7, 2, 0, 0) := rfl
theorem bu_213_38 : mm_at mt_P 213 38 = some ((38, 2, .iload 5, 0, 0, 0, 0), 7, 3, 1, 7, 2, 0, 0) := rfl
theorem bu_213_40 : mm_at mt_P 213 40 = some ((40, 1, .iadd, 0, 0, 0, 0), 7, 3, 1, 7, 2, 0, 0) := rfl
theorem bu_213_41 : mm_at mt_P 213 41 = some ((41, 1, .baload, 0, 0, 0, 0), 7, 3, 1, 7, 2, 0, 0) := rfl
theorem bu_213_42 : mm_at mt_P 213 42 = some ((42, 3, .goto 5, 0, 0, 0, 0), 7, 3, 1, 7, 2, 0, 0) := rfl
theorem bu_213_45 : mm_at mt_P 213 45 = some ((45, 2, .bipush 32, 0, 0, 0, 0), 7, 3, 1, 7, 2, 0, 0) := rfl
theorem bu_213_47 : mm_at mt_P 213 47 = some ((47, 2, .istore 6, 0, 0, 0, 0), 7, 3, 1, 7, 2, 0, 0) := rfl
theorem bu_213_49 : mm_at mt_P 213 49 = some ((49, 2, .iload 4, 0, 0, 0, 0), 7, 3, 1, 7, 2, 0, 0) := rfl
theorem bu_213_51 : mm_at mt_P 213 51 = some ((51, 2, .iload 5, 0, 0, 0, 0), 7, 3, 1, 7, 2, 0, 0) := rfl
theorem bu_213_53 : mm_at mt_P 213 53 = some ((53, 1, .iadd, 0, 0, 0, 0), 7, 3, 1, 7, 2, 0, 0) := rfl
theorem bu_213_54 : mm_at mt_P 213 54 = some ((54, 2, .ldc 83, 1, 0, 0, 0), 7, 3, 1, 7, 2, 0, 0) := rfl
theorem bu_213_56 : mm_at mt_P 213 56 = some ((56, 3, .invokevirtual 85, 281, 0, 0, 522), 7, 3, 1, 7, 2, 0, 0) := rfl
theorem bu_213_59 : mm_at mt_P 213 59 = some ((59, 3, .if_icmp .ge 18, 0, 0, 0, 0), 7, 3, 1, 7, 2, 0, 0) := rfl
theorem bu_213_62 : mm_at mt_P 213 62 = some ((62, 2, .ldc 83, 1, 0, 0, 0), 7, 3, 1, 7, 2, 0, 0) := rfl
theorem bu_213_64 : mm_at mt_P 213 64 = some ((64, 2, .iload 4, 0, 0, 0, 0), 7, 3, 1, 7, 2, 0, 0) := rfl
theorem bu_213_66 : mm_at mt_P 213 66 = some ((66, 2, .iload 5, 0, 0, 0, 0), 7, 3, 1, 7, 2, 0, 0) := rfl
theorem bu_213_68 : mm_at mt_P 213 68 = some ((68, 1, .iadd, 0, 0, 0, 0), 7, 3, 1, 7, 2, 0, 0) := rfl
theorem bu_213_69 : mm_at mt_P 213 69 = some ((69, 3, .invokevirtual 88, 275, 0, 0, 532), 7, 3, 1, 7, 2, 0, 0) := rfl
theorem bu_213_72 : mm_at mt_P 213 72 = some ((72, 2, .iload 6, 0, 0, 0, 0), 7, 3, 1, 7, 2, 0, 0) := rfl
theorem bu_213_74 : mm_at mt_P 213 74 = some ((74, 3, .if_icmp .eq 5, 0, 0, 0, 0), 7, 3, 1, 7, 2, 0, 0) := rfl
theorem bu_213_77 : mm_at mt_P 213 77 = some ((77, 1, .iconst 0, 0, 0, 0, 0), 7, 3, 1, 7, 2, 0, 0) := rfl
theorem bu_213_78 : mm_at mt_P 213 78 = some ((78, 1, .ireturn, 0, 0, 0, 0), 7, 3, 1, 7, 2, 0, 0) := rfl
theorem bu_213_79 : mm_at mt_P 213 79 = some ((79, 3, .iinc 5 1, 0, 0, 0, 0), 7, 3, 1, 7, 2, 0, 0) := rfl
theorem bu_213_82 : mm_at mt_P 213 82 = some ((82, 3, .goto (-73), 0, 0, 0, 0), 7, 3, 1, 7, 2, 0, 0) := rfl
theorem bu_213_85 : mm_at mt_P 213 85 = some ((85, 1, .iconst 1, 0, 0, 0, 0), 7, 3, 1, 7, 2, 0, 0) := rfl
theorem bu_213_86 : mm_at mt_P 213 86 = some ((86, 1, .ireturn, 0, 0, 0, 0), 7, 3, 1, 7, 2, 0, 0) := rfl
theorem bu_219_0 : mm_at mt_P 219 0 = some ((0, 1, .iconst 0, 0, 0, 0, 0), 4, 2, 1, 7, 1, 0, 0) := rfl
theorem bu_219_1 : mm_at mt_P 219 1 = some ((1, 1, .istore_n 3, 0, 0, 0, 0), 4, 2, 1, 7, 1, 0, 0) := rfl
theorem bu_219_2 : mm_at mt_P 219 2 = some ((2, 1, .iload_n 3, 0, 0, 0, 0), 4, 2, 1, 7, 1, 0, 0) := rfl
theorem bu_219_3 : mm_at mt_P 219 3 = some ((3, 2, .bipush 24, 0, 0, 0, 0), 4, 2, 1, 7, 1, 0, 0) := rfl
theorem bu_219_5 : mm_at mt_P 219 5 = some ((5, 3, .if_icmp .ge 21, 0, 0, 0, 0), 4, 2, 1, 7, 1, 0, 0) := rfl
theorem bu_219_8 : mm_at mt_P 219 8 = some ((8, 1, .aload_n 0, 0, 0, 0, 0), 4, 2, 1, 7, 1, 0, 0) := rfl
theorem bu_219_9 : mm_at mt_P 219 9 = some ((9, 1, .iload_n 3, 0, 0, 0, 0), 4, 2, 1, 7, 1, 0, 0) := rfl
theorem bu_219_10 : mm_at mt_P 219 10 = some ((10, 1, .iload_n 1, 0, 0, 0, 0), 4, 2, 1, 7, 1, 0, 0) := rfl
theorem bu_219_11 : mm_at mt_P 219 11 = some ((11, 1, .iload_n 2, 0, 0, 0, 0), 4, 2, 1, 7, 1, 0, 0) := rfl
theorem bu_219_12 : mm_at mt_P 219 12 = some ((12, 3, .invokevirtual 79, 213, 0, 0, 517), 4, 2, 1, 7, 1, 0, 0) := rfl
theorem bu_219_15 : mm_at mt_P 219 15 = some ((15, 3, .ifCond .eq 5, 0, 0, 0, 0), 4, 2, 1, 7, 1, 0, 0) := rfl
theorem bu_219_18 : mm_at mt_P 219 18 = some ((18, 1, .iload_n 3, 0, 0, 0, 0), 4, 2, 1, 7, 1, 0, 0) := rfl
theorem bu_219_19 : mm_at mt_P 219 19 = some ((19, 1, .ireturn, 0, 0, 0, 0), 4, 2, 1, 7, 1, 0, 0) := rfl
theorem bu_219_20 : mm_at mt_P 219 20 = some ((20, 3, .iinc 3 1, 0, 0, 0, 0), 4, 2, 1, 7, 1, 0, 0) := rfl
theorem bu_219_23 : mm_at mt_P 219 23 = some ((23, 3, .goto (-21), 0, 0, 0, 0), 4, 2, 1, 7, 1, 0, 0) := rfl
theorem bu_219_26 : mm_at mt_P 219 26 = some ((26, 1, .iconst (-1), 0, 0, 0, 0), 4, 2, 1, 7, 1, 0, 0) := rfl
theorem bu_219_27 : mm_at mt_P 219 27 = some ((27, 1, .ireturn, 0, 0, 0, 0), 4, 2, 1, 7, 1, 0, 0) := rfl
section BTQ
variable {X : Nat → Int32} {n : Nat} {E : mm_E} {PO : mm_C → Prop} {NN : Nat} {h0 h : mm_H} {s : Nat → Int32} {A : Nat → Nat → Int32} {L : Nat → Nat → Int64} {gs : List mm_F}
set_option maxHeartbeats 4000000 in
theorem bt_w {p len w : Nat} {wv pv lv3 fv : Int32} {q4 q4' q6 q6' : mm_S} (hq4 : E.2[4]? = some q4) (hE4 : bs_E E 0 q4 q4') (hn4 : q4'.2.1 = 192) (hW4 : ∀ k, k < 24 → ∀ i, i < 8 → (q4'.2.2 (8 * k + i)).toInt = px_wc k i) (hq6 : E.2[6]? = some q6) (hE6 : bs_E E 1 q6 q6') (hn6 : q6'.2.1 = 9) (hW6 : ∀ i, i < 9 → (q6'.2.2 i).toInt = px_sw i) (hP : bm_P bq_T E h0 h s A L) (hX : A 1 = X) (hlen : (s 2105).toInt = (n : Int)) (hn2 : n ≤ 2000) (hb : ∀ j, j < n → -128 ≤ (X j).toInt ∧ (X j).toInt ≤ 127) (hl : ∀ j, j < len → px_lt (px_c X n (p + j)) = true) (hpl : p + len ≤ n) (h8 : len ≤ 8) (hw24 : w < 24) (hpv : pv.toInt = (p : Int)) (hlv : lv3.toInt = (len : Int)) (hfv : fv.toInt = 8 * (w : Int)) : ∀ NN : Nat, (∀ r : Int32, ((r.toInt = 1 ∧ ∀ i, i < 8 → px_si X n p len i = px_wc w i) ∨ (r.toInt = 0 ∧ ¬ ∀ i, i < 8 → px_si X n p len i = px_wc w i)) → bp_G E PO NN (mm_back (some (.int r)) gs h)) → ∀ (lv : mm_V) (o : Option Value) (i : Nat) (iv : Int32), mm_get lv 0 = some (.ref (E.1 + 21)) → mm_get lv 1 = some (.int wv) → mm_get lv 2 = some (.int pv) → mm_get lv 3 = some (.int lv3) → mm_get lv 4 = some (.int fv) → mm_get lv 5 = some (.int iv) → iv.toInt = (i : Int) → i ≤ 8 → (∀ j, j < i → px_si X n p len j = px_wc w j) → bp_G E PO NN ((213, 9, lv, [], 0, 0) :: gs, h, o) := by
  intro NN
  induction NN with
  | zero => intro kk lv o i iv g0 g1 g2 g3 g4 g5 hiv hi8 hi; exact bp_zero bu_213_9
  | succ NN ih =>
    intro kk lv o i iv g0 g1 g2 g3 g4 g5 hiv hi8 hi
    refine bp_ld (pc' := 11) bu_213_9 rfl rfl (fun _ _ _ => rfl) g5 rfl ?_
    refine bp_c (pc' := 13) (n := 8) bu_213_11 rfl rfl (fun _ _ _ => rfl) (by decide) (fun c4494 e4495 => ?_)
    refine bp_ic (pc' := 16) (pt := 85) bu_213_13 rfl rfl (fun k4496 => ?_) (fun k4496 => ?_)
    · replace k4496 : (c4494).toInt ≤ (iv).toInt := k4496
      refine bp_c (pc' := 86) (n := 1) bu_213_85 rfl rfl (fun _ _ _ => rfl) (by decide) (fun c4497 e4498 => ?_)
      refine bp_rbF bu_213_86 (fun rb4499 => ?_)
      exact kk _ (Or.inl ⟨by omega, fun j hj => hi j (by omega)⟩)
    · replace k4496 : ¬ ((c4494).toInt ≤ (iv).toInt) := k4496
      refine bp_ld (pc' := 18) bu_213_16 rfl rfl (fun _ _ _ => rfl) g5 rfl ?_
      refine bp_ld (pc' := 19) bu_213_18 rfl rfl (fun _ _ _ => rfl) g3 rfl ?_
      refine bp_ic (pc' := 22) (pt := 45) bu_213_19 rfl rfl (fun k4500 => ?_) (fun k4500 => ?_)
      · replace k4500 : (lv3).toInt ≤ (iv).toInt := k4500
        refine bp_c (pc' := 47) (n := 32) bu_213_45 rfl rfl (fun _ _ _ => rfl) (by decide) (fun c4501 e4502 => ?_)
        refine bp_st (pc' := 49) bu_213_47 rfl rfl (fun _ _ _ => rfl) rfl (by decide) (by decide) (fun lv4503 F4504 g4505 => ?_)
        have g4506 := F4504 0 (.ref (E.1 + 21)) g0 (by decide) (Or.inl rfl)
        have g4507 := F4504 1 (.int wv) g1 (by decide) (Or.inl rfl)
        have g4508 := F4504 2 (.int pv) g2 (by decide) (Or.inl rfl)
        have g4509 := F4504 3 (.int lv3) g3 (by decide) (Or.inl rfl)
        have g4510 := F4504 4 (.int fv) g4 (by decide) (Or.inl rfl)
        have g4511 := F4504 5 (.int iv) g5 (by decide) (Or.inl rfl)
        have hsi : px_si X n p len i = 32 := if_neg (by omega)
        refine bp_ld (pc' := 51) bu_213_49 rfl rfl (fun _ _ _ => rfl) g4510 rfl ?_
        refine bp_ld (pc' := 53) bu_213_51 rfl rfl (fun _ _ _ => rfl) g4511 rfl ?_
        refine bp_add (pc' := 54) bu_213_53 rfl (by omega) (by omega) (fun v4512 e4513 => ?_)
        refine bs_ldc (pc' := 56) bu_213_54 rfl (by decide) hq4 ?_
        refine bs_cv (pc' := 59) (st := [.int v4512]) (args := []) bu_213_56 rfl rfl (by decide) hE4 rfl (Nat.le_of_ble_eq_true rfl) (Nat.le_of_ble_eq_true rfl) ?_
        refine bq_281 hE4 (by omega) (fun r4514 e4515 => ?_)
        show bp_G E PO (NN + 1) ((213, 59, lv4503, [.int r4514, .int v4512], 0, 0) :: gs, h, none)
        refine bp_ic (pc' := 62) (pt := 77) bu_213_59 rfl rfl (fun k4516 => ?_) (fun k4516 => ?_)
        · replace k4516 : (r4514).toInt ≤ (v4512).toInt := k4516
          refine bp_c (pc' := 78) (n := 0) bu_213_77 rfl rfl (fun _ _ _ => rfl) (by decide) (fun c4517 e4518 => ?_)
          refine bp_rbF bu_213_78 (fun rb4519 => ?_)
          have wb := px_wc_b w hw24 i (by omega)
          exact kk _ (Or.inr ⟨by omega, fun q => by
            have q := q i (by omega)
            omega⟩)
        · replace k4516 : ¬ ((r4514).toInt ≤ (v4512).toInt) := k4516
          refine bs_ldc (pc' := 64) bu_213_62 rfl (by decide) hq4 ?_
          refine bp_ld (pc' := 66) bu_213_64 rfl rfl (fun _ _ _ => rfl) g4510 rfl ?_
          refine bp_ld (pc' := 68) bu_213_66 rfl rfl (fun _ _ _ => rfl) g4511 rfl ?_
          refine bp_add (pc' := 69) bu_213_68 rfl (by omega) (by omega) (fun v4520 e4521 => ?_)
          refine bs_cv (pc' := 72) (st := []) (args := [.int v4520]) bu_213_69 rfl rfl (by decide) hE4 rfl (Nat.le_of_ble_eq_true rfl) (Nat.le_of_ble_eq_true rfl) ?_
          refine bq_275 hE4 (by omega) (fun r4522 a4523 b4524 e4525 => ?_)
          rw [show (v4520).toInt.toNat = 8 * w + i by omega, hW4 w hw24 i (by omega)] at e4525
          show bp_G E PO (NN + 1) ((213, 72, lv4503, [.int r4522], 0, 0) :: gs, h, none)
          refine bp_ld (pc' := 74) bu_213_72 rfl rfl (fun _ _ _ => rfl) g4505 rfl ?_
          refine bp_ic (pc' := 77) (pt := 79) bu_213_74 rfl rfl (fun k4526 => ?_) (fun k4526 => ?_)
          · replace k4526 : (r4522).toInt = (c4501).toInt := k4526
            refine bp_inc (pc' := 82) bu_213_79 rfl (by decide) g4511 (by decide) (by omega) (by omega) (fun lv4527 y4530 F4528 g4529 e4531 => ?_)
            have g4532 := F4528 0 (.ref (E.1 + 21)) g4506 (by decide) (Or.inl rfl)
            have g4533 := F4528 1 (.int wv) g4507 (by decide) (Or.inl rfl)
            have g4534 := F4528 2 (.int pv) g4508 (by decide) (Or.inl rfl)
            have g4535 := F4528 3 (.int lv3) g4509 (by decide) (Or.inl rfl)
            have g4536 := F4528 4 (.int fv) g4510 (by decide) (Or.inl rfl)
            have g4537 := F4528 6 (.int c4501) g4505 (by decide) (Or.inl rfl)
            refine bp_goD (pc' := 9) bu_213_82 rfl ?_
            have wb := px_wc_b w hw24 i (by omega)
            exact ih (fun r a => bp_mono (Nat.le_succ NN) (kk r a)) _ _ (i + 1) _ g4532 g4533 g4534 g4535 g4536 g4529 (by omega) (by omega) (fun j hj => by
              by_cases e : j = i
              · rw [e]
                omega
              · exact hi j (by omega))
          · replace k4526 : ¬ ((r4522).toInt = (c4501).toInt) := k4526
            refine bp_c (pc' := 78) (n := 0) bu_213_77 rfl rfl (fun _ _ _ => rfl) (by decide) (fun c4538 e4539 => ?_)
            refine bp_rbF bu_213_78 (fun rb4540 => ?_)
            have wb := px_wc_b w hw24 i (by omega)
            exact kk _ (Or.inr ⟨by omega, fun q => by
              have q := q i (by omega)
              omega⟩)
      · replace k4500 : ¬ ((lv3).toInt ≤ (iv).toInt) := k4500
        refine bp_ld (pc' := 23) bu_213_22 rfl rfl (fun _ _ _ => rfl) g2 rfl ?_
        refine bp_ld (pc' := 25) bu_213_23 rfl rfl (fun _ _ _ => rfl) g5 rfl ?_
        refine bp_add (pc' := 26) bu_213_25 rfl (by omega) (by omega) (fun v4541 e4542 => ?_)
        refine bp_ld (pc' := 27) bu_213_26 rfl rfl (fun _ _ _ => rfl) g0 rfl ?_
        refine bn_gi (pc' := 30) (K := 2105) bu_213_27 rfl rfl (fun _ _ _ => rfl) hP bq_o21 bq_i21_5 rfl rfl ?_
        refine bp_ic (pc' := 33) (pt := 45) bu_213_30 rfl rfl (fun k4543 => ?_) (fun k4543 => ?_)
        · replace k4543 : ((s 2105)).toInt ≤ (v4541).toInt := k4543
          refine bp_c (pc' := 47) (n := 32) bu_213_45 rfl rfl (fun _ _ _ => rfl) (by decide) (fun c4544 e4545 => ?_)
          refine bp_st (pc' := 49) bu_213_47 rfl rfl (fun _ _ _ => rfl) rfl (by decide) (by decide) (fun lv4546 F4547 g4548 => ?_)
          have g4549 := F4547 0 (.ref (E.1 + 21)) g0 (by decide) (Or.inl rfl)
          have g4550 := F4547 1 (.int wv) g1 (by decide) (Or.inl rfl)
          have g4551 := F4547 2 (.int pv) g2 (by decide) (Or.inl rfl)
          have g4552 := F4547 3 (.int lv3) g3 (by decide) (Or.inl rfl)
          have g4553 := F4547 4 (.int fv) g4 (by decide) (Or.inl rfl)
          have g4554 := F4547 5 (.int iv) g5 (by decide) (Or.inl rfl)
          have hsi : px_si X n p len i = 32 := if_neg (by omega)
          refine bp_ld (pc' := 51) bu_213_49 rfl rfl (fun _ _ _ => rfl) g4553 rfl ?_
          refine bp_ld (pc' := 53) bu_213_51 rfl rfl (fun _ _ _ => rfl) g4554 rfl ?_
          refine bp_add (pc' := 54) bu_213_53 rfl (by omega) (by omega) (fun v4555 e4556 => ?_)
          refine bs_ldc (pc' := 56) bu_213_54 rfl (by decide) hq4 ?_
          refine bs_cv (pc' := 59) (st := [.int v4555]) (args := []) bu_213_56 rfl rfl (by decide) hE4 rfl (Nat.le_of_ble_eq_true rfl) (Nat.le_of_ble_eq_true rfl) ?_
          refine bq_281 hE4 (by omega) (fun r4557 e4558 => ?_)
          show bp_G E PO (NN + 1) ((213, 59, lv4546, [.int r4557, .int v4555], 0, 0) :: gs, h, none)
          refine bp_ic (pc' := 62) (pt := 77) bu_213_59 rfl rfl (fun k4559 => ?_) (fun k4559 => ?_)
          · replace k4559 : (r4557).toInt ≤ (v4555).toInt := k4559
            refine bp_c (pc' := 78) (n := 0) bu_213_77 rfl rfl (fun _ _ _ => rfl) (by decide) (fun c4560 e4561 => ?_)
            refine bp_rbF bu_213_78 (fun rb4562 => ?_)
            have wb := px_wc_b w hw24 i (by omega)
            exact kk _ (Or.inr ⟨by omega, fun q => by
              have q := q i (by omega)
              omega⟩)
          · replace k4559 : ¬ ((r4557).toInt ≤ (v4555).toInt) := k4559
            refine bs_ldc (pc' := 64) bu_213_62 rfl (by decide) hq4 ?_
            refine bp_ld (pc' := 66) bu_213_64 rfl rfl (fun _ _ _ => rfl) g4553 rfl ?_
            refine bp_ld (pc' := 68) bu_213_66 rfl rfl (fun _ _ _ => rfl) g4554 rfl ?_
            refine bp_add (pc' := 69) bu_213_68 rfl (by omega) (by omega) (fun v4563 e4564 => ?_)
            refine bs_cv (pc' := 72) (st := []) (args := [.int v4563]) bu_213_69 rfl rfl (by decide) hE4 rfl (Nat.le_of_ble_eq_true rfl) (Nat.le_of_ble_eq_true rfl) ?_
            refine bq_275 hE4 (by omega) (fun r4565 a4566 b4567 e4568 => ?_)
            rw [show (v4563).toInt.toNat = 8 * w + i by omega, hW4 w hw24 i (by omega)] at e4568
            show bp_G E PO (NN + 1) ((213, 72, lv4546, [.int r4565], 0, 0) :: gs, h, none)
            refine bp_ld (pc' := 74) bu_213_72 rfl rfl (fun _ _ _ => rfl) g4548 rfl ?_
            refine bp_ic (pc' := 77) (pt := 79) bu_213_74 rfl rfl (fun k4569 => ?_) (fun k4569 => ?_)
            · replace k4569 : (r4565).toInt = (c4544).toInt := k4569
              refine bp_inc (pc' := 82) bu_213_79 rfl (by decide) g4554 (by decide) (by omega) (by omega) (fun lv4570 y4573 F4571 g4572 e4574 => ?_)
              have g4575 := F4571 0 (.ref (E.1 + 21)) g4549 (by decide) (Or.inl rfl)
              have g4576 := F4571 1 (.int wv) g4550 (by decide) (Or.inl rfl)
              have g4577 := F4571 2 (.int pv) g4551 (by decide) (Or.inl rfl)
              have g4578 := F4571 3 (.int lv3) g4552 (by decide) (Or.inl rfl)
              have g4579 := F4571 4 (.int fv) g4553 (by decide) (Or.inl rfl)
              have g4580 := F4571 6 (.int c4544) g4548 (by decide) (Or.inl rfl)
              refine bp_goD (pc' := 9) bu_213_82 rfl ?_
              have wb := px_wc_b w hw24 i (by omega)
              exact ih (fun r a => bp_mono (Nat.le_succ NN) (kk r a)) _ _ (i + 1) _ g4575 g4576 g4577 g4578 g4579 g4572 (by omega) (by omega) (fun j hj => by
                by_cases e : j = i
                · rw [e]
                  omega
                · exact hi j (by omega))
            · replace k4569 : ¬ ((r4565).toInt = (c4544).toInt) := k4569
              refine bp_c (pc' := 78) (n := 0) bu_213_77 rfl rfl (fun _ _ _ => rfl) (by decide) (fun c4581 e4582 => ?_)
              refine bp_rbF bu_213_78 (fun rb4583 => ?_)
              have wb := px_wc_b w hw24 i (by omega)
              exact kk _ (Or.inr ⟨by omega, fun q => by
                have q := q i (by omega)
                omega⟩)
        · replace k4543 : ¬ (((s 2105)).toInt ≤ (v4541).toInt) := k4543
          refine bp_ld (pc' := 34) bu_213_33 rfl rfl (fun _ _ _ => rfl) g0 rfl ?_
          refine bn_gr (pc' := 37) (t := 1) bu_213_34 rfl rfl (fun _ _ _ => rfl) hP bq_o21 bq_r21_4 ?_
          refine bp_ld (pc' := 38) bu_213_37 rfl rfl (fun _ _ _ => rfl) g2 rfl ?_
          refine bp_ld (pc' := 40) bu_213_38 rfl rfl (fun _ _ _ => rfl) g5 rfl ?_
          refine bp_add (pc' := 41) bu_213_40 rfl (by omega) (by omega) (fun v4584 e4585 => ?_)
          refine bn_iaF (pc' := 42) bu_213_41 rfl rfl (fun _ _ _ => rfl) hP bq_a1 (Or.inl rfl) (fun b4586 b4587 => ?_)
          refine bp_go (pc' := 47) bu_213_42 rfl ?_
          refine bp_st (pc' := 49) bu_213_47 rfl rfl (fun _ _ _ => rfl) rfl (by decide) (by decide) (fun lv4588 F4589 g4590 => ?_)
          have g4591 := F4589 0 (.ref (E.1 + 21)) g0 (by decide) (Or.inl rfl)
          have g4592 := F4589 1 (.int wv) g1 (by decide) (Or.inl rfl)
          have g4593 := F4589 2 (.int pv) g2 (by decide) (Or.inl rfl)
          have g4594 := F4589 3 (.int lv3) g3 (by decide) (Or.inl rfl)
          have g4595 := F4589 4 (.int fv) g4 (by decide) (Or.inl rfl)
          have g4596 := F4589 5 (.int iv) g5 (by decide) (Or.inl rfl)
          have hA1 : (A 1 (v4584).toInt.toNat) = X (p + i) := by rw [show (v4584).toInt.toNat = p + i by omega, hX]
          have hA2 := congrArg Int32.toInt hA1
          have hsi : px_si X n p len i = (X (p + i)).toInt := by
            have b9 := hb (p + i) (by omega)
            have l9 := px_lt_iff.mp (hl i (by omega))
            unfold px_si
            rw [if_pos (by omega)]
            have c9 := px_c_sg (X := X) (n := n) (j := p + i) (by omega) b9.1 b9.2
            rw [c9]
            rw [c9] at l9
            split at l9 <;> omega
          refine bp_ld (pc' := 51) bu_213_49 rfl rfl (fun _ _ _ => rfl) g4595 rfl ?_
          refine bp_ld (pc' := 53) bu_213_51 rfl rfl (fun _ _ _ => rfl) g4596 rfl ?_
          refine bp_add (pc' := 54) bu_213_53 rfl (by omega) (by omega) (fun v4597 e4598 => ?_)
          refine bs_ldc (pc' := 56) bu_213_54 rfl (by decide) hq4 ?_
          refine bs_cv (pc' := 59) (st := [.int v4597]) (args := []) bu_213_56 rfl rfl (by decide) hE4 rfl (Nat.le_of_ble_eq_true rfl) (Nat.le_of_ble_eq_true rfl) ?_
          refine bq_281 hE4 (by omega) (fun r4599 e4600 => ?_)
          show bp_G E PO (NN + 1) ((213, 59, lv4588, [.int r4599, .int v4597], 0, 0) :: gs, h, none)
          refine bp_ic (pc' := 62) (pt := 77) bu_213_59 rfl rfl (fun k4601 => ?_) (fun k4601 => ?_)
          · replace k4601 : (r4599).toInt ≤ (v4597).toInt := k4601
            refine bp_c (pc' := 78) (n := 0) bu_213_77 rfl rfl (fun _ _ _ => rfl) (by decide) (fun c4602 e4603 => ?_)
            refine bp_rbF bu_213_78 (fun rb4604 => ?_)
            have wb := px_wc_b w hw24 i (by omega)
            exact kk _ (Or.inr ⟨by omega, fun q => by
              have q := q i (by omega)
              omega⟩)
          · replace k4601 : ¬ ((r4599).toInt ≤ (v4597).toInt) := k4601
            refine bs_ldc (pc' := 64) bu_213_62 rfl (by decide) hq4 ?_
            refine bp_ld (pc' := 66) bu_213_64 rfl rfl (fun _ _ _ => rfl) g4595 rfl ?_
            refine bp_ld (pc' := 68) bu_213_66 rfl rfl (fun _ _ _ => rfl) g4596 rfl ?_
            refine bp_add (pc' := 69) bu_213_68 rfl (by omega) (by omega) (fun v4605 e4606 => ?_)
            refine bs_cv (pc' := 72) (st := []) (args := [.int v4605]) bu_213_69 rfl rfl (by decide) hE4 rfl (Nat.le_of_ble_eq_true rfl) (Nat.le_of_ble_eq_true rfl) ?_
            refine bq_275 hE4 (by omega) (fun r4607 a4608 b4609 e4610 => ?_)
            rw [show (v4605).toInt.toNat = 8 * w + i by omega, hW4 w hw24 i (by omega)] at e4610
            show bp_G E PO (NN + 1) ((213, 72, lv4588, [.int r4607], 0, 0) :: gs, h, none)
            refine bp_ld (pc' := 74) bu_213_72 rfl rfl (fun _ _ _ => rfl) g4590 rfl ?_
            refine bp_ic (pc' := 77) (pt := 79) bu_213_74 rfl rfl (fun k4611 => ?_) (fun k4611 => ?_)
            · replace k4611 : (r4607).toInt = ((A 1 (v4584).toInt.toNat)).toInt := k4611
              refine bp_inc (pc' := 82) bu_213_79 rfl (by decide) g4596 (by decide) (by omega) (by omega) (fun lv4612 y4615 F4613 g4614 e4616 => ?_)
              have g4617 := F4613 0 (.ref (E.1 + 21)) g4591 (by decide) (Or.inl rfl)
              have g4618 := F4613 1 (.int wv) g4592 (by decide) (Or.inl rfl)
              have g4619 := F4613 2 (.int pv) g4593 (by decide) (Or.inl rfl)
              have g4620 := F4613 3 (.int lv3) g4594 (by decide) (Or.inl rfl)
              have g4621 := F4613 4 (.int fv) g4595 (by decide) (Or.inl rfl)
              have g4622 := F4613 6 (.int (A 1 (v4584).toInt.toNat)) g4590 (by decide) (Or.inl rfl)
              refine bp_goD (pc' := 9) bu_213_82 rfl ?_
              have wb := px_wc_b w hw24 i (by omega)
              exact ih (fun r a => bp_mono (Nat.le_succ NN) (kk r a)) _ _ (i + 1) _ g4617 g4618 g4619 g4620 g4621 g4614 (by omega) (by omega) (fun j hj => by
                by_cases e : j = i
                · rw [e]
                  omega
                · exact hi j (by omega))
            · replace k4611 : ¬ ((r4607).toInt = ((A 1 (v4584).toInt.toNat)).toInt) := k4611
              refine bp_c (pc' := 78) (n := 0) bu_213_77 rfl rfl (fun _ _ _ => rfl) (by decide) (fun c4623 e4624 => ?_)
              refine bp_rbF bu_213_78 (fun rb4625 => ?_)
              have wb := px_wc_b w hw24 i (by omega)
              exact kk _ (Or.inr ⟨by omega, fun q => by
                have q := q i (by omega)
                omega⟩)
theorem bt_213 {p len w : Nat} {wv pv lv3 : Int32} {q4 q4' q6 q6' : mm_S} (hq4 : E.2[4]? = some q4) (hE4 : bs_E E 0 q4 q4') (hn4 : q4'.2.1 = 192) (hW4 : ∀ k, k < 24 → ∀ i, i < 8 → (q4'.2.2 (8 * k + i)).toInt = px_wc k i) (hq6 : E.2[6]? = some q6) (hE6 : bs_E E 1 q6 q6') (hn6 : q6'.2.1 = 9) (hW6 : ∀ i, i < 9 → (q6'.2.2 i).toInt = px_sw i) (hP : bm_P bq_T E h0 h s A L) (hX : A 1 = X) (hlen : (s 2105).toInt = (n : Int)) (hn2 : n ≤ 2000) (hb : ∀ j, j < n → -128 ≤ (X j).toInt ∧ (X j).toInt ≤ 127) (hl : ∀ j, j < len → px_lt (px_c X n (p + j)) = true) (hpl : p + len ≤ n) (h8 : len ≤ 8) (hw24 : w < 24) (hwv : wv.toInt = (w : Int)) (hpv : pv.toInt = (p : Int)) (hlv : lv3.toInt = (len : Int)) (kk : (∀ r : Int32, ((r.toInt = 1 ∧ ∀ i, i < 8 → px_si X n p len i = px_wc w i) ∨ (r.toInt = 0 ∧ ¬ ∀ i, i < 8 → px_si X n p len i = px_wc w i)) → bp_G E PO NN (mm_back (some (.int r)) gs h))) : bp_G E PO NN ((213, 0, [(0, .ref (E.1 + 21)), (1, .int wv), (2, .int pv), (3, .int lv3)], [], 0, 0) :: gs, h, none) := by
  refine bp_ld (pc' := 1) bu_213_0 rfl rfl (fun _ _ _ => rfl) rfl rfl ?_
  refine bp_c (pc' := 3) (n := 8) bu_213_1 rfl rfl (fun _ _ _ => rfl) (by decide) (fun c4626 e4627 => ?_)
  refine bp_mul (pc' := 4) bu_213_3 rfl (by rw [e4627]; omega) (by rw [e4627]; omega) (fun v4628 e4629 => ?_)
  rw [e4627] at e4629
  refine bp_st (pc' := 6) bu_213_4 rfl rfl (fun _ _ _ => rfl) rfl (by decide) (by decide) (fun lv4630 F4631 g4632 => ?_)
  have g4633 := F4631 0 (.ref (E.1 + 21)) rfl (by decide) (Or.inl rfl)
  have g4634 := F4631 1 (.int wv) rfl (by decide) (Or.inl rfl)
  have g4635 := F4631 2 (.int pv) rfl (by decide) (Or.inl rfl)
  have g4636 := F4631 3 (.int lv3) rfl (by decide) (Or.inl rfl)
  refine bp_c (pc' := 7) (n := 0) bu_213_6 rfl rfl (fun _ _ _ => rfl) (by decide) (fun c4637 e4638 => ?_)
  refine bp_st (pc' := 9) bu_213_7 rfl rfl (fun _ _ _ => rfl) rfl (by decide) (by decide) (fun lv4639 F4640 g4641 => ?_)
  have g4642 := F4640 0 (.ref (E.1 + 21)) g4633 (by decide) (Or.inl rfl)
  have g4643 := F4640 1 (.int wv) g4634 (by decide) (Or.inl rfl)
  have g4644 := F4640 2 (.int pv) g4635 (by decide) (Or.inl rfl)
  have g4645 := F4640 3 (.int lv3) g4636 (by decide) (Or.inl rfl)
  have g4646 := F4640 4 (.int v4628) g4632 (by decide) (Or.inl rfl)
  exact bt_w (w := w) hq4 hE4 hn4 hW4 hq6 hE6 hn6 hW6 hP hX hlen hn2 hb hl hpl h8 hw24 hpv hlv (by omega) NN kk _ _ 0 _ g4642 g4643 g4644 g4645 g4646 g4641 (by omega) (by omega) (fun j hj => absurd hj (Nat.not_lt_zero j))
set_option maxHeartbeats 4000000 in
theorem bt_a {p len : Nat} {pv lv3 : Int32} {q4 q4' q6 q6' : mm_S} (hq4 : E.2[4]? = some q4) (hE4 : bs_E E 0 q4 q4') (hn4 : q4'.2.1 = 192) (hW4 : ∀ k, k < 24 → ∀ i, i < 8 → (q4'.2.2 (8 * k + i)).toInt = px_wc k i) (hq6 : E.2[6]? = some q6) (hE6 : bs_E E 1 q6 q6') (hn6 : q6'.2.1 = 9) (hW6 : ∀ i, i < 9 → (q6'.2.2 i).toInt = px_sw i) (hP : bm_P bq_T E h0 h s A L) (hX : A 1 = X) (hlen : (s 2105).toInt = (n : Int)) (hn2 : n ≤ 2000) (hb : ∀ j, j < n → -128 ≤ (X j).toInt ∧ (X j).toInt ≤ 127) (hl : ∀ j, j < len → px_lt (px_c X n (p + j)) = true) (hpl : p + len ≤ n) (h8 : len ≤ 8) (hpv : pv.toInt = (p : Int)) (hlv : lv3.toInt = (len : Int)) : ∀ NN : Nat, (∀ r : Int32, ((r.toInt = -1 ∧ px_wd X n p len = 24) ∨ (px_wd X n p len < 24 ∧ r.toInt = (px_wd X n p len : Nat))) → bp_G E PO NN (mm_back (some (.int r)) gs h)) → ∀ (lv : mm_V) (o : Option Value) (w : Nat) (wv : Int32), mm_get lv 0 = some (.ref (E.1 + 21)) → mm_get lv 1 = some (.int pv) → mm_get lv 2 = some (.int lv3) → mm_get lv 3 = some (.int wv) → wv.toInt = (w : Int) → w ≤ 24 → (∀ j, j < w → px_mw X n p len j = false) → bp_G E PO NN ((219, 2, lv, [], 0, 0) :: gs, h, o) := by
  intro NN
  induction NN with
  | zero => intro kk lv o w wv g0 g1 g2 g3 hwv hw hno; exact bp_zero bu_219_2
  | succ NN ih =>
    intro kk lv o w wv g0 g1 g2 g3 hwv hw hno
    refine bp_ld (pc' := 3) bu_219_2 rfl rfl (fun _ _ _ => rfl) g3 rfl ?_
    refine bp_c (pc' := 5) (n := 24) bu_219_3 rfl rfl (fun _ _ _ => rfl) (by decide) (fun c4647 e4648 => ?_)
    refine bp_ic (pc' := 8) (pt := 26) bu_219_5 rfl rfl (fun k4649 => ?_) (fun k4649 => ?_)
    · replace k4649 : (c4647).toInt ≤ (wv).toInt := k4649
      refine bp_c (pc' := 27) (n := -1) bu_219_26 rfl rfl (fun _ _ _ => rfl) (by decide) (fun c4650 e4651 => ?_)
      refine bp_ri bu_219_27 ?_
      exact kk _ (Or.inl ⟨by omega, px_wd_no (fun j hj => hno j (by omega))⟩)
    · replace k4649 : ¬ ((c4647).toInt ≤ (wv).toInt) := k4649
      refine bp_ld (pc' := 9) bu_219_8 rfl rfl (fun _ _ _ => rfl) g0 rfl ?_
      refine bp_ld (pc' := 10) bu_219_9 rfl rfl (fun _ _ _ => rfl) g3 rfl ?_
      refine bp_ld (pc' := 11) bu_219_10 rfl rfl (fun _ _ _ => rfl) g1 rfl ?_
      refine bp_ld (pc' := 12) bu_219_11 rfl rfl (fun _ _ _ => rfl) g2 rfl ?_
      refine bn_cvF (pc' := 15) (st := []) (args := [.int lv3, .int pv, .int wv]) bu_219_12 rfl rfl rfl (by decide) hP bq_o21 (by decide) rfl (Nat.le_of_ble_eq_true rfl) (Nat.le_of_ble_eq_true rfl) ?_
      have hmw := px_mw_si (X := X) (n := n) (p := p) (len := len) (k := w) (by omega) h8 hl
      refine bt_213 (w := w) hq4 hE4 hn4 hW4 hq6 hE6 hn6 hW6 hP hX hlen hn2 hb hl hpl h8 (by omega) (by omega) hpv hlv (fun r4652 p4653 => ?_)
      show bp_G E PO (NN + 1) ((219, 15, lv, [.int r4652], 0, 0) :: gs, h, none)
      refine bp_i0 (pc' := 18) (pt := 20) bu_219_15 rfl rfl (fun k4654 => ?_) (fun k4654 => ?_)
      · replace k4654 : (r4652).toInt = 0 := k4654
        refine bp_inc (pc' := 23) bu_219_20 rfl (by decide) g3 (by decide) (by omega) (by omega) (fun lv4655 y4658 F4656 g4657 e4659 => ?_)
        have g4660 := F4656 0 (.ref (E.1 + 21)) g0 (by decide) (Or.inl rfl)
        have g4661 := F4656 1 (.int pv) g1 (by decide) (Or.inl rfl)
        have g4662 := F4656 2 (.int lv3) g2 (by decide) (Or.inl rfl)
        refine bp_goD (pc' := 2) bu_219_23 rfl ?_
        exact ih (fun r a => bp_mono (Nat.le_succ NN) (kk r a)) _ _ (w + 1) _ g4660 g4661 g4662 g4657 (by omega) (by omega) (fun j hj => by
          by_cases e : j = w
          · rw [e]
            refine Bool.eq_false_iff.mpr (fun q => ?_)
            rcases p4653 with u | u
            · omega
            · exact u.2 (hmw.mp q)
          · exact hno j (by omega))
      · replace k4654 : ¬ ((r4652).toInt = 0) := k4654
        refine bp_ld (pc' := 19) bu_219_18 rfl rfl (fun _ _ _ => rfl) g3 rfl ?_
        refine bp_ri bu_219_19 ?_
        have hy : px_mw X n p len w = true := hmw.mpr (by
          rcases p4653 with u | u
          · exact u.2
          · omega)
        have ew := px_wd_eq (by omega) hy
        exact kk _ (Or.inr ⟨by omega, by rw [ew]; exact hwv⟩)
theorem bt_219 {p len : Nat} {pv lv3 : Int32} {q4 q4' q6 q6' : mm_S} (hq4 : E.2[4]? = some q4) (hE4 : bs_E E 0 q4 q4') (hn4 : q4'.2.1 = 192) (hW4 : ∀ k, k < 24 → ∀ i, i < 8 → (q4'.2.2 (8 * k + i)).toInt = px_wc k i) (hq6 : E.2[6]? = some q6) (hE6 : bs_E E 1 q6 q6') (hn6 : q6'.2.1 = 9) (hW6 : ∀ i, i < 9 → (q6'.2.2 i).toInt = px_sw i) (hP : bm_P bq_T E h0 h s A L) (hX : A 1 = X) (hlen : (s 2105).toInt = (n : Int)) (hn2 : n ≤ 2000) (hb : ∀ j, j < n → -128 ≤ (X j).toInt ∧ (X j).toInt ≤ 127) (hl : ∀ j, j < len → px_lt (px_c X n (p + j)) = true) (hpl : p + len ≤ n) (h8 : len ≤ 8) (hpv : pv.toInt = (p : Int)) (hlv : lv3.toInt = (len : Int)) (kk : (∀ r : Int32, ((r.toInt = -1 ∧ px_wd X n p len = 24) ∨ (px_wd X n p len < 24 ∧ r.toInt = (px_wd X n p len : Nat))) → bp_G E PO NN (mm_back (some (.int r)) gs h))) : bp_G E PO NN ((219, 0, [(0, .ref (E.1 + 21)), (1, .int pv), (2, .int lv3)], [], 0, 0) :: gs, h, none) := by
  refine bp_c (pc' := 1) (n := 0) bu_219_0 rfl rfl (fun _ _ _ => rfl) (by decide) (fun c4663 e4664 => ?_)
  refine bp_st (pc' := 2) bu_219_1 rfl rfl (fun _ _ _ => rfl) rfl (by decide) (by decide) (fun lv4665 F4666 g4667 => ?_)
  have g4668 := F4666 0 (.ref (E.1 + 21)) rfl (by decide) (Or.inl rfl)
  have g4669 := F4666 1 (.int pv) rfl (by decide) (Or.inl rfl)
  have g4670 := F4666 2 (.int lv3) rfl (by decide) (Or.inl rfl)
  exact bt_a hq4 hE4 hn4 hW4 hq6 hE6 hn6 hW6 hP hX hlen hn2 hb hl hpl h8 hpv hlv NN kk _ _ 0 _ g4668 g4669 g4670 g4667 (by omega) (by omega) (fun j hj => absurd hj (Nat.not_lt_zero j))
end BTQ
