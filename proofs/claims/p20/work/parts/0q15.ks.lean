/-! STEPS: a row copied into another, exact (wip/p8, by hand) -/
section KS2
variable {T : bm_T} {E : mm_E} {PO : mm_C → Prop} {NN : Nat} {h0 h : mm_H} {s : Nat → Int32} {A : Nat → Nat → Int32} {L : Nat → Nat → Int64} {m pc pc' pc0 len a b wd nL : Nat} {dd : mm_M} {z : Int} {lv : mm_V} {st : List Value} {gs : List mm_F} {o : Option Value}
theorem bn_acE {x c0 n0 c1 n1 N : Nat} {sp dp n : Int32} (hat : mm_at mt_P m pc = some ((pc0, len, .invokestatic x, 1, b, z, wd), nL, dd)) (hp : pc + len = pc') (hP : bm_P T E h0 h s A L) (h0' : (c0, 0, n0) ∈ T.2.2.2.2.1) (h1 : (c1, 0, n1) ∈ T.2.2.2.2.1) (hs0 : sp.toInt = 0) (hd0 : dp.toInt = 0) (hn : n.toInt = (N : Int)) (g : ∀ (h' : mm_H) (f : Nat → Int32), bm_P T E h0 h' s (bh_row A c1 f) L → (∀ j, j < N → f j = A c0 j) → bp_G E PO NN ((m, pc', lv, st, 0, 0) :: gs, h', none)) : bp_G E PO NN ((m, pc, lv, .int n :: .int dp :: .ref (E.1 + c1) :: .int sp :: .ref (E.1 + c0) :: st, 0, 0) :: gs, h, o) := by
  subst hp
  refine bp_any (bp_nm2 hat) (fun c' hs => ?_)
  obtain ⟨np, kd, ci2, rk2, mc, ms⟩ := dd
  have q0 := hP.2.2.2.1 (c0, 0, n0) h0'
  have q1 := hP.2.2.2.1 (c1, 0, n1) h1
  simp only at q0 q1
  simp only [mm_stp, hat, mm_inv] at hs
  rw [if_pos (show (1 : Nat) < 2 by decide)] at hs
  split at hs
  · split at hs
    · next e =>
      cases hs
      unfold mm_sp at e
      rw [if_neg (by decide), if_pos rfl] at e
      unfold mm_copy at e
      dsimp only at e
      rw [bh_cell, bh_cell, q0, q1] at e
      dsimp only at e
      split at e
      · cases e
        rw [Nat.add_sub_cancel_left]
        refine g _ _ (bm_setr hP (q := (c1, 0, n1)) h1 _) (fun j hj => ?_)
        have w1 : sp.toNatClampNeg = 0 := by
          show sp.toInt.toNat = 0
          omega
        have w2 : dp.toNatClampNeg = 0 := by
          show dp.toInt.toNat = 0
          omega
        have w3 : n.toNatClampNeg = N := by
          show n.toInt.toNat = N
          omega
        unfold va_cpy
        rw [w1, w2, w3, if_pos ⟨Nat.zero_le _, by omega⟩, Nat.zero_add, Nat.sub_zero]
      · cases e
    · cases hs
  · cases hs
end KS2
