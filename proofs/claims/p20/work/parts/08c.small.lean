/-! A run of the mini machine down to its last frame is a big step -/
section SMB
variable {E : mm_E} {kds : List (List Nat)} {P : mm_T}
theorem mm_big_mono (n : Nat) : ∀ (d : Nat) (f : mm_F) (h : mm_H) (r : Option Value × mm_H), mm_big E kds P n d f h = some r → mm_big E kds P (n + 1) d f h = some r := by
  induction n with
  | zero => intro d f h r hh; cases hh
  | succ n ih =>
    intro d f h r hh
    obtain ⟨m, pc, lv, st, cb, sb⟩ := f
    cases hat : mm_at P m pc with
    | none => simp [mm_big, hat] at hh
    | some q =>
      obtain ⟨⟨q0, len, ins, a, b, z, wd⟩, nL, np, kd, ci, rk, mc, ms⟩ := q
      rw [mm_big] at hh ⊢
      simp only [hat] at hh ⊢
      cases hi : mm_inv ins with
      | some ik =>
        simp only [hi] at hh ⊢
        by_cases hd : d = 0
        · rw [if_pos hd] at hh; cases hh
        · rw [if_neg hd] at hh ⊢
          by_cases ha : a < 2
          · rw [if_pos ha] at hh ⊢
            cases hs : mm_sp E a ik lv st cb sb h (pc + len) with
            | none => rw [hs] at hh; cases hh
            | some q =>
              obtain ⟨pc', lv', st', cb', sb', h'⟩ := q
              rw [hs] at hh
              exact ih _ _ _ _ hh
          · rw [if_neg ha] at hh ⊢
            cases hp : P[a]? with
            | none => rw [hp] at hh; cases hh
            | some q =>
              obtain ⟨cs1, nL1, np1, kd1, ci1, rk1, mc1, ms1⟩ := q
              rw [hp] at hh
              simp only [] at hh ⊢
              split at hh
              · rename_i hc
                rw [if_pos hc]
                cases hv : mm_recv E h kd1 ci1 (st.drop np1) with
                | none => rw [hv] at hh; cases hh
                | some q =>
                  obtain ⟨rv, rr⟩ := q
                  rw [hv] at hh
                  simp only [] at hh ⊢
                  split at hh
                  · rename_i hc2
                    rw [if_pos hc2]
                    cases hb : mm_big E kds P n (d - 1) (a, 0, lv_args 0 (rv ++ (st.take np1).reverse), [], mc1, ms1) h with
                    | none => rw [hb] at hh; cases hh
                    | some q =>
                      obtain ⟨v1, h1⟩ := q
                      rw [hb] at hh
                      rw [ih _ _ _ _ hb]
                      exact ih _ _ _ _ hh
                  · cases hh
              · cases hh
      | none =>
        simp only [hi] at hh ⊢
        cases hr : mm_rtn ins with
        | some ik =>
          simp only [hr] at hh ⊢
          exact hh
        | none =>
          simp only [hr] at hh ⊢
          cases hx : mm_ex E kds nL ins len a b z pc lv st cb sb h with
          | none => rw [hx] at hh; cases hh
          | some q =>
            obtain ⟨pc', lv', st', cb', sb', h'⟩ := q
            rw [hx] at hh
            exact ih _ _ _ _ hh
theorem mm_big_le {n k d : Nat} {f : mm_F} {h : mm_H} {r : Option Value × mm_H} (hh : mm_big E kds P n d f h = some r) : mm_big E kds P (n + k) d f h = some r := by
  induction k with
  | zero => exact hh
  | succ k ih => exact mm_big_mono _ _ _ _ _ ih
theorem mm_run_big {L : Nat} (hF : mm_H) (vF : Option Value) : ∀ (n : Nat) (f : mm_F) (fs : List mm_F) (h : mm_H) (o : Option Value), fs.length < L → mm_run E kds P L n (f :: fs, h, o) = some ([], hF, vF) → ∃ N v1 h1 k, mm_big E kds P N (L - 1 - fs.length) f h = some (v1, h1) ∧ k < n ∧ mm_run E kds P L k (mm_back v1 fs h1) = some ([], hF, vF) := by
  intro n
  induction n using Nat.strongRecOn with
  | _ n ih =>
    intro f fs h o hl hh
    cases n with
    | zero => cases hh
    | succ n =>
      have hh2 : (match mm_stp E kds P L (f :: fs, h, o) with
        | some c' => mm_run E kds P L n c'
        | none => none) = some ([], hF, vF) := hh
      cases hs : mm_stp E kds P L (f :: fs, h, o) with
      | none => rw [hs] at hh2; cases hh2
      | some c' =>
        rw [hs] at hh2
        simp only [] at hh2
        obtain ⟨m, pc, lv, st, cb, sb⟩ := f
        cases hat : mm_at P m pc with
        | none => simp [mm_stp, hat] at hs
        | some q =>
          obtain ⟨⟨q0, len, ins, a, b, z, wd⟩, nL, np, kd, ci, rk, mc, ms⟩ := q
          simp only [mm_stp, hat] at hs
          cases hi : mm_inv ins with
          | some ik =>
            simp only [hi] at hs
            by_cases ha : a < 2
            · rw [if_pos ha] at hs
              split at hs
              · rename_i hfl
                cases hsp : mm_sp E a ik lv st cb sb h (pc + len) with
                | none => rw [hsp] at hs; cases hs
                | some q =>
                  obtain ⟨pc', lv', st', cb', sb', h'⟩ := q
                  rw [hsp] at hs
                  cases hs
                  obtain ⟨N, v1, h1, k, e1, e2, e3⟩ := ih n (by omega) _ _ _ _ hl hh2
                  refine ⟨N + 1, v1, h1, k, ?_, by omega, e3⟩
                  rw [mm_big]
                  simp only [hat, hi]
                  rw [if_neg (by omega), if_pos ha, hsp]
                  exact e1
              · cases hs
            · rw [if_neg ha] at hs
              unfold mm_call at hs
              cases hp : P[a]? with
              | none => rw [hp] at hs; cases hs
              | some q =>
                obtain ⟨cs1, nL1, np1, kd1, ci1, rk1, mc1, ms1⟩ := q
                rw [hp] at hs
                simp only [] at hs
                split at hs
                · rename_i hc
                  cases hv : mm_recv E h kd1 ci1 (st.drop np1) with
                  | none => rw [hv] at hs; cases hs
                  | some q =>
                    obtain ⟨rv, rr⟩ := q
                    rw [hv] at hs
                    simp only [] at hs
                    split at hs
                    · rename_i hc2
                      cases hs
                      obtain ⟨N, v1, h1, k, e1, e2, e3⟩ := ih n (by omega) _ _ _ _ (by rw [List.length_cons]; omega) hh2
                      obtain ⟨N2, v2, h2, k2, g1, g2, g3⟩ := ih k (by omega) (m, pc + len, lv, v1.toList ++ rr, cb - mc1, sb - ms1) fs h1 none hl e3
                      refine ⟨N + N2 + 1, v2, h2, k2, ?_, by omega, g3⟩
                      rw [mm_big]
                      simp only [hat, hi]
                      rw [if_neg (by omega), if_neg ha, hp]
                      simp only []
                      rw [if_pos ⟨hc.1, hc.2.2.1, hc.2.2.2.1, hc.2.2.2.2⟩, hv]
                      simp only []
                      rw [if_pos hc2]
                      have e4 : L - 1 - (((m, pc + len, lv, rr, cb - mc1, sb - ms1) : mm_F) :: fs).length = L - 1 - fs.length - 1 := by rw [List.length_cons]; omega
                      rw [e4] at e1
                      rw [mm_big_le (k := N2) e1]
                      simp only []
                      rw [Nat.add_comm]
                      exact mm_big_le g1
                    · cases hs
                · cases hs
          | none =>
            simp only [hi] at hs
            cases hr : mm_rtn ins with
            | some ik =>
              simp only [hr] at hs
              cases hn : mm_ans rk ik st with
              | none => rw [hn] at hs; cases hs
              | some v =>
                rw [hn] at hs
                cases hs
                refine ⟨1, v, h, n, ?_, by omega, hh2⟩
                rw [mm_big]
                simp only [hat, hi, hr, hn]
            | none =>
              simp only [hr] at hs
              cases hx : mm_ex E kds nL ins len a b z pc lv st cb sb h with
              | none => rw [hx] at hs; cases hs
              | some q =>
                obtain ⟨pc', lv', st', cb', sb', h'⟩ := q
                rw [hx] at hs
                cases hs
                obtain ⟨N, v1, h1, k, e1, e2, e3⟩ := ih n (by omega) _ _ _ _ hl hh2
                refine ⟨N + 1, v1, h1, k, ?_, by omega, e3⟩
                rw [mm_big]
                simp only [hat, hi, hr, hx]
                exact e1
end SMB
