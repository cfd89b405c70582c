/-! PURE: what a row of tokens tells, its numbers: ω 0 SHIP, 1 GOAL, 2 BROOM, 3 SEED, 4 .. 10 the LAWS: the token behind the word that told it last (0: not told) -/
def py_v (V : Nat → Int) (w i : Nat) (d : Int) : Int := if w = 0 then d else V (w + i)
def py_up (ω : Nat → Nat) (k w : Nat) : Nat → Nat := fun j => if j = k then w else ω j
def py_st (K : Nat → Int) (σ : py_S) (ω : Nat → Nat) : Nat → Nat :=
  if K σ.1 = 28 then py_up ω 0 (σ.1 + 1) else if K σ.1 = 29 then py_up ω 1 (σ.1 + 1) else if K σ.1 = 30 then py_up ω 2 (σ.1 + 1) else if K σ.1 = 31 then py_up ω 3 (σ.1 + 1)
  else if 21 ≤ K σ.1 ∧ K σ.1 ≤ 27 then py_up ω (4 + (K σ.1 - 21).toNat) (σ.1 + 1) else ω
def py_aw (K V : Nat → Int) (Q : Nat → Nat → Bool) : Nat → py_S → (Nat → Nat) → Nat → Nat
  | 0, _, ω => ω
  | r + 1, σ, ω => if σ.2.1 = 0 ∧ K σ.1 ≠ 0 then py_aw K V Q r (py_tell K V Q σ) (py_st K σ ω) else ω
def py_wend (K V : Nat → Int) (Q : Nat → Nat → Bool) : Nat → Nat := py_aw K V Q 401 (0, 0, 0, 0, []) (fun _ => 0)
theorem py_mu_st {K : Nat → Int} {k : Int} {σ : py_S} (h : (py_mu K k σ).2.1 = 0) : σ.2.1 = 0 ∧ K σ.1 = k ∧ (py_mu K k σ).1 = σ.1 + 1 ∧ (py_mu K k σ).2.2 = σ.2.2 := by
  by_cases c : σ.2.1 = 0 ∧ K σ.1 = k
  · have e : py_mu K k σ = py_go σ := if_pos c
    rw [e] at h ⊢
    refine ⟨c.1, c.2, (py_go_st h).2, ?_⟩
    by_cases e4 : σ.1 = 400
    · rw [py_go_e c.1 e4]
    · rw [py_go_s c.1 e4]
  · have e : py_mu K k σ = py_fl 1 σ := if_neg c
    rw [e] at h
    exact absurd h (py_fl_f (by decide))
section PZ
variable {K V : Nat → Int} {Q : Nat → Nat → Bool} {σ : py_S} {r : Nat} {ω : Nat → Nat}
theorem py_aw_s (h : σ.2.1 = 0) (hk : K σ.1 ≠ 0) : py_aw K V Q (r + 1) σ ω = py_aw K V Q r (py_tell K V Q σ) (py_st K σ ω) := if_pos ⟨h, hk⟩
theorem py_aw_e (h : ¬ (σ.2.1 = 0 ∧ K σ.1 ≠ 0)) : py_aw K V Q r σ ω = ω := by
  cases r with
  | zero => rfl
  | succ r => exact if_neg h
theorem py_up_i {k w : Nat} : py_up ω k w k = w := if_pos rfl
theorem py_up_o {k w j : Nat} (h : j ≠ k) : py_up ω k w j = ω j := if_neg h
theorem py_v_0 {i : Nat} {d : Int} : py_v V 0 i d = d := if_pos rfl
theorem py_v_s {w i : Nat} {d : Int} (h : w ≠ 0) : py_v V w i d = V (w + i) := if_neg h
theorem py_go_nm : (py_go σ).2.2.2.2 = σ.2.2.2.2 := by
  unfold py_go
  split
  · split <;> rfl
  · rfl
theorem py_nu_ok {lo hi : Int} (h : (py_nu K V lo hi σ).2.1 = 0) : σ.2.1 = 0 ∧ K σ.1 = 2 ∧ (py_nu K V lo hi σ).1 = σ.1 + 1 := by
  by_cases c : σ.2.1 = 0 ∧ K σ.1 = 2
  · unfold py_nu at h ⊢
    rw [if_pos c] at h ⊢
    refine ⟨c.1, c.2, ?_⟩
    split at h
    · next g =>
      rw [if_pos g, (py_go_st h).2, py_wr_t.1]
    · next g =>
      rw [if_neg g, (py_go_st h).2]
  · unfold py_nu at h
    rw [if_neg c] at h
    exact absurd h (py_fl_f (by decide))
/-- five numbers and what is behind them -/
theorem py_five_ok {l1 h1 l2 h2 l3 h3 l4 h4 l5 h5 k : Int} (h : (py_mu K k (py_nu K V l5 h5 (py_nu K V l4 h4 (py_nu K V l3 h3 (py_nu K V l2 h2 (py_nu K V l1 h1 σ)))))).2.1 = 0) : σ.2.1 = 0 ∧ K σ.1 = 2 ∧ ((py_nu K V l1 h1 σ).2.1 = 0 ∧ (py_nu K V l1 h1 σ).1 = σ.1 + 1 ∧ K (σ.1 + 1) = 2) ∧ ((py_nu K V l2 h2 (py_nu K V l1 h1 σ)).2.1 = 0 ∧ (py_nu K V l2 h2 (py_nu K V l1 h1 σ)).1 = σ.1 + 2 ∧ K (σ.1 + 2) = 2) ∧ ((py_nu K V l3 h3 (py_nu K V l2 h2 (py_nu K V l1 h1 σ))).2.1 = 0 ∧ (py_nu K V l3 h3 (py_nu K V l2 h2 (py_nu K V l1 h1 σ))).1 = σ.1 + 3 ∧ K (σ.1 + 3) = 2) ∧ (py_nu K V l4 h4 (py_nu K V l3 h3 (py_nu K V l2 h2 (py_nu K V l1 h1 σ)))).2.1 = 0 ∧ (py_nu K V l4 h4 (py_nu K V l3 h3 (py_nu K V l2 h2 (py_nu K V l1 h1 σ)))).1 = σ.1 + 4 ∧ K (σ.1 + 4) = 2 := by
  have a := (py_mu_st h).1
  obtain ⟨b1, b2, -⟩ := py_nu_ok a
  obtain ⟨c1, c2, c3⟩ := py_nu_ok b1
  obtain ⟨d1, d2, d3⟩ := py_nu_ok c1
  obtain ⟨e1, e2, e3⟩ := py_nu_ok d1
  obtain ⟨f1, f2, f3⟩ := py_nu_ok e1
  rw [c3, d3, e3, f3] at b2
  rw [d3, e3, f3] at c2
  rw [e3, f3] at d2
  rw [f3] at e2
  exact ⟨f1, f2, ⟨e1, f3, e2⟩, ⟨d1, by rw [e3, f3], d2⟩, ⟨c1, by rw [d3, e3, f3], c2⟩, b1, by rw [c3, d3, e3, f3], b2⟩
/-- three numbers and what is behind them -/
theorem py_three_ok {l1 h1 l2 h2 l3 h3 k : Int} (h : (py_mu K k (py_nu K V l3 h3 (py_nu K V l2 h2 (py_nu K V l1 h1 σ)))).2.1 = 0) : σ.2.1 = 0 ∧ K σ.1 = 2 ∧ ((py_nu K V l1 h1 σ).2.1 = 0 ∧ (py_nu K V l1 h1 σ).1 = σ.1 + 1 ∧ K (σ.1 + 1) = 2) ∧ (py_nu K V l2 h2 (py_nu K V l1 h1 σ)).2.1 = 0 ∧ (py_nu K V l2 h2 (py_nu K V l1 h1 σ)).1 = σ.1 + 2 ∧ K (σ.1 + 2) = 2 := by
  have a := (py_mu_st h).1
  obtain ⟨b1, b2, -⟩ := py_nu_ok a
  obtain ⟨c1, c2, c3⟩ := py_nu_ok b1
  obtain ⟨d1, d2, d3⟩ := py_nu_ok c1
  rw [c3, d3] at b2
  rw [d3] at c2
  exact ⟨d1, d2, ⟨c1, d3, c2⟩, b1, by rw [c3, d3], b2⟩
theorem py_one_ok {l1 h1 k : Int} (h : (py_mu K k (py_nu K V l1 h1 σ)).2.1 = 0) : σ.2.1 = 0 ∧ K σ.1 = 2 := by
  obtain ⟨b1, b2, -⟩ := py_nu_ok (py_mu_st h).1
  exact ⟨b1, b2⟩
end PZ
