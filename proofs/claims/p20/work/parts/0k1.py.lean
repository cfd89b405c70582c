/-! PURE: what a row of tokens tells: FAULT (K kinds, V numbers, Q same names); a state: token, fault, later fault, its token, the names -/
abbrev py_S : Type := Nat × Nat × Nat × Nat × List Nat
section PY
variable (K V : Nat → Int) (Q : Nat → Nat → Bool)
def py_fl (k : Nat) (σ : py_S) : py_S := if σ.2.1 = 0 then (σ.1, k, σ.2.2) else σ
def py_go (σ : py_S) : py_S := if σ.2.1 = 0 then (if σ.1 = 400 then (σ.1, 2, σ.2.2) else (σ.1 + 1, σ.2)) else σ
def py_mu (k : Int) (σ : py_S) : py_S := if σ.2.1 = 0 ∧ K σ.1 = k then py_go σ else py_fl 1 σ
def py_wr (k τ : Nat) (σ : py_S) : py_S := if σ.2.1 = 0 ∧ σ.2.2.1 = 0 then (σ.1, σ.2.1, k, τ, σ.2.2.2.2) else σ
def py_nu (lo hi : Int) (σ : py_S) : py_S := if σ.2.1 = 0 ∧ K σ.1 = 2 then py_go (if V σ.1 < lo ∨ hi < V σ.1 then py_wr 5 σ.1 σ else σ) else py_fl 1 σ
/-- rest tokens; true: a unit is due; o brackets are open -/
def py_ex : Nat → Bool → Nat → py_S → py_S
  | 0, _, _, σ => σ
  | r + 1, true, o, σ => if σ.2.1 ≠ 0 then σ else if K σ.1 = 2 ∨ (35 ≤ K σ.1 ∧ K σ.1 ≤ 43) then py_ex r false o (py_go σ) else if K σ.1 = 6 then (if o = 6 then py_fl 2 σ else py_ex r true (o + 1) (py_go σ)) else py_fl 1 σ
  | r + 1, false, o, σ => if σ.2.1 ≠ 0 then σ else if K σ.1 = 7 ∧ 0 < o then py_ex r false (o - 1) (py_go σ) else if K σ.1 = 8 ∨ K σ.1 = 9 ∨ K σ.1 = 10 ∨ K σ.1 = 15 then py_ex r true o (py_go σ) else if 0 < o then py_fl 1 σ else σ
def py_x (m : Bool) (o : Nat) (σ : py_S) : py_S := py_ex K (401 - σ.1) m o σ
def py_ifs : Nat → py_S → py_S
  | 0, σ => if σ.2.1 = 0 ∧ K σ.1 = 32 then py_fl 2 σ else σ
  | c + 1, σ => if σ.2.1 = 0 ∧ K σ.1 = 32 then py_ifs c (py_mu K 34 (py_x K true 0 (py_mu K 33 (py_x K true 0 (py_mu K 13 (py_x K true 0 (py_go σ))))))) else σ
def py_law (σ : py_S) : py_S := py_mu K 4 (py_x K true 0 (py_ifs K 4 (py_mu K 5 (py_go σ))))
/-- the token at τ is a man's name -/
def py_nm (τ : Nat) (σ : py_S) : py_S := if σ.2.2.2.2.any (fun i => Q i τ) = true then py_wr 3 τ σ else σ
def py_ad (τ : Nat) (σ : py_S) : py_S := (σ.1, σ.2.1, σ.2.2.1, σ.2.2.2.1, σ.2.2.2.2 ++ [τ])
def py_five (σ : py_S) : py_S := py_nu K V 0 9 (py_nu K V 0 9 (py_nu K V 0 9 (py_nu K V 0 9 (py_nu K V 0 9 σ))))
def py_man (σ : py_S) : py_S := if σ.2.2.2.2.length = 6 then py_fl 2 σ else if (py_go σ).2.1 = 0 ∧ K (py_go σ).1 = 1 then py_mu K 4 (py_five K V (py_go (py_ad (py_go σ).1 (py_nm Q (py_go σ).1 (py_go σ))))) else py_fl 1 (py_go σ)
def py_tell (σ : py_S) : py_S :=
  if σ.2.1 ≠ 0 then σ
  else if K σ.1 = 20 then py_man K V Q σ
  else if 21 ≤ K σ.1 ∧ K σ.1 ≤ 27 then py_law K σ
  else if K σ.1 = 28 then py_mu K 4 (py_nu K V 0 99 (py_nu K V 0 999 (py_nu K V 1 99 (py_go σ))))
  else if K σ.1 = 29 then py_mu K 4 (py_nu K V 1 999 (py_go σ))
  else if K σ.1 = 30 ∨ K σ.1 = 31 then py_mu K 4 (py_nu K V 0 9999 (py_go σ))
  else py_fl 1 σ
def py_al : Nat → py_S → py_S
  | 0, σ => σ
  | r + 1, σ => if σ.2.1 = 0 ∧ K σ.1 ≠ 0 then py_al r (py_tell K V Q σ) else σ
def py_end : py_S := py_al K V Q 401 (0, 0, 0, 0, [])
end PY
def py_ft (σ : py_S) : Nat := if σ.2.1 ≠ 0 then σ.2.1 else σ.2.2.1
def py_pl (P : Nat → Nat) (σ : py_S) : Int := if σ.2.1 ≠ 0 then (P σ.1 : Nat) else if σ.2.2.1 ≠ 0 then (P σ.2.2.2.1 : Nat) else -1
section PY
variable {K V : Nat → Int} {Q : Nat → Nat → Bool} {σ : py_S} {r o : Nat} {m : Bool}
theorem py_ex_f (h : σ.2.1 ≠ 0) : py_ex K r m o σ = σ := by
  cases r with
  | zero => rfl
  | succ r =>
    cases m with
    | true => exact if_pos h
    | false => exact if_pos h
theorem py_x_f (h : σ.2.1 ≠ 0) : py_x K m o σ = σ := py_ex_f h
theorem py_go_f (h : σ.2.1 ≠ 0) : py_go σ = σ := if_neg h
theorem py_go_e (h : σ.2.1 = 0) (ht : σ.1 = 400) : py_go σ = (σ.1, 2, σ.2.2) := by
  unfold py_go
  rw [if_pos h, if_pos ht]
theorem py_go_s (h : σ.2.1 = 0) (ht : σ.1 ≠ 400) : py_go σ = (σ.1 + 1, σ.2) := by
  unfold py_go
  rw [if_pos h, if_neg ht]
theorem py_x_go (ht : σ.1 ≤ 400) : py_ex K (400 - σ.1) m o (py_go σ) = py_x K m o (py_go σ) := by
  unfold py_x
  by_cases h : σ.2.1 = 0
  · by_cases e : σ.1 = 400
    · rw [py_go_e h e]
      rw [py_ex_f (show (2 : Nat) ≠ 0 by decide), py_ex_f (show (2 : Nat) ≠ 0 by decide)]
    · rw [py_go_s h e]
      show py_ex K (400 - σ.1) m o (σ.1 + 1, σ.2) = py_ex K (401 - (σ.1 + 1)) m o (σ.1 + 1, σ.2)
      rw [show 401 - (σ.1 + 1) = 400 - σ.1 by omega]
  · rw [py_go_f h, py_ex_f h, py_ex_f h]
theorem py_x_u (ht : σ.1 ≤ 400) (h : σ.2.1 = 0) (hk : K σ.1 = 2 ∨ (35 ≤ K σ.1 ∧ K σ.1 ≤ 43)) : py_x K true o σ = py_x K false o (py_go σ) := by
  rw [← py_x_go ht]
  unfold py_x
  rw [show 401 - σ.1 = (400 - σ.1) + 1 by omega]
  show (if σ.2.1 ≠ 0 then σ else _) = _
  rw [if_neg (not_not_intro h), if_pos hk]
theorem py_x_o (ht : σ.1 ≤ 400) (h : σ.2.1 = 0) (hk : K σ.1 = 6) : py_x K true o σ = if o = 6 then py_fl 2 σ else py_x K true (o + 1) (py_go σ) := by
  rw [← py_x_go ht]
  unfold py_x
  rw [show 401 - σ.1 = (400 - σ.1) + 1 by omega]
  show (if σ.2.1 ≠ 0 then σ else _) = _
  rw [if_neg (not_not_intro h), if_neg (by omega), if_pos hk]
theorem py_x_n (ht : σ.1 ≤ 400) (h : σ.2.1 = 0) (hk : ¬ (K σ.1 = 2 ∨ (35 ≤ K σ.1 ∧ K σ.1 ≤ 43))) (hk2 : K σ.1 ≠ 6) : py_x K true o σ = py_fl 1 σ := by
  unfold py_x
  rw [show 401 - σ.1 = (400 - σ.1) + 1 by omega]
  show (if σ.2.1 ≠ 0 then σ else _) = _
  rw [if_neg (not_not_intro h), if_neg hk, if_neg hk2]
theorem py_x_c (ht : σ.1 ≤ 400) (h : σ.2.1 = 0) (hk : K σ.1 = 7) (ho : 0 < o) : py_x K false o σ = py_x K false (o - 1) (py_go σ) := by
  rw [← py_x_go ht]
  unfold py_x
  rw [show 401 - σ.1 = (400 - σ.1) + 1 by omega]
  show (if σ.2.1 ≠ 0 then σ else _) = _
  rw [if_neg (not_not_intro h), if_pos ⟨hk, ho⟩]
theorem py_x_p (ht : σ.1 ≤ 400) (h : σ.2.1 = 0) (hk : K σ.1 = 8 ∨ K σ.1 = 9 ∨ K σ.1 = 10 ∨ K σ.1 = 15) : py_x K false o σ = py_x K true o (py_go σ) := by
  rw [← py_x_go ht]
  unfold py_x
  rw [show 401 - σ.1 = (400 - σ.1) + 1 by omega]
  show (if σ.2.1 ≠ 0 then σ else _) = _
  rw [if_neg (not_not_intro h), if_neg (by omega), if_pos hk]
theorem py_x_d (ht : σ.1 ≤ 400) (h : σ.2.1 = 0) (hk : ¬ (K σ.1 = 8 ∨ K σ.1 = 9 ∨ K σ.1 = 10 ∨ K σ.1 = 15)) (hk2 : K σ.1 ≠ 7 ∨ o = 0) : py_x K false o σ = if 0 < o then py_fl 1 σ else σ := by
  unfold py_x
  rw [show 401 - σ.1 = (400 - σ.1) + 1 by omega]
  show (if σ.2.1 ≠ 0 then σ else _) = _
  rw [if_neg (not_not_intro h), if_neg (by omega), if_neg hk]
/-- a step forward, or a FAULT -/
def py_mo (σ τ : py_S) : Prop := (σ.1 ≤ 400 → τ.1 ≤ 400) ∧ (τ.2.1 = 0 → σ.2.1 = 0 ∧ σ.1 ≤ τ.1)
theorem py_mo_r : py_mo σ σ := ⟨id, fun h => ⟨h, Nat.le_refl _⟩⟩
theorem py_mo_t {σ τ υ : py_S} (a : py_mo σ τ) (b : py_mo τ υ) : py_mo σ υ := ⟨fun h => b.1 (a.1 h), fun h => ⟨(a.2 (b.2 h).1).1, Nat.le_trans (a.2 (b.2 h).1).2 (b.2 h).2⟩⟩
theorem py_fl_t {k : Nat} : (py_fl k σ).1 = σ.1 := by
  unfold py_fl
  by_cases h : σ.2.1 = 0
  · rw [if_pos h]
  · rw [if_neg h]
theorem py_fl_f {k : Nat} (hk : k ≠ 0) : (py_fl k σ).2.1 ≠ 0 := by
  unfold py_fl
  by_cases h : σ.2.1 = 0
  · rw [if_pos h]
    exact hk
  · rw [if_neg h]
    exact h
theorem py_mo_fl {k : Nat} (hk : k ≠ 0) : py_mo σ (py_fl k σ) := ⟨fun h => by rw [py_fl_t]; exact h, fun h => absurd h (py_fl_f hk)⟩
theorem py_go_st (h : (py_go σ).2.1 = 0) : σ.2.1 = 0 ∧ (py_go σ).1 = σ.1 + 1 := by
  by_cases h0 : σ.2.1 = 0
  · by_cases e : σ.1 = 400
    · rw [py_go_e h0 e] at h
      cases h
    · rw [py_go_s h0 e]
      exact ⟨h0, rfl⟩
  · rw [py_go_f h0] at h
    exact absurd h h0
theorem py_mo_go : py_mo σ (py_go σ) := by
  refine ⟨fun h => ?_, fun h => ⟨(py_go_st h).1, by rw [(py_go_st h).2]; exact Nat.le_succ _⟩⟩
  by_cases h0 : σ.2.1 = 0
  · by_cases e : σ.1 = 400
    · rw [py_go_e h0 e]
      exact h
    · rw [py_go_s h0 e]
      show σ.1 + 1 ≤ 400
      omega
  · rw [py_go_f h0]
    exact h
theorem py_mo_mu {k : Int} : py_mo σ (py_mu K k σ) := by
  unfold py_mu
  by_cases h : σ.2.1 = 0 ∧ K σ.1 = k
  · rw [if_pos h]
    exact py_mo_go
  · rw [if_neg h]
    exact py_mo_fl (by decide)
theorem py_wr_t {k t : Nat} : (py_wr k t σ).1 = σ.1 ∧ (py_wr k t σ).2.1 = σ.2.1 ∧ (py_wr k t σ).2.2.2.2 = σ.2.2.2.2 := by
  unfold py_wr
  by_cases h : σ.2.1 = 0 ∧ σ.2.2.1 = 0
  · rw [if_pos h]
    exact ⟨rfl, rfl, rfl⟩
  · rw [if_neg h]
    exact ⟨rfl, rfl, rfl⟩
theorem py_mo_wr {k t : Nat} : py_mo σ (py_wr k t σ) := ⟨fun h => by rw [py_wr_t.1]; exact h, fun h => by rw [py_wr_t.2.1] at h; exact ⟨h, Nat.le_of_eq py_wr_t.1.symm⟩⟩
theorem py_mo_nu {lo hi : Int} : py_mo σ (py_nu K V lo hi σ) := by
  unfold py_nu
  by_cases h : σ.2.1 = 0 ∧ K σ.1 = 2
  · rw [if_pos h]
    refine py_mo_t ?_ py_mo_go
    by_cases g : V σ.1 < lo ∨ hi < V σ.1
    · rw [if_pos g]
      exact py_mo_wr
    · rw [if_neg g]
      exact py_mo_r
  · rw [if_neg h]
    exact py_mo_fl (by decide)
theorem py_mo_ex : ∀ (r : Nat) (m : Bool) (o : Nat) (σ : py_S), py_mo σ (py_ex K r m o σ) := by
  intro r
  induction r with
  | zero => exact fun _ _ _ => py_mo_r
  | succ r ih =>
    intro m o σ
    cases m with
    | true =>
      show py_mo σ (if σ.2.1 ≠ 0 then σ else if K σ.1 = 2 ∨ (35 ≤ K σ.1 ∧ K σ.1 ≤ 43) then py_ex K r false o (py_go σ) else if K σ.1 = 6 then (if o = 6 then py_fl 2 σ else py_ex K r true (o + 1) (py_go σ)) else py_fl 1 σ)
      split
      · exact py_mo_r
      split
      · exact py_mo_t py_mo_go (ih _ _ _)
      split
      · split
        · exact py_mo_fl (by decide)
        · exact py_mo_t py_mo_go (ih _ _ _)
      · exact py_mo_fl (by decide)
    | false =>
      show py_mo σ (if σ.2.1 ≠ 0 then σ else if K σ.1 = 7 ∧ 0 < o then py_ex K r false (o - 1) (py_go σ) else if K σ.1 = 8 ∨ K σ.1 = 9 ∨ K σ.1 = 10 ∨ K σ.1 = 15 then py_ex K r true o (py_go σ) else if 0 < o then py_fl 1 σ else σ)
      split
      · exact py_mo_r
      split
      · exact py_mo_t py_mo_go (ih _ _ _)
      split
      · exact py_mo_t py_mo_go (ih _ _ _)
      split
      · exact py_mo_fl (by decide)
      · exact py_mo_r
theorem py_mo_x {σ : py_S} {m : Bool} {o : Nat} : py_mo σ (py_x K m o σ) := py_mo_ex _ _ _ _
theorem py_mo_ifs : ∀ (c : Nat) (σ : py_S), py_mo σ (py_ifs K c σ) := by
  intro c
  induction c with
  | zero =>
    intro σ
    show py_mo σ (if σ.2.1 = 0 ∧ K σ.1 = 32 then py_fl 2 σ else σ)
    split
    · exact py_mo_fl (by decide)
    · exact py_mo_r
  | succ c ih =>
    intro σ
    show py_mo σ (if σ.2.1 = 0 ∧ K σ.1 = 32 then py_ifs K c (py_mu K 34 (py_x K true 0 (py_mu K 33 (py_x K true 0 (py_mu K 13 (py_x K true 0 (py_go σ))))))) else σ)
    split
    · exact py_mo_t py_mo_go (py_mo_t py_mo_x (py_mo_t py_mo_mu (py_mo_t py_mo_x (py_mo_t py_mo_mu (py_mo_t py_mo_x (py_mo_t py_mo_mu (ih _)))))))
    · exact py_mo_r
theorem py_mo_law : py_mo (py_go σ) (py_law K σ) := py_mo_t py_mo_mu (py_mo_t (py_mo_ifs _ _) (py_mo_t py_mo_x py_mo_mu))
theorem py_mo_five : py_mo σ (py_five K V σ) := py_mo_t py_mo_nu (py_mo_t py_mo_nu (py_mo_t py_mo_nu (py_mo_t py_mo_nu py_mo_nu)))
theorem py_mo_nm {t : Nat} : py_mo σ (py_nm Q t σ) := by
  unfold py_nm
  split
  · exact py_mo_wr
  · exact py_mo_r
theorem py_mo_ad {t : Nat} : py_mo σ (py_ad t σ) := ⟨id, fun h => ⟨h, Nat.le_refl _⟩⟩
theorem py_mo_man : py_mo (py_go σ) (py_man K V Q σ) ∨ py_man K V Q σ = py_fl 2 σ := by
  unfold py_man
  split
  · exact Or.inr rfl
  split
  · exact Or.inl (py_mo_t py_mo_nm (py_mo_t py_mo_ad (py_mo_t py_mo_go (py_mo_t py_mo_five py_mo_mu))))
  · exact Or.inl (py_mo_fl (by decide))
theorem py_go_lt (h : σ.2.1 = 0) {τ : py_S} (g : py_mo (py_go σ) τ) (h2 : τ.2.1 = 0) : σ.1 + 1 ≤ τ.1 := by
  have g1 := g.2 h2
  have g2 := py_go_st g1.1
  rw [g2.2] at g1
  exact g1.2
theorem py_tell_lt (h : σ.2.1 = 0) (h2 : (py_tell K V Q σ).2.1 = 0) : σ.1 + 1 ≤ (py_tell K V Q σ).1 := by
  revert h2
  unfold py_tell
  rw [if_neg (not_not_intro h)]
  split
  · intro h2
    rcases py_mo_man (K := K) (V := V) (Q := Q) (σ := σ) with g | g
    · exact py_go_lt h g h2
    · rw [g] at h2
      exact absurd h2 (py_fl_f (by decide))
  split
  · exact fun h2 => py_go_lt h py_mo_law h2
  split
  · exact fun h2 => py_go_lt h (py_mo_t py_mo_nu (py_mo_t py_mo_nu (py_mo_t py_mo_nu py_mo_mu))) h2
  split
  · exact fun h2 => py_go_lt h (py_mo_t py_mo_nu py_mo_mu) h2
  split
  · exact fun h2 => py_go_lt h (py_mo_t py_mo_nu py_mo_mu) h2
  · exact fun h2 => absurd h2 (py_fl_f (by decide))
theorem py_mo_tell (h : σ.2.1 = 0) : py_mo σ (py_tell K V Q σ) := by
  unfold py_tell
  rw [if_neg (not_not_intro h)]
  split
  · rcases py_mo_man (K := K) (V := V) (Q := Q) (σ := σ) with g | g
    · exact py_mo_t py_mo_go g
    · rw [g]
      exact py_mo_fl (by decide)
  split
  · exact py_mo_t py_mo_go py_mo_law
  split
  · exact py_mo_t py_mo_go (py_mo_t py_mo_nu (py_mo_t py_mo_nu (py_mo_t py_mo_nu py_mo_mu)))
  split
  · exact py_mo_t py_mo_go (py_mo_t py_mo_nu py_mo_mu)
  split
  · exact py_mo_t py_mo_go (py_mo_t py_mo_nu py_mo_mu)
  · exact py_mo_fl (by decide)
theorem py_al_s {r : Nat} (h : σ.2.1 = 0) (hk : K σ.1 ≠ 0) : py_al K V Q (r + 1) σ = py_al K V Q r (py_tell K V Q σ) := if_pos ⟨h, hk⟩
theorem py_al_e {r : Nat} (h : ¬ (σ.2.1 = 0 ∧ K σ.1 ≠ 0)) : py_al K V Q r σ = σ := by
  cases r with
  | zero => rfl
  | succ r => exact if_neg h
end PY
