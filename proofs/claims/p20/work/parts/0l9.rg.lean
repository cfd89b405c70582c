/-! PURE: what is told lies within its bounds, where reading finds no FAULT (wip/p8, by hand) -/
section RG
variable {K V : Nat → Int} {Q : Nat → Nat → Bool} {σ : py_S} {ω : Nat → Nat}
theorem py_fl_w {k : Nat} : (py_fl k σ).2.2 = σ.2.2 := by
  unfold py_fl
  split <;> rfl
theorem py_go_w : (py_go σ).2.2 = σ.2.2 := by
  unfold py_go
  split
  · split <;> rfl
  · rfl
theorem py_mu_w {k : Int} : (py_mu K k σ).2.2 = σ.2.2 := by
  unfold py_mu
  split
  · exact py_go_w
  · exact py_fl_w
theorem py_ex_w : ∀ (r : Nat) (m : Bool) (o : Nat) (σ : py_S), (py_ex K r m o σ).2.2 = σ.2.2 := by
  intro r
  induction r with
  | zero => intro m o σ; rfl
  | succ r ih =>
    intro m o σ
    cases m <;> (simp only [py_ex]; (repeat' split) <;> first | rfl | exact py_fl_w | (rw [ih]; exact py_go_w))
theorem py_x_w {m : Bool} {o : Nat} : (py_x K m o σ).2.2 = σ.2.2 := py_ex_w _ _ _ _
theorem py_ifs_w : ∀ (c : Nat) (σ : py_S), (py_ifs K c σ).2.2 = σ.2.2 := by
  intro c
  induction c with
  | zero =>
    intro σ
    unfold py_ifs
    split
    · exact py_fl_w
    · rfl
  | succ c ih =>
    intro σ
    unfold py_ifs
    split
    · rw [ih, py_mu_w, py_x_w, py_mu_w, py_x_w, py_mu_w, py_x_w, py_go_w]
    · rfl
theorem py_law_w : (py_law K σ).2.2 = σ.2.2 := by
  unfold py_law
  rw [py_mu_w, py_x_w, py_ifs_w, py_mu_w, py_go_w]
theorem py_nu_rg {lo hi : Int} (h : (py_nu K V lo hi σ).2.1 = 0) (w : (py_nu K V lo hi σ).2.2.1 = 0) : σ.2.2.1 = 0 ∧ lo ≤ V σ.1 ∧ V σ.1 ≤ hi := by
  have c := py_nu_ok h
  unfold py_nu at w
  rw [if_pos ⟨c.1, c.2.1⟩, py_go_w] at w
  by_cases g : V σ.1 < lo ∨ hi < V σ.1
  · exfalso
    rw [if_pos g] at w
    unfold py_wr at w
    by_cases e : σ.2.2.1 = 0
    · rw [if_pos ⟨c.1, e⟩] at w
      exact absurd (show (5 : Nat) = 0 from w) (by decide)
    · rw [if_neg (fun q => e q.2)] at w
      exact e w
  · rw [if_neg g] at w
    exact ⟨w, by omega, by omega⟩
theorem py_nm_w {τ : Nat} (w : (py_nm Q τ σ).2.2.1 = 0) : σ.2.2.1 = 0 := by
  unfold py_nm at w
  split at w
  · unfold py_wr at w
    split at w
    · exact absurd (show (3 : Nat) = 0 from w) (by decide)
    · exact w
  · exact w
/-- a man told, in his bounds -/
theorem py_man_rg (h : (py_man K V Q σ).2.1 = 0) (w : (py_man K V Q σ).2.2.1 = 0) : σ.2.2.1 = 0 ∧ ∀ p, p < 5 → 0 ≤ V ((py_go σ).1 + 1 + p) ∧ V ((py_go σ).1 + 1 + p) ≤ 9 := by
  unfold py_man at h w
  by_cases c1 : σ.2.2.2.2.length = 6
  · rw [if_pos c1] at h
    exact absurd h (py_fl_f (by decide))
  rw [if_neg c1] at h w
  have c2 : (py_go σ).2.1 = 0 ∧ K (py_go σ).1 = 1 := by
    by_cases c2 : (py_go σ).2.1 = 0 ∧ K (py_go σ).1 = 1
    · exact c2
    · rw [if_neg c2] at h
      exact absurd h (py_fl_f (by decide))
  rw [if_pos c2] at h w
  rw [py_mu_w] at w
  have f := (py_mu_st h).1
  unfold py_five at f w
  have g5 := py_nu_rg f w
  have o5 := py_nu_ok f
  have g4 := py_nu_rg o5.1 g5.1
  have o4 := py_nu_ok o5.1
  have g3 := py_nu_rg o4.1 g4.1
  have o3 := py_nu_ok o4.1
  have g2 := py_nu_rg o3.1 g3.1
  have o2 := py_nu_ok o3.1
  have g1 := py_nu_rg o2.1 g2.1
  have o1 := py_nu_ok o2.1
  have a := (py_go_st o1.1).2
  have b : (py_go (py_ad (py_go σ).1 (py_nm Q (py_go σ).1 (py_go σ)))).1 = (py_go σ).1 + 1 := a.trans (congrArg (fun z => z + 1) (show (py_ad (py_go σ).1 (py_nm Q (py_go σ).1 (py_go σ))).1 = (py_go σ).1 from (py_nm_t (Q := Q)).1))
  have w0 : σ.2.2.1 = 0 := by
    have u := g1.1
    rw [py_go_w] at u
    have u := py_nm_w (show (py_nm Q (py_go σ).1 (py_go σ)).2.2.1 = 0 from u)
    rw [py_go_w] at u
    exact u
  rw [o4.2.2, o3.2.2, o2.2.2, o1.2.2, b] at g5
  rw [o3.2.2, o2.2.2, o1.2.2, b] at g4
  rw [o2.2.2, o1.2.2, b] at g3
  rw [o1.2.2, b] at g2
  rw [b] at g1
  refine ⟨w0, fun p hp => ?_⟩
  rcases (show p = 0 ∨ p = 1 ∨ p = 2 ∨ p = 3 ∨ p = 4 by omega) with rfl | rfl | rfl | rfl | rfl
  · exact g1.2
  · exact g2.2
  · exact g3.2
  · exact g4.2
  · exact g5.2
/-- what is told, in its bounds -/
def py_RG (V : Nat → Int) (ns : List Nat) (ω : Nat → Nat) : Prop := (∀ i, i < ns.length → ∀ p, p < 5 → 0 ≤ V (ns.getD i 0 + 1 + p) ∧ V (ns.getD i 0 + 1 + p) ≤ 9) ∧ (1 ≤ py_v V (ω 0) 0 20 ∧ py_v V (ω 0) 0 20 ≤ 99) ∧ (0 ≤ py_v V (ω 0) 1 99 ∧ py_v V (ω 0) 1 99 ≤ 999) ∧ (0 ≤ py_v V (ω 0) 2 50 ∧ py_v V (ω 0) 2 50 ≤ 99) ∧ (1 ≤ py_v V (ω 1) 0 60 ∧ py_v V (ω 1) 0 60 ≤ 999) ∧ (0 ≤ py_v V (ω 2) 0 999 ∧ py_v V (ω 2) 0 999 ≤ 9999) ∧ 0 ≤ py_v V (ω 3) 0 0 ∧ py_v V (ω 3) 0 0 ≤ 9999
theorem py_RG_0 : py_RG V [] (fun _ => 0) := ⟨fun i hi => absurd hi (Nat.not_lt_zero i), show (1 : Int) ≤ 20 ∧ (20 : Int) ≤ 99 by decide, show (0 : Int) ≤ 99 ∧ (99 : Int) ≤ 999 by decide, show (0 : Int) ≤ 50 ∧ (50 : Int) ≤ 99 by decide, show (1 : Int) ≤ 60 ∧ (60 : Int) ≤ 999 by decide, show (0 : Int) ≤ 999 ∧ (999 : Int) ≤ 9999 by decide, show (0 : Int) ≤ 0 ∧ (0 : Int) ≤ 9999 by decide⟩
theorem py_RG_man {ns : List Nat} {τ : Nat} (h : py_RG V ns ω) (g : ∀ p, p < 5 → 0 ≤ V (τ + 1 + p) ∧ V (τ + 1 + p) ≤ 9) : py_RG V (ns ++ [τ]) ω := by
  refine ⟨fun i hi p hp => ?_, h.2⟩
  rw [List.length_append] at hi
  have hi : i < ns.length + 1 := hi
  by_cases ei : i = ns.length
  · have eg : (ns ++ [τ]).getD i 0 = τ := by
      rw [ei, List.getD_eq_getElem?_getD, List.getElem?_append_right (Nat.le_refl _), Nat.sub_self]
      rfl
    rw [eg]
    exact g p hp
  · have eg : (ns ++ [τ]).getD i 0 = ns.getD i 0 := by
      rw [List.getD_eq_getElem?_getD, List.getD_eq_getElem?_getD, List.getElem?_append_left (by omega)]
    rw [eg]
    exact h.1 i (by omega) p hp
theorem py_RG_st (h0 : σ.2.1 = 0) (hR : σ.2.2.1 = 0 → py_RG V σ.2.2.2.2 ω) (h1 : (py_tell K V Q σ).2.1 = 0) (h2 : (py_tell K V Q σ).2.2.1 = 0) : py_RG V (py_tell K V Q σ).2.2.2.2 (py_st K σ ω) := by
  unfold py_tell at h1 h2 ⊢
  unfold py_st
  rw [if_neg (not_not_intro h0)] at h1 h2 ⊢
  by_cases k20 : K σ.1 = 20
  · rw [if_pos k20] at h1 h2 ⊢
    rw [if_neg (by omega), if_neg (by omega), if_neg (by omega), if_neg (by omega), if_neg (by omega), py_man_nm h1]
    have g := py_man_rg h1 h2
    exact py_RG_man (hR g.1) g.2
  rw [if_neg k20] at h1 h2 ⊢
  by_cases k21 : 21 ≤ K σ.1 ∧ K σ.1 ≤ 27
  · rw [if_pos k21, py_law_w] at h2
    rw [if_pos k21, py_law_w, if_neg (by omega), if_neg (by omega), if_neg (by omega), if_neg (by omega), if_pos k21]
    obtain ⟨r1, r2, r3, r4, r5, r6, r7⟩ := hR h2
    exact ⟨r1, by rw [py_up_o (by omega)]; exact r2, by rw [py_up_o (by omega)]; exact r3, by rw [py_up_o (by omega)]; exact r4, by rw [py_up_o (by omega)]; exact r5, by rw [py_up_o (by omega)]; exact r6, by rw [py_up_o (by omega)]; exact r7⟩
  rw [if_neg k21] at h1 h2 ⊢
  by_cases k28 : K σ.1 = 28
  · rw [if_pos k28] at h1 h2 ⊢
    rw [if_pos k28]
    rw [py_mu_w] at h2
    have f := (py_mu_st h1).1
    have g3 := py_nu_rg f h2
    have o3 := py_nu_ok f
    have g2 := py_nu_rg o3.1 g3.1
    have o2 := py_nu_ok o3.1
    have g1 := py_nu_rg o2.1 g2.1
    have o1 := py_nu_ok o2.1
    have a := (py_go_st o1.1).2
    have w0 := g1.1
    rw [py_go_w] at w0
    obtain ⟨r1, r2, r3, r4, r5, r6, r7⟩ := hR w0
    rw [o2.2.2, o1.2.2, a] at g3
    rw [o1.2.2, a] at g2
    rw [a] at g1
    rw [py_n_mu, py_n_nu, py_n_nu, py_n_nu, py_n_go]
    refine ⟨r1, ?_, ?_, ?_, by rw [py_up_o (by decide)]; exact r5, by rw [py_up_o (by decide)]; exact r6, by rw [py_up_o (by decide)]; exact r7⟩
    · rw [py_up_i, py_v_s (by omega)]
      exact g1.2
    · rw [py_up_i, py_v_s (by omega)]
      exact g2.2
    · rw [py_up_i, py_v_s (by omega)]
      exact g3.2
  rw [if_neg k28] at h1 h2 ⊢
  by_cases k29 : K σ.1 = 29
  · rw [if_pos k29] at h1 h2 ⊢
    rw [if_neg k28, if_pos k29]
    rw [py_mu_w] at h2
    have f := (py_mu_st h1).1
    have g1 := py_nu_rg f h2
    have o1 := py_nu_ok f
    have a := (py_go_st o1.1).2
    have w0 := g1.1
    rw [py_go_w] at w0
    obtain ⟨r1, r2, r3, r4, r5, r6, r7⟩ := hR w0
    rw [a] at g1
    rw [py_n_mu, py_n_nu, py_n_go]
    refine ⟨r1, by rw [py_up_o (by decide)]; exact r2, by rw [py_up_o (by decide)]; exact r3, by rw [py_up_o (by decide)]; exact r4, ?_, by rw [py_up_o (by decide)]; exact r6, by rw [py_up_o (by decide)]; exact r7⟩
    rw [py_up_i, py_v_s (by omega)]
    exact g1.2
  rw [if_neg k29] at h1 h2 ⊢
  by_cases k30 : K σ.1 = 30 ∨ K σ.1 = 31
  · rw [if_pos k30] at h1 h2 ⊢
    rw [if_neg k28, if_neg k29]
    rw [py_mu_w] at h2
    have f := (py_mu_st h1).1
    have g1 := py_nu_rg f h2
    have o1 := py_nu_ok f
    have a := (py_go_st o1.1).2
    have w0 := g1.1
    rw [py_go_w] at w0
    obtain ⟨r1, r2, r3, r4, r5, r6, r7⟩ := hR w0
    rw [a] at g1
    rw [py_n_mu, py_n_nu, py_n_go]
    by_cases k3 : K σ.1 = 30
    · rw [if_pos k3]
      refine ⟨r1, by rw [py_up_o (by decide)]; exact r2, by rw [py_up_o (by decide)]; exact r3, by rw [py_up_o (by decide)]; exact r4, by rw [py_up_o (by decide)]; exact r5, ?_, by rw [py_up_o (by decide)]; exact r7⟩
      rw [py_up_i, py_v_s (by omega)]
      exact g1.2
    · rw [if_neg k3, if_pos (by omega)]
      refine ⟨r1, by rw [py_up_o (by decide)]; exact r2, by rw [py_up_o (by decide)]; exact r3, by rw [py_up_o (by decide)]; exact r4, by rw [py_up_o (by decide)]; exact r5, by rw [py_up_o (by decide)]; exact r6, ?_⟩
      rw [py_up_i, py_v_s (by omega)]
      exact g1.2
  · rw [if_neg k30] at h1
    exact absurd h1 (py_fl_f (by decide))
theorem py_RG_al : ∀ (r : Nat) (σ : py_S) (ω : Nat → Nat), (σ.2.1 = 0 → σ.2.2.1 = 0 → py_RG V σ.2.2.2.2 ω) → (py_al K V Q r σ).2.1 = 0 → (py_al K V Q r σ).2.2.1 = 0 → py_RG V (py_al K V Q r σ).2.2.2.2 (py_aw K V Q r σ ω) := by
  intro r
  induction r with
  | zero => intro σ ω h a b; exact h a b
  | succ r ih =>
    intro σ ω h a b
    by_cases c : σ.2.1 = 0 ∧ K σ.1 ≠ 0
    · rw [py_al_s c.1 c.2] at a b ⊢
      rw [py_aw_s c.1 c.2]
      exact ih _ _ (fun u v => py_RG_st c.1 (h c.1) u v) a b
    · rw [py_al_e c] at a b ⊢
      rw [py_aw_e c]
      exact h a b
theorem py_RG_end (a : (py_end K V Q).2.1 = 0) (b : (py_end K V Q).2.2.1 = 0) : py_RG V (py_end K V Q).2.2.2.2 (py_wend K V Q) := py_RG_al 401 (0, 0, 0, 0, []) (fun _ => 0) (fun _ _ => py_RG_0) a b
theorem py_RG_ft {τ : py_S} (h : (py_ft τ : Int) = 0) : τ.2.1 = 0 ∧ τ.2.2.1 = 0 := by
  unfold py_ft at h
  by_cases c : τ.2.1 = 0
  · rw [if_neg (not_not_intro c)] at h
    exact ⟨c, by omega⟩
  · rw [if_pos c] at h
    omega
end RG
