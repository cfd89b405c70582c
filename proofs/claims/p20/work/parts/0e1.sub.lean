/-! WHAT LIES WITHIN WHAT: a code within a code without names, rows, locals, stacks, heaps -/
/-- the first n of a row, each within -/
noncomputable def sf_row (w : en_W) (N N2 n : Nat) : Bool := Nat.rec (motive := fun _ => Bool) true (fun j ih => en_if (sf_sub w (en_elt N j) (en_elt N2 j)) ih false) n
noncomputable def sf_loc (w : en_W) (N N2 n : Nat) : Bool := Nat.rec (motive := fun _ => Bool) true (fun j ih => en_if (Nat.beq (en_elt N2 j) 12884901891) ih (en_if (Nat.beq (en_elt N j) 12884901891) false (en_if (sf_sub w (en_elt N j) (en_elt N2 j)) ih false))) n
noncomputable def sf_nls (N n : Nat) : Bool := Nat.rec (motive := fun _ => Bool) true (fun j ih => en_if (sf_nl (en_elt N j)) ih false) n
noncomputable def sf_cell (w : en_W) (N N2 : Nat) : Bool := en_if (Nat.beq N N2) true (en_if (Nat.beq (en_kind N) (en_kind N2)) (en_if (Nat.beq (en_len N) (en_len N2)) (sf_row w N N2 (en_len N2)) false) false)
noncomputable def sf_heap (w : en_W) (hp hq : en_H) (n : Nat) : Bool := Nat.rec (motive := fun _ => Bool) true (fun k ih => en_if (sf_cell w (en_get hp k) (en_get hq k)) ih false) n
noncomputable def sf_nlh (hq : en_H) (n : Nat) : Bool := Nat.rec (motive := fun _ => Bool) true (fun k ih => en_if (sf_nls (en_get hq k) (en_len (en_get hq k))) ih false) n
noncomputable def sf_st (w : en_W) (st : List Nat) : List Nat → Bool := List.rec (motive := fun _ => List Nat → Bool) (fun s2 => List.rec (motive := fun _ => Bool) true (fun _ _ _ => false) s2) (fun a _ ih s2 => List.rec (motive := fun _ => Bool) false (fun b r _ => en_if (sf_sub w a b) (ih r) false) s2) st
theorem sf_row_t {w : en_W} {N N2 : Nat} : ∀ n, sf_row w N N2 n = true → ∀ j, j < n → sf_sub w (en_elt N j) (en_elt N2 j) = true
  | 0, _, j, hj => absurd hj (Nat.not_lt_zero j)
  | n + 1, h, j, hj => by
    obtain ⟨h1, h2⟩ := en_if_and.mp (show en_if (sf_sub w (en_elt N n) (en_elt N2 n)) (sf_row w N N2 n) false = true from h)
    rcases Nat.lt_succ_iff_lt_or_eq.mp hj with h3 | rfl
    · exact sf_row_t n h2 j h3
    · exact h1
theorem sf_loc_t {w : en_W} {N N2 : Nat} : ∀ n, sf_loc w N N2 n = true → ∀ j, j < n → en_elt N2 j = 12884901891 ∨ (en_elt N j ≠ 12884901891 ∧ sf_sub w (en_elt N j) (en_elt N2 j) = true)
  | 0, _, j, hj => absurd hj (Nat.not_lt_zero j)
  | n + 1, h, j, hj => by
    have h : en_if (Nat.beq (en_elt N2 n) 12884901891) (sf_loc w N N2 n) (en_if (Nat.beq (en_elt N n) 12884901891) false (en_if (sf_sub w (en_elt N n) (en_elt N2 n)) (sf_loc w N N2 n) false)) = true := h
    rcases en_if_or.mp h with ⟨h1, h2⟩ | ⟨-, h2⟩
    · rcases Nat.lt_succ_iff_lt_or_eq.mp hj with h3 | rfl
      · exact sf_loc_t n h2 j h3
      · exact Or.inl (en_beq_t.mp h1)
    · rcases en_if_or.mp h2 with ⟨-, h2⟩ | ⟨g1, h2⟩
      · cases h2
      · obtain ⟨h4, h5⟩ := en_if_and.mp h2
        rcases Nat.lt_succ_iff_lt_or_eq.mp hj with h3 | rfl
        · exact sf_loc_t n h5 j h3
        · exact Or.inr ⟨en_beq_f.mp g1, h4⟩
theorem sf_nls_t {N : Nat} : ∀ n, sf_nls N n = true → ∀ j, j < n → sf_nl (en_elt N j) = true
  | 0, _, j, hj => absurd hj (Nat.not_lt_zero j)
  | n + 1, h, j, hj => by
    obtain ⟨h1, h2⟩ := en_if_and.mp (show en_if (sf_nl (en_elt N n)) (sf_nls N n) false = true from h)
    rcases Nat.lt_succ_iff_lt_or_eq.mp hj with h3 | rfl
    · exact sf_nls_t n h2 j h3
    · exact h1
theorem sf_heap_t {w : en_W} {hp hq : en_H} : ∀ n, sf_heap w hp hq n = true → ∀ k, k < n → sf_cell w (en_get hp k) (en_get hq k) = true
  | 0, _, j, hj => absurd hj (Nat.not_lt_zero j)
  | n + 1, h, j, hj => by
    obtain ⟨h1, h2⟩ := en_if_and.mp (show en_if (sf_cell w (en_get hp n) (en_get hq n)) (sf_heap w hp hq n) false = true from h)
    rcases Nat.lt_succ_iff_lt_or_eq.mp hj with h3 | rfl
    · exact sf_heap_t n h2 j h3
    · exact h1
theorem sf_nlh_t {hq : en_H} : ∀ n, sf_nlh hq n = true → ∀ k, k < n → sf_nls (en_get hq k) (en_len (en_get hq k)) = true
  | 0, _, j, hj => absurd hj (Nat.not_lt_zero j)
  | n + 1, h, j, hj => by
    obtain ⟨h1, h2⟩ := en_if_and.mp (show en_if (sf_nls (en_get hq n) (en_len (en_get hq n))) (sf_nlh hq n) false = true from h)
    rcases Nat.lt_succ_iff_lt_or_eq.mp hj with h3 | rfl
    · exact sf_nlh_t n h2 j h3
    · exact h1
section SFW
variable {E : mm_E} {ω : Nat → Value}
theorem sf_cell_v {ρ : Nat → Int32} (ρ' : Nat → Int32) {w : en_W} {N N2 : Nat} {x : Option va_E} (he : en_e ρ (en_ev w)) (hn : sf_nls N2 (en_len N2) = true) (hc : sf_cell w N N2 = true) (h : en_cr E ρ ω N x) : en_cr E ρ' ω N2 x := by
  unfold sf_cell at hc
  rcases en_if_or.mp hc with ⟨a1, -⟩ | ⟨-, hc⟩
  · have e := en_beq_t.mp a1
    subst e
    exact sf_cr rfl rfl (fun j hj v hv => sf_nl_v ρ' (sf_nls_t _ hn j hj) hv) h
  · obtain ⟨a1, hc⟩ := en_if_and.mp hc
    obtain ⟨a2, hc⟩ := en_if_and.mp hc
    exact sf_cr (en_beq_t.mp a1) (en_beq_t.mp a2) (fun j hj v hv => sf_sub_v ρ' he hv (sf_row_t _ hc j hj)) h
theorem sf_cell_kind {w : en_W} {N N2 : Nat} (hc : sf_cell w N N2 = true) : en_kind N = en_kind N2 := by
  unfold sf_cell at hc
  rcases en_if_or.mp hc with ⟨a1, -⟩ | ⟨-, hc⟩
  · rw [en_beq_t.mp a1]
  · exact en_beq_t.mp (en_if_and.mp hc).1
theorem sf_heap_v {ρ : Nat → Int32} (ρ' : Nat → Int32) {h0 : mm_H} {w : en_W} {hp hq : en_H} {h : mm_H} (he : en_e ρ (en_ev w)) (hn : sf_nlh hq 136 = true) (hc : sf_heap w hp hq 136 = true) (hh : en_h E ρ ω h0 hp h) : en_h E ρ' ω h0 hq h := by
  intro k
  refine ⟨fun hk hkd => ?_, fun hn2 => (hh k).2 (fun g => hn2 ⟨g.1, ?_⟩)⟩
  · have h1 := sf_heap_t _ hc k hk
    exact sf_cell_v ρ' he (sf_nlh_t _ hn k hk) h1 ((hh k).1 hk (by rw [sf_cell_kind h1]; exact hkd))
  · rw [← sf_cell_kind (sf_heap_t _ hc k g.1)]
    exact g.2
theorem sf_st_v {ρ : Nat → Int32} (ρ' : Nat → Int32) {w : en_W} (he : en_e ρ (en_ev w)) : ∀ (st st2 : List Nat) (sv : List Value), sf_st w st st2 = true → en_sr E ρ ω st sv → en_sr E ρ' ω st2 sv
  | [], [], [], _, _ => trivial
  | [], _ :: _, _, h, _ => by cases h
  | [], [], _ :: _, _, h => h.elim
  | a :: st, [], _, h, _ => by cases h
  | a :: st, b :: st2, [], _, h => h.elim
  | a :: st, b :: st2, v :: sv, h, hs => by
    obtain ⟨h1, h2⟩ := en_if_and.mp (show en_if (sf_sub w a b) (sf_st w st st2) false = true from h)
    exact ⟨sf_sub_v ρ' he hs.1 h1, sf_st_v ρ' he st st2 sv h2 hs.2⟩
theorem sf_loc_v {ρ : Nat → Int32} (ρ' : Nat → Int32) {w : en_W} {nL n loc loc2 : Nat} {lv : mm_V} (he : en_e ρ (en_ev w)) (hn : nL ≤ n) (h : sf_loc w loc loc2 n = true) (hl : en_lr E ρ ω nL loc lv) : en_lr E ρ' ω nL loc2 lv := by
  intro i hi
  rcases sf_loc_t n h i (by omega) with h1 | ⟨h1, h2⟩
  · exact Or.inl h1
  · rcases hl i hi with h3 | ⟨v, h3, h4⟩
    · exact absurd h3 h1
    · exact Or.inr ⟨v, h3, sf_sub_v ρ' he h4 h2⟩
end SFW
