/-! WHAT LIES WITHIN WHAT: a code within a code without names, rows, locals, stacks, heaps -/
/-- a code without a name -/
noncomputable def sf_nl (c : Nat) : Bool := en_if (Nat.ble c 4294967295) true (Nat.ble 8589934592 c)
/-- a code within one that has no name -/
noncomputable def sf_sub (w : en_W) (c c2 : Nat) : Bool :=
  en_if (Nat.ble c2 4294967295) (en_if (en_isI c) (en_iv w c (fun lo hi => en_if (Nat.beq lo c2) (Nat.beq hi c2) false)) false)
    (en_if (Nat.ble 73786976294838206464 c2) (en_if (Nat.ble c2 147573952589676412927) (en_if (en_isI c) (en_iv w c (fun lo hi => en_if (Nat.ble (Nat.div (Nat.sub c2 73786976294838206464) 4294967296) lo) (Nat.ble hi (Nat.mod c2 4294967296)) false)) false) false)
      (en_if (Nat.beq c2 12884901890) (en_isL c) (en_if (Nat.ble 8589934592 c2) (Nat.beq c c2) false)))
section SFV
variable {E : mm_E} {ω : Nat → Value}
theorem sf_nl_v {c : Nat} {v : Value} {ρ : Nat → Int32} (ρ' : Nat → Int32) (h : sf_nl c = true) (hv : en_v E ρ ω c v) : en_v E ρ' ω c v := by
  have h1 : c < 4294967296 ∨ 8589934592 ≤ c := by
    rcases en_if_or.mp h with ⟨h, -⟩ | ⟨-, h⟩
    · exact Or.inl (Nat.lt_of_le_of_lt (en_ble_t.mp h) (by decide))
    · exact Or.inr (en_ble_t.mp h)
  unfold en_v at hv ⊢
  rcases h1 with h1 | h1
  · rw [if_pos h1] at hv ⊢; exact hv
  · rw [if_neg (by omega), if_neg (by omega)] at hv ⊢; exact hv
theorem sf_sub_v {w : en_W} {c c2 : Nat} {v : Value} {ρ : Nat → Int32} (ρ' : Nat → Int32) (he : en_e ρ (en_ev w)) (hv : en_v E ρ ω c v) (h : sf_sub w c c2 = true) : en_v E ρ' ω c2 v := by
  unfold sf_sub at h
  rcases en_if_or.mp h with ⟨a1, h⟩ | ⟨a1, h⟩
  · obtain ⟨a2, h⟩ := en_if_and.mp h
    obtain ⟨x, rfl⟩ := en_isI_int a2 hv
    obtain ⟨a, b, b1, b2, b3, hk⟩ := en_iv_v he hv
    rw [hk] at h
    obtain ⟨c1, c3⟩ := en_if_and.mp h
    have e1 := en_beq_t.mp c1
    have e2 := en_beq_t.mp c3
    have e3 : en_z x = c2 := by omega
    rw [en_v_const (Nat.lt_of_le_of_lt (en_ble_t.mp a1) (by decide)), ← e3, en_d_z]
  · rcases en_if_or.mp h with ⟨a2, h⟩ | ⟨a2, h⟩
    · obtain ⟨a3, h⟩ := en_if_and.mp h
      obtain ⟨a4, h⟩ := en_if_and.mp h
      obtain ⟨x, rfl⟩ := en_isI_int a4 hv
      obtain ⟨a, b, b1, b2, b3, hk⟩ := en_iv_v he hv
      rw [hk] at h
      obtain ⟨c1, c3⟩ := en_if_and.mp h
      have e1 := en_ble_t.mp c1
      have e2 := en_ble_t.mp c3
      rw [en_v_rng (en_ble_t.mp a2) (Nat.lt_of_le_of_lt (en_ble_t.mp a3) (by decide))]
      exact ⟨x, rfl, Nat.le_trans e1 b1, Nat.le_trans b2 e2⟩
    · rcases en_if_or.mp h with ⟨a3, h⟩ | ⟨a3, h⟩
      · have h5 := en_isL_long h hv
        have e1 := en_beq_t.mp a3
        rw [e1]
        exact en_v_anyL.mpr h5
      · obtain ⟨a4, h⟩ := en_if_and.mp h
        have e1 := en_beq_t.mp h
        subst e1
        exact sf_nl_v ρ' (en_if_or.mpr (Or.inr ⟨a1, a4⟩)) hv
end SFV
/-- the first n of a row, each within -/
noncomputable def sf_row (w : en_W) (N N2 n : Nat) : Bool := Nat.rec (motive := fun _ => Bool) true (fun j ih => en_if (sf_sub w (en_elt N j) (en_elt N2 j)) ih false) n
noncomputable def sf_loc (w : en_W) (N N2 n : Nat) : Bool := Nat.rec (motive := fun _ => Bool) true (fun j ih => en_if (Nat.beq (en_elt N2 j) 12884901891) ih (en_if (Nat.beq (en_elt N j) 12884901891) false (en_if (sf_sub w (en_elt N j) (en_elt N2 j)) ih false))) n
noncomputable def sf_nls (N n : Nat) : Bool := Nat.rec (motive := fun _ => Bool) true (fun j ih => en_if (sf_nl (en_elt N j)) ih false) n
noncomputable def sf_cell (w : en_W) (N N2 : Nat) : Bool := en_if (Nat.beq N N2) true (en_if (Nat.beq (en_kind N) (en_kind N2)) (en_if (Nat.beq (en_len N) (en_len N2)) (sf_row w N N2 (en_len N2)) false) false)
noncomputable def sf_heap (w : en_W) (hp hq : en_H) (n : Nat) : Bool := Nat.rec (motive := fun _ => Bool) true (fun k ih => en_if (sf_cell w (en_get hp k) (en_get hq k)) ih false) n
noncomputable def sf_nlh (hq : en_H) (n : Nat) : Bool := Nat.rec (motive := fun _ => Bool) true (fun k ih => en_if (sf_nls (en_get hq k) (en_len (en_get hq k))) ih false) n
noncomputable def sf_st (w : en_W) (st : List Nat) : List Nat → Bool := List.rec (motive := fun _ => List Nat → Bool) (fun s2 => List.rec (motive := fun _ => Bool) true (fun _ _ _ => false) s2) (fun a _ ih s2 => List.rec (motive := fun _ => Bool) false (fun b r _ => en_if (sf_sub w a b) (ih r) false) s2) st
theorem sf_row_t {w : en_W} {N N2 : Nat} : ∀ n, sf_row w N N2 n = true → ∀ j, j < n → sf_sub w (en_elt N j) (en_elt N2 j) = true
  | 0, _, j, hj => absurd hj (Nat.not_lt_zero j)
  | n + 1, h, j, hj => by
    obtain ⟨h1, h2⟩ := en_if_and.mp (show en_if (sf_sub w (en_elt N n) (en_elt N2 n)) (sf_row w N N2 n) false = true from h)
    rcases Nat.lt_succ_iff_lt_or_eq.mp hj with h3 | rfl
    · exact sf_row_t n h2 j h3
    · exact h1
theorem sf_loc_t {w : en_W} {N N2 : Nat} : ∀ n, sf_loc w N N2 n = true → ∀ j, j < n → en_elt N2 j = 12884901891 ∨ (en_elt N j ≠ 12884901891 ∧ sf_sub w (en_elt N j) (en_elt N2 j) = true)
  | 0, _, j, hj => absurd hj (Nat.not_lt_zero j)
  | n + 1, h, j, hj => by
    have h : en_if (Nat.beq (en_elt N2 n) 12884901891) (sf_loc w N N2 n) (en_if (Nat.beq (en_elt N n) 12884901891) false (en_if (sf_sub w (en_elt N n) (en_elt N2 n)) (sf_loc w N N2 n) false)) = true := h
    rcases en_if_or.mp h with ⟨h1, h2⟩ | ⟨-, h2⟩
    · rcases Nat.lt_succ_iff_lt_or_eq.mp hj with h3 | rfl
      · exact sf_loc_t n h2 j h3
      · exact Or.inl (en_beq_t.mp h1)
    · rcases en_if_or.mp h2 with ⟨-, h2⟩ | ⟨g1, h2⟩
      · cases h2
      · obtain ⟨h4, h5⟩ := en_if_and.mp h2
        rcases Nat.lt_succ_iff_lt_or_eq.mp hj with h3 | rfl
        · exact sf_loc_t n h5 j h3
        · exact Or.inr ⟨en_beq_f.mp g1, h4⟩
theorem sf_nls_t {N : Nat} : ∀ n, sf_nls N n = true → ∀ j, j < n → sf_nl (en_elt N j) = true
  | 0, _, j, hj => absurd hj (Nat.not_lt_zero j)
  | n + 1, h, j, hj => by
    obtain ⟨h1, h2⟩ := en_if_and.mp (show en_if (sf_nl (en_elt N n)) (sf_nls N n) false = true from h)
    rcases Nat.lt_succ_iff_lt_or_eq.mp hj with h3 | rfl
    · exact sf_nls_t n h2 j h3
    · exact h1
theorem sf_heap_t {w : en_W} {hp hq : en_H} : ∀ n, sf_heap w hp hq n = true → ∀ k, k < n → sf_cell w (en_get hp k) (en_get hq k) = true
  | 0, _, j, hj => absurd hj (Nat.not_lt_zero j)
  | n + 1, h, j, hj => by
    obtain ⟨h1, h2⟩ := en_if_and.mp (show en_if (sf_cell w (en_get hp n) (en_get hq n)) (sf_heap w hp hq n) false = true from h)
    rcases Nat.lt_succ_iff_lt_or_eq.mp hj with h3 | rfl
    · exact sf_heap_t n h2 j h3
    · exact h1
theorem sf_nlh_t {hq : en_H} : ∀ n, sf_nlh hq n = true → ∀ k, k < n → sf_nls (en_get hq k) (en_len (en_get hq k)) = true
  | 0, _, j, hj => absurd hj (Nat.not_lt_zero j)
  | n + 1, h, j, hj => by
    obtain ⟨h1, h2⟩ := en_if_and.mp (show en_if (sf_nls (en_get hq n) (en_len (en_get hq n))) (sf_nlh hq n) false = true from h)
    rcases Nat.lt_succ_iff_lt_or_eq.mp hj with h3 | rfl
    · exact sf_nlh_t n h2 j h3
    · exact h1
section SFW
variable {E : mm_E} {ω : Nat → Value}
/-- v is what a cell has at j -/
def sf_el (x : Option va_E) (j : Nat) (v : Value) : Prop := match x with
  | some (.inl (_, _, .inl f)) => v = .int (f j)
  | some (.inr (_, fs)) => fs[j]? = some v
  | _ => True
/-- a row's codes may change where each goes over -/
theorem sf_cr2 {ρ ρ' : Nat → Int32} {N N2 : Nat} {x : Option va_E} (hk : en_kind N = en_kind N2) (hl : en_len N = en_len N2) (hj : ∀ j, j < en_len N2 → ∀ v, sf_el x j v → en_v E ρ ω (en_elt N j) v → en_v E ρ' ω (en_elt N2 j) v) (h : en_cr E ρ ω N x) : en_cr E ρ' ω N2 x := by
  unfold en_cr at h ⊢
  rw [← hk, ← hl]
  rcases h with ⟨t, f, h1, h2, h3, h4⟩ | ⟨f, h1, h2, h3⟩ | ⟨f, h1, h2, h3⟩ | ⟨ci, fs, h1, h2, h3, h4⟩
  · exact Or.inl ⟨t, f, h1, h2, h3, fun i hi => hj i (by omega) _ (by rw [h3]; rfl) (h4 i hi)⟩
  · exact Or.inr (Or.inl ⟨f, h1, h2, fun i hi => hj i (by omega) _ (by rw [h2]; trivial) (h3 i hi)⟩)
  · exact Or.inr (Or.inr (Or.inl ⟨f, h1, h2, fun i hi => hj i (by omega) _ (by rw [h2]; trivial) (h3 i hi)⟩))
  · refine Or.inr (Or.inr (Or.inr ⟨ci, fs, h1, h2, h3, fun i v hv => hj i ?_ v (by rw [h2]; exact hv) (h4 i v hv)⟩))
    have h5 := (List.getElem?_eq_some_iff.mp hv).1
    omega
theorem sf_cr {ρ ρ' : Nat → Int32} {N N2 : Nat} {x : Option va_E} (hk : en_kind N = en_kind N2) (hl : en_len N = en_len N2) (hj : ∀ j, j < en_len N2 → ∀ v, en_v E ρ ω (en_elt N j) v → en_v E ρ' ω (en_elt N2 j) v) (h : en_cr E ρ ω N x) : en_cr E ρ' ω N2 x := sf_cr2 hk hl (fun j h1 v _ h2 => hj j h1 v h2) h
theorem sf_cell_v {ρ : Nat → Int32} (ρ' : Nat → Int32) {w : en_W} {N N2 : Nat} {x : Option va_E} (he : en_e ρ (en_ev w)) (hn : sf_nls N2 (en_len N2) = true) (hc : sf_cell w N N2 = true) (h : en_cr E ρ ω N x) : en_cr E ρ' ω N2 x := by
  unfold sf_cell at hc
  rcases en_if_or.mp hc with ⟨a1, -⟩ | ⟨-, hc⟩
  · have e := en_beq_t.mp a1
    subst e
    exact sf_cr rfl rfl (fun j hj v hv => sf_nl_v ρ' (sf_nls_t _ hn j hj) hv) h
  · obtain ⟨a1, hc⟩ := en_if_and.mp hc
    obtain ⟨a2, hc⟩ := en_if_and.mp hc
    exact sf_cr (en_beq_t.mp a1) (en_beq_t.mp a2) (fun j hj v hv => sf_sub_v ρ' he hv (sf_row_t _ hc j hj)) h
theorem sf_cell_kind {w : en_W} {N N2 : Nat} (hc : sf_cell w N N2 = true) : en_kind N = en_kind N2 := by
  unfold sf_cell at hc
  rcases en_if_or.mp hc with ⟨a1, -⟩ | ⟨-, hc⟩
  · rw [en_beq_t.mp a1]
  · exact en_beq_t.mp (en_if_and.mp hc).1
theorem sf_heap_v {ρ : Nat → Int32} (ρ' : Nat → Int32) {h0 : mm_H} {w : en_W} {hp hq : en_H} {h : mm_H} (he : en_e ρ (en_ev w)) (hn : sf_nlh hq 136 = true) (hc : sf_heap w hp hq 136 = true) (hh : en_h E ρ ω h0 hp h) : en_h E ρ' ω h0 hq h := by
  intro k
  refine ⟨fun hk hkd => ?_, fun hn2 => (hh k).2 (fun g => hn2 ⟨g.1, ?_⟩)⟩
  · have h1 := sf_heap_t _ hc k hk
    exact sf_cell_v ρ' he (sf_nlh_t _ hn k hk) h1 ((hh k).1 hk (by rw [sf_cell_kind h1]; exact hkd))
  · rw [← sf_cell_kind (sf_heap_t _ hc k g.1)]
    exact g.2
theorem sf_st_v {ρ : Nat → Int32} (ρ' : Nat → Int32) {w : en_W} (he : en_e ρ (en_ev w)) : ∀ (st st2 : List Nat) (sv : List Value), sf_st w st st2 = true → en_sr E ρ ω st sv → en_sr E ρ' ω st2 sv
  | [], [], [], _, _ => trivial
  | [], _ :: _, _, h, _ => by cases h
  | [], [], _ :: _, _, h => h.elim
  | a :: st, [], _, h, _ => by cases h
  | a :: st, b :: st2, [], _, h => h.elim
  | a :: st, b :: st2, v :: sv, h, hs => by
    obtain ⟨h1, h2⟩ := en_if_and.mp (show en_if (sf_sub w a b) (sf_st w st st2) false = true from h)
    exact ⟨sf_sub_v ρ' he hs.1 h1, sf_st_v ρ' he st st2 sv h2 hs.2⟩
theorem sf_loc_v {ρ : Nat → Int32} (ρ' : Nat → Int32) {w : en_W} {nL n loc loc2 : Nat} {lv : mm_V} (he : en_e ρ (en_ev w)) (hn : nL ≤ n) (h : sf_loc w loc loc2 n = true) (hl : en_lr E ρ ω nL loc lv) : en_lr E ρ' ω nL loc2 lv := by
  intro i hi
  rcases sf_loc_t n h i (by omega) with h1 | ⟨h1, h2⟩
  · exact Or.inl h1
  · rcases hl i hi with h3 | ⟨v, h3, h4⟩
    · exact absurd h3 h1
    · exact Or.inr ⟨v, h3, sf_sub_v ρ' he h4 h2⟩
end SFW
