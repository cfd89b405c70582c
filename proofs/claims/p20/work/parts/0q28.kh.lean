/-! ROWS THAT NOTHING IN REACH NAMES: out of the law's relation (wip/p8, by text out of mkra.py) -/
noncomputable def ka_cd (g : Bool) (K : List Nat) (c : Nat) : Bool := en_isI c || (Nat.beq c 17179869184 || (Nat.beq c 17179869185 || (Nat.beq c 12884901890 || (Nat.ble 8589934592 c && (Nat.blt c 8589934728 && (g || !K.elem (c - 8589934592)))))))
theorem ka_cd_v {E : mm_E} {ρ : Nat → Int32} {x y : Int32} {g : Bool} {K : List Nat} {c : Nat} {v : Value} (h : ka_cd g K c = true) (hv : en_v E ρ (wl_o x y) c v) (ht : ka_t E K v) : g = true := by
  unfold ka_cd at h
  rcases Bool.or_eq_true_iff.mp h with h | h
  · obtain ⟨r, rfl⟩ := en_isI_int h hv
    exact absurd ht ka_ti
  rcases Bool.or_eq_true_iff.mp h with h | h
  · have e := Nat.eq_of_beq_eq_true h
    obtain ⟨r, rfl⟩ := wt_i (x := x) (y := y) (Or.inr (Or.inl e)) hv
    exact absurd ht ka_ti
  rcases Bool.or_eq_true_iff.mp h with h | h
  · have e := Nat.eq_of_beq_eq_true h
    obtain ⟨r, rfl⟩ := wt_i (x := x) (y := y) (Or.inr (Or.inr e)) hv
    exact absurd ht ka_ti
  rcases Bool.or_eq_true_iff.mp h with h | h
  · have e := Nat.eq_of_beq_eq_true h
    subst e
    obtain ⟨r, rfl⟩ := wt_l hv
    exact absurd ht ka_tl
  obtain ⟨h1, h⟩ := Bool.and_eq_true_iff.mp h
  obtain ⟨h2, h⟩ := Bool.and_eq_true_iff.mp h
  have h1 := Nat.le_of_ble_eq_true h1
  have h2 := Nat.le_of_ble_eq_true h2
  have hv := (en_v_ref h1 (Nat.lt_of_succ_le h2)).mp hv
  rcases Bool.or_eq_true_iff.mp h with h | h
  · exact h
  · obtain ⟨k, hk, e⟩ := ht
    rw [hv] at e
    have e := Value.ref.inj e
    have e2 : c - 8589934592 = k := Nat.add_left_cancel e
    rw [e2, List.elem_iff.mpr hk] at h
    cases h
noncomputable def ka_hk (G : Nat → Nat → Bool) (K : List Nat) : Bool := (List.range 133).all (fun k => if Nat.ble 6 (en_kind (en_get wl_H k)) then (List.range (en_len (en_get wl_H k))).all (fun j => ka_cd (G (en_kind (en_get wl_H k) - 6) j) K (en_elt (en_get wl_H k) j)) else if Nat.beq (en_kind (en_get wl_H k)) 5 then (List.range (en_len (en_get wl_H k))).all (fun j => ka_cd false K (en_elt (en_get wl_H k) j)) else true) && K.all (fun c => Nat.blt c 133 && (Nat.blt (en_kind (en_get wl_H c)) 6))
theorem ka_kd : ∀ k, k < 133 → en_kind (en_get wl_H k) ≠ 0 ∨ ∃ q ∈ rd_XT, q.1 = k := by decide +kernel
theorem ka_hW {E : mm_E} {x y : Int32} {h : mm_H} {G : Nat → Nat → Bool} {K : List Nat} (hc : ka_hk G K = true) (hL : wl_W E wl_H x y h) : ka_h E G K h := by
  obtain ⟨c1, c2⟩ := Bool.and_eq_true_iff.mp hc
  obtain ⟨hl, ⟨A0, hA0, -⟩, hx, hy, hh⟩ := hL
  have hh := hh (fun _ => 0)
  have key : ∀ k, k < 133 → (∃ (t n : Nat) (f : Nat → Int32), h[k]? = some (.inl (t, n, .inl f)) ∧ en_kind (en_get wl_H k) < 6) ∨ en_cr E (fun _ => 0) (wl_o x y) (en_get wl_H k) h[k]? := by
    intro k hk
    by_cases h0 : en_kind (en_get wl_H k) = 0
    · rcases ka_kd k hk with q | ⟨q, hq, rfl⟩
      · exact absurd h0 q
      · exact Or.inl ⟨_, _, _, hA0 q hq, by rw [h0]; decide⟩
    · exact Or.inr ((hh k).1 (by omega) h0)
  have hlt : ∀ {k : Nat} {z : va_E}, h[k]? = some z → k < 133 := fun e => by
    have := (List.getElem?_eq_some_iff.mp e).1
    omega
  have hcc : ∀ k, k < 133 → _ := fun k hk => List.all_eq_true.mp c1 k (List.mem_range.mpr hk)
  refine ⟨fun c ci fs e k v hk hv => ?_, fun c n f e i hi ht => ?_, fun c hc => ?_⟩
  · have hlc := hlt e
    rcases key c hlc with ⟨t, n, f, e2, -⟩ | ⟨t, f, d1, d2, d3, d4⟩ | ⟨f, d1, d2, d3⟩ | ⟨f, d1, d2, d3⟩ | ⟨ci2, fs2, d1, d2, d3, d4⟩
    · rw [e] at e2
      cases e2
    · rw [e] at d3
      cases d3
    · rw [e] at d2
      cases d2
    · rw [e] at d2
      cases d2
    · rw [e] at d2
      cases d2
      have g := hcc c hlc
      rw [if_pos (Nat.ble_eq_true_of_le (by omega : 6 ≤ en_kind (en_get wl_H c)))] at g
      have hkl : k < en_len (en_get wl_H c) := by
        rw [← d3]
        exact (List.getElem?_eq_some_iff.mp hk).1
      have g2 := List.all_eq_true.mp g k (List.mem_range.mpr hkl)
      have g3 := ka_cd_v g2 (d4 k v hk) hv
      rw [d1, Nat.add_sub_cancel_left] at g3
      exact g3
  · have hlc := hlt e
    rcases key c hlc with ⟨t, n, f, e2, -⟩ | ⟨t, f, d1, d2, d3, d4⟩ | ⟨f, d1, d2, d3⟩ | ⟨f, d1, d2, d3⟩ | ⟨ci2, fs2, d1, d2, d3, d4⟩
    · rw [e] at e2
      cases e2
    · rw [e] at d3
      cases d3
    · rw [e] at d2
      cases d2
    · rw [e] at d2
      cases d2
      have g := hcc c hlc
      rw [if_neg (by rw [d1]; decide), if_pos (by rw [d1]; rfl)] at g
      have g2 := List.all_eq_true.mp g i (List.mem_range.mpr hi)
      exact absurd (ka_cd_v g2 (d3 i hi) ht) (by decide)
    · rw [e] at d2
      cases d2
  · have g := List.all_eq_true.mp c2 c hc
    obtain ⟨g1, g2⟩ := Bool.and_eq_true_iff.mp g
    have g1 : c < 133 := Nat.lt_of_succ_le (Nat.le_of_ble_eq_true g1)
    have g2 : en_kind (en_get wl_H c) < 6 := Nat.lt_of_succ_le (Nat.le_of_ble_eq_true g2)
    rcases key c g1 with ⟨t, n, f, e2, -⟩ | ⟨t, f, d1, d2, d3, d4⟩ | ⟨f, d1, d2, d3⟩ | ⟨f, d1, d2, d3⟩ | ⟨ci2, fs2, d1, d2, d3, d4⟩
    · exact ⟨_, e2⟩
    · exact ⟨_, d3⟩
    · exact ⟨_, d2⟩
    · exact ⟨_, d2⟩
    · omega
theorem ka_ln {E : mm_E} {K : List Nat} : ka_lv E K [] := fun q hq => by cases hq
theorem ka_lc {E : mm_E} {K : List Nat} {i : Nat} {v : Value} {lv : mm_V} (h : ¬ ka_t E K v) (g : ka_lv E K lv) : ka_lv E K ((i, v) :: lv) := fun q hq => by
  rcases List.mem_cons.mp hq with rfl | hq
  · exact h
  · exact g q hq
theorem ka_no {E : mm_E} {K : List Nat} {c : Nat} (h : c ∉ K) : ¬ ka_t E K (.ref (E.1 + c)) := fun ⟨k, hk, e⟩ => by
  injection e with e
  have e2 : c = k := Nat.add_left_cancel e
  rw [e2] at h
  exact h hk
