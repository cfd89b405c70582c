/-! A LOOP OVER DRAWS: a hook that goes from draw 0 to draw 2400 at once, if one round with a named draw comes back to the loop's head with the next draw. The name (6) stands nowhere else in the state: that is looked up. -/
noncomputable def rn_fr (c : Nat) : Bool := en_if (Nat.ble 4295360512 c) (Nat.ble 4295426048 c) true
noncomputable def rn_frs (n N : Nat) : Bool := Nat.rec (motive := fun _ => Bool) true (fun j ih => en_if (rn_fr (en_elt N j)) ih false) n
noncomputable def rn_frl (l : List Nat) : Bool := List.rec (motive := fun _ => Bool) true (fun c _ ih => en_if (rn_fr c) ih false) l
noncomputable def rn_frf (l : List en_F) : Bool := List.rec (motive := fun _ => Bool) true (fun f _ ih => en_if (rn_frs 40 f.2.1) (en_if (rn_frl f.2.2.1) ih false) false) l
/-- cells: as they were in hq, or without the name -/
noncomputable def rn_frh (hp hq : en_H) (n : Nat) : Bool := Nat.rec (motive := fun _ => Bool) true (fun k ih => en_if (en_if (Nat.beq (en_get hp k) (en_get hq k)) true (rn_frs (en_len (en_get hp k)) (en_get hp k))) ih false) n
theorem rn_frs_t {N : Nat} : ∀ n, rn_frs n N = true → ∀ j, j < n → rn_fr (en_elt N j) = true
  | 0, _, j, hj => absurd hj (Nat.not_lt_zero j)
  | n + 1, h, j, hj => by
    obtain ⟨h1, h2⟩ := en_if_and.mp (show en_if (rn_fr (en_elt N n)) (rn_frs n N) false = true from h)
    by_cases e : j = n
    · subst e; exact h1
    · exact rn_frs_t n h2 j (by omega)
theorem rn_frl_t : ∀ l, rn_frl l = true → ∀ c ∈ l, rn_fr c = true
  | [], _, c, hc => by cases hc
  | a :: l, h, c, hc => by
    obtain ⟨h1, h2⟩ := en_if_and.mp (show en_if (rn_fr a) (rn_frl l) false = true from h)
    rcases List.mem_cons.mp hc with rfl | hc
    · exact h1
    · exact rn_frl_t l h2 c hc
theorem rn_frf_t : ∀ l, rn_frf l = true → ∀ f ∈ l, (∀ i, i < 40 → rn_fr (en_elt f.2.1 i) = true) ∧ ∀ c ∈ f.2.2.1, rn_fr c = true
  | [], _, c, hc => by cases hc
  | a :: l, h, f, hc => by
    obtain ⟨h1, h2⟩ := en_if_and.mp (show en_if (rn_frs 40 a.2.1) (en_if (rn_frl a.2.2.1) (rn_frf l) false) false = true from h)
    obtain ⟨h2, h3⟩ := en_if_and.mp h2
    rcases List.mem_cons.mp hc with rfl | hc
    · exact ⟨rn_frs_t 40 h1, rn_frl_t _ h2⟩
    · exact rn_frf_t l h3 f hc
theorem rn_frh_t {hp hq : en_H} : ∀ n, rn_frh hp hq n = true → ∀ k, k < n → en_get hp k = en_get hq k ∨ rn_frs (en_len (en_get hp k)) (en_get hp k) = true
  | 0, _, j, hj => absurd hj (Nat.not_lt_zero j)
  | n + 1, h, j, hj => by
    obtain ⟨h1, h2⟩ := en_if_and.mp (show en_if (en_if (Nat.beq (en_get hp n) (en_get hq n)) true (rn_frs (en_len (en_get hp n)) (en_get hp n))) (rn_frh hp hq n) false = true from h)
    by_cases e : j = n
    · subst e
      rcases en_if_or.mp h1 with ⟨h3, -⟩ | ⟨-, h3⟩
      · exact Or.inl (en_beq_t.mp h3)
      · exact Or.inr h3
    · exact rn_frh_t n h2 j (by omega)
section RNL
variable {E : mm_E} {kds : List (List Nat)} {P : mm_T} {L : Nat} {ρ ρ' : Nat → Int32} {ω : Nat → Value} {h0 : mm_H} {fsC : List mm_F} {FIN : mm_C → Prop}
theorem rn_fr_v (hρ : ∀ i, i ≠ 6 → ρ i = ρ' i) {c : Nat} {v : Value} (hf : rn_fr c = true) (h : en_v E ρ ω c v) : en_v E ρ' ω c v := by
  have hc : c < 4295360512 ∨ 4295426048 ≤ c := by
    rcases en_if_or.mp hf with ⟨-, h1⟩ | ⟨h1, -⟩
    · exact Or.inr (en_ble_t.mp h1)
    · refine Or.inl (Nat.lt_of_not_le fun h2 => ?_)
      rw [en_ble_t.mpr h2] at h1
      cases h1
  by_cases h1 : c < 4294967296
  · rw [en_v_const h1] at h ⊢; exact h
  · by_cases h2 : c < 8589934592
    · rw [en_v_name (by omega) h2] at h ⊢
      rw [← hρ _ (by omega)]
      exact h
    · unfold en_v at h ⊢
      rw [if_neg h1, if_neg h2] at h ⊢
      exact h
theorem rn_cr_mv (hρ : ∀ i, i ≠ 6 → ρ i = ρ' i) {N : Nat} {x : Option va_E} (hf : ∀ j, j < en_len N → rn_fr (en_elt N j) = true) (h : en_cr E ρ ω N x) : en_cr E ρ' ω N x := by
  rcases h with ⟨t, f, h1, h2, h3, h4⟩ | ⟨f, h1, h2, h3⟩ | ⟨f, h1, h2, h3⟩ | ⟨ci, fs, h1, h2, h3, h4⟩
  · exact Or.inl ⟨t, f, h1, h2, h3, fun j hj => rn_fr_v hρ (hf j hj) (h4 j hj)⟩
  · exact Or.inr (Or.inl ⟨f, h1, h2, fun j hj => rn_fr_v hρ (hf j hj) (h3 j hj)⟩)
  · exact Or.inr (Or.inr (Or.inl ⟨f, h1, h2, fun j hj => rn_fr_v hρ (hf j hj) (h3 j hj)⟩))
  · refine Or.inr (Or.inr (Or.inr ⟨ci, fs, h1, h2, h3, fun j v hv => rn_fr_v hρ (hf j ?_) (h4 j v hv)⟩))
    rw [← h3]
    exact (List.getElem?_eq_some_iff.mp hv).1
theorem rn_sr_mv (hρ : ∀ i, i ≠ 6 → ρ i = ρ' i) : ∀ (st : List Nat) (sv : List Value), (∀ c ∈ st, rn_fr c = true) → en_sr E ρ ω st sv → en_sr E ρ' ω st sv
  | [], [], _, h => h
  | [], _ :: _, _, h => h.elim
  | _ :: _, [], _, h => h.elim
  | c :: r, _ :: vs, hf, h => ⟨rn_fr_v hρ (hf c List.mem_cons_self) h.1, rn_sr_mv hρ r vs (fun c hc => hf c (List.mem_cons_of_mem _ hc)) h.2⟩
theorem rn_lr_mv (hρ : ∀ i, i ≠ 6 → ρ i = ρ' i) {nL loc : Nat} {lv : mm_V} (hn : nL ≤ 40) (hf : ∀ i, i < 40 → rn_fr (en_elt loc i) = true) (h : en_lr E ρ ω nL loc lv) : en_lr E ρ' ω nL loc lv := by
  intro i hi
  rcases h i hi with h1 | ⟨v, g1, g2⟩
  · exact Or.inl h1
  · exact Or.inr ⟨v, g1, rn_fr_v hρ (hf i (Nat.lt_of_lt_of_le hi hn)) g2⟩
theorem rn_fs_mv (hρ : ∀ i, i ≠ 6 → ρ i = ρ' i) (hP : ∀ (k : Nat) (cs : List (List mm_I)) (nL : Nat) (dd : mm_M), P[k]? = some (cs, nL, dd) → nL ≤ 40) : ∀ (fs : List en_F) (gs : List mm_F), (∀ f ∈ fs, (∀ i, i < 40 → rn_fr (en_elt f.2.1 i) = true) ∧ ∀ c ∈ f.2.2.1, rn_fr c = true) → en_frs E P L ρ ω fsC fs gs → en_frs E P L ρ' ω fsC fs gs
  | [], _, _, h => h
  | _ :: _, [], _, h => h.elim
  | f :: fs, g :: gs, hf, h => by
    obtain ⟨⟨h1, h2, ⟨cs, nL, dd, h3, h4⟩, h5, h6⟩, h7, h8⟩ := h
    obtain ⟨f1, f2⟩ := hf f List.mem_cons_self
    exact ⟨⟨h1, h2, ⟨cs, nL, dd, h3, rn_lr_mv hρ (hP _ _ _ _ h3) f1 h4⟩, rn_sr_mv hρ _ _ f2 h5, h6⟩, h7, rn_fs_mv hρ hP fs gs (fun f hc => hf f (List.mem_cons_of_mem _ hc)) h8⟩
theorem rn_R_mv (hρ : ∀ i, i ≠ 6 → ρ i = ρ' i) (hP : ∀ (k : Nat) (cs : List (List mm_I)) (nL : Nat) (dd : mm_M), P[k]? = some (cs, nL, dd) → nL ≤ 40) {q loc loc' r : Nat} {st : List Nat} {hp : en_H} {w w' : en_W} {c : mm_C} (hl : ∀ i, i < 40 → i ≠ r → en_elt loc' i = en_elt loc i ∧ rn_fr (en_elt loc i) = true) (hu : en_elt loc r ≠ 12884901891) (hr : ∀ v, en_v E ρ ω (en_elt loc r) v → en_v E ρ' ω (en_elt loc' r) v) (hs : ∀ c ∈ st, rn_fr c = true) (hh : ∀ k, k < 136 → ∀ j, j < en_len (en_get hp k) → rn_fr (en_elt (en_get hp k) j) = true) (hf : ∀ f ∈ w.2.2.2.1, (∀ i, i < 40 → rn_fr (en_elt f.2.1 i) = true) ∧ ∀ c ∈ f.2.2.1, rn_fr c = true) (hw : en_wq w w') (he' : en_e ρ (en_ev w) → en_e ρ' (en_ev w')) (h : en_R E P L ρ ω h0 fsC q loc st hp w c) : en_R E P L ρ' ω h0 fsC q loc' st hp w' c := by
  obtain ⟨lv, sv, gs, h1, o, rfl, ⟨cs, nL, dd, hPq, hlr⟩, hsr, hhp, he, hx, hd, hfr⟩ := h
  obtain ⟨e1, e2, e3, e4, e5⟩ := hw
  refine ⟨lv, sv, gs, h1, o, by rw [e1, e2], ⟨cs, nL, dd, hPq, fun i hi => ?_⟩, rn_sr_mv hρ st sv hs hsr, fun k => ⟨fun k1 k2 => rn_cr_mv hρ (hh k k1) ((hhp k).1 k1 k2), (hhp k).2⟩, he' he, by rw [e5]; exact hx, by rw [e3, e4]; exact hd, by rw [e4]; exact rn_fs_mv hρ hP _ _ hf hfr⟩
  by_cases hir : i = r
  · subst hir
    rcases hlr i hi with g | ⟨v, g1, g2⟩
    · exact absurd g hu
    · exact Or.inr ⟨v, g1, hr v g2⟩
  · obtain ⟨k1, k2⟩ := hl i (Nat.lt_of_lt_of_le hi (hP _ _ _ _ hPq)) hir
    rw [k1]
    rcases hlr i hi with g | ⟨v, g1, g2⟩
    · exact Or.inl g
    · exact Or.inr ⟨v, g1, rn_fr_v hρ k2 g2⟩
end RNL
noncomputable def rn_lw (w : en_W) (lo hi : Nat) : en_W := (w.1, w.2.1, w.2.2.1, w.2.2.2.1, w.2.2.2.2.1, w.2.2.2.2.2 ++ [(lo, hi)])
/-- the round's end: the head again, with the next draw -/
noncomputable def rn_hkS (r loc : Nat) (st : List Nat) (hp : en_H) (w1 : en_W) : en_O → en_O := fun o loc' st' hp' w' ih => en_if (Nat.beq (en_elt loc' r) 4295393280) (o loc' st' hp' w' ih) (rn_stop (en_eset loc r 4295393281) st hp w1 o loc' st' hp' w' ih)
noncomputable def rn_seg (SA : List (Nat × Nat)) (H r loc : Nat) (st : List Nat) (hp : en_H) (w : en_W) (lo hi : Nat) : Bool := en_run SA (fun _ _ _ => false) mt_kds mt_P (fun q => en_if (Nat.beq q H) (some (rn_hkS r loc st hp (rn_lw w lo hi))) none) 500 H (en_eset loc r 4295393280) st hp (rn_lw w lo hi)
noncomputable def rn_fresh (loc : Nat) (st : List Nat) (hp hq : en_H) (w : en_W) : Bool := en_if (rn_frs 40 loc) (en_if (rn_frl st) (en_if (rn_frf w.2.2.2.1) (en_if (decide (w.2.2.2.2.2.length = 6)) (rn_frh hp hq 136) false) false) false) false
noncomputable def rn_loop (SA : List (Nat × Nat)) (hq : en_H) (H r : Nat) : en_O → en_O := fun o loc st hp w ih => en_if (Nat.beq (en_elt loc r) 2147483648) (en_if (rn_fresh loc st hp hq w)
  (en_if (rn_seg SA H r loc st hp w 2147483648 2147485705) (en_if (rn_seg SA H r loc st hp w 2147485706 2147485999) (en_if (rn_seg SA H r loc st hp w 2147486000 2147486041) (en_if (rn_seg SA H r loc st hp w 2147486042 2147486047) (ih H (en_eset loc r 2147486048) st hp w) false) false) false) false) false) (o loc st hp w ih)
section RNM
variable {E : mm_E} {L : Nat} {ρ : Nat → Int32} {ω : Nat → Value} {h0 : mm_H} {fsC : List mm_F} {FIN : mm_C → Prop}
def rn_at6 (ρ : Nat → Int32) (x : Nat) : Nat → Int32 := fun i => if i = 6 then en_d x else ρ i
theorem rn_round {SA : List (Nat × Nat)} (hSA : ∀ x, en_SA E (rn_at6 ρ x) ω SA) (hPn : ∀ (k : Nat) (cs : List (List mm_I)) (nL : Nat) (dd : mm_M), mt_P[k]? = some (cs, nL, dd) → nL ≤ 40) {H r loc : Nat} {st : List Nat} {hp : en_H} {w : en_W} {lo hi x : Nat} (hloc : ∀ i, i < 40 → rn_fr (en_elt loc i) = true) (hs : ∀ c ∈ st, rn_fr c = true) (hh : ∀ k, k < 136 → ∀ j, j < en_len (en_get hp k) → rn_fr (en_elt (en_get hp k) j) = true) (hf : ∀ f ∈ w.2.2.2.1, (∀ i, i < 40 → rn_fr (en_elt f.2.1 i) = true) ∧ ∀ c ∈ f.2.2.1, rn_fr c = true) (hev : w.2.2.2.2.2.length = 6) (h1 : lo ≤ x) (h2 : x ≤ hi) (h3 : hi < 4294967295)
    (hseg : rn_seg SA H r loc st hp w lo hi = true) (hnext : ∀ c, en_R E mt_P L ρ ω h0 fsC H (en_eset loc r (x + 1)) st hp w c → en_Good E mt_kds mt_P L FIN c) : ∀ c, en_R E mt_P L ρ ω h0 fsC H (en_eset loc r x) st hp w c → en_Good E mt_kds mt_P L FIN c := by
  intro c hc
  have hρ : ∀ i, i ≠ 6 → ρ i = rn_at6 ρ x i := fun i hi => by unfold rn_at6; rw [if_neg hi]
  have h6 : rn_at6 ρ x 6 = en_d x := rfl
  have hx : x < 4294967296 := by omega
  have hz : en_z (en_d x) = x := en_z_d hx
  have el : ∀ (v i : Nat), v < 2 ^ 68 → i ≠ r → en_elt (en_eset loc r v) i = en_elt loc i := fun v i hv hi => by rw [en_elt_eset hv, if_neg hi]
  have er : ∀ v : Nat, v < 2 ^ 68 → en_elt (en_eset loc r v) r = v := fun v hv => by rw [en_elt_eset hv, if_pos rfl]
  have bx : x < 2 ^ 68 := Nat.lt_trans hx (by decide)
  have bx1 : x + 1 < 2 ^ 68 := Nat.lt_of_le_of_lt (Nat.succ_le_of_lt hx) (by decide)
  have b0 : 4295393280 < 2 ^ 68 := by decide
  have b1 : 4295393281 < 2 ^ 68 := by decide
  have v0 : ∀ v, en_v E (rn_at6 ρ x) ω 4295393280 v ↔ v = .int (en_d x) := fun v => by
    rw [en_v_name (by decide) (by decide), show (4295393280 - 4294967296) / 65536 = 6 by decide, h6, show en_off 4295393280 = 0 by decide, Int32.add_zero]
  have v1 : ∀ v, en_v E (rn_at6 ρ x) ω 4295393281 v ↔ v = .int (en_d x + 1) := fun v => by
    rw [en_v_name (by decide) (by decide), show (4295393281 - 4294967296) / 65536 = 6 by decide, h6, show en_off 4295393281 = 1 by decide]
  have d1 : en_d (x + 1) = en_d x + 1 := by
    apply en_z_inj
    rw [en_z_d (by omega), en_z_add (by rw [hz]; show 2147483648 ≤ x + 2147483649; omega) (by rw [hz]; show x + 2147483649 < 6442450944; omega), hz]
    show x + 1 = x + 2147483649 - 2147483648
    omega
  have ee : en_e ρ (en_ev w) → en_e (rn_at6 ρ x) (en_ev (rn_lw w lo hi)) := by
    intro he i
    have hi0 := he i
    rw [en_nth_eq] at hi0 ⊢
    show (((w.2.2.2.2.2 ++ [(lo, hi)])[i]?).getD (0, 4294967295)).1 ≤ _ ∧ _ ≤ (((w.2.2.2.2.2 ++ [(lo, hi)])[i]?).getD (0, 4294967295)).2
    by_cases h66 : i = 6
    · subst h66
      rw [List.getElem?_append_right (by omega), hev, h6, hz]
      exact ⟨h1, h2⟩
    · rw [← hρ i h66]
      by_cases hlt : i < 6
      · rw [List.getElem?_append_left (by omega)]
        exact hi0
      · rw [List.getElem?_eq_none (by simp; omega)]
        have h9 := en_z_lt (ρ i)
        exact ⟨Nat.zero_le _, by show en_z (ρ i) ≤ 4294967295; omega⟩
  have eb : en_e (rn_at6 ρ x) (en_ev (rn_lw w lo hi)) → en_e ρ (en_ev w) := by
    intro he i
    have hi0 := he i
    rw [en_nth_eq] at hi0 ⊢
    replace hi0 : (((w.2.2.2.2.2 ++ [(lo, hi)])[i]?).getD (0, 4294967295)).1 ≤ en_z (rn_at6 ρ x i) ∧ en_z (rn_at6 ρ x i) ≤ (((w.2.2.2.2.2 ++ [(lo, hi)])[i]?).getD (0, 4294967295)).2 := hi0
    show (((w.2.2.2.2.2)[i]?).getD (0, 4294967295)).1 ≤ _ ∧ _ ≤ (((w.2.2.2.2.2)[i]?).getD (0, 4294967295)).2
    by_cases hlt : i < 6
    · rw [List.getElem?_append_left (by omega), ← hρ i (by omega)] at hi0
      exact hi0
    · rw [List.getElem?_eq_none (by omega)]
      have h9 := en_z_lt (ρ i)
      exact ⟨Nat.zero_le _, by show en_z (ρ i) ≤ 4294967295; omega⟩
  refine en_run_v (ρ := rn_at6 ρ x) (hSA x) (fin := fun _ _ _ => false) (fun _ _ _ _ _ h => by cases h) (fun k cs nL dd h => Nat.lt_of_le_of_lt (hPn k cs nL dd h) (by decide)) ?_ 500 _ _ _ _ _ c hseg
    (rn_R_mv (r := r) (loc := en_eset loc r x) (w := w) hρ hPn (fun i hi hr => ⟨by rw [el _ _ b0 hr, el _ _ bx hr], by rw [el _ _ bx hr]; exact hloc i hi⟩) (by rw [er _ bx]; omega) (fun v hv => by rw [er _ bx, en_v_const hx] at hv; rw [er _ b0, v0]; exact hv) hs hh hf ⟨rfl, rfl, rfl, rfl, rfl⟩ ee hc)
  intro q hk o e ho
  cases hq : Nat.beq q H with
  | false => rw [hq] at e; cases e
  | true =>
    rw [hq, en_if_t] at e
    cases e
    have e2 := en_beq_t.mp hq
    subst e2
    intro loc' st' hp' w' ih' c' hih' hk2 hR2
    unfold rn_hkS at hk2
    rcases en_if_or.mp hk2 with ⟨-, hk2⟩ | ⟨-, hk2⟩
    · exact ho loc' st' hp' w' ih' c' hih' hk2 hR2
    · have hR3 := rn_stop_R hk2 hR2
      exact hnext c' (rn_R_mv (r := r) (loc := en_eset loc r 4295393281) (w := rn_lw w lo hi) (fun i hi => (hρ i hi).symm) hPn (fun i hi hr => ⟨by rw [el _ _ bx1 hr, el _ _ b1 hr], by rw [el _ _ b1 hr]; exact hloc i hi⟩) (by rw [er _ b1]; decide) (fun v hv => by rw [er _ b1, v1] at hv; rw [er _ bx1, en_v_const (by omega), d1]; exact hv) hs hh hf ⟨rfl, rfl, rfl, rfl, rfl⟩ eb hR3)
theorem rn_loop_ok {SA : List (Nat × Nat)} (hSA : ∀ x, en_SA E (rn_at6 ρ x) ω SA) (hPn : ∀ (k : Nat) (cs : List (List mm_I)) (nL : Nat) (dd : mm_M), mt_P[k]? = some (cs, nL, dd) → nL ≤ 40) {hq : en_H} (hhq : ∀ k, k < 136 → rn_frs (en_len (en_get hq k)) (en_get hq k) = true) {H r : Nat} {o : en_O} (ho : en_OS E mt_kds mt_P L ρ ω h0 fsC FIN H o) : en_OS E mt_kds mt_P L ρ ω h0 fsC FIN H (rn_loop SA hq H r o) := by
  intro loc st hp w ih c hih hk hR
  unfold rn_loop at hk
  rcases en_if_or.mp hk with ⟨a1, hk⟩ | ⟨-, hk⟩
  · obtain ⟨a2, hk⟩ := en_if_and.mp hk
    obtain ⟨s1, hk⟩ := en_if_and.mp hk
    obtain ⟨s2, hk⟩ := en_if_and.mp hk
    obtain ⟨s3, hk⟩ := en_if_and.mp hk
    obtain ⟨s4, hk⟩ := en_if_and.mp hk
    have a1 := en_beq_t.mp a1
    unfold rn_fresh at a2
    obtain ⟨f1, a2⟩ := en_if_and.mp a2
    obtain ⟨f2, a2⟩ := en_if_and.mp a2
    obtain ⟨f3, a2⟩ := en_if_and.mp a2
    obtain ⟨f4, f5⟩ := en_if_and.mp a2
    have f1 := rn_frs_t 40 f1
    have f2 := rn_frl_t _ f2
    have f3 := rn_frf_t _ f3
    have f4 := of_decide_eq_true f4
    have f6 : ∀ k, k < 136 → ∀ j, j < en_len (en_get hp k) → rn_fr (en_elt (en_get hp k) j) = true := by
      intro k hk9 j hj
      rcases rn_frh_t 136 f5 k hk9 with e | e
      · rw [e] at hj ⊢; exact rn_frs_t _ (hhq k hk9) j hj
      · exact rn_frs_t _ e j hj
    have G : ∀ n x : Nat, x + n = 2147486048 → 2147483648 ≤ x → ∀ c, en_R E mt_P L ρ ω h0 fsC H (en_eset loc r x) st hp w c → en_Good E mt_kds mt_P L FIN c := by
      intro n
      induction n with
      | zero =>
        intro x e _ c hc
        have e2 : x = 2147486048 := by omega
        subst e2
        exact hih _ _ _ _ _ c hk hc
      | succ n ihn =>
        intro x e hx c hc
        have nx := ihn (x + 1) (by omega) (by omega)
        by_cases c1 : x ≤ 2147485705
        · exact rn_round hSA hPn f1 f2 f6 f3 f4 hx c1 (by decide) s1 nx c hc
        · by_cases c2 : x ≤ 2147485999
          · exact rn_round hSA hPn f1 f2 f6 f3 f4 (show 2147485706 ≤ x by omega) c2 (by decide) s2 nx c hc
          · by_cases c3 : x ≤ 2147486041
            · exact rn_round hSA hPn f1 f2 f6 f3 f4 (show 2147486000 ≤ x by omega) c3 (by decide) s3 nx c hc
            · exact rn_round hSA hPn f1 f2 f6 f3 f4 (show 2147486042 ≤ x by omega) (show x ≤ 2147486047 by omega) (by decide) s4 nx c hc
    refine G 2400 2147483648 (by decide) (Nat.le_refl _) c (rn_R_mv (r := r) (ρ := ρ) (ρ' := ρ) (fun _ _ => rfl) hPn (fun i hi hr => ⟨by rw [en_elt_eset (by decide), if_neg hr], f1 i hi⟩) (by rw [a1]; decide) (fun v hv => by rw [en_elt_eset (by decide), if_pos rfl]; rw [a1] at hv; exact hv) f2 f6 f3 ⟨rfl, rfl, rfl, rfl, rfl⟩ (fun h => h) hR)
  · exact ho loc st hp w ih c hih hk hR
end RNM
set_option maxRecDepth 1000000 in
theorem rn_hp1_ok : ∀ k, k < 136 → rn_frs (en_len (en_get rn_hp1 k)) (en_get rn_hp1 k) = true := by decide +kernel
theorem mt_P40 : ∀ (k : Nat) (cs : List (List mm_I)) (nL : Nat) (dd : mm_M), mt_P[k]? = some (cs, nL, dd) → nL ≤ 40 := by
  have h : mt_P.all (fun q => decide (q.2.1 ≤ 40)) = true := by decide +kernel
  intro k cs nL dd hk
  exact of_decide_eq_true (List.all_eq_true.mp h _ (List.mem_of_getElem? hk))
