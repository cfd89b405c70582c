/-! NOTES OF CALLS: what a callee does, run once over the cells that it touches; a hook that goes on behind the call -/
/-- a note: locals, cells before, cells that change, the answer -/
abbrev rn_M : Type := Nat × List (Nat × Nat) × List (Nat × Nat) × List Nat
noncomputable def rn_puts (l : List (Nat × Nat)) : en_H → en_H := List.rec (motive := fun _ => en_H → en_H) (fun hp => hp) (fun a _ ih hp => ih (en_put hp a.1 a.2)) l
noncomputable def rn_has (hp : en_H) (l : List (Nat × Nat)) : Bool := List.rec (motive := fun _ => Bool) true (fun a _ ih => en_if (Nat.beq (en_get hp a.1) a.2) ih false) l
noncomputable def rn_kds (l : List (Nat × Nat)) : Bool := List.rec (motive := fun _ => Bool) true (fun a _ ih => en_if (Nat.ble (Nat.succ a.1) 136) (en_if (Nat.ble 1 (en_kind a.2)) ih false) false) l
noncomputable def rn_mfin (nx : Nat) (m : rn_M) : List Nat → en_H → en_W → Bool := fun v hp w => en_if (decide (v = m.2.2.2)) (en_if (Nat.beq w.2.2.2.2.1 nx) (rn_eqH hp (rn_puts m.2.2.1 (rn_puts m.2.1 rn_hp0)) 136) false) false
noncomputable def rn_mrun (tb : en_T) (q dp nx N : Nat) (m : rn_M) : Bool := en_if (rn_kds m.2.1) (en_if (rn_kds m.2.2.1) (en_run (mt_SB 6) (rn_mfin nx m) mt_kds mt_P tb N q m.1 [] (rn_puts m.2.1 rn_hp0) (0, 0, dp, [], nx, [])) false) false
noncomputable def rn_is (dp nx : Nat) (m : rn_M) (loc : Nat) (st : List Nat) (hp : en_H) (w : en_W) : Bool := en_if (Nat.beq loc m.1) (en_if (rn_has hp m.2.1) (en_if (Nat.beq w.1 0) (en_if (Nat.beq w.2.1 0) (en_if (Nat.ble dp w.2.2.1) (en_if (Nat.beq w.2.2.2.2.1 nx) (List.rec (motive := fun _ => Bool) true (fun _ _ _ => false) st) false) false) false) false) false) false
noncomputable def rn_memo (dp nx : Nat) (l : List rn_M) : en_O → en_O := fun o loc st hp w ih => List.rec (motive := fun _ => Bool) (o loc st hp w ih) (fun m _ r => en_if (rn_is dp nx m loc st hp w) (en_back (fun _ _ _ => false) m.2.2.2 loc st (rn_puts m.2.2.1 hp) w ih) r) l
noncomputable def rn_alls (f : rn_M → Bool) (l : List rn_M) : Bool := List.rec (motive := fun _ => Bool) true (fun m _ ih => en_if (f m) ih false) l
/-- an int of a cell is any int -/
noncomputable def rn_any (a j : Nat) : en_O → en_O := fun o loc st hp w ih => en_if (en_isI (en_elt (en_get hp a) j)) (o loc st (en_put hp a (en_eset (en_get hp a) j 73786976299133173759)) w ih) (o loc st hp w ih)
theorem rn_alls_t {f : rn_M → Bool} : ∀ l, rn_alls f l = true → ∀ m ∈ l, f m = true
  | [], _, m, h => by cases h
  | b :: l, h, m, hm => by
    obtain ⟨h1, h2⟩ := en_if_and.mp (show en_if (f b) (rn_alls f l) false = true from h)
    rcases List.mem_cons.mp hm with rfl | hm
    · exact h1
    · exact rn_alls_t l h2 m hm
set_option maxRecDepth 100000 in
theorem rn_hp0_z : ∀ k, k < 136 → en_get rn_hp0 k = 0 := by decide +kernel
theorem rn_has_t {hp : en_H} : ∀ l, rn_has hp l = true → ∀ a ∈ l, en_get hp a.1 = a.2
  | [], _, a, h => by cases h
  | b :: l, h, a, ha => by
    obtain ⟨h1, h2⟩ := en_if_and.mp (show en_if (Nat.beq (en_get hp b.1) b.2) (rn_has hp l) false = true from h)
    rcases List.mem_cons.mp ha with rfl | ha
    · exact en_beq_t.mp h1
    · exact rn_has_t l h2 a ha
theorem rn_kds_t : ∀ l, rn_kds l = true → ∀ a ∈ l, a.1 < 136 ∧ en_kind a.2 ≠ 0
  | [], _, a, h => by cases h
  | b :: l, h, a, ha => by
    obtain ⟨h1, h2⟩ := en_if_and.mp (show en_if (Nat.ble (Nat.succ b.1) 136) (en_if (Nat.ble 1 (en_kind b.2)) (rn_kds l) false) false = true from h)
    obtain ⟨h2, h3⟩ := en_if_and.mp h2
    rcases List.mem_cons.mp ha with rfl | ha
    · have a1 := en_ble_t.mp h1
      have a2 := en_ble_t.mp h2
      exact ⟨a1, fun e => by rw [e] at a2; exact absurd a2 (by decide)⟩
    · exact rn_kds_t l h3 a ha
/-- a cell behind some puts: of one of them, or as it was, whatever the tree -/
theorem rn_puts_t : ∀ (l : List (Nat × Nat)), (∀ a ∈ l, a.1 < 136) → ∀ k, k < 136 → (∃ a ∈ l, a.1 = k ∧ ∀ hp, en_get (rn_puts l hp) k = a.2) ∨ (∀ hp, en_get (rn_puts l hp) k = en_get hp k)
  | [], _, _, _ => Or.inr (fun _ => rfl)
  | b :: l, hl, k, hk => by
    rcases rn_puts_t l (fun a ha => hl a (List.mem_cons_of_mem _ ha)) k hk with ⟨a, ha, e, h⟩ | h
    · exact Or.inl ⟨a, List.mem_cons_of_mem _ ha, e, fun hp => h (en_put hp b.1 b.2)⟩
    · by_cases e : b.1 = k
      · refine Or.inl ⟨b, List.mem_cons_self, e, fun hp => ?_⟩
        show en_get (rn_puts l (en_put hp b.1 b.2)) k = b.2
        rw [h, en_get_put (hl b List.mem_cons_self) hk, if_pos e]
      · refine Or.inr (fun hp => ?_)
        show en_get (rn_puts l (en_put hp b.1 b.2)) k = en_get hp k
        rw [h, en_get_put (hl b List.mem_cons_self) hk, if_neg e]
/-- hooks that may stand in any run -/
def rn_TS (E : mm_E) (ρ : Nat → Int32) (ω : Nat → Value) (tb : en_T) : Prop := ∀ (h0 : mm_H) (fsC : List mm_F) (FIN : mm_C → Prop) (q : Nat) (hk : en_O → en_O) (o : en_O), tb q = some hk → en_OS E mt_kds mt_P 1000 ρ ω h0 fsC FIN q o → en_OS E mt_kds mt_P 1000 ρ ω h0 fsC FIN q (hk o)
noncomputable def rn_tc (Q : Nat) (hk : en_O → en_O) (tb : en_T) : en_T := fun q => en_if (Nat.beq q Q) (some hk) (tb q)
section RNN
variable {E : mm_E} {ρ : Nat → Int32} {ω : Nat → Value}
theorem rn_TS_n : rn_TS E ρ ω (fun _ => none) := fun _ _ _ _ _ _ h => by cases h
theorem rn_TS_c {Q : Nat} {hk : en_O → en_O} {tb : en_T} (h : ∀ (h0 : mm_H) (fsC : List mm_F) (FIN : mm_C → Prop) (o : en_O), en_OS E mt_kds mt_P 1000 ρ ω h0 fsC FIN Q o → en_OS E mt_kds mt_P 1000 ρ ω h0 fsC FIN Q (hk o)) (ht : rn_TS E ρ ω tb) : rn_TS E ρ ω (rn_tc Q hk tb) := by
  intro h0 fsC FIN q hk' o e ho
  have e : en_if (Nat.beq q Q) (some hk) (tb q) = some hk' := e
  cases h1 : Nat.beq q Q with
  | false =>
    rw [h1, en_if_f] at e
    exact ht h0 fsC FIN q hk' o e ho
  | true =>
    have e2 := en_beq_t.mp h1
    rw [h1, en_if_t] at e
    cases e
    subst e2
    exact h h0 fsC FIN o ho
variable {h0 : mm_H} {fsC : List mm_F} {FIN : mm_C → Prop}
theorem rn_back_ok {v : List Nat} {vo : Option Value} {loc : Nat} {st : List Nat} {hp : en_H} {w : en_W} {ih : en_C} {gs : List mm_F} {h : mm_H} (hih : en_S E mt_kds mt_P 1000 ρ ω h0 fsC FIN ih) (hb : en_back (fun _ _ _ => false) v loc st hp w ih = true) (hv : en_vo E ρ ω v vo) (hh : en_h E ρ ω h0 hp h) (he : en_e ρ (en_ev w)) (hx : h.length = w.2.2.2.2.1) (hf : en_frs E mt_P 1000 ρ ω fsC w.2.2.2.1 gs) : en_Good E mt_kds mt_P 1000 FIN (mm_back vo gs h) := by
  unfold en_back at hb
  generalize hfs : w.2.2.2.1 = fs at hb hf
  cases fs with
  | nil => cases hb
  | cons f fs =>
    cases gs with
    | nil => exact hf.elim
    | cons g gs =>
      obtain ⟨⟨r1, r2, ⟨cs2, nL2, dd2, r3, r4⟩, r5, r6, r7⟩, r8, r9⟩ := hf
      refine hih _ _ _ _ _ _ hb ⟨g.2.2.1, vo.toList ++ g.2.2.2.1, gs, h, none, ?_, ⟨cs2, nL2, dd2, by rw [← r1]; exact r3, r4⟩, ?_, hh, he, hx, r8, r9⟩
      · show mm_back vo (g :: gs) h = _
        obtain ⟨g1, g2, g3, g4, g5, g6⟩ := g
        simp only [mm_back] at *
        rw [r1, r2, r6, r7]
      · rcases hv with ⟨rfl, rfl⟩ | ⟨c, V, rfl, rfl, hv⟩
        · exact r5
        · exact ⟨hv, r5⟩
theorem rn_note (hSA : en_SA E ρ ω (mt_SB 6)) {tb : en_T} (ht : rn_TS E ρ ω tb) {q dp nx N : Nat} {m : rn_M} (hm : rn_mrun tb q dp nx N m = true) {loc : Nat} {st : List Nat} {hp : en_H} {w : en_W} {ih : en_C} {c : mm_C} (hih : en_S E mt_kds mt_P 1000 ρ ω h0 fsC FIN ih) (h1 : rn_is dp nx m loc st hp w = true) (hb : en_back (fun _ _ _ => false) m.2.2.2 loc st (rn_puts m.2.2.1 hp) w ih = true) (hR : en_R E mt_P 1000 ρ ω h0 fsC q loc st hp w c) : en_Good E mt_kds mt_P 1000 FIN c := by
  unfold rn_is at h1
  obtain ⟨a1, h1⟩ := en_if_and.mp h1
  obtain ⟨a2, h1⟩ := en_if_and.mp h1
  obtain ⟨a3, h1⟩ := en_if_and.mp h1
  obtain ⟨a4, h1⟩ := en_if_and.mp h1
  obtain ⟨a5, h1⟩ := en_if_and.mp h1
  obtain ⟨a6, a7⟩ := en_if_and.mp h1
  have c1 := en_beq_t.mp a1
  have c2 := rn_has_t _ a2
  have c3 := en_beq_t.mp a3
  have c4 := en_beq_t.mp a4
  have c5 := en_ble_t.mp a5
  have c6 := en_beq_t.mp a6
  have c8 : st = [] := by
    cases st with
    | nil => rfl
    | cons _ _ => cases a7
  subst c8
  subst c1
  unfold rn_mrun at hm
  obtain ⟨k1, hm⟩ := en_if_and.mp hm
  obtain ⟨k2, hm⟩ := en_if_and.mp hm
  have d1 := rn_kds_t _ k1
  have d2 := rn_kds_t _ k2
  obtain ⟨lv, sv, gs, h, o', rfl, hl, hs, hh, he, hx, hd, hf⟩ := hR
  have hlen := en_frs_len _ _ hf
  have hcr : ∀ a ∈ m.2.1, en_cr E ρ ω a.2 h[a.1]? := by
    intro a ha
    have e1 := c2 a ha
    have hc := (hh a.1).1 (d1 a ha).1 (by rw [e1]; exact (d1 a ha).2)
    rw [e1] at hc
    exact hc
  refine en_run_v (h0 := h) (fsC := gs) hSA (fin := rn_mfin nx m) ?_ mt_Pn (ht h gs FIN) N _ _ _ _ _ _ hm ⟨lv, sv, gs, h, o', ?_, hl, hs, ?_, ?_, ?_, ?_, rfl⟩
  · intro v vo hp2 w2 h2 hfin hv hh2 he2 hx2
    unfold rn_mfin at hfin
    obtain ⟨b1, hfin⟩ := en_if_and.mp hfin
    obtain ⟨b2, b3⟩ := en_if_and.mp hfin
    have e1 := of_decide_eq_true b1
    have e2 := en_beq_t.mp b2
    have e3 := rn_eqH_t 136 b3
    subst e1
    refine rn_back_ok hih hb hv ?_ he (by rw [hx2, e2, c6]) hf
    intro k
    by_cases hk : k < 136
    · have e4 := e3 k hk
      rcases rn_puts_t m.2.2.1 (fun a ha => (d2 a ha).1) k hk with ⟨a, ha, e, hput⟩ | hput
      · rw [hput] at e4
        have hc := (hh2 k).1 hk (by rw [e4]; exact (d2 a ha).2)
        rw [hput]
        rw [e4] at hc
        exact ⟨fun _ _ => hc, fun hn => absurd ⟨hk, (d2 a ha).2⟩ hn⟩
      · rw [hput] at e4
        rw [hput]
        rcases rn_puts_t m.2.1 (fun a ha => (d1 a ha).1) k hk with ⟨a, ha, e, hput2⟩ | hput2
        · rw [hput2] at e4
          have hc := (hh2 k).1 hk (by rw [e4]; exact (d1 a ha).2)
          rw [e4] at hc
          have e5 := c2 a ha
          rw [e] at e5
          rw [e5]
          exact ⟨fun _ _ => hc, fun hn => absurd ⟨hk, (d1 a ha).2⟩ hn⟩
        · rw [hput2, rn_hp0_z k hk] at e4
          have e6 := (hh2 k).2 (fun hq => hq.2 (by rw [e4]; rfl))
          rw [e6]
          exact hh k
    · have e6 := (hh2 k).2 (fun hq => hk hq.1)
      rw [e6]
      exact ⟨fun g => absurd g hk, fun _ => (hh k).2 (fun g => hk g.1)⟩
  · rw [c3, c4]
  · intro k
    refine ⟨fun hk hkd => ?_, fun _ => rfl⟩
    rcases rn_puts_t m.2.1 (fun a ha => (d1 a ha).1) k hk with ⟨a, ha, e, hput⟩ | hput
    · rw [hput, ← e]
      exact hcr a ha
    · rw [hput, rn_hp0_z k hk] at hkd
      exact absurd rfl hkd
  · intro i
    have h9 := en_z_lt (ρ i)
    exact ⟨Nat.zero_le _, by show en_z (ρ i) ≤ 4294967295; omega⟩
  · show h.length = nx
    rw [hx, c6]
  · show gs.length + 0 + 1 + dp ≤ 1000
    omega
theorem rn_memo_ok (hSA : en_SA E ρ ω (mt_SB 6)) {tb : en_T} (ht : rn_TS E ρ ω tb) {q dp nx N : Nat} {l : List rn_M} (hl : rn_alls (rn_mrun tb q dp nx N) l = true) (h0 : mm_H) (fsC : List mm_F) (FIN : mm_C → Prop) (o : en_O) (ho : en_OS E mt_kds mt_P 1000 ρ ω h0 fsC FIN q o) : en_OS E mt_kds mt_P 1000 ρ ω h0 fsC FIN q (rn_memo dp nx l o) := by
  intro loc st hp w ih c hih hk hR
  have key : ∀ l : List rn_M, (∀ m ∈ l, rn_mrun tb q dp nx N m = true) → rn_memo dp nx l o loc st hp w ih = true → en_Good E mt_kds mt_P 1000 FIN c := by
    intro l
    induction l with
    | nil => intro _ hk2; exact ho loc st hp w ih c hih hk2 hR
    | cons m l ihl =>
      intro hl2 hk2
      rcases en_if_or.mp (show en_if (rn_is dp nx m loc st hp w) (en_back (fun _ _ _ => false) m.2.2.2 loc st (rn_puts m.2.2.1 hp) w ih) (rn_memo dp nx l o loc st hp w ih) = true from hk2) with ⟨h1, h2⟩ | ⟨-, h2⟩
      · exact rn_note hSA ht (hl2 m List.mem_cons_self) hih h1 h2 hR
      · exact ihl (fun m hm => hl2 m (List.mem_cons_of_mem _ hm)) h2
  exact key l (rn_alls_t l hl) hk
theorem rn_any_v {c : Nat} {v : Value} (hI : en_isI c = true) (hv : en_v E ρ ω c v) : en_v E ρ ω 73786976299133173759 v := by
  obtain ⟨x, rfl⟩ := en_isI_int hI hv
  rw [en_v_rng (by decide) (by decide)]
  have e1 : (73786976299133173759 - 73786976294838206464) / 4294967296 = 0 := by decide
  have e2 : 73786976299133173759 % 4294967296 = 4294967295 := by decide
  have h9 := en_z_lt x
  exact ⟨x, rfl, by rw [e1]; exact Nat.zero_le _, by rw [e2]; omega⟩
theorem rn_any_cr {N j : Nat} {x : Option va_E} (hI : en_isI (en_elt N j) = true) (h : en_cr E ρ ω N x) : en_cr E ρ ω (en_eset N j 73786976299133173759) x := by
  have el : ∀ (i : Nat) (v : Value), en_v E ρ ω (en_elt N i) v → en_v E ρ ω (en_elt (en_eset N j 73786976299133173759) i) v := by
    intro i v hv
    rw [en_elt_eset (by decide)]
    by_cases e : i = j
    · subst e; rw [if_pos rfl]; exact rn_any_v hI hv
    · rw [if_neg e]; exact hv
  unfold en_cr at h ⊢
  rw [en_eset_kind, en_eset_len]
  rcases h with ⟨t, f, h1, h2, h3, h4⟩ | ⟨f, h1, h2, h3⟩ | ⟨f, h1, h2, h3⟩ | ⟨ci, fs, h1, h2, h3, h4⟩
  · exact Or.inl ⟨t, f, h1, h2, h3, fun i hi => el i _ (h4 i hi)⟩
  · exact Or.inr (Or.inl ⟨f, h1, h2, fun i hi => el i _ (h3 i hi)⟩)
  · exact Or.inr (Or.inr (Or.inl ⟨f, h1, h2, fun i hi => el i _ (h3 i hi)⟩))
  · exact Or.inr (Or.inr (Or.inr ⟨ci, fs, h1, h2, h3, fun i v hv => el i v (h4 i v hv)⟩))
theorem rn_any_ok {q a j : Nat} (ha : a < 136) (h0 : mm_H) (fsC : List mm_F) (FIN : mm_C → Prop) (o : en_O) (ho : en_OS E mt_kds mt_P 1000 ρ ω h0 fsC FIN q o) : en_OS E mt_kds mt_P 1000 ρ ω h0 fsC FIN q (rn_any a j o) := by
  intro loc st hp w ih c hih hk hR
  rcases en_if_or.mp (show en_if (en_isI (en_elt (en_get hp a) j)) (o loc st (en_put hp a (en_eset (en_get hp a) j 73786976299133173759)) w ih) (o loc st hp w ih) = true from hk) with ⟨h1, h2⟩ | ⟨-, h2⟩
  · obtain ⟨lv, sv, gs, h, o', rfl, hl, hs, hh, hx⟩ := hR
    refine ho _ _ _ _ _ _ hih h2 ⟨lv, sv, gs, h, o', rfl, hl, hs, fun k => ?_, hx⟩
    by_cases hka : a = k
    · subst hka
      rw [en_get_put ha ha, if_pos rfl, en_eset_kind]
      exact ⟨fun g1 g2 => rn_any_cr h1 ((hh a).1 g1 g2), (hh a).2⟩
    · by_cases hk1 : k < 136
      · rw [en_get_put ha hk1, if_neg hka]; exact hh k
      · exact ⟨fun g => absurd g hk1, fun _ => (hh k).2 (fun g => hk1 g.1)⟩
  · exact ho _ _ _ _ _ _ hih h2 hR
end RNN
theorem rn_Hv_ts {q N : Nat} {tb : en_T} {ev : en_V} (ht : ∀ {E : mm_E} {ρ : Nat → Int32} {ω : Nat → Value}, en_SA E ρ ω (mt_SB 6) → rn_TS E ρ ω tb) (h : en_run (mt_SB 6) rn_fin mt_kds mt_P tb N q 237142198758023568230687253419235524720382322756948282300116845230250642817156096 [] rn_hp1 (rn_we ev) = true) : rn_Hv q ev :=
  fun _ _ _ _ _ _ h1 h2 h3 h4 n1 n2 n3 n4 n5 n6 c hR => en_run_v (st_SA (Nat.le_refl 6) (fun _ _ => rfl) h1 h2 h3 h4 n1 n2 n3 n4 n5 n6) rn_FS mt_Pn (ht (st_SA (Nat.le_refl 6) (fun _ _ => rfl) h1 h2 h3 h4 n1 n2 n3 n4 n5 n6) [] [] st_FIN) N _ _ _ _ _ c h hR
theorem rn_alls_c {f : rn_M → Bool} {m : rn_M} {l : List rn_M} (h1 : f m = true) (h2 : rn_alls f l = true) : rn_alls f (m :: l) = true := en_if_and.mpr ⟨h1, h2⟩
