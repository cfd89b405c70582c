/-! CONTRACTS: a method from its entry, over some cells within bounds, comes back with these cells within the same bounds and an answer within its own; a call by it -/
/-- a contract: place, locals, cells before, cells behind, their numbers, answer -/
abbrev sf_M : Type := Nat × Nat × en_H × en_H × List Nat × List Nat
noncomputable def sf_fin (nx : Nat) (hp : en_H) (ret : List Nat) : List Nat → en_H → en_W → Bool := fun v h w => en_if (sf_st w v ret) (en_if (Nat.beq w.2.2.2.2.1 nx) (sf_heap w h hp 136) false) false
def sf_K (E : mm_E) (ω : Nat → Value) (J : mm_H → Prop) (dp nx : Nat) (M : sf_M) : Prop := ∀ (h0 : mm_H) (fsC : List mm_F) (FIN : mm_C → Prop) (c : mm_C), J h0 → (∀ ρ, en_R E mt_P 1000 ρ ω h0 fsC M.1 M.2.1 [] M.2.2.1 (sf_w0 dp nx) c) → (∀ (vo : Option Value) (h : mm_H), (∀ ρ, en_vo E ρ ω M.2.2.2.2.2 vo ∧ en_h E ρ ω h0 M.2.2.2.1 h) → h.length = nx → en_Good E mt_kds mt_P 1000 FIN (mm_back vo fsC h)) → en_Good E mt_kds mt_P 1000 FIN c
noncomputable def sf_cov (hp : en_H) (cs : List Nat) (n : Nat) : Bool := Nat.rec (motive := fun _ => Bool) true (fun k ih => en_if (Nat.beq (en_kind (en_get hp k)) 0) (en_if (decide (k ∈ cs)) false ih) (en_if (decide (k ∈ cs)) ih false)) n
noncomputable def sf_cells (w : en_W) (hp hq : en_H) (cs : List Nat) : Bool := List.rec (motive := fun _ => Bool) true (fun k _ ih => en_if (sf_cell w (en_get hp k) (en_get hq k)) ih false) cs
noncomputable def sf_over (hq : en_H) (cs : List Nat) : en_H → en_H := List.rec (motive := fun _ => en_H → en_H) (fun hp => hp) (fun k _ ih hp => ih (en_put hp k (en_get hq k))) cs
noncomputable def sf_is (n dp nx : Nat) (M : sf_M) (loc : Nat) (st : List Nat) (hp : en_H) (w : en_W) : Bool := en_if (Nat.beq w.1 0) (en_if (Nat.beq w.2.1 0) (en_if (Nat.ble dp w.2.2.1) (en_if (Nat.beq w.2.2.2.2.1 nx) (en_if (List.rec (motive := fun _ => Bool) true (fun _ _ _ => false) st) (en_if (sf_loc w loc M.2.1 n) (en_if (sf_jx hp) (sf_cells w hp M.2.2.1 M.2.2.2.2.1) false) false) false) false) false) false) false
noncomputable def sf_call (nx : Nat) (l : List (Nat × Nat × sf_M)) : en_O → en_O := fun o loc st hp w ih => List.rec (motive := fun _ => Bool) (o loc st hp w ih) (fun M _ r => en_if (sf_is M.1 M.2.1 nx M.2.2 loc st hp w) (en_back (fun _ _ _ => false) M.2.2.2.2.2.2.2 loc st (sf_over M.2.2.2.2.2.1 M.2.2.2.2.2.2.1 hp) w ih) r) l
theorem sf_cov_t {hp : en_H} {cs : List Nat} : ∀ n, sf_cov hp cs n = true → ∀ k, k < n → (k ∈ cs ↔ en_kind (en_get hp k) ≠ 0)
  | 0, _, k, hk => absurd hk (Nat.not_lt_zero k)
  | n + 1, h, k, hk => by
    have h : en_if (Nat.beq (en_kind (en_get hp n)) 0) (en_if (decide (n ∈ cs)) false (sf_cov hp cs n)) (en_if (decide (n ∈ cs)) (sf_cov hp cs n) false) = true := h
    rcases en_if_or.mp h with ⟨h1, h2⟩ | ⟨h1, h2⟩
    · rcases en_if_or.mp h2 with ⟨-, h2⟩ | ⟨h3, h2⟩
      · cases h2
      · rcases Nat.lt_succ_iff_lt_or_eq.mp hk with h4 | rfl
        · exact sf_cov_t n h2 k h4
        · exact ⟨fun g => absurd g (of_decide_eq_false h3), fun g => absurd (en_beq_t.mp h1) g⟩
    · obtain ⟨h3, h2⟩ := en_if_and.mp h2
      rcases Nat.lt_succ_iff_lt_or_eq.mp hk with h4 | rfl
      · exact sf_cov_t n h2 k h4
      · exact ⟨fun _ => en_beq_f.mp h1, fun _ => of_decide_eq_true h3⟩
theorem sf_cells_t {w : en_W} {hp hq : en_H} : ∀ cs, sf_cells w hp hq cs = true → ∀ k ∈ cs, sf_cell w (en_get hp k) (en_get hq k) = true
  | [], _, _, h => by cases h
  | b :: l, h, k, hk => by
    obtain ⟨h1, h2⟩ := en_if_and.mp (show en_if (sf_cell w (en_get hp b) (en_get hq b)) (sf_cells w hp hq l) false = true from h)
    rcases List.mem_cons.mp hk with rfl | hk
    · exact h1
    · exact sf_cells_t l h2 k hk
theorem sf_over_t {hq : en_H} : ∀ (cs : List Nat), (∀ k ∈ cs, k < 136) → ∀ (hp : en_H) (k : Nat), k < 136 → en_get (sf_over hq cs hp) k = if k ∈ cs then en_get hq k else en_get hp k
  | [], _, hp, k, _ => by rw [if_neg (fun h => by cases h)]; rfl
  | b :: l, hl, hp, k, hk => by
    show en_get (sf_over hq l (en_put hp b (en_get hq b))) k = _
    rw [sf_over_t l (fun k h => hl k (List.mem_cons_of_mem _ h)) _ k hk]
    by_cases h1 : k ∈ l
    · rw [if_pos h1, if_pos (List.mem_cons_of_mem _ h1)]
    · rw [if_neg h1, en_get_put (hl b List.mem_cons_self) hk]
      by_cases h2 : b = k
      · subst h2; rw [if_pos rfl, if_pos List.mem_cons_self]
      · rw [if_neg h2, if_neg (fun h => by rcases List.mem_cons.mp h with h | h; exact h2 h.symm; exact h1 h)]
section SFK
variable {E : mm_E} {ω : Nat → Value}
theorem sf_back_ok {ρ : Nat → Int32} {h0 : mm_H} {fsC : List mm_F} {FIN : mm_C → Prop} {v : List Nat} {vo : Option Value} {loc : Nat} {st : List Nat} {hp : en_H} {w : en_W} {ih : en_C} {gs : List mm_F} {h : mm_H} (hih : en_S E mt_kds mt_P 1000 ρ ω h0 fsC FIN ih) (hb : en_back (fun _ _ _ => false) v loc st hp w ih = true) (hv : en_vo E ρ ω v vo) (hh : en_h E ρ ω h0 hp h) (he : en_e ρ (en_ev w)) (hx : h.length = w.2.2.2.2.1) (hf : en_frs E mt_P 1000 ρ ω fsC w.2.2.2.1 gs) : en_Good E mt_kds mt_P 1000 FIN (mm_back vo gs h) := by
  unfold en_back at hb
  generalize hfs : w.2.2.2.1 = fs at hb hf
  cases fs with
  | nil => cases hb
  | cons f fs =>
    cases gs with
    | nil => exact hf.elim
    | cons g gs =>
      obtain ⟨⟨r1, r2, ⟨cs2, nL2, dd2, r3, r4⟩, r5, r6, r7⟩, r8, r9⟩ := hf
      refine hih _ _ _ _ _ _ hb ⟨g.2.2.1, vo.toList ++ g.2.2.2.1, gs, h, none, ?_, ⟨cs2, nL2, dd2, by rw [← r1]; exact r3, r4⟩, ?_, hh, he, hx, r8, r9⟩
      · show mm_back vo (g :: gs) h = _
        obtain ⟨g1, g2, g3, g4, g5, g6⟩ := g
        simp only [mm_back] at *
        rw [r1, r2, r6, r7]
      · rcases hv with ⟨rfl, rfl⟩ | ⟨c, V, rfl, rfl, hv⟩
        · exact r5
        · exact ⟨hv, r5⟩
theorem sf_call1 {J : mm_H → Prop} (hJX : sf_JX J) {ρ : Nat → Int32} {h0 : mm_H} {fsC : List mm_F} {FIN : mm_C → Prop} {n dp nx loc : Nat} {M : sf_M} {st : List Nat} {hp : en_H} {w : en_W} {ih : en_C} {c : mm_C} (hJ : J h0) (hn : ∀ cs nL dd, mt_P[M.1 / 65536]? = some (cs, nL, dd) → nL = n) (hnl : sf_nlh M.2.2.1 136 = true) (hcov : sf_cov M.2.2.1 M.2.2.2.2.1 136 = true) (hcov2 : sf_cov M.2.2.2.1 M.2.2.2.2.1 136 = true) (hlt : ∀ k ∈ M.2.2.2.2.1, k < 136) (hK : sf_K E ω J dp nx M) (hih : en_S E mt_kds mt_P 1000 ρ ω h0 fsC FIN ih) (h1 : sf_is n dp nx M loc st hp w = true) (hb : en_back (fun _ _ _ => false) M.2.2.2.2.2 loc st (sf_over M.2.2.2.1 M.2.2.2.2.1 hp) w ih = true) (hR : en_R E mt_P 1000 ρ ω h0 fsC M.1 loc st hp w c) : en_Good E mt_kds mt_P 1000 FIN c := by
  unfold sf_is at h1
  obtain ⟨a1, h1⟩ := en_if_and.mp h1
  obtain ⟨a2, h1⟩ := en_if_and.mp h1
  obtain ⟨a3, h1⟩ := en_if_and.mp h1
  obtain ⟨a4, h1⟩ := en_if_and.mp h1
  obtain ⟨a5, h1⟩ := en_if_and.mp h1
  obtain ⟨a6, h1⟩ := en_if_and.mp h1
  obtain ⟨a8, a7⟩ := en_if_and.mp h1
  have b1 := en_beq_t.mp a1
  have b2 := en_beq_t.mp a2
  have b3 := en_ble_t.mp a3
  have b4 := en_beq_t.mp a4
  have b5 : st = [] := by
    cases st with
    | nil => rfl
    | cons _ _ => cases a5
  subst b5
  obtain ⟨lv, sv, gs, h, o, rfl, ⟨cs, nL, dd, hP, hlr⟩, hs, hh, he, hx, hd, hf⟩ := hR
  have hlen := en_frs_len _ _ hf
  have hc := sf_cov_t 136 hcov
  have hc2 := sf_cov_t 136 hcov2
  have hcl := sf_cells_t _ a7
  have hJ2 : J h := hJX h0 h (fun k hk => ((hh k).2 (fun g => g.2 (sf_jx_t a8 k hk))).symm) hJ
  refine hK h gs FIN _ hJ2 (fun ρ' => ?_) (fun vo h2 hq hl2 => ?_)
  · refine ⟨lv, sv, gs, h, o, by rw [b1, b2]; rfl, ⟨cs, nL, dd, hP, sf_loc_v ρ' he (Nat.le_of_eq (hn cs nL dd hP)) a6 hlr⟩, ?_, fun k => ⟨fun hk hkd => ?_, fun _ => rfl⟩, sf_full_e ρ' 40, ?_, ?_, rfl⟩
    · have e := en_sr_nil hs
      subst e
      exact trivial
    · have hm := (hc k hk).mpr hkd
      have h9 := hcl k hm
      exact sf_cell_v ρ' he (sf_nlh_t _ hnl k hk) h9 ((hh k).1 hk (by rw [sf_cell_kind h9]; exact hkd))
    · show h.length = nx
      rw [hx, b4]
    · show gs.length + 0 + 1 + dp ≤ 1000
      omega
  · obtain ⟨hv, hh2⟩ := hq ρ
    refine sf_back_ok hih hb hv (fun k => ?_) he (by rw [hl2, b4]) hf
    by_cases hk : k < 136
    · rw [sf_over_t _ hlt hp k hk]
      by_cases hm : k ∈ M.2.2.2.2.1
      · rw [if_pos hm]
        exact ⟨fun g1 g2 => (hh2 k).1 g1 g2, fun g => absurd ⟨hk, (hc2 k hk).mp hm⟩ g⟩
      · rw [if_neg hm]
        have e := (hh2 k).2 (fun g => hm ((hc2 k hk).mpr g.2))
        rw [e]
        exact hh k
    · have e := (hh2 k).2 (fun g => hk g.1)
      rw [e]
      exact ⟨fun g => absurd g hk, fun _ => (hh k).2 (fun g => hk g.1)⟩
/-- what a contract needs to be called by -/
def sf_Kok (E : mm_E) (ω : Nat → Value) (J : mm_H → Prop) (n dp nx : Nat) (M : sf_M) : Prop := (∀ cs nL dd, mt_P[M.1 / 65536]? = some (cs, nL, dd) → nL = n) ∧ sf_nlh M.2.2.1 136 = true ∧ sf_cov M.2.2.1 M.2.2.2.2.1 136 = true ∧ sf_cov M.2.2.2.1 M.2.2.2.2.1 136 = true ∧ (∀ k ∈ M.2.2.2.2.1, k < 136) ∧ sf_K E ω J dp nx M
theorem sf_call_ok {J : mm_H → Prop} (hJX : sf_JX J) {q nx : Nat} {l : List (Nat × Nat × sf_M)} (hl : ∀ M ∈ l, M.2.2.1 = q ∧ sf_Kok E ω J M.1 M.2.1 nx M.2.2) {ρ : Nat → Int32} {h0 : mm_H} {fsC : List mm_F} {FIN : mm_C → Prop} {o : en_O} (hJ : J h0) (ho : en_OS E mt_kds mt_P 1000 ρ ω h0 fsC FIN q o) : en_OS E mt_kds mt_P 1000 ρ ω h0 fsC FIN q (sf_call nx l o) := by
  intro loc st hp w ih c hih hk hR
  have key : ∀ l : List (Nat × Nat × sf_M), (∀ M ∈ l, M.2.2.1 = q ∧ sf_Kok E ω J M.1 M.2.1 nx M.2.2) → sf_call nx l o loc st hp w ih = true → en_Good E mt_kds mt_P 1000 FIN c := by
    intro l
    induction l with
    | nil => intro _ hk2; exact ho loc st hp w ih c hih hk2 hR
    | cons M l ihl =>
      intro hl2 hk2
      rcases en_if_or.mp (show en_if (sf_is M.1 M.2.1 nx M.2.2 loc st hp w) (en_back (fun _ _ _ => false) M.2.2.2.2.2.2.2 loc st (sf_over M.2.2.2.2.2.1 M.2.2.2.2.2.2.1 hp) w ih) (sf_call nx l o loc st hp w ih) = true from hk2) with ⟨h1, h2⟩ | ⟨-, h2⟩
      · obtain ⟨e, g1, g2, g3, g6, g4, g5⟩ := hl2 M List.mem_cons_self
        exact sf_call1 hJX hJ g1 g2 g3 g6 g4 g5 hih h1 h2 (by rw [e]; exact hR)
      · exact ihl (fun m hm => hl2 m (List.mem_cons_of_mem _ hm)) h2
  exact key l hl hk
noncomputable def sf_tc (Q : Nat) (hk : en_O → en_O) (tb : en_T) : en_T := fun q => en_if (Nat.beq q Q) (some hk) (tb q)
theorem sf_TS_n {J : mm_H → Prop} : sf_TS E ω J (fun _ => none) := fun _ _ _ _ _ _ _ _ h => by cases h
theorem sf_TS_c {J : mm_H → Prop} {Q : Nat} {hk : en_O → en_O} {tb : en_T} (h : ∀ (ρ : Nat → Int32) (h0 : mm_H) (fsC : List mm_F) (FIN : mm_C → Prop) (o : en_O), J h0 → en_OS E mt_kds mt_P 1000 ρ ω h0 fsC FIN Q o → en_OS E mt_kds mt_P 1000 ρ ω h0 fsC FIN Q (hk o)) (ht : sf_TS E ω J tb) : sf_TS E ω J (sf_tc Q hk tb) := by
  intro ρ h0 fsC FIN q hk' o hJ e ho
  have e : en_if (Nat.beq q Q) (some hk) (tb q) = some hk' := e
  cases h1 : Nat.beq q Q with
  | false =>
    rw [h1, en_if_f] at e
    exact ht ρ h0 fsC FIN q hk' o hJ e ho
  | true =>
    have e2 := en_beq_t.mp h1
    rw [h1, en_if_t] at e
    cases e
    subst e2
    exact h ρ h0 fsC FIN o hJ ho
/-- a call by contracts, as a hook -/
theorem sf_TS_k {J : mm_H → Prop} (hJX : sf_JX J) {q nx : Nat} {l : List (Nat × Nat × sf_M)} {tb : en_T} (hl : ∀ M ∈ l, M.2.2.1 = q ∧ sf_Kok E ω J M.1 M.2.1 nx M.2.2) (ht : sf_TS E ω J tb) : sf_TS E ω J (sf_tc q (sf_call nx l) tb) := sf_TS_c (fun _ _ _ _ _ hJ ho => sf_call_ok hJX hl hJ ho) ht
theorem sf_vo {ρ : Nat → Int32} (ρ' : Nat → Int32) {w : en_W} {v ret : List Nat} {vo : Option Value} (he : en_e ρ (en_ev w)) (h : sf_st w v ret = true) (hv : en_vo E ρ ω v vo) : en_vo E ρ' ω ret vo := by
  rcases hv with ⟨rfl, rfl⟩ | ⟨c, V, rfl, rfl, hv⟩
  · cases ret with
    | nil => exact Or.inl ⟨rfl, rfl⟩
    | cons _ _ => cases h
  · cases ret with
    | nil => cases h
    | cons b r =>
      obtain ⟨h1, h2⟩ := en_if_and.mp (show en_if (sf_sub w c b) (sf_st w [] r) false = true from h)
      cases r with
      | nil => exact Or.inr ⟨b, V, rfl, rfl, sf_sub_v ρ' he hv h1⟩
      | cons _ _ => cases h2
/-- the code at a place is another one that says the same of it -/
theorem sf_put_v {ρ : Nat → Int32} {h0 : mm_H} {fsC : List mm_F} {q n loc nc : Nat} {st : List Nat} {hp : en_H} {w : en_W} {c : mm_C} {p : Nat × Nat} {x : Int32} (hn : ∀ cs nL dd, mt_P[q / 65536]? = some (cs, nL, dd) → nL = n) (hR : en_R E mt_P 1000 ρ ω h0 fsC q loc st hp w c) (a2 : sf_pk n hp p = true) (hx : sf_at c p = some (.int x)) (hnc : en_v E ρ ω nc (.int x)) : en_R E mt_P 1000 ρ ω h0 fsC q (en_if (Nat.beq p.1 1000) (en_eset loc p.2 nc) loc) st (en_if (Nat.beq p.1 1000) hp (en_put hp p.1 (en_eset (en_get hp p.1) p.2 nc))) w c := by
  have hn68 := en_v_68 hnc
  obtain ⟨lv, sv, gs, hm, o, rfl, ⟨cs, nL, dd, hP, hl⟩, hs, hh, he, hrest⟩ := hR
  refine ⟨lv, sv, gs, hm, o, rfl, ⟨cs, nL, dd, hP, ?_⟩, hs, ?_, he, hrest⟩
  · cases hb : Nat.beq p.1 1000 with
    | false => rw [en_if_f]; exact hl
    | true =>
      rw [en_if_t]
      intro j hj
      rw [en_elt_eset hn68]
      by_cases e : j = p.2
      · rw [if_pos e]
        refine Or.inr ⟨.int x, ?_, hnc⟩
        have h9 : mm_get lv p.2 = some (Value.int x) := (sf_at_l (en_beq_t.mp hb)).symm.trans hx
        rw [e]
        exact h9
      · rw [if_neg e]; exact hl j hj
  · cases hb : Nat.beq p.1 1000 with
    | true => rw [en_if_t]; exact hh
    | false =>
      rw [en_if_f]
      unfold sf_pk at a2
      rw [hb, en_if_f] at a2
      obtain ⟨b1, a2⟩ := en_if_and.mp a2
      have ha : p.1 < 136 := en_ble_t.mp b1
      intro k2
      by_cases hka : p.1 = k2
      · subst hka
        rw [en_get_put ha ha, if_pos rfl, en_eset_kind]
        refine ⟨fun g1 g2 => sf_cr2 (en_eset_kind _ _ _).symm (en_eset_len _ _ _).symm (fun j hj v hel hv2 => ?_) ((hh p.1).1 g1 g2), (hh p.1).2⟩
        rw [en_elt_eset hn68]
        by_cases e : j = p.2
        · rw [if_pos e]
          rw [e] at hel
          have h9 : sf_ath hm[p.1]? p.2 = some (Value.int x) := (sf_at_h (en_beq_f.mp hb)).symm.trans hx
          unfold sf_ath at h9
          have h8 : v = .int x := by
            unfold sf_el at hel
            split at hel
            · rename_i e9
              rw [e9] at h9
              simp only [] at h9
              split at h9
              · rw [hel]; exact Option.some.inj h9
              · cases h9
            · rename_i e9
              rw [e9] at h9
              simp only [] at h9
              exact Option.some.inj (hel.symm.trans h9)
            · exfalso
              rename_i e8 e9
              split at h9
              · rename_i e7; exact e8 _ _ _ e7
              · rename_i e7; exact e9 _ _ e7
              · cases h9
          rw [h8]
          exact hnc
        · rw [if_neg e]; exact hv2
      · by_cases hk1 : k2 < 136
        · rw [en_get_put ha hk1, if_neg hka]; exact hh k2
        · exact ⟨fun g => absurd g hk1, fun _ => (hh k2).2 (fun g => hk1 g.1)⟩
/-- a place split at numbers; if it is one number then, that number stands there -/
noncomputable def sf_pin (p : Nat × Nat) : en_O → en_O := fun o loc st hp w ih => en_iv w (sf_cd loc hp p) (fun lo hi => en_if (Nat.beq lo hi) (o (en_if (Nat.beq p.1 1000) (en_eset loc p.2 lo) loc) st (en_if (Nat.beq p.1 1000) hp (en_put hp p.1 (en_eset (en_get hp p.1) p.2 lo))) w ih) (o loc st hp w ih))
noncomputable def sf_spl (n : Nat) (p : Nat × Nat) (vs : List Nat) : en_O → en_O := fun o loc st hp w ih => en_if (sf_pk n hp p) (en_if (en_isI (sf_cd loc hp p)) (List.rec (motive := fun _ => en_W → Bool) (fun w => sf_pin p o loc st hp w ih) (fun v _ k w => en_if (Nat.ble v 4294967295) (en_lt (sf_cd loc hp p) v w k k) false) vs w) false) false
theorem sf_R_w {ρ : Nat → Int32} {h0 : mm_H} {fsC : List mm_F} {q loc : Nat} {st : List Nat} {hp : en_H} {w w' : en_W} {c : mm_C} (hR : en_R E mt_P 1000 ρ ω h0 fsC q loc st hp w c) (hw : en_wq w w') (he : en_e ρ (en_ev w')) : en_R E mt_P 1000 ρ ω h0 fsC q loc st hp w' c := by
  obtain ⟨lv, sv, gs, h, o, rfl, hl, hs, hh, -, hx, hd, hf⟩ := hR
  obtain ⟨w1, w2, w3, w4, w5⟩ := hw
  exact ⟨lv, sv, gs, h, o, by rw [w1, w2], hl, hs, hh, he, by rw [w5]; exact hx, by rw [w3, w4]; exact hd, by rw [w4]; exact hf⟩
theorem sf_R_e {ρ : Nat → Int32} {h0 : mm_H} {fsC : List mm_F} {q loc : Nat} {st : List Nat} {hp : en_H} {w : en_W} {c : mm_C} (hR : en_R E mt_P 1000 ρ ω h0 fsC q loc st hp w c) : en_e ρ (en_ev w) := by
  obtain ⟨lv, sv, gs, h, o, -, -, -, -, he, -⟩ := hR
  exact he
theorem sf_spl_ok {q n : Nat} (hn : ∀ cs nL dd, mt_P[q / 65536]? = some (cs, nL, dd) → nL = n) {p : Nat × Nat} {vs : List Nat} {ρ : Nat → Int32} {h0 : mm_H} {fsC : List mm_F} {FIN : mm_C → Prop} {o : en_O} (ho : en_OS E mt_kds mt_P 1000 ρ ω h0 fsC FIN q o) : en_OS E mt_kds mt_P 1000 ρ ω h0 fsC FIN q (sf_spl n p vs o) := by
  intro loc st hp w ih c hih hk hR
  unfold sf_spl at hk
  obtain ⟨h1, hk⟩ := en_if_and.mp hk
  obtain ⟨h2, hk⟩ := en_if_and.mp hk
  obtain ⟨x, hx, hv⟩ := sf_pos_v hn hR h1 h2
  have key : ∀ (l : List Nat) (w : en_W), en_R E mt_P 1000 ρ ω h0 fsC q loc st hp w c → (List.rec (motive := fun _ => en_W → Bool) (fun w => sf_pin p o loc st hp w ih) (fun v _ k w => en_if (Nat.ble v 4294967295) (en_lt (sf_cd loc hp p) v w k k) false) l w : Bool) = true → en_Good E mt_kds mt_P 1000 FIN c := by
    intro l
    induction l with
    | nil =>
      intro w hR hk
      have hk : sf_pin p o loc st hp w ih = true := hk
      unfold sf_pin at hk
      obtain ⟨lo, hi, g1, g2, g3, g4⟩ := en_iv_v (sf_R_e hR) hv
      rw [g4] at hk
      rcases en_if_or.mp hk with ⟨a1, hk⟩ | ⟨-, hk⟩
      · have a1 := en_beq_t.mp a1
        have e : en_z x = lo := by omega
        have hnc : en_v E ρ ω lo (.int x) := by
          rw [en_v_const (by omega), ← e, en_d_z]
        exact ho _ _ _ _ _ _ hih hk (sf_put_v hn hR h1 hx hnc)
      · exact ho _ _ _ _ _ _ hih hk hR
    | cons v l ihl =>
      intro w hR hk
      obtain ⟨a1, hk⟩ := en_if_and.mp (show en_if (Nat.ble v 4294967295) (en_lt (sf_cd loc hp p) v w _ _) false = true from hk)
      have a1 := en_ble_t.mp a1
      have hvv : en_v E ρ ω v (.int (en_d v)) := (en_v_const (by omega)).mpr rfl
      obtain ⟨g1, g2⟩ := en_lt_v (sf_R_e hR) hv hvv hk
      by_cases hlt : x < en_d v
      · obtain ⟨w', k1, k2, k3⟩ := g1 hlt
        exact ihl w' (sf_R_w hR k2 k3) k1
      · obtain ⟨w', k1, k2, k3⟩ := g2 hlt
        exact ihl w' (sf_R_w hR k2 k3) k1
  exact key vs w hR hk
theorem sf_TS_s {J : mm_H → Prop} {q n : Nat} {p : Nat × Nat} {vs : List Nat} {tb : en_T} (hn : ∀ cs nL dd, mt_P[q / 65536]? = some (cs, nL, dd) → nL = n) (ht : sf_TS E ω J tb) : sf_TS E ω J (sf_tc q (sf_spl n p vs) tb) := sf_TS_c (fun _ _ _ _ _ _ ho => sf_spl_ok hn ho) ht
/-- a contract out of the cuts of its method -/
theorem sf_K_of {J : mm_H → Prop} {tb : en_T} {m n dp nx : Nat} {M : sf_M} {Ts : List sf_T} (hSA : ∀ ρ, en_SA E ρ ω mt_SB) (htb : sf_TS E ω J tb) (hn : ∀ cs nL dd, mt_P[m]? = some (cs, nL, dd) → nL = n) (hm : M.1 / 65536 = m) (hnl : sf_nlh M.2.2.1 136 = true) (hnl2 : sf_nlh M.2.2.2.1 136 = true) (hcov : sf_cov M.2.2.1 M.2.2.2.2.1 136 = true) (hcov2 : sf_cov M.2.2.2.1 M.2.2.2.2.1 136 = true) (hlt : ∀ k ∈ M.2.2.2.2.1, k < 136) {pos ms : List (Nat × Nat)} (h1 : (M.1, M.2.1, [], M.2.2.1, pos, ms) ∈ Ts) (hG : ∀ T ∈ Ts, sf_ok (sf_fin nx M.2.2.2.1 M.2.2.2.2.2) tb m n dp nx Ts T) : sf_Kok E ω J n dp nx M := by
  refine ⟨by rw [hm]; exact hn, hnl, hcov, hcov2, hlt, ?_⟩
  intro h0' fsC FIN c hJ hR hp
  refine sf_cuts hJ hSA htb (fun ρ => ?_) hn hG _ _ h1 c hR (Nat.lt_succ_self _)
  intro v vo hp2 w h hf hv hh he hx
  unfold sf_fin at hf
  obtain ⟨a1, hf⟩ := en_if_and.mp hf
  obtain ⟨a2, a3⟩ := en_if_and.mp hf
  exact hp vo h (fun ρ' => ⟨sf_vo ρ' he a1 hv, sf_heap_v ρ' he hnl2 a3 hh⟩) (by rw [hx, en_beq_t.mp a2])
/-- a contract out of those of the cases of a place -/
theorem sf_K_case {J : mm_H → Prop} {n dp nx lo hi : Nat} {M : sf_M} (p : Nat × Nat) (hp0 : Nat.beq p.1 1000 = false) (hn : ∀ cs nL dd, mt_P[M.1 / 65536]? = some (cs, nL, dd) → nL = n) (hpk : sf_pk n M.2.2.1 p = true) (hI : en_isI (sf_cd M.2.1 M.2.2.1 p) = true) (hiv : en_iv (sf_w0 dp nx) (sf_cd M.2.1 M.2.2.1 p) (fun a b => en_if (Nat.ble lo a) (Nat.ble b hi) false) = true) (hnl2 : sf_nlh M.2.2.2.1 136 = true)
    (V : Nat → sf_M) (hV : ∀ v, lo ≤ v → v ≤ hi → sf_K E ω J dp nx (V v) ∧ (V v).1 = M.1 ∧ (V v).2.1 = M.2.1 ∧ sf_nlh (V v).2.2.1 136 = true ∧ sf_heap (sf_w0 dp nx) (en_put M.2.2.1 p.1 (en_eset (en_get M.2.2.1 p.1) p.2 v)) (V v).2.2.1 136 = true ∧ sf_heap (sf_w0 dp nx) (V v).2.2.2.1 M.2.2.2.1 136 = true ∧ sf_st (sf_w0 dp nx) (V v).2.2.2.2.2 M.2.2.2.2.2 = true) : sf_K E ω J dp nx M := by
  intro h0 fsC FIN c hJ hR hp
  obtain ⟨x, hx, hv⟩ := sf_pos_v hn (hR (fun _ => 0)) hpk hI
  obtain ⟨a, b, g1, g2, g3, g4⟩ := en_iv_v (sf_R_e (hR (fun _ => 0))) hv
  rw [g4] at hiv
  obtain ⟨l1, l2⟩ := en_if_and.mp hiv
  have l1 := en_ble_t.mp l1
  have l2 := en_ble_t.mp l2
  obtain ⟨k1, k2, k3, k4, k5, k6, k7⟩ := hV (en_z x) (by omega) (by omega)
  refine k1 h0 fsC FIN c hJ (fun ρ => ?_) (fun vo h hq hl => hp vo h (fun ρ => ?_) hl)
  · have hnc : en_v E ρ ω (en_z x) (.int x) := by
      rw [en_v_const (en_z_lt x), en_d_z]
    have h9 := sf_put_v hn (hR ρ) hpk hx hnc
    rw [hp0, en_if_f, en_if_f] at h9
    obtain ⟨lv, sv, gs, h, o, e1, e2, e3, e4, e5⟩ := h9
    rw [k2, k3]
    exact ⟨lv, sv, gs, h, o, e1, e2, e3, sf_heap_v ρ e5.1 k4 k5 e4, e5⟩
  · obtain ⟨q1, q2⟩ := hq ρ
    exact ⟨sf_vo ρ (sf_full_e ρ 40) k7 q1, sf_heap_v ρ (sf_full_e ρ 40) hnl2 k6 q2⟩
end SFK
theorem sf_r7 {P : Nat → Prop} (h0 : P 2147483648) (h1 : P 2147483649) (h2 : P 2147483650) (h3 : P 2147483651) (h4 : P 2147483652) (h5 : P 2147483653) (h6 : P 2147483654) : ∀ v, 2147483648 ≤ v → v ≤ 2147483654 → P v := by
  intro v g1 g2
  have e : v = 2147483648 ∨ v = 2147483649 ∨ v = 2147483650 ∨ v = 2147483651 ∨ v = 2147483652 ∨ v = 2147483653 ∨ v = 2147483654 := by omega
  rcases e with rfl | rfl | rfl | rfl | rfl | rfl | rfl
  · exact h0
  · exact h1
  · exact h2
  · exact h3
  · exact h4
  · exact h5
  · exact h6
theorem sf_r2 {P : Nat → Prop} (h0 : P 2147483648) (h1 : P 2147483649) : ∀ v, 2147483648 ≤ v → v ≤ 2147483649 → P v := by
  intro v g1 g2
  have e : v = 2147483648 ∨ v = 2147483649 := by omega
  rcases e with rfl | rfl
  · exact h0
  · exact h1
