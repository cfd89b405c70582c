/-! CONTRACTS: a method from its entry, over some cells within bounds, comes back with these cells within the same bounds and an answer within its own; a call by it -/
/-- a contract: place, locals, cells, their numbers, answer -/
abbrev sf_M : Type := Nat × Nat × en_H × List Nat × List Nat
noncomputable def sf_fin (nx : Nat) (hp : en_H) (ret : List Nat) : List Nat → en_H → en_W → Bool := fun v h w => en_if (sf_st w v ret) (en_if (Nat.beq w.2.2.2.2.1 nx) (sf_heap w h hp 136) false) false
def sf_K (E : mm_E) (ω : Nat → Value) (dp nx : Nat) (M : sf_M) : Prop := ∀ (h0 : mm_H) (fsC : List mm_F) (FIN : mm_C → Prop) (c : mm_C), (∀ ρ, en_R E mt_P 1000 ρ ω h0 fsC M.1 M.2.1 [] M.2.2.1 (sf_w0 dp nx) c) → (∀ (vo : Option Value) (h : mm_H), (∀ ρ, en_vo E ρ ω M.2.2.2.2 vo ∧ en_h E ρ ω h0 M.2.2.1 h) → h.length = nx → en_Good E mt_kds mt_P 1000 FIN (mm_back vo fsC h)) → en_Good E mt_kds mt_P 1000 FIN c
noncomputable def sf_cov (hp : en_H) (cs : List Nat) (n : Nat) : Bool := Nat.rec (motive := fun _ => Bool) true (fun k ih => en_if (Nat.beq (en_kind (en_get hp k)) 0) (en_if (decide (k ∈ cs)) false ih) (en_if (decide (k ∈ cs)) ih false)) n
noncomputable def sf_cells (w : en_W) (hp hq : en_H) (cs : List Nat) : Bool := List.rec (motive := fun _ => Bool) true (fun k _ ih => en_if (sf_cell w (en_get hp k) (en_get hq k)) ih false) cs
noncomputable def sf_over (hq : en_H) (cs : List Nat) : en_H → en_H := List.rec (motive := fun _ => en_H → en_H) (fun hp => hp) (fun k _ ih hp => ih (en_put hp k (en_get hq k))) cs
noncomputable def sf_is (n dp nx : Nat) (M : sf_M) (loc : Nat) (st : List Nat) (hp : en_H) (w : en_W) : Bool := en_if (Nat.beq w.1 0) (en_if (Nat.beq w.2.1 0) (en_if (Nat.ble dp w.2.2.1) (en_if (Nat.beq w.2.2.2.2.1 nx) (en_if (List.rec (motive := fun _ => Bool) true (fun _ _ _ => false) st) (en_if (sf_loc w loc M.2.1 n) (sf_cells w hp M.2.2.1 M.2.2.2.1) false) false) false) false) false) false
noncomputable def sf_call (n dp nx : Nat) (l : List sf_M) : en_O → en_O := fun o loc st hp w ih => List.rec (motive := fun _ => Bool) (o loc st hp w ih) (fun M _ r => en_if (sf_is n dp nx M loc st hp w) (en_back (fun _ _ _ => false) M.2.2.2.2 loc st (sf_over M.2.2.1 M.2.2.2.1 hp) w ih) r) l
theorem sf_cov_t {hp : en_H} {cs : List Nat} : ∀ n, sf_cov hp cs n = true → ∀ k, k < n → (k ∈ cs ↔ en_kind (en_get hp k) ≠ 0)
  | 0, _, k, hk => absurd hk (Nat.not_lt_zero k)
  | n + 1, h, k, hk => by
    have h : en_if (Nat.beq (en_kind (en_get hp n)) 0) (en_if (decide (n ∈ cs)) false (sf_cov hp cs n)) (en_if (decide (n ∈ cs)) (sf_cov hp cs n) false) = true := h
    rcases en_if_or.mp h with ⟨h1, h2⟩ | ⟨h1, h2⟩
    · rcases en_if_or.mp h2 with ⟨-, h2⟩ | ⟨h3, h2⟩
      · cases h2
      · rcases Nat.lt_succ_iff_lt_or_eq.mp hk with h4 | rfl
        · exact sf_cov_t n h2 k h4
        · exact ⟨fun g => absurd g (of_decide_eq_false h3), fun g => absurd (en_beq_t.mp h1) g⟩
    · obtain ⟨h3, h2⟩ := en_if_and.mp h2
      rcases Nat.lt_succ_iff_lt_or_eq.mp hk with h4 | rfl
      · exact sf_cov_t n h2 k h4
      · exact ⟨fun _ => en_beq_f.mp h1, fun _ => of_decide_eq_true h3⟩
theorem sf_cells_t {w : en_W} {hp hq : en_H} : ∀ cs, sf_cells w hp hq cs = true → ∀ k ∈ cs, sf_cell w (en_get hp k) (en_get hq k) = true
  | [], _, _, h => by cases h
  | b :: l, h, k, hk => by
    obtain ⟨h1, h2⟩ := en_if_and.mp (show en_if (sf_cell w (en_get hp b) (en_get hq b)) (sf_cells w hp hq l) false = true from h)
    rcases List.mem_cons.mp hk with rfl | hk
    · exact h1
    · exact sf_cells_t l h2 k hk
theorem sf_over_t {hq : en_H} : ∀ (cs : List Nat), (∀ k ∈ cs, k < 136) → ∀ (hp : en_H) (k : Nat), k < 136 → en_get (sf_over hq cs hp) k = if k ∈ cs then en_get hq k else en_get hp k
  | [], _, hp, k, _ => by rw [if_neg (fun h => by cases h)]; rfl
  | b :: l, hl, hp, k, hk => by
    show en_get (sf_over hq l (en_put hp b (en_get hq b))) k = _
    rw [sf_over_t l (fun k h => hl k (List.mem_cons_of_mem _ h)) _ k hk]
    by_cases h1 : k ∈ l
    · rw [if_pos h1, if_pos (List.mem_cons_of_mem _ h1)]
    · rw [if_neg h1, en_get_put (hl b List.mem_cons_self) hk]
      by_cases h2 : b = k
      · subst h2; rw [if_pos rfl, if_pos List.mem_cons_self]
      · rw [if_neg h2, if_neg (fun h => by rcases List.mem_cons.mp h with h | h; exact h2 h.symm; exact h1 h)]
section SFK
variable {E : mm_E} {ω : Nat → Value}
theorem sf_back_ok {ρ : Nat → Int32} {h0 : mm_H} {fsC : List mm_F} {FIN : mm_C → Prop} {v : List Nat} {vo : Option Value} {loc : Nat} {st : List Nat} {hp : en_H} {w : en_W} {ih : en_C} {gs : List mm_F} {h : mm_H} (hih : en_S E mt_kds mt_P 1000 ρ ω h0 fsC FIN ih) (hb : en_back (fun _ _ _ => false) v loc st hp w ih = true) (hv : en_vo E ρ ω v vo) (hh : en_h E ρ ω h0 hp h) (he : en_e ρ (en_ev w)) (hx : h.length = w.2.2.2.2.1) (hf : en_frs E mt_P 1000 ρ ω fsC w.2.2.2.1 gs) : en_Good E mt_kds mt_P 1000 FIN (mm_back vo gs h) := by
  unfold en_back at hb
  generalize hfs : w.2.2.2.1 = fs at hb hf
  cases fs with
  | nil => cases hb
  | cons f fs =>
    cases gs with
    | nil => exact hf.elim
    | cons g gs =>
      obtain ⟨⟨r1, r2, ⟨cs2, nL2, dd2, r3, r4⟩, r5, r6, r7⟩, r8, r9⟩ := hf
      refine hih _ _ _ _ _ _ hb ⟨g.2.2.1, vo.toList ++ g.2.2.2.1, gs, h, none, ?_, ⟨cs2, nL2, dd2, by rw [← r1]; exact r3, r4⟩, ?_, hh, he, hx, r8, r9⟩
      · show mm_back vo (g :: gs) h = _
        obtain ⟨g1, g2, g3, g4, g5, g6⟩ := g
        simp only [mm_back] at *
        rw [r1, r2, r6, r7]
      · rcases hv with ⟨rfl, rfl⟩ | ⟨c, V, rfl, rfl, hv⟩
        · exact r5
        · exact ⟨hv, r5⟩
theorem sf_call1 {ρ : Nat → Int32} {h0 : mm_H} {fsC : List mm_F} {FIN : mm_C → Prop} {n dp nx loc : Nat} {M : sf_M} {st : List Nat} {hp : en_H} {w : en_W} {ih : en_C} {c : mm_C} (hn : ∀ cs nL dd, mt_P[M.1 / 65536]? = some (cs, nL, dd) → nL = n) (hnl : sf_nlh M.2.2.1 136 = true) (hcov : sf_cov M.2.2.1 M.2.2.2.1 136 = true) (hlt : ∀ k ∈ M.2.2.2.1, k < 136) (hK : sf_K E ω dp nx M) (hih : en_S E mt_kds mt_P 1000 ρ ω h0 fsC FIN ih) (h1 : sf_is n dp nx M loc st hp w = true) (hb : en_back (fun _ _ _ => false) M.2.2.2.2 loc st (sf_over M.2.2.1 M.2.2.2.1 hp) w ih = true) (hR : en_R E mt_P 1000 ρ ω h0 fsC M.1 loc st hp w c) : en_Good E mt_kds mt_P 1000 FIN c := by
  unfold sf_is at h1
  obtain ⟨a1, h1⟩ := en_if_and.mp h1
  obtain ⟨a2, h1⟩ := en_if_and.mp h1
  obtain ⟨a3, h1⟩ := en_if_and.mp h1
  obtain ⟨a4, h1⟩ := en_if_and.mp h1
  obtain ⟨a5, h1⟩ := en_if_and.mp h1
  obtain ⟨a6, a7⟩ := en_if_and.mp h1
  have b1 := en_beq_t.mp a1
  have b2 := en_beq_t.mp a2
  have b3 := en_ble_t.mp a3
  have b4 := en_beq_t.mp a4
  have b5 : st = [] := by
    cases st with
    | nil => rfl
    | cons _ _ => cases a5
  subst b5
  obtain ⟨lv, sv, gs, h, o, rfl, ⟨cs, nL, dd, hP, hlr⟩, hs, hh, he, hx, hd, hf⟩ := hR
  have hlen := en_frs_len _ _ hf
  have hc := sf_cov_t 136 hcov
  have hcl := sf_cells_t _ a7
  refine hK h gs FIN _ (fun ρ' => ?_) (fun vo h2 hq hl2 => ?_)
  · refine ⟨lv, sv, gs, h, o, by rw [b1, b2]; rfl, ⟨cs, nL, dd, hP, sf_loc_v ρ' he (Nat.le_of_eq (hn cs nL dd hP)) a6 hlr⟩, ?_, fun k => ⟨fun hk hkd => ?_, fun _ => rfl⟩, sf_full_e ρ' 24, ?_, ?_, rfl⟩
    · have e := en_sr_nil hs
      subst e
      exact trivial
    · have hm := (hc k hk).mpr hkd
      have h9 := hcl k hm
      exact sf_cell_v ρ' he (sf_nlh_t _ hnl k hk) h9 ((hh k).1 hk (by rw [sf_cell_kind h9]; exact hkd))
    · show h.length = nx
      rw [hx, b4]
    · show gs.length + 0 + 1 + dp ≤ 1000
      omega
  · obtain ⟨hv, hh2⟩ := hq ρ
    refine sf_back_ok hih hb hv (fun k => ?_) he (by rw [hl2, b4]) hf
    by_cases hk : k < 136
    · rw [sf_over_t _ hlt hp k hk]
      by_cases hm : k ∈ M.2.2.2.1
      · rw [if_pos hm]
        exact ⟨fun g1 g2 => (hh2 k).1 g1 g2, fun g => absurd ⟨hk, (hc k hk).mp hm⟩ g⟩
      · rw [if_neg hm]
        have e := (hh2 k).2 (fun g => hm ((hc k hk).mpr g.2))
        rw [e]
        exact hh k
    · have e := (hh2 k).2 (fun g => hk g.1)
      rw [e]
      exact ⟨fun g => absurd g hk, fun _ => (hh k).2 (fun g => hk g.1)⟩
/-- what a contract needs to be called by -/
def sf_Kok (E : mm_E) (ω : Nat → Value) (n dp nx : Nat) (M : sf_M) : Prop := (∀ cs nL dd, mt_P[M.1 / 65536]? = some (cs, nL, dd) → nL = n) ∧ sf_nlh M.2.2.1 136 = true ∧ sf_cov M.2.2.1 M.2.2.2.1 136 = true ∧ (∀ k ∈ M.2.2.2.1, k < 136) ∧ sf_K E ω dp nx M
theorem sf_call_ok {q n dp nx : Nat} {l : List sf_M} (hl : ∀ M ∈ l, M.1 = q ∧ sf_Kok E ω n dp nx M) {ρ : Nat → Int32} {h0 : mm_H} {fsC : List mm_F} {FIN : mm_C → Prop} {o : en_O} (ho : en_OS E mt_kds mt_P 1000 ρ ω h0 fsC FIN q o) : en_OS E mt_kds mt_P 1000 ρ ω h0 fsC FIN q (sf_call n dp nx l o) := by
  intro loc st hp w ih c hih hk hR
  have key : ∀ l : List sf_M, (∀ M ∈ l, M.1 = q ∧ sf_Kok E ω n dp nx M) → sf_call n dp nx l o loc st hp w ih = true → en_Good E mt_kds mt_P 1000 FIN c := by
    intro l
    induction l with
    | nil => intro _ hk2; exact ho loc st hp w ih c hih hk2 hR
    | cons M l ihl =>
      intro hl2 hk2
      rcases en_if_or.mp (show en_if (sf_is n dp nx M loc st hp w) (en_back (fun _ _ _ => false) M.2.2.2.2 loc st (sf_over M.2.2.1 M.2.2.2.1 hp) w ih) (sf_call n dp nx l o loc st hp w ih) = true from hk2) with ⟨h1, h2⟩ | ⟨-, h2⟩
      · obtain ⟨e, g1, g2, g3, g4, g5⟩ := hl2 M List.mem_cons_self
        exact sf_call1 g1 g2 g3 g4 g5 hih h1 h2 (by rw [e]; exact hR)
      · exact ihl (fun m hm => hl2 m (List.mem_cons_of_mem _ hm)) h2
  exact key l hl hk
noncomputable def sf_tc (Q : Nat) (hk : en_O → en_O) (tb : en_T) : en_T := fun q => en_if (Nat.beq q Q) (some hk) (tb q)
theorem sf_TS_n : sf_TS E ω (fun _ => none) := fun _ _ _ _ _ _ _ h => by cases h
theorem sf_TS_c {Q : Nat} {hk : en_O → en_O} {tb : en_T} (h : ∀ (ρ : Nat → Int32) (h0 : mm_H) (fsC : List mm_F) (FIN : mm_C → Prop) (o : en_O), en_OS E mt_kds mt_P 1000 ρ ω h0 fsC FIN Q o → en_OS E mt_kds mt_P 1000 ρ ω h0 fsC FIN Q (hk o)) (ht : sf_TS E ω tb) : sf_TS E ω (sf_tc Q hk tb) := by
  intro ρ h0 fsC FIN q hk' o e ho
  have e : en_if (Nat.beq q Q) (some hk) (tb q) = some hk' := e
  cases h1 : Nat.beq q Q with
  | false =>
    rw [h1, en_if_f] at e
    exact ht ρ h0 fsC FIN q hk' o e ho
  | true =>
    have e2 := en_beq_t.mp h1
    rw [h1, en_if_t] at e
    cases e
    subst e2
    exact h ρ h0 fsC FIN o ho
/-- a call by contracts, as a hook -/
theorem sf_TS_k {q n dp nx : Nat} {l : List sf_M} {tb : en_T} (hl : ∀ M ∈ l, M.1 = q ∧ sf_Kok E ω n dp nx M) (ht : sf_TS E ω tb) : sf_TS E ω (sf_tc q (sf_call n dp nx l) tb) := sf_TS_c (fun _ _ _ _ _ ho => sf_call_ok hl ho) ht
theorem sf_vo {ρ : Nat → Int32} (ρ' : Nat → Int32) {w : en_W} {v ret : List Nat} {vo : Option Value} (he : en_e ρ (en_ev w)) (h : sf_st w v ret = true) (hv : en_vo E ρ ω v vo) : en_vo E ρ' ω ret vo := by
  rcases hv with ⟨rfl, rfl⟩ | ⟨c, V, rfl, rfl, hv⟩
  · cases ret with
    | nil => exact Or.inl ⟨rfl, rfl⟩
    | cons _ _ => cases h
  · cases ret with
    | nil => cases h
    | cons b r =>
      obtain ⟨h1, h2⟩ := en_if_and.mp (show en_if (sf_sub w c b) (sf_st w [] r) false = true from h)
      cases r with
      | nil => exact Or.inr ⟨b, V, rfl, rfl, sf_sub_v ρ' he hv h1⟩
      | cons _ _ => cases h2
/-- a contract out of the cuts of its method -/
theorem sf_K_of {tb : en_T} {m n dp nx : Nat} {M : sf_M} {gs : sf_G} (hSA : ∀ ρ, en_SA E ρ ω mt_SB) (htb : sf_TS E ω tb) (hn : ∀ cs nL dd, mt_P[m]? = some (cs, nL, dd) → nL = n) (hm : M.1 / 65536 = m) (hnl : sf_nlh M.2.2.1 136 = true) (hcov : sf_cov M.2.2.1 M.2.2.2.1 136 = true) (hlt : ∀ k ∈ M.2.2.2.1, k < 136) {Ts : List sf_T} {pos ms : List (Nat × Nat)} (h0 : (M.1, Ts) ∈ gs) (h1 : (M.1, M.2.1, [], M.2.2.1, pos, ms) ∈ Ts) (hG : ∀ a ∈ gs, ∀ T ∈ a.2, sf_ok (sf_fin nx M.2.2.1 M.2.2.2.2) tb m n dp nx gs a.1 T) : sf_Kok E ω n dp nx M := by
  refine ⟨by rw [hm]; exact hn, hnl, hcov, hlt, ?_⟩
  intro h0' fsC FIN c hR hp
  refine sf_cuts hSA htb (fun ρ => ?_) hn hG _ (M.1, Ts) h0 _ h1 c hR (Nat.lt_succ_self _)
  intro v vo hp2 w h hf hv hh he hx
  unfold sf_fin at hf
  obtain ⟨a1, hf⟩ := en_if_and.mp hf
  obtain ⟨a2, a3⟩ := en_if_and.mp hf
  exact hp vo h (fun ρ' => ⟨sf_vo ρ' he a1 hv, sf_heap_v ρ' he hnl a3 hh⟩) (by rw [hx, en_beq_t.mp a2])
end SFK
