/-! WHAT A RUN KNOWS BEYOND ITS CODES: cells that nothing of it touches are read, branches whose outcome is known, calls with a condition, ends of a piece -/
section SFS
variable {E : mm_E} {ω : Nat → Value} {ρ : Nat → Int32} {h0 : mm_H} {fsC : List mm_F} {FIN : mm_C → Prop}
/-- an element of a cell that is kept: the index's code, what the element's code is -/
noncomputable def sf_rd (n X ci cv : Nat) : en_O → en_O := fun _ loc st hp w ih => en_pop st (fun i r => en_pop r (fun a r => en_if (Nat.beq a (Nat.add 8589934592 X)) (en_if (Nat.beq i ci) (en_if (Nat.beq (en_kind (en_get hp X)) 0) (ih n loc (cv :: r) hp w) false) false) false))
theorem sf_rd_ok {q n X ci cv t N : Nat} {f : Nat → Int32} {cs : List (List mm_I)} {nL : Nat} {dd : mm_M} (hP : mt_P[q / 65536]? = some (cs, nL, dd)) (hn : n / 65536 = q / 65536) (hX : X < 136) (hI : en_isI ci = true) (hc : h0[X]? = some (.inl (t, N, .inl f))) (hv : ∀ I : Int32, en_v E ρ ω ci (.int I) → mm_inr I N = true ∧ en_v E ρ ω cv (.int (f I.toNatClampNeg)))
    (hS : en_St E mt_kds mt_P 1000 FIN q (fun lv sv cb sb h => mm_ald E lv sv cb sb h (n % 65536) (if t = 0 then 0 else 1) (if t = 0 then 0 else 2))) (ht : t = 0 ∨ t = 2) {o : en_O} : en_OS E mt_kds mt_P 1000 ρ ω h0 fsC FIN q (sf_rd n X ci cv o) := by
  intro loc st hp w ih c0 hih hk hR
  obtain ⟨lv, sv, gs, h, o, rfl, ⟨cs', nL', dd', hP', hl⟩, hs, hh, he, hx, hd, hf⟩ := hR
  cases hP.symm.trans hP'
  unfold sf_rd at hk
  obtain ⟨i, st1, rfl, hk1⟩ := en_pop_t hk
  obtain ⟨a, st2, rfl, hk2⟩ := en_pop_t hk1
  obtain ⟨a1, hk3⟩ := en_if_and.mp hk2
  obtain ⟨a2, hk3⟩ := en_if_and.mp hk3
  obtain ⟨a3, hk3⟩ := en_if_and.mp hk3
  have a1 : a = 8589934592 + X := en_beq_t.mp a1
  have a2 := en_beq_t.mp a2
  have a3 := en_beq_t.mp a3
  subst a2
  obtain ⟨vi, sv1, rfl, h3, hs1⟩ := en_sr_cons hs
  obtain ⟨va, sv2, rfl, h4, hs2⟩ := en_sr_cons hs1
  obtain ⟨I, rfl⟩ := en_isI_int hI h3
  have h5 := (en_v_ref (by omega) (by omega)).mp h4
  have e6 : a - 8589934592 = X := by omega
  rw [e6] at h5
  subst h5
  obtain ⟨g1, g2⟩ := hv I h3
  have hcell : h[X]? = some (.inl (t, N, .inl f)) := by rw [(hh X).2 (fun g => g.2 a3)]; exact hc
  refine hS lv _ _ _ h gs o (n % 65536) lv (.int (f I.toNatClampNeg) :: sv2) _ _ h ?_ (en_go_on hih hk3 hn hP hl (en_sr_push g2 hs2) hh he hx hd hf rfl rfl)
  unfold mm_ald
  simp only [en_mmcell, hcell]
  rw [if_pos ⟨by rcases ht with rfl | rfl <;> simp, g1⟩]
/-- a branch on two ints whose outcome is known -/
noncomputable def sf_br (q cx cy : Nat) : en_O → en_O := fun _ loc st hp w ih => en_pop st (fun y r => en_pop r (fun x r => en_if (Nat.beq x cx) (en_if (Nat.beq y cy) (ih q loc r hp w) false) false))
theorem sf_br_ok {q n cx cy : Nat} {cs : List (List mm_I)} {nL : Nat} {dd : mm_M} (hP : mt_P[q / 65536]? = some (cs, nL, dd)) (hn : n / 65536 = q / 65536) (hX : en_isI cx = true) (hY : en_isI cy = true) (hS : ∀ (lv : mm_V) (x y : Int32) (r : List Value) (cb sb : Nat) (h : mm_H) (gs : List mm_F) (o : Option Value), en_v E ρ ω cx (.int x) → en_v E ρ ω cy (.int y) → en_Good E mt_kds mt_P 1000 FIN ((q / 65536, n % 65536, lv, r, cb, sb) :: gs, h, none) → en_Good E mt_kds mt_P 1000 FIN ((q / 65536, q % 65536, lv, .int y :: .int x :: r, cb, sb) :: gs, h, o)) {o : en_O} : en_OS E mt_kds mt_P 1000 ρ ω h0 fsC FIN q (sf_br n cx cy o) := by
  intro loc st hp w ih c0 hih hk hR
  obtain ⟨lv, sv, gs, h, o, rfl, ⟨cs', nL', dd', hP', hl⟩, hs, hh, he, hx, hd, hf⟩ := hR
  cases hP.symm.trans hP'
  unfold sf_br at hk
  obtain ⟨y, st1, rfl, hk1⟩ := en_pop_t hk
  obtain ⟨x, st2, rfl, hk2⟩ := en_pop_t hk1
  obtain ⟨a1, hk3⟩ := en_if_and.mp hk2
  obtain ⟨a2, hk3⟩ := en_if_and.mp hk3
  have a1 := en_beq_t.mp a1
  have a2 := en_beq_t.mp a2
  subst a1
  subst a2
  obtain ⟨vy, sv1, rfl, h3, hs1⟩ := en_sr_cons hs
  obtain ⟨vx, sv2, rfl, h4, hs2⟩ := en_sr_cons hs1
  obtain ⟨Y, rfl⟩ := en_isI_int hY h3
  obtain ⟨Xx, rfl⟩ := en_isI_int hX h4
  exact hS lv Xx Y sv2 _ _ h gs o h4 h3 (en_go_on hih hk3 hn hP hl hs2 hh he hx hd hf rfl rfl)
/-- codes at places are these -/
noncomputable def sf_eqs (n loc : Nat) (hp : en_H) (l : List ((Nat × Nat) × Nat)) : Bool := List.rec (motive := fun _ => Bool) true (fun e _ ih => en_if (sf_pk n hp e.1) (en_if (en_isI e.2) (en_if (Nat.beq (sf_cd loc hp e.1) e.2) ih false) false) false) l
theorem sf_eqs_v {q n loc : Nat} {st : List Nat} {hp : en_H} {w : en_W} {c : mm_C} (hn : ∀ cs nL dd, mt_P[q / 65536]? = some (cs, nL, dd) → nL = n) (hR : en_R E mt_P 1000 ρ ω h0 fsC q loc st hp w c) : ∀ l, sf_eqs n loc hp l = true → ∀ e ∈ l, en_v E ρ ω e.2 (.int (sf_iv c e.1))
  | [], _, e, he => by cases he
  | a :: l, h, e, he => by
    obtain ⟨h1, h⟩ := en_if_and.mp (show en_if (sf_pk n hp a.1) (en_if (en_isI a.2) (en_if (Nat.beq (sf_cd loc hp a.1) a.2) (sf_eqs n loc hp l) false) false) false = true from h)
    obtain ⟨h2, h⟩ := en_if_and.mp h
    obtain ⟨h3, h4⟩ := en_if_and.mp h
    rcases List.mem_cons.mp he with rfl | he
    · have h3 := en_beq_t.mp h3
      obtain ⟨x, g1, g2⟩ := sf_pos_v hn hR h1 (by rw [h3]; exact h2)
      rw [h3] at g2
      have e9 : sf_iv c e.1 = x := by unfold sf_iv; rw [g1]
      rw [e9]
      exact g2
    · exact sf_eqs_v hn hR l h4 e he
/-- a piece ends here: within a state without names, with codes of names at places -/
noncomputable def sf_end (n dp nx : Nat) (T : sf_T) (l : List ((Nat × Nat) × Nat)) : en_O → en_O := fun o loc st hp w ih => en_if (en_if (sf_w dp nx w) (en_if (sf_st w st T.2.2.1) (en_if (sf_loc w loc T.2.1 n) (en_if (sf_eqs n loc hp l) (sf_heap w hp T.2.2.2.1 136) false) false) false) false) true (o loc st hp w ih)
theorem sf_end_ok {q n dp nx : Nat} {T : sf_T} {l : List ((Nat × Nat) × Nat)} (hn : ∀ cs nL dd, mt_P[q / 65536]? = some (cs, nL, dd) → nL = n) (hnl : sf_nlh T.2.2.2.1 136 = true) (hk0 : ∀ c, (∀ ρ', en_R E mt_P 1000 ρ' ω h0 fsC q T.2.1 T.2.2.1 T.2.2.2.1 (sf_w0 dp nx) c) → (∀ e ∈ l, en_v E ρ ω e.2 (.int (sf_iv c e.1))) → en_Good E mt_kds mt_P 1000 FIN c) {o : en_O} (ho : en_OS E mt_kds mt_P 1000 ρ ω h0 fsC FIN q o) : en_OS E mt_kds mt_P 1000 ρ ω h0 fsC FIN q (sf_end n dp nx T l o) := by
  intro loc st hp w ih c hih hk hR
  rcases en_if_or.mp (show en_if _ true (o loc st hp w ih) = true from hk) with ⟨h, -⟩ | ⟨-, h⟩
  · obtain ⟨a1, h⟩ := en_if_and.mp h
    obtain ⟨a2, h⟩ := en_if_and.mp h
    obtain ⟨a3, h⟩ := en_if_and.mp h
    obtain ⟨a4, a5⟩ := en_if_and.mp h
    refine hk0 c (fun ρ' => ?_) (sf_eqs_v hn hR l a4)
    unfold sf_w at a1
    obtain ⟨b1, a1⟩ := en_if_and.mp a1
    obtain ⟨b2, a1⟩ := en_if_and.mp a1
    obtain ⟨b3, a1⟩ := en_if_and.mp a1
    obtain ⟨b4, b5⟩ := en_if_and.mp a1
    have b1 := en_beq_t.mp b1
    have b2 := en_beq_t.mp b2
    have b3 := en_ble_t.mp b3
    have b4 := en_beq_t.mp b4
    obtain ⟨lv, sv, gs, hm, o, rfl, ⟨cs, nL, dd, hP, hlr⟩, hs, hh, he, hx, hd, hf⟩ := hR
    have b6 : w.2.2.2.1 = [] := by
      generalize w.2.2.2.1 = fs at b5
      cases fs with
      | nil => rfl
      | cons _ _ => cases b5
    rw [b6] at hd hf
    rw [b1, b2]
    refine ⟨lv, sv, gs, hm, o, rfl, ⟨cs, nL, dd, hP, sf_loc_v ρ' he (Nat.le_of_eq (hn cs nL dd hP)) a3 hlr⟩, sf_st_v ρ' he _ _ _ a2 hs, sf_heap_v ρ' he hnl a5 hh, sf_full_e ρ' 40, ?_, ?_, hf⟩
    · show hm.length = nx
      rw [hx, b4]
    · show fsC.length + 0 + 1 + dp ≤ 1000
      have hd : fsC.length + 0 + 1 + w.2.2.1 ≤ 1000 := hd
      omega
  · exact ho loc st hp w ih c hih h hR
/-- a contract with a condition on the state at its entry -/
def sf_KP (E : mm_E) (ω : Nat → Value) (dp nx : Nat) (M : sf_M) (Pr : mm_C → Prop) : Prop := ∀ (h0 : mm_H) (fsC : List mm_F) (FIN : mm_C → Prop) (c : mm_C), Pr c → (∀ ρ, en_R E mt_P 1000 ρ ω h0 fsC M.1 M.2.1 [] M.2.2.1 (sf_w0 dp nx) c) → (∀ (vo : Option Value) (h : mm_H), (∀ ρ, en_vo E ρ ω M.2.2.2.2.2 vo ∧ en_h E ρ ω h0 M.2.2.2.1 h) → h.length = nx → en_Good E mt_kds mt_P 1000 FIN (mm_back vo fsC h)) → en_Good E mt_kds mt_P 1000 FIN c
noncomputable def sf_xc (n dp nx : Nat) (M : sf_M) (l : List ((Nat × Nat) × Nat)) : en_O → en_O := fun o loc st hp w ih => en_if (en_if (sf_is n dp nx M loc st hp w) (sf_eqs n loc hp l) false) (en_back (fun _ _ _ => false) M.2.2.2.2.2 loc st (sf_over M.2.2.2.1 M.2.2.2.2.1 hp) w ih) (o loc st hp w ih)
/-- the heap of a machine -/
def sf_hc (c : mm_C) : mm_H := c.2.1
theorem sf_call1P {Pr : mm_C → Prop} {n dp nx loc : Nat} {M : sf_M} {st : List Nat} {hp : en_H} {w : en_W} {ih : en_C} {c : mm_C} (hPc : Pr c) (hn : ∀ cs nL dd, mt_P[M.1 / 65536]? = some (cs, nL, dd) → nL = n) (hnl : sf_nlh M.2.2.1 136 = true) (hcov : sf_cov M.2.2.1 M.2.2.2.2.1 136 = true) (hcov2 : sf_cov M.2.2.2.1 M.2.2.2.2.1 136 = true) (hlt : ∀ k ∈ M.2.2.2.2.1, k < 136) (hK : sf_KP E ω dp nx M Pr) (hih : en_S E mt_kds mt_P 1000 ρ ω h0 fsC FIN ih) (h1 : sf_is n dp nx M loc st hp w = true) (hb : en_back (fun _ _ _ => false) M.2.2.2.2.2 loc st (sf_over M.2.2.2.1 M.2.2.2.2.1 hp) w ih = true) (hR : en_R E mt_P 1000 ρ ω h0 fsC M.1 loc st hp w c) : en_Good E mt_kds mt_P 1000 FIN c := by
  unfold sf_is at h1
  obtain ⟨a1, h1⟩ := en_if_and.mp h1
  obtain ⟨a2, h1⟩ := en_if_and.mp h1
  obtain ⟨a3, h1⟩ := en_if_and.mp h1
  obtain ⟨a4, h1⟩ := en_if_and.mp h1
  obtain ⟨a5, h1⟩ := en_if_and.mp h1
  obtain ⟨a6, h1⟩ := en_if_and.mp h1
  obtain ⟨a8, a7⟩ := en_if_and.mp h1
  have b1 := en_beq_t.mp a1
  have b2 := en_beq_t.mp a2
  have b3 := en_ble_t.mp a3
  have b4 := en_beq_t.mp a4
  have b5 : st = [] := by
    cases st with
    | nil => rfl
    | cons _ _ => cases a5
  subst b5
  obtain ⟨lv, sv, gs, h, o, rfl, ⟨cs, nL, dd, hP, hlr⟩, hs, hh, he, hx, hd, hf⟩ := hR
  have hlen := en_frs_len _ _ hf
  have hc := sf_cov_t 136 hcov
  have hc2 := sf_cov_t 136 hcov2
  have hcl := sf_cells_t _ a7
  refine hK h gs FIN _ hPc (fun ρ' => ?_) (fun vo h2 hq hl2 => ?_)
  · refine ⟨lv, sv, gs, h, o, by rw [b1, b2]; rfl, ⟨cs, nL, dd, hP, sf_loc_v ρ' he (Nat.le_of_eq (hn cs nL dd hP)) a6 hlr⟩, ?_, fun k => ⟨fun hk hkd => ?_, fun _ => rfl⟩, sf_full_e ρ' 40, ?_, ?_, rfl⟩
    · have e := en_sr_nil hs
      subst e
      exact trivial
    · have hm := (hc k hk).mpr hkd
      have h9 := hcl k hm
      exact sf_cell_v ρ' he (sf_nlh_t _ hnl k hk) h9 ((hh k).1 hk (by rw [sf_cell_kind h9]; exact hkd))
    · show h.length = nx
      rw [hx, b4]
    · show gs.length + 0 + 1 + dp ≤ 1000
      omega
  · obtain ⟨hv, hh2⟩ := hq ρ
    refine sf_back_ok hih hb hv (fun k => ?_) he (by rw [hl2, b4]) hf
    by_cases hk : k < 136
    · rw [sf_over_t _ hlt hp k hk]
      by_cases hm : k ∈ M.2.2.2.2.1
      · rw [if_pos hm]
        exact ⟨fun g1 g2 => (hh2 k).1 g1 g2, fun g => absurd ⟨hk, (hc2 k hk).mp hm⟩ g⟩
      · rw [if_neg hm]
        have e := (hh2 k).2 (fun g => hm ((hc2 k hk).mpr g.2))
        rw [e]
        exact hh k
    · have e := (hh2 k).2 (fun g => hk g.1)
      rw [e]
      exact ⟨fun g => absurd g hk, fun _ => (hh k).2 (fun g => hk g.1)⟩
theorem sf_xc_ok {n dp nx : Nat} {M : sf_M} {l : List ((Nat × Nat) × Nat)} {Pr : mm_C → Prop} (hn : ∀ cs nL dd, mt_P[M.1 / 65536]? = some (cs, nL, dd) → nL = n) (hnl : sf_nlh M.2.2.1 136 = true) (hcov : sf_cov M.2.2.1 M.2.2.2.2.1 136 = true) (hcov2 : sf_cov M.2.2.2.1 M.2.2.2.2.1 136 = true) (hlt : ∀ k ∈ M.2.2.2.2.1, k < 136) (hK : sf_KP E ω dp nx M Pr) (hPr : ∀ c, (∀ e ∈ l, en_v E ρ ω e.2 (.int (sf_iv c e.1))) → (∀ k ∈ sf_X, (sf_hc c)[k]? = h0[k]?) → Pr c) {o : en_O} (ho : en_OS E mt_kds mt_P 1000 ρ ω h0 fsC FIN M.1 o) : en_OS E mt_kds mt_P 1000 ρ ω h0 fsC FIN M.1 (sf_xc n dp nx M l o) := by
  intro loc st hp w ih c hih hk hR
  rcases en_if_or.mp (show en_if _ _ (o loc st hp w ih) = true from hk) with ⟨h, hb⟩ | ⟨-, h⟩
  · obtain ⟨h1, h2⟩ := en_if_and.mp h
    have hev := sf_eqs_v hn hR l h2
    have hX : ∀ k ∈ sf_X, (sf_hc c)[k]? = h0[k]? := by
      unfold sf_is at h1
      obtain ⟨-, h1⟩ := en_if_and.mp h1
      obtain ⟨-, h1⟩ := en_if_and.mp h1
      obtain ⟨-, h1⟩ := en_if_and.mp h1
      obtain ⟨-, h1⟩ := en_if_and.mp h1
      obtain ⟨-, h1⟩ := en_if_and.mp h1
      obtain ⟨-, h1⟩ := en_if_and.mp h1
      obtain ⟨a8, -⟩ := en_if_and.mp h1
      obtain ⟨lv, sv, gs, h, o, rfl, -, -, hh, -⟩ := hR
      intro k hk
      exact (hh k).2 (fun g => g.2 (sf_jx_t a8 k hk))
    have hp0 := hPr c hev hX
    exact sf_call1P hp0 hn hnl hcov hcov2 hlt hK hih h1 hb hR
  · exact ho loc st hp w ih c hih h hR
/-- the names of a piece: places, then what else is to have a name -/
noncomputable def sf_val (c : mm_C) (pos : List (Nat × Nat)) (g : Nat → Int32) : Nat → Int32 := fun i => if i < pos.length then sf_iv c (en_nth (0, 0) pos i) else g i
theorem sf_piece {tb : en_T} {fin : List Nat → en_H → en_W → Bool} {q n dp nx N loc : Nat} {st : List Nat} {hp : en_H} {pos : List (Nat × Nat)} {c : mm_C} (g : Nat → Int32) (hn : ∀ cs nL dd, mt_P[q / 65536]? = some (cs, nL, dd) → nL = n) (hSA : ∀ ρ, en_SA E ρ ω mt_SB) (hR : ∀ ρ, en_R E mt_P 1000 ρ ω h0 fsC q loc st hp (sf_w0 dp nx) c) (hfin : ∀ ρ, en_FS E mt_kds mt_P 1000 ρ ω h0 fsC FIN fin) (htb : ∀ q hk o, tb q = some hk → en_OS E mt_kds mt_P 1000 (sf_val c pos g) ω h0 fsC FIN q o → en_OS E mt_kds mt_P 1000 (sf_val c pos g) ω h0 fsC FIN q (hk o)) (h : sf_names n pos 0 loc hp (sf_w0 dp nx) (fun loc hp w => en_run mt_SB fin mt_kds mt_P tb N q loc st hp w) = true) : en_Good E mt_kds mt_P 1000 FIN c := by
  obtain ⟨loc', hp', w', hk, hR'⟩ := sf_names_v (ρ := sf_val c pos g) hn _ 0 _ _ _ _ (fun j p hp => by
    rw [Nat.zero_add]
    unfold sf_val
    rw [if_pos (List.getElem?_eq_some_iff.mp hp).1, sf_nth (0, 0) _ j p hp]) (hR _) h
  exact en_run_v (hSA _) (hfin _) mt_Pn htb N _ _ _ _ _ c hk hR'
theorem sf_tc_ok {Q : Nat} {hk : en_O → en_O} {tb : en_T} (h : ∀ o, en_OS E mt_kds mt_P 1000 ρ ω h0 fsC FIN Q o → en_OS E mt_kds mt_P 1000 ρ ω h0 fsC FIN Q (hk o)) (ht : ∀ q hk o, tb q = some hk → en_OS E mt_kds mt_P 1000 ρ ω h0 fsC FIN q o → en_OS E mt_kds mt_P 1000 ρ ω h0 fsC FIN q (hk o)) : ∀ q hk' o, sf_tc Q hk tb q = some hk' → en_OS E mt_kds mt_P 1000 ρ ω h0 fsC FIN q o → en_OS E mt_kds mt_P 1000 ρ ω h0 fsC FIN q (hk' o) := by
  intro q hk' o e ho
  have e : en_if (Nat.beq q Q) (some hk) (tb q) = some hk' := e
  cases h1 : Nat.beq q Q with
  | false =>
    rw [h1, en_if_f] at e
    exact ht q hk' o e ho
  | true =>
    have e2 := en_beq_t.mp h1
    rw [h1, en_if_t] at e
    cases e
    subst e2
    exact h o ho
theorem sf_tn_ok : ∀ (q : Nat) (hk' : en_O → en_O) (o : en_O), (fun _ => none : en_T) q = some hk' → en_OS E mt_kds mt_P 1000 ρ ω h0 fsC FIN q o → en_OS E mt_kds mt_P 1000 ρ ω h0 fsC FIN q (hk' o) := fun _ _ _ h => by cases h
theorem sf_brT {q n cx cy q0 len a b wd nL : Nat} {z : Int} {k : Jvm.ClassFile.Cond} {off : Int} {dd : mm_M} (hat : mm_at mt_P (q / 65536) (q % 65536) = some ((q0, len, .if_icmp k off, a, b, z, wd), nL, dd)) (hn : n / 65536 = q / 65536) (hn2 : ((q % 65536 : Nat) : Int) + off = ((n % 65536 : Nat) : Int)) (hX : en_isI cx = true) (hY : en_isI cy = true) (hc : ∀ x y : Int32, en_v E ρ ω cx (.int x) → en_v E ρ ω cy (.int y) → mm_cond k x y = true) {o : en_O} : en_OS E mt_kds mt_P 1000 ρ ω h0 fsC FIN q (sf_br n cx cy o) := by
  obtain ⟨cs, hP, -, -⟩ := rf_mmat hat
  refine sf_br_ok hP hn hX hY (fun lv x y r cb sb h gs o hx hy g => ?_)
  refine en_step1 hat rfl rfl lv _ cb sb h gs o (n % 65536) lv r cb sb h ?_ g
  simp only [mm_ex]
  rw [if_pos (hc x y hx hy)]
  unfold mm_jump
  rw [hn2, if_pos (Int.natCast_nonneg _), Int.toNat_natCast]
theorem sf_brF {q n cx cy q0 len a b wd nL : Nat} {z : Int} {k : Jvm.ClassFile.Cond} {off : Int} {dd : mm_M} (hat : mm_at mt_P (q / 65536) (q % 65536) = some ((q0, len, .if_icmp k off, a, b, z, wd), nL, dd)) (hn : n / 65536 = q / 65536) (hn2 : q % 65536 + len = n % 65536) (hX : en_isI cx = true) (hY : en_isI cy = true) (hc : ∀ x y : Int32, en_v E ρ ω cx (.int x) → en_v E ρ ω cy (.int y) → ¬ mm_cond k x y = true) {o : en_O} : en_OS E mt_kds mt_P 1000 ρ ω h0 fsC FIN q (sf_br n cx cy o) := by
  obtain ⟨cs, hP, -, -⟩ := rf_mmat hat
  refine sf_br_ok hP hn hX hY (fun lv x y r cb sb h gs o hx hy g => ?_)
  refine en_step1 hat rfl rfl lv _ cb sb h gs o (n % 65536) lv r cb sb h ?_ g
  simp only [mm_ex]
  rw [if_neg (hc x y hx hy), hn2]
/-- a read of an int array that is kept -/
theorem sf_rdI {q n X ci cv N q0 len a b wd nL : Nat} {z : Int} {f : Nat → Int32} {dd : mm_M} (hat : mm_at mt_P (q / 65536) (q % 65536) = some ((q0, len, .iaload, a, b, z, wd), nL, dd)) (hn : n / 65536 = q / 65536) (hn2 : q % 65536 + len = n % 65536) (hX : X < 136) (hI : en_isI ci = true) (hc : h0[X]? = some (.inl (0, N, .inl f))) (hv : ∀ I : Int32, en_v E ρ ω ci (.int I) → mm_inr I N = true ∧ en_v E ρ ω cv (.int (f I.toNatClampNeg))) {o : en_O} : en_OS E mt_kds mt_P 1000 ρ ω h0 fsC FIN q (sf_rd n X ci cv o) := by
  obtain ⟨cs, hP, -, -⟩ := rf_mmat hat
  refine sf_rd_ok hP hn hX hI hc hv ?_ (Or.inl rfl)
  have h9 := en_step1 (E := E) (kds := mt_kds) (P := mt_P) (L := 1000) (FIN := FIN) hat rfl rfl
  simp only [mm_ex, hn2] at h9
  exact h9
theorem sf_rdZ {q n X ci cv N q0 len a b wd nL : Nat} {z : Int} {f : Nat → Int32} {dd : mm_M} (hat : mm_at mt_P (q / 65536) (q % 65536) = some ((q0, len, .baload, a, b, z, wd), nL, dd)) (hn : n / 65536 = q / 65536) (hn2 : q % 65536 + len = n % 65536) (hX : X < 136) (hI : en_isI ci = true) (hc : h0[X]? = some (.inl (2, N, .inl f))) (hv : ∀ I : Int32, en_v E ρ ω ci (.int I) → mm_inr I N = true ∧ en_v E ρ ω cv (.int (f I.toNatClampNeg))) {o : en_O} : en_OS E mt_kds mt_P 1000 ρ ω h0 fsC FIN q (sf_rd n X ci cv o) := by
  obtain ⟨cs, hP, -, -⟩ := rf_mmat hat
  refine sf_rd_ok hP hn hX hI hc hv ?_ (Or.inr rfl)
  have h9 := en_step1 (E := E) (kds := mt_kds) (P := mt_P) (L := 1000) (FIN := FIN) hat rfl rfl
  simp only [mm_ex, hn2] at h9
  exact h9
/-- a local's code is another one that says the same of it -/
theorem sf_refL {q n dp nx loc j nc : Nat} {st : List Nat} {hp : en_H} {c : mm_C} (hn : ∀ cs nL dd, mt_P[q / 65536]? = some (cs, nL, dd) → nL = n) (hj : j < n) (hR : ∀ ρ, en_R E mt_P 1000 ρ ω h0 fsC q loc st hp (sf_w0 dp nx) c) (hI : en_isI (en_elt loc j) = true) (hv : ∀ ρ, en_v E ρ ω nc (.int (sf_iv c (1000, j)))) : ∀ ρ, en_R E mt_P 1000 ρ ω h0 fsC q (en_eset loc j nc) st hp (sf_w0 dp nx) c := by
  intro ρ
  have hpk : sf_pk n hp (1000, j) = true := en_ble_t.mpr hj
  obtain ⟨x, g1, g2⟩ := sf_pos_v hn (hR ρ) hpk hI
  have e9 : sf_iv c (1000, j) = x := by unfold sf_iv; rw [g1]
  have h9 := sf_put_v hn (hR ρ) hpk g1 (by rw [← e9]; exact hv ρ)
  exact h9
theorem sf_rngv {lo hi : Nat} {x : Int32} (h1 : (lo : Int) - 2147483648 ≤ x.toInt) (h2 : x.toInt ≤ (hi : Int) - 2147483648) (h3 : hi < 4294967296) : en_v E ρ ω (en_mk lo hi) (.int x) := by
  have hz := en_z_int x
  exact en_mk_v (by omega) (by omega) h3
theorem sf_ncv {i : Nat} {x : Int32} (hi : i ≤ 60000) (h : en_v E ρ ω (sf_nc i) (.int x)) : x = ρ i := by
  have h2 := sf_nc_v (E := E) (ω := ω) (ρ := ρ) (i := i) rfl hi
  have e : sf_nc i = 4294967296 + 32768 + 65536 * i := rfl
  rw [en_v_name (by omega) (by omega)] at h h2
  have h9 := h.trans h2.symm
  injection h9
theorem sf_nco {i k : Nat} {x : Int32} (hi : i ≤ 60000) (hk : k ≤ 100) (h : en_v E ρ ω (sf_nc i + k) (.int x)) (hr : (ρ i).toInt + k ≤ 2147483647) : x.toInt = (ρ i).toInt + k := by
  have e : sf_nc i = 4294967296 + 32768 + 65536 * i := rfl
  rw [en_v_name (by omega) (by omega)] at h
  have e1 : (sf_nc i + k - 4294967296) / 65536 = i := by omega
  have e2 : (sf_nc i + k) % 65536 = 32768 + k := by omega
  rw [e1] at h
  injection h with h
  have hz := en_z_int (ρ i)
  have hl := en_z_lt (ρ i)
  have h5 := en_z_off (x := ρ i) (c := sf_nc i + k) (by omega) (by omega)
  rw [← h] at h5
  have hz2 := en_z_int x
  omega
theorem sf_ncm {i k : Nat} {x : Int32} (hi : i ≤ 60000) (hk : k ≤ 100) (h : en_v E ρ ω (sf_nc i - k) (.int x)) (hr : -2147483648 ≤ (ρ i).toInt - k) : x.toInt = (ρ i).toInt - k := by
  have e : sf_nc i = 4294967296 + 32768 + 65536 * i := rfl
  rw [en_v_name (by omega) (by omega)] at h
  have e1 : (sf_nc i - k - 4294967296) / 65536 = i := by omega
  have e2 : (sf_nc i - k) % 65536 = 32768 - k := by omega
  rw [e1] at h
  injection h with h
  have hz := en_z_int (ρ i)
  have hl := en_z_lt (ρ i)
  have h5 := en_z_off (x := ρ i) (c := sf_nc i - k) (by omega) (by omega)
  rw [← h] at h5
  have hz2 := en_z_int x
  omega
end SFS
