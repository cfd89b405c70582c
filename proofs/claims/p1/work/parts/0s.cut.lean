/-! CUTS: a run in pieces, with a whole state between them (wip/p1/cut.py) -/
def rn_Hs (q loc : Nat) (st : List Nat) (hp : en_H) (w : en_W) : Prop := ∀ (B tS tL tM b : Nat) (xs : Nat → Int32), tS < B → tL < B → tM < B → b < B → tS ≠ tL → tS ≠ tM → tS ≠ b → tL ≠ tM → tL ≠ b → tM ≠ b → ∀ c, en_R (st_E B tS tL tM b 6 xs) mt_P 1000 xs (fun _ => .null) [] [] q loc st hp w c → en_Good (st_E B tS tL tM b 6 xs) mt_kds mt_P 1000 st_FIN c
theorem rn_Hs_v {q : Nat} {ev : en_V} (h : rn_Hs q 237142198758023568230687253419235524720382322756948282300116845230250642817156096 [] rn_hp1 (rn_we ev)) : rn_Hv q ev := h
theorem rn_Hs_run {q loc N : Nat} {st : List Nat} {hp : en_H} {w : en_W} (h : en_run (mt_SB 6) rn_fin mt_kds mt_P rn_lp N q loc st hp w = true) : rn_Hs q loc st hp w :=
  fun _ _ _ _ _ _ h1 h2 h3 h4 n1 n2 n3 n4 n5 n6 c hR => en_run_v (st_SA (Nat.le_refl 6) (fun _ _ => rfl) h1 h2 h3 h4 n1 n2 n3 n4 n5 n6) rn_FS mt_Pn (rn_lp_ok (fun x => st_SA (Nat.le_refl 6) (fun j hj => by unfold rn_at6; rw [if_neg (by omega)]) h1 h2 h3 h4 n1 n2 n3 n4 n5 n6)) N _ _ _ _ _ c h hR
/-- one of these states -/
noncomputable def rn_stops (l : List (Nat × List Nat × en_H × en_W)) : en_O → en_O := fun o loc st hp w ih => List.rec (motive := fun _ => Bool) false (fun x _ r => en_if (rn_stop x.1 x.2.1 x.2.2.1 x.2.2.2 o loc st hp w ih) true r) l
theorem rn_stops_t {o : en_O} {loc : Nat} {st : List Nat} {hp : en_H} {w : en_W} {ih : en_C} : ∀ l, rn_stops l o loc st hp w ih = true → ∃ x ∈ l, rn_stop x.1 x.2.1 x.2.2.1 x.2.2.2 o loc st hp w ih = true
  | [], h => by cases h
  | x :: l, h => by
    rcases en_if_or.mp (show en_if (rn_stop x.1 x.2.1 x.2.2.1 x.2.2.2 o loc st hp w ih) true (rn_stops l o loc st hp w ih) = true from h) with ⟨h1, -⟩ | ⟨-, h1⟩
    · exact ⟨x, List.mem_cons_self, h1⟩
    · obtain ⟨y, h2, h3⟩ := rn_stops_t l h1
      exact ⟨y, List.mem_cons_of_mem _ h2, h3⟩
theorem rn_Hs_cut {q loc N q2 : Nat} {l : List (Nat × List Nat × en_H × en_W)} {st : List Nat} {hp : en_H} {w : en_W} (hn : ∀ x ∈ l, rn_Hs q2 x.1 x.2.1 x.2.2.1 x.2.2.2) (h : en_run (mt_SB 6) rn_fin mt_kds mt_P (fun q => en_if (Nat.beq q q2) (some (rn_stops l)) (rn_lp q)) N q loc st hp w = true) : rn_Hs q loc st hp w := by
  intro B tS tL tM b xs h1 h2 h3 h4 n1 n2 n3 n4 n5 n6 c hR
  refine en_run_v (st_SA (Nat.le_refl 6) (fun _ _ => rfl) h1 h2 h3 h4 n1 n2 n3 n4 n5 n6) rn_FS mt_Pn ?_ N _ _ _ _ _ c h hR
  intro q' hk o e ho
  cases h9 : Nat.beq q' q2 with
  | false =>
    rw [h9, en_if_f] at e
    exact rn_lp_ok (fun x => st_SA (Nat.le_refl 6) (fun j hj => by unfold rn_at6; rw [if_neg (by omega)]) h1 h2 h3 h4 n1 n2 n3 n4 n5 n6) q' hk o e ho
  | true =>
    rw [h9, en_if_t] at e
    cases e
    have e2 := en_beq_t.mp h9
    subst e2
    intro loc' st' hp' w' ih' c' hih' hk2 hR2
    obtain ⟨x, hx, hs⟩ := rn_stops_t _ hk2
    exact hn x hx B tS tL tM b xs h1 h2 h3 h4 n1 n2 n3 n4 n5 n6 c' (rn_stop_R hs hR2)
theorem rn_cut_n {q2 : Nat} : ∀ x ∈ ([] : List (Nat × List Nat × en_H × en_W)), rn_Hs q2 x.1 x.2.1 x.2.2.1 x.2.2.2 := fun x h => by cases h
theorem rn_cut_c {q2 a : Nat} {b : List Nat} {c : en_H} {d : en_W} {l : List (Nat × List Nat × en_H × en_W)} (h : rn_Hs q2 a b c d) (t : ∀ x ∈ l, rn_Hs q2 x.1 x.2.1 x.2.2.1 x.2.2.2) : ∀ x ∈ (a, b, c, d) :: l, rn_Hs q2 x.1 x.2.1 x.2.2.1 x.2.2.2 := by
  intro x hx
  rcases List.mem_cons.mp hx with rfl | hx
  · exact h
  · exact t x hx
