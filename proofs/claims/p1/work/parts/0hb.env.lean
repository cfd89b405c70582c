/-! CASES BY THE ARGUMENTS' RANGES (wip/p1/env.py) -/
def rn_we (ev : en_V) : en_W := (599867, 7279616, 30, [], 133, ev)
def rn_Hv (q : Nat) (ev : en_V) : Prop := ∀ (B tS tL tM b : Nat) (xs : Nat → Int32), tS < B → tL < B → tM < B → b < B → tS ≠ tL → tS ≠ tM → tS ≠ b → tL ≠ tM → tL ≠ b → tM ≠ b → ∀ c, en_R (st_E B tS tL tM b 6 xs) mt_P 1000 xs (fun _ => .null) [] [] q 237142198758023568230687253419235524720382322756948282300116845230250642817156096 [] rn_hp1 (rn_we ev) c → en_Good (st_E B tS tL tM b 6 xs) mt_kds mt_P 1000 st_FIN c
def rn_e0 : en_V := [(0, 4294967295), (0, 4294967295), (0, 4294967295), (0, 4294967295), (0, 4294967295), (0, 4294967295)]
theorem rn_Hv_q {q : Nat} (h : rn_Hv q rn_e0) : rn_Hq q := h
theorem rn_Hv_sp {q : Nat} {ev : en_V} (i v lo hi : Nat) (he : ev[i]? = some (lo, hi)) (h1 : rn_Hv q (ev.set i (lo, v - 1))) (h2 : rn_Hv q (ev.set i (v, hi))) : rn_Hv q ev := by
  intro B tS tL tM b xs a1 a2 a3 a4 n1 n2 n3 n4 n5 n6 c hR
  obtain ⟨lv, sv, gs, h, o, rfl, hl, hs, hh, hev, hx⟩ := hR
  have hi0 := hev i
  rw [en_nth_eq, show en_ev (rn_we ev) = ev from rfl, he] at hi0
  by_cases hlt : en_z (xs i) < v
  · refine h1 B tS tL tM b xs a1 a2 a3 a4 n1 n2 n3 n4 n5 n6 _ ⟨lv, sv, gs, h, o, rfl, hl, hs, hh, ?_, hx⟩
    show en_e xs (ev.set i (lo, v - 1))
    rw [← en_set_eq]
    exact en_e_set hev hi0.1 (by show en_z (xs i) ≤ v - 1; omega)
  · refine h2 B tS tL tM b xs a1 a2 a3 a4 n1 n2 n3 n4 n5 n6 _ ⟨lv, sv, gs, h, o, rfl, hl, hs, hh, ?_, hx⟩
    show en_e xs (ev.set i (v, hi))
    rw [← en_set_eq]
    exact en_e_set hev (by show v ≤ en_z (xs i); omega) hi0.2
theorem rn_Hv_run {q N : Nat} {tb : en_T} {ev : en_V} (htb : ∀ {E : mm_E} {ρ : Nat → Int32} {ω : Nat → Value}, (∀ x, en_SA E (rn_at6 ρ x) ω (mt_SB 6)) → ∀ (q : Nat) (hk : en_O → en_O) (o : en_O), tb q = some hk → en_OS E mt_kds mt_P 1000 ρ ω [] [] st_FIN q o → en_OS E mt_kds mt_P 1000 ρ ω [] [] st_FIN q (hk o)) (h : en_run (mt_SB 6) rn_fin mt_kds mt_P tb N q 237142198758023568230687253419235524720382322756948282300116845230250642817156096 [] rn_hp1 (rn_we ev) = true) : rn_Hv q ev :=
  fun _ _ _ _ _ _ h1 h2 h3 h4 n1 n2 n3 n4 n5 n6 c hR => en_run_v (st_SA (Nat.le_refl 6) (fun _ _ => rfl) h1 h2 h3 h4 n1 n2 n3 n4 n5 n6) rn_FS mt_Pn (htb (fun x => st_SA (Nat.le_refl 6) (fun j hj => by unfold rn_at6; rw [if_neg (by omega)]) h1 h2 h3 h4 n1 n2 n3 n4 n5 n6)) N _ _ _ _ _ c h hR
noncomputable def rn_lpl (l : List (Nat × Nat)) (q : Nat) : Option (en_O → en_O) := List.rec (motive := fun _ => Option (en_O → en_O)) none (fun a _ ih => en_if (Nat.beq q a.1) (some (rn_loop (mt_SB 6) rn_hp1 a.1 a.2)) ih) l
theorem rn_lpl_t {q : Nat} {hk : en_O → en_O} : ∀ l, rn_lpl l q = some hk → ∃ r, hk = rn_loop (mt_SB 6) rn_hp1 q r
  | [], h => by cases h
  | a :: l, h => by
    have h : en_if (Nat.beq q a.1) (some (rn_loop (mt_SB 6) rn_hp1 a.1 a.2)) (rn_lpl l q) = some hk := h
    cases h1 : Nat.beq q a.1 with
    | false => rw [h1, en_if_f] at h; exact rn_lpl_t l h
    | true =>
      rw [h1, en_if_t] at h
      have e := en_beq_t.mp h1
      cases h
      exact ⟨a.2, by rw [e]⟩
/-- the loops over draws -/
noncomputable def rn_lp : en_T := rn_lpl [(589832, 3), (1900645, 2), (2097164, 3), (2162695, 1), (4194331, 5), (4325406, 6), (5177379, 5)]
theorem rn_lp_ok {E : mm_E} {ρ : Nat → Int32} {ω : Nat → Value} (hSA : ∀ x, en_SA E (rn_at6 ρ x) ω (mt_SB 6)) (q : Nat) (hk : en_O → en_O) (o : en_O) (h : rn_lp q = some hk) (ho : en_OS E mt_kds mt_P 1000 ρ ω [] [] st_FIN q o) : en_OS E mt_kds mt_P 1000 ρ ω [] [] st_FIN q (hk o) := by
  obtain ⟨r, rfl⟩ := rn_lpl_t _ h
  exact rn_loop_ok hSA mt_P40 rn_hp1_ok ho
