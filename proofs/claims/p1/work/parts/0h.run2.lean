/-! RUNS, 2: the switch and its light cases; the law's run out of the heavy cases -/
noncomputable def rn_in (l : List Nat) (q : Nat) : Bool := List.rec (motive := fun _ => Bool) false (fun a _ ih => en_if (Nat.beq q a) true ih) l
theorem rn_in_t {q : Nat} : ∀ (l : List Nat), rn_in l q = true → q ∈ l
  | [], h => by cases h
  | a :: l, h => by
    rcases en_if_or.mp (show en_if (Nat.beq q a) true (rn_in l q) = true from h) with ⟨h1, -⟩ | ⟨-, h2⟩
    · rw [en_beq_t.mp h1]; exact List.mem_cons_self
    · exact List.mem_cons_of_mem _ (rn_in_t l h2)
noncomputable def rn_st : en_O → en_O := rn_stop 237142198758023568230687253419235524720382322756948282300116845230250642817156096 [] rn_hp1 rn_w1
def rn_hv : List Nat := [18284984, 18285037, 18285155, 18285214, 18285273, 18285332, 18285365, 18285414, 18285460, 18285499, 18285575, 18285598, 18285677, 18285881, 18285927]
noncomputable def rn_tb : en_T := fun q => en_if (Nat.beq (Nat.div q 65536) 279) (en_if (rn_in rn_hv q) (some rn_st) none) none
theorem rn_tb_t {q : Nat} {hk : en_O → en_O} (h : rn_tb q = some hk) : q ∈ rn_hv ∧ hk = rn_st := by
  unfold rn_tb at h
  cases h1 : Nat.beq (Nat.div q 65536) 279 with
  | false => rw [h1] at h; cases h
  | true =>
    rw [h1, en_if_t] at h
    cases h2 : rn_in rn_hv q with
    | false => rw [h2] at h; cases h
    | true =>
      rw [h2, en_if_t] at h
      exact ⟨rn_in_t _ h2, (Option.some.inj h).symm⟩
/-- from the case at q on, the law comes to its end -/
def rn_Hq (q : Nat) : Prop := ∀ (B tS tL tM b : Nat) (xs : Nat → Int32), tS < B → tL < B → tM < B → b < B → tS ≠ tL → tS ≠ tM → tS ≠ b → tL ≠ tM → tL ≠ b → tM ≠ b → ∀ c, en_R (st_E B tS tL tM b 6 xs) mt_P 1000 xs (fun _ => .null) [] [] q 237142198758023568230687253419235524720382322756948282300116845230250642817156096 [] rn_hp1 rn_w1 c → en_Good (st_E B tS tL tM b 6 xs) mt_kds mt_P 1000 st_FIN c
theorem rn_case {q N : Nat} {tb : en_T} (htb : ∀ {E : mm_E} {ρ : Nat → Int32} {ω : Nat → Value} (q : Nat) (hk : en_O → en_O) (o : en_O), tb q = some hk → en_OS E mt_kds mt_P 1000 ρ ω [] [] st_FIN q o → en_OS E mt_kds mt_P 1000 ρ ω [] [] st_FIN q (hk o)) (h : en_run (mt_SB 6) rn_fin mt_kds mt_P tb N q 237142198758023568230687253419235524720382322756948282300116845230250642817156096 [] rn_hp1 rn_w1 = true) : rn_Hq q :=
  fun _ _ _ _ _ _ h1 h2 h3 h4 n1 n2 n3 n4 n5 n6 c hR => en_run_v (st_SA (Nat.le_refl 6) (fun _ _ => rfl) h1 h2 h3 h4 n1 n2 n3 n4 n5 n6) rn_FS mt_Pn htb N _ _ _ _ _ c h hR
set_option maxRecDepth 1000000 in
theorem rn_long : en_run (mt_SB 6) rn_fin mt_kds mt_P rn_tb 10000 18284544 1422853192879425234015608139717524697174391146560864407338173043287075352173609984 [] rn_hp0 rn_w0 = true := by decide +kernel
theorem rn_goal (hH : ∀ q ∈ rn_hv, rn_Hq q) : st_Goal := by
  intro B tS tL tM b n xs hn h1 h2 h3 h4 n1 n2 n3 n4 n5 n6
  by_cases hn6 : n < 6
  · exact en_run_v (ρ := xs) (ω := fun _ => .null) (h0 := []) (fsC := []) (st_SA hn (fun _ _ => rfl) h1 h2 h3 h4 n1 n2 n3 n4 n5 n6) rn_FS mt_Pn (fun q hk o h => by cases h) 7000 _ _ _ _ _ _ (rn_short n hn6) rn_R0
  · have e : n = 6 := by omega
    subst e
    refine en_run_v (ρ := xs) (ω := fun _ => .null) (h0 := []) (fsC := []) (st_SA hn (fun _ _ => rfl) h1 h2 h3 h4 n1 n2 n3 n4 n5 n6) rn_FS mt_Pn ?_ 10000 _ _ _ _ _ _ rn_long rn_R0
    intro q hk o h _
    obtain ⟨hq, rfl⟩ := rn_tb_t h
    exact rn_stop_ok (fun c hR => hH q hq B tS tL tM b xs h1 h2 h3 h4 n1 n2 n3 n4 n5 n6 c hR) o
