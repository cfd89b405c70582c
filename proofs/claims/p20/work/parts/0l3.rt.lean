/-! PARTIAL: the reference's reader, exact, 3: men, one thing told (wip/p5/mkr3.py) -/
theorem py_wr_go {σ : py_S} {k t : Nat} (h : (py_go σ).2.1 = 0) : py_wr k t (py_go σ) = py_go (py_wr k t σ) := by
  obtain ⟨h0, -⟩ := py_go_st h
  by_cases e : σ.1 = 400
  · rw [py_go_e h0 e] at h
    exact absurd h (show (2 : Nat) ≠ 0 by decide)
  · rw [py_go_s h0 e]
    by_cases g : σ.2.2.1 = 0
    · have e1 : py_wr k t σ = (σ.1, σ.2.1, k, t, σ.2.2.2.2) := if_pos ⟨h0, g⟩
      have e2 : py_wr k t (σ.1 + 1, σ.2) = (σ.1 + 1, σ.2.1, k, t, σ.2.2.2.2) := if_pos ⟨h0, g⟩
      rw [e1, e2, py_go_s (σ := (σ.1, σ.2.1, k, t, σ.2.2.2.2)) h0 e]
    · have e1 : py_wr k t σ = σ := if_neg (fun q => g q.2)
      have e2 : py_wr k t (σ.1 + 1, σ.2) = (σ.1 + 1, σ.2) := if_neg (fun q => g q.2)
      rw [e1, e2, py_go_s h0 e]
theorem py_wr_i {σ : py_S} {k t : Nat} (hk : k ≠ 0) : py_wr k t (py_wr k t σ) = py_wr k t σ := by
  by_cases g : σ.2.1 = 0 ∧ σ.2.2.1 = 0
  · have e1 : py_wr k t σ = (σ.1, σ.2.1, k, t, σ.2.2.2.2) := if_pos g
    rw [e1]
    exact if_neg (fun q => hk q.2)
  · have e1 : py_wr k t σ = σ := if_neg g
    rw [e1, e1]
theorem py_wr_f {σ : py_S} {k t : Nat} (h : σ.2.1 ≠ 0) : py_wr k t σ = σ := if_neg (fun q => h q.1)
theorem py_nu_f {K V : Nat → Int} {lo hi : Int} {σ : py_S} (h : σ.2.1 ≠ 0) : py_nu K V lo hi σ = σ := by
  unfold py_nu
  rw [if_neg (fun e => h e.1)]
  exact if_neg h
theorem py_nm_f {Q : Nat → Nat → Bool} {σ : py_S} {t : Nat} (h : σ.2.1 ≠ 0) : py_nm Q t σ = σ := by
  unfold py_nm
  split
  · exact py_wr_f h
  · rfl
theorem py_five_f {K V : Nat → Int} {σ : py_S} (h : σ.2.1 ≠ 0) : py_five K V σ = σ := by
  unfold py_five
  rw [py_nu_f h, py_nu_f h, py_nu_f h, py_nu_f h, py_nu_f h]
theorem py_nm_t {Q : Nat → Nat → Bool} {σ : py_S} {t : Nat} : (py_nm Q t σ).1 = σ.1 ∧ (py_nm Q t σ).2.1 = σ.2.1 := by
  unfold py_nm
  split
  · exact ⟨py_wr_t.1, py_wr_t.2.1⟩
  · exact ⟨rfl, rfl⟩
theorem py_man_eq {K V : Nat → Int} {Q : Nat → Nat → Bool} {σ : py_S} (hl : σ.2.2.2.2.length ≠ 6) : ((py_mu K 4 (py_five K V (py_nm Q (py_go σ).1 (py_mu K 1 (py_go σ))))).2.1 = 0 → py_man K V Q σ = py_ad (py_go σ).1 (py_mu K 4 (py_five K V (py_nm Q (py_go σ).1 (py_mu K 1 (py_go σ))))) ∧ (py_go σ).2.1 = 0 ∧ K (py_go σ).1 = 1 ∧ (py_go σ).1 < (py_mu K 1 (py_go σ)).1) ∧ ((py_mu K 4 (py_five K V (py_nm Q (py_go σ).1 (py_mu K 1 (py_go σ))))).2.1 ≠ 0 → (py_man K V Q σ).2.1 = (py_mu K 4 (py_five K V (py_nm Q (py_go σ).1 (py_mu K 1 (py_go σ))))).2.1 ∧ (py_man K V Q σ).1 = (py_mu K 4 (py_five K V (py_nm Q (py_go σ).1 (py_mu K 1 (py_go σ))))).1) := by
  generalize h1 : py_go σ = σ1
  by_cases c : σ1.2.1 = 0 ∧ K σ1.1 = 1
  · have e2 : py_mu K 1 σ1 = py_go σ1 := if_pos c
    have em : py_man K V Q σ = py_ad σ1.1 (py_mu K 4 (py_five K V (py_go (py_nm Q σ1.1 σ1)))) := by
      unfold py_man
      rw [h1, if_neg hl, if_pos c]
      unfold py_five
      rw [py_ad_go, py_ad_nu, py_ad_nu, py_ad_nu, py_ad_nu, py_ad_nu, py_ad_mu]
    rw [e2, em]
    by_cases g : (py_go σ1).2.1 = 0
    · have en : py_nm Q σ1.1 (py_go σ1) = py_go (py_nm Q σ1.1 σ1) := by
        unfold py_nm
        rw [py_n_go]
        split
        · exact py_wr_go g
        · rfl
      rw [en]
      have lt : σ1.1 < (py_go σ1).1 := by
        rw [(py_go_st g).2]
        exact Nat.lt_succ_self _
      generalize py_mu K 4 (py_five K V (py_go (py_nm Q σ1.1 σ1))) = Z
      exact ⟨fun _ => ⟨rfl, c.1, c.2, lt⟩, fun _ => ⟨rfl, rfl⟩⟩
    · rw [py_nm_f g, py_five_f g, py_mu_f g]
      refine ⟨fun q => absurd q g, fun _ => ?_⟩
      have e4 : σ1.1 = 400 := by
        by_cases e : σ1.1 = 400
        · exact e
        · rw [py_go_s c.1 e] at g
          exact absurd c.1 g
      have w := py_nm_t (Q := Q) (σ := σ1) (t := σ1.1)
      have g2 : py_go (py_nm Q σ1.1 σ1) = ((py_nm Q σ1.1 σ1).1, 2, (py_nm Q σ1.1 σ1).2.2) := py_go_e (by rw [w.2]; exact c.1) (by rw [w.1]; exact e4)
      have g3 : (py_go (py_nm Q σ1.1 σ1)).2.1 ≠ 0 := by
        rw [g2]
        exact (show (2 : Nat) ≠ 0 by decide)
      rw [py_five_f g3, py_mu_f g3, g2, py_go_e c.1 e4]
      exact ⟨rfl, w.1⟩
  · have e2 : py_mu K 1 σ1 = py_fl 1 σ1 := if_neg c
    have g : (py_fl 1 σ1).2.1 ≠ 0 := py_fl_f (by decide)
    have em : py_man K V Q σ = py_fl 1 σ1 := by
      unfold py_man
      rw [h1, if_neg hl, if_neg c]
    rw [e2, py_nm_f g, py_five_f g, py_mu_f g, em]
    exact ⟨fun q => absurd q g, fun _ => ⟨rfl, rfl⟩⟩
/-- a later fault is noted at an earlier token -/
theorem rq_wr2 {K V P : Nat → Int} {σ : py_S} {M : Nat} {ns : List Nat} {o : Nat} {s s1 : Nat → Int32} {A : Nat → Nat → Int32} {L : Nat → Nat → Int64} {k τ : Nat} {p : Int} (hR : rq_R K P M σ ns o 0 s A L) (hT : rq_T K V P M A) (hf : σ.2.1 = 0) (hk : k ≠ 0) (hτ : τ < σ.1) (hw : σ.2.2.1 ≠ 0 → (σ.2.2.2.1 < τ ∨ (σ.2.2.2.1 = τ ∧ σ.2.2.1 ≤ k))) (hp : p = P τ) (f : ∀ j, j ≠ 8815 → j ≠ 8816 → s1 j = s j) {pv kv : Int32} (hpv : pv.toInt = p) (hkv : kv.toInt = (k : Int)) (w : ((0 < (s 8813).toInt ∨ ((s 8815).toInt ≠ 0 ∧ ((s 8816).toInt < pv.toInt ∨ (pv.toInt = (s 8816).toInt ∧ (s 8815).toInt ≤ kv.toInt)))) ∧ s1 8815 = s 8815 ∧ s1 8816 = s 8816) ∨ (¬ (0 < (s 8813).toInt ∨ ((s 8815).toInt ≠ 0 ∧ ((s 8816).toInt < pv.toInt ∨ (pv.toInt = (s 8816).toInt ∧ (s 8815).toInt ≤ kv.toInt)))) ∧ s1 8815 = kv ∧ s1 8816 = pv)) : rq_R K P M (py_wr k τ σ) ns o 0 s1 A L := by
  obtain ⟨r1, r2, r3⟩ := hR
  have r2 := r2 hf
  have c11 := f 8811 (by decide) (by decide)
  have c13 := f 8813 (by decide) (by decide)
  have c19 := f 8819 (by decide) (by decide)
  have c20 := f 8820 (by decide) (by decide)
  have c12 := f 8812 (by decide) (by decide)
  by_cases e0 : σ.2.2.1 = 0
  · have ee : py_wr k τ σ = (σ.1, σ.2.1, k, τ, σ.2.2.2.2) := if_pos ⟨hf, e0⟩
    rw [ee]
    rcases w with w | w
    · exfalso
      have := r2.2.2.1
      omega
    · refine ⟨by rw [c13]; exact r1, fun _ => ⟨by rw [c11]; exact r2.1, r2.2.1, by rw [w.2.1]; exact hkv, fun _ => ⟨by rw [w.2.2, hpv]; exact hp, hτ⟩, by rw [c20]; exact r2.2.2.2.2.1, r2.2.2.2.2.2.1, r2.2.2.2.2.2.2.1, by rw [c19]; exact r2.2.2.2.2.2.2.2.1, by rw [c12]; exact r2.2.2.2.2.2.2.2.2⟩, fun h => absurd hf h⟩
  · have ee : py_wr k τ σ = σ := if_neg (fun h => e0 h.2)
    rw [ee]
    have q := r2.2.2.2.1 e0
    have lt := hT.2.2.2.2 σ.2.2.2.1 τ
    have r21 := r2.2.1
    have hw := hw e0
    have sw := r2.2.2.1
    rcases w with w | w
    · refine ⟨by rw [c13]; exact r1, fun _ => ⟨by rw [c11]; exact r2.1, r2.2.1, by rw [w.2.1]; exact r2.2.2.1, fun _ => ⟨by rw [w.2.2]; exact q.1, q.2⟩, by rw [c20]; exact r2.2.2.2.2.1, r2.2.2.2.2.2.1, r2.2.2.2.2.2.2.1, by rw [c19]; exact r2.2.2.2.2.2.2.2.1, by rw [c12]; exact r2.2.2.2.2.2.2.2.2⟩, fun h => absurd hf h⟩
    · exfalso
      rcases hw with hw | hw
      · have lt := lt hw (by omega)
        omega
      · rw [hw.1] at q
        omega
/-- a man's name is kept -/
theorem rq_adn {K P : Nat → Int} {σ : py_S} {M : Nat} {ns : List Nat} {o e τ : Nat} {s s1 : Nat → Int32} {A A1 : Nat → Nat → Int32} {L : Nat → Nat → Int64} (hR : rq_R K P M σ ns o e s A L) (hf : σ.2.1 = 0) (hl : ns.length < 6) (hK : K τ = 1) (hτ : τ < M) (h20 : (s1 8820).toInt = (s 8820).toInt + 1) (ho : ∀ j, j ≠ 8820 → s1 j = s j) (hA : (A1 97 (s1 8819).toInt.toNat).toInt = (ns.length : Int) + 1) : rq_R K P M (py_ad τ σ) (ns ++ [τ]) o e s1 A1 (bh_upL L 96 ns.length (L 94 τ)) := by
  obtain ⟨r1, r2, r3⟩ := hR
  obtain ⟨a1, a2, a3, a4, a5, a6, a7, a8, a9⟩ := r2 hf
  have e94 : (bh_upL L 96 ns.length (L 94 τ)) 94 = L 94 := if_neg (by decide)
  have elen : (ns ++ [τ]).length = ns.length + 1 := List.length_append
  refine ⟨by rw [ho 8813 (by decide)]; exact r1, fun _ => ⟨by rw [ho 8811 (by decide)]; exact a1, a2, by rw [ho 8815 (by decide)]; exact a3, by rw [ho 8816 (by decide)]; exact a4, by rw [elen]; omega, by rw [elen]; omega, fun i hi => ?_, by rw [elen]; omega, by rw [ho 8812 (by decide)]; exact a9⟩, fun h => absurd hf h⟩
  rw [elen] at hi
  rw [e94]
  unfold bh_upL vp_updL
  rw [if_pos rfl]
  by_cases ei : i = ns.length
  · rw [if_pos ei]
    have eg : (ns ++ [τ]).getD i 0 = τ := by
      rw [ei, List.getD_eq_getElem?_getD, List.getElem?_append_right (Nat.le_refl _), Nat.sub_self]
      rfl
    rw [eg]
    exact ⟨rfl, hτ, hK⟩
  · rw [if_neg ei]
    have eg : (ns ++ [τ]).getD i 0 = ns.getD i 0 := by
      rw [List.getD_eq_getElem?_getD, List.getD_eq_getElem?_getD, List.getElem?_append_left (by omega)]
    rw [eg]
    exact a7 i (by omega)
theorem rq_R_f {K P : Nat → Int} {σ σ2 : py_S} {M : Nat} {ns : List Nat} {o e : Nat} {s : Nat → Int32} {A : Nat → Nat → Int32} {L : Nat → Nat → Int64} {ns2 : List Nat} {e2 o2 : Nat} (hf : σ.2.1 ≠ 0) (h1 : σ2.2.1 = σ.2.1) (h2 : σ2.1 = σ.1) (hR : rq_R K P M σ ns o e s A L) : rq_R K P M σ2 ns2 o2 e2 s A L := ⟨by rw [h1]; exact hR.1, fun h => absurd (h1.symm.trans h) hf, fun _ => by rw [h2]; exact hR.2.2 hf⟩
/-- the names seen so far -/
def rq_nm (Q : Nat → Nat → Bool) (ns : List Nat) (τ : Nat) (σ X : py_S) (i : Nat) : Prop := (X = σ ∧ ∀ j, j < i → Q (ns.getD j 0) τ = false) ∨ (X = py_wr 3 τ σ ∧ ∃ j, j < i ∧ Q (ns.getD j 0) τ = true)
theorem rq_nm_end {Q : Nat → Nat → Bool} {ns : List Nat} {τ : Nat} {σ X : py_S} (hn : σ.2.2.2.2 = ns) {i : Nat} (hi : ns.length ≤ i) (hii : i ≤ ns.length) (h : rq_nm Q ns τ σ X i) : X = py_nm Q τ σ := by
  have key : (σ.2.2.2.2.any (fun i => Q i τ) = true) ↔ ∃ j, j < i ∧ Q (ns.getD j 0) τ = true := by
    rw [hn, List.any_eq_true]
    constructor
    · rintro ⟨x, hx, hq⟩
      obtain ⟨j, hj, ej⟩ := List.getElem_of_mem hx
      refine ⟨j, by omega, ?_⟩
      rw [List.getD_eq_getElem?_getD, List.getElem?_eq_getElem hj, ej]
      exact hq
    · rintro ⟨j, hj, hq⟩
      have hj2 : j < ns.length := by omega
      rw [List.getD_eq_getElem?_getD, List.getElem?_eq_getElem hj2] at hq
      exact ⟨ns[j], List.getElem_mem hj2, hq⟩
  unfold py_nm
  rcases h with ⟨rfl, h⟩ | ⟨rfl, h⟩
  · rw [if_neg (fun q => by
      obtain ⟨j, hj, hq⟩ := key.mp q
      rw [h j hj] at hq
      cases hq)]
  · rw [if_pos (key.mpr h)]
theorem rq_nm_f {Q : Nat → Nat → Bool} {ns : List Nat} {τ : Nat} {σ X : py_S} {i : Nat} (hX : X.2.1 ≠ 0) (h : rq_nm Q ns τ σ X i) : X = py_nm Q τ σ := by
  rcases h with ⟨rfl, h⟩ | ⟨rfl, h⟩
  · exact (py_nm_f hX).symm
  · rw [py_wr_t.2.1] at hX
    rw [py_nm_f hX, py_wr_f hX]
theorem bu_98_0 : mm_at mt_P 98 0 = some ((0, 1, .aload_n 0, 0, 0, 0, 0), 4, 0, 1, 9, 0, 0, 0) := rfl
theorem bu_98_1 : mm_at mt_P 98 1 = some ((1, 3, .invokevirtual 224, 37, 0, 0, 1491), 4, 0, 1, 9, 0, 0, 0) := rfl
theorem bu_98_4 : mm_at mt_P 98 4 = some ((4, 2, .bipush 6, 0, 0, 0, 0), 4, 0, 1, 9, 0, 0, 0) := rfl
theorem bu_98_6 : mm_at mt_P 98 6 = some ((6, 1, .aload_n 0, 0, 0, 0, 0), 4, 0, 1, 9, 0, 0, 0) := rfl
theorem bu_98_7 : mm_at mt_P 98 7 = some ((7, 3, .getfield 236, 9, 19, 0, 1236), 4, 0, 1, 9, 0, 0, 0) := rfl
theorem bu_98_10 : mm_at mt_P 98 10 = some ((10, 1, .imul, 0, 0, 0, 0), 4, 0, 1, 9, 0, 0, 0) := rfl
theorem bu_98_11 : mm_at mt_P 98 11 = some ((11, 1, .aload_n 0, 0, 0, 0, 0), 4, 0, 1, 9, 0, 0, 0) := rfl
theorem bu_98_12 : mm_at mt_P 98 12 = some ((12, 3, .getfield 43, 9, 22, 0, 1239), 4, 0, 1, 9, 0, 0, 0) := rfl
theorem bu_98_15 : mm_at mt_P 98 15 = some ((15, 1, .aload_n 0, 0, 0, 0, 0), 4, 0, 1, 9, 0, 0, 0) := rfl
theorem bu_98_16 : mm_at mt_P 98 16 = some ((16, 3, .getfield 236, 9, 19, 0, 1236), 4, 0, 1, 9, 0, 0, 0) := rfl
theorem bu_98_19 : mm_at mt_P 98 19 = some ((19, 1, .iaload, 0, 0, 0, 0), 4, 0, 1, 9, 0, 0, 0) := rfl
theorem bu_98_20 : mm_at mt_P 98 20 = some ((20, 1, .iadd, 0, 0, 0, 0), 4, 0, 1, 9, 0, 0, 0) := rfl
theorem bu_98_21 : mm_at mt_P 98 21 = some ((21, 1, .istore_n 1, 0, 0, 0, 0), 4, 0, 1, 9, 0, 0, 0) := rfl
theorem bu_98_22 : mm_at mt_P 98 22 = some ((22, 1, .aload_n 0, 0, 0, 0, 0), 4, 0, 1, 9, 0, 0, 0) := rfl
theorem bu_98_23 : mm_at mt_P 98 23 = some ((23, 3, .getfield 206, 9, 11, 0, 1228), 4, 0, 1, 9, 0, 0, 0) := rfl
theorem bu_98_26 : mm_at mt_P 98 26 = some ((26, 1, .istore_n 2, 0, 0, 0, 0), 4, 0, 1, 9, 0, 0, 0) := rfl
theorem bu_98_27 : mm_at mt_P 98 27 = some ((27, 1, .aload_n 0, 0, 0, 0, 0), 4, 0, 1, 9, 0, 0, 0) := rfl
theorem bu_98_28 : mm_at mt_P 98 28 = some ((28, 1, .iconst 1, 0, 0, 0, 0), 4, 0, 1, 9, 0, 0, 0) := rfl
theorem bu_98_29 : mm_at mt_P 98 29 = some ((29, 3, .invokevirtual 267, 67, 0, 0, 1495), 4, 0, 1, 9, 0, 0, 0) := rfl
theorem bu_98_32 : mm_at mt_P 98 32 = some ((32, 1, .iconst 0, 0, 0, 0, 0), 4, 0, 1, 9, 0, 0, 0) := rfl
theorem bu_98_33 : mm_at mt_P 98 33 = some ((33, 1, .istore_n 3, 0, 0, 0, 0), 4, 0, 1, 9, 0, 0, 0) := rfl
theorem bu_98_34 : mm_at mt_P 98 34 = some ((34, 1, .iload_n 3, 0, 0, 0, 0), 4, 0, 1, 9, 0, 0, 0) := rfl
theorem bu_98_35 : mm_at mt_P 98 35 = some ((35, 1, .aload_n 0, 0, 0, 0, 0), 4, 0, 1, 9, 0, 0, 0) := rfl
theorem bu_98_36 : mm_at mt_P 98 36 = some ((36, 3, .getfield 239, 9, 20, 0, 1237), 4, 0, 1, 9, 0, 0, 0) := rfl
theorem bu_98_39 : mm_at mt_P 98 39 = some ((39, 3, .if_icmp .ge 38, 0, 0, 0, 0), 4, 0, 1, 9, 0, 0, 0) := rfl
theorem bu_98_42 : mm_at mt_P 98 42 = some ((42, 1, .aload_n 0, 0, 0, 0, 0), 4, 0, 1, 9, 0, 0, 0) := rfl
theorem bu_98_43 : mm_at mt_P 98 43 = some ((43, 3, .getfield 203, 9, 13, 0, 1230), 4, 0, 1, 9, 0, 0, 0) := rfl
theorem bu_98_46 : mm_at mt_P 98 46 = some ((46, 3, .ifCond .ne 31, 0, 0, 0, 0), 4, 0, 1, 9, 0, 0, 0) := rfl
theorem bu_98_49 : mm_at mt_P 98 49 = some ((49, 1, .aload_n 0, 0, 0, 0, 0), 4, 0, 1, 9, 0, 0, 0) := rfl
theorem bu_98_50 : mm_at mt_P 98 50 = some ((50, 3, .getfield 40, 9, 21, 0, 1238), 4, 0, 1, 9, 0, 0, 0) := rfl
theorem bu_98_53 : mm_at mt_P 98 53 = some ((53, 1, .iload_n 3, 0, 0, 0, 0), 4, 0, 1, 9, 0, 0, 0) := rfl
theorem bu_98_54 : mm_at mt_P 98 54 = some ((54, 1, .laload, 0, 0, 0, 0), 4, 0, 1, 9, 0, 0, 0) := rfl
theorem bu_98_55 : mm_at mt_P 98 55 = some ((55, 1, .aload_n 0, 0, 0, 0, 0), 4, 0, 1, 9, 0, 0, 0) := rfl
theorem bu_98_56 : mm_at mt_P 98 56 = some ((56, 3, .getfield 30, 9, 8, 0, 1225), 4, 0, 1, 9, 0, 0, 0) := rfl
theorem bu_98_59 : mm_at mt_P 98 59 = some ((59, 1, .iload_n 2, 0, 0, 0, 0), 4, 0, 1, 9, 0, 0, 0) := rfl
theorem bu_98_60 : mm_at mt_P 98 60 = some ((60, 1, .laload, 0, 0, 0, 0), 4, 0, 1, 9, 0, 0, 0) := rfl
theorem bu_98_61 : mm_at mt_P 98 61 = some ((61, 1, .lcmp, 0, 0, 0, 0), 4, 0, 1, 9, 0, 0, 0) := rfl
theorem bu_98_62 : mm_at mt_P 98 62 = some ((62, 3, .ifCond .ne 9, 0, 0, 0, 0), 4, 0, 1, 9, 0, 0, 0) := rfl
theorem bu_98_65 : mm_at mt_P 98 65 = some ((65, 1, .aload_n 0, 0, 0, 0, 0), 4, 0, 1, 9, 0, 0, 0) := rfl
theorem bu_98_66 : mm_at mt_P 98 66 = some ((66, 1, .iconst 3, 0, 0, 0, 0), 4, 0, 1, 9, 0, 0, 0) := rfl
theorem bu_98_67 : mm_at mt_P 98 67 = some ((67, 1, .iload_n 2, 0, 0, 0, 0), 4, 0, 1, 9, 0, 0, 0) := rfl
theorem bu_98_68 : mm_at mt_P 98 68 = some ((68, 3, .invokevirtual 273, 112, 0, 0, 1499), 4, 0, 1, 9, 0, 0, 0) := rfl
theorem bu_98_71 : mm_at mt_P 98 71 = some ((71, 3, .iinc 3 1, 0, 0, 0, 0), 4, 0, 1, 9, 0, 0, 0) := rfl
theorem bu_98_74 : mm_at mt_P 98 74 = some ((74, 3, .goto (-40), 0, 0, 0, 0), 4, 0, 1, 9, 0, 0, 0) := rfl
theorem bu_98_77 : mm_at mt_P 98 77 = some ((77, 1, .iconst 0, 0, 0, 0, 0), 4, 0, 1, 9, 0, 0, 0) := rfl
theorem bu_98_78 : mm_at mt_P 98 78 = some ((78, 1, .istore_n 3, 0, 0, 0, 0), 4, 0, 1, 9, 0, 0, 0) := rfl
theorem bu_98_79 : mm_at mt_P 98 79 = some ((79, 1, .iload_n 3, 0, 0, 0, 0), 4, 0, 1, 9, 0, 0, 0) := rfl
theorem bu_98_80 : mm_at mt_P 98 80 = some ((80, 1, .iconst 4, 0, 0, 0, 0), 4, 0, 1, 9, 0, 0, 0) := rfl
theorem bu_98_81 : mm_at mt_P 98 81 = some ((81, 3, .if_icmp .ge 26, 0, 0, 0, 0), 4, 0, 1, 9, 0, 0, 0) := rfl
theorem bu_98_84 : mm_at mt_P 98 84 = some ((84, 1, .aload_n 0, 0, 0, 0, 0), 4, 0, 1, 9, 0, 0, 0) := rfl
theorem bu_98_85 : mm_at mt_P 98 85 = some ((85, 3, .getfield 46, 9, 23, 0, 1240), 4, 0, 1, 9, 0, 0, 0) := rfl
theorem bu_98_88 : mm_at mt_P 98 88 = some ((88, 1, .iconst 4, 0, 0, 0, 0), 4, 0, 1, 9, 0, 0, 0) := rfl
theorem bu_98_89 : mm_at mt_P 98 89 = some ((89, 1, .iload_n 1, 0, 0, 0, 0), 4, 0, 1, 9, 0, 0, 0) := rfl
theorem bu_98_90 : mm_at mt_P 98 90 = some ((90, 1, .imul, 0, 0, 0, 0), 4, 0, 1, 9, 0, 0, 0) := rfl
theorem bu_98_91 : mm_at mt_P 98 91 = some ((91, 1, .iload_n 3, 0, 0, 0, 0), 4, 0, 1, 9, 0, 0, 0) := rfl
theorem bu_98_92 : mm_at mt_P 98 92 = some ((92, 1, .iadd, 0, 0, 0, 0), 4, 0, 1, 9, 0, 0, 0) := rfl
theorem bu_98_93 : mm_at mt_P 98 93 = some ((93, 1, .aload_n 0, 0, 0, 0, 0), 4, 0, 1, 9, 0, 0, 0) := rfl
theorem bu_98_94 : mm_at mt_P 98 94 = some ((94, 1, .iconst 0, 0, 0, 0, 0), 4, 0, 1, 9, 0, 0, 0) := rfl
theorem bu_98_95 : mm_at mt_P 98 95 = some ((95, 2, .bipush 9, 0, 0, 0, 0), 4, 0, 1, 9, 0, 0, 0) := rfl
theorem bu_98_97 : mm_at mt_P 98 97 = some ((97, 3, .invokevirtual 263, 10, 0, 0, 1503), 4, 0, 1, 9, 0, 0, 0) := rfl
theorem bu_98_100 : mm_at mt_P 98 100 = some ((100, 1, .iastore, 0, 0, 0, 0), 4, 0, 1, 9, 0, 0, 0) := rfl
theorem bu_98_101 : mm_at mt_P 98 101 = some ((101, 3, .iinc 3 1, 0, 0, 0, 0), 4, 0, 1, 9, 0, 0, 0) := rfl
theorem bu_98_104 : mm_at mt_P 98 104 = some ((104, 3, .goto (-25), 0, 0, 0, 0), 4, 0, 1, 9, 0, 0, 0) := rfl
theorem bu_98_107 : mm_at mt_P 98 107 = some ((107, 1, .aload_n 0, 0, 0, 0, 0), 4, 0, 1, 9, 0, 0, 0) := rfl
theorem bu_98_108 : mm_at mt_P 98 108 = some ((108, 3, .getfield 49, 9, 24, 0, 1241), 4, 0, 1, 9, 0, 0, 0) := rfl
theorem bu_98_111 : mm_at mt_P 98 111 = some ((111, 1, .iload_n 1, 0, 0, 0, 0), 4, 0, 1, 9, 0, 0, 0) := rfl
theorem bu_98_112 : mm_at mt_P 98 112 = some ((112, 1, .aload_n 0, 0, 0, 0, 0), 4, 0, 1, 9, 0, 0, 0) := rfl
theorem bu_98_113 : mm_at mt_P 98 113 = some ((113, 1, .iconst 0, 0, 0, 0, 0), 4, 0, 1, 9, 0, 0, 0) := rfl
theorem bu_98_114 : mm_at mt_P 98 114 = some ((114, 2, .bipush 9, 0, 0, 0, 0), 4, 0, 1, 9, 0, 0, 0) := rfl
theorem bu_98_116 : mm_at mt_P 98 116 = some ((116, 3, .invokevirtual 263, 10, 0, 0, 1503), 4, 0, 1, 9, 0, 0, 0) := rfl
theorem bu_98_119 : mm_at mt_P 98 119 = some ((119, 1, .iastore, 0, 0, 0, 0), 4, 0, 1, 9, 0, 0, 0) := rfl
theorem bu_98_120 : mm_at mt_P 98 120 = some ((120, 1, .aload_n 0, 0, 0, 0, 0), 4, 0, 1, 9, 0, 0, 0) := rfl
theorem bu_98_121 : mm_at mt_P 98 121 = some ((121, 1, .iconst 4, 0, 0, 0, 0), 4, 0, 1, 9, 0, 0, 0) := rfl
theorem bu_98_122 : mm_at mt_P 98 122 = some ((122, 3, .invokevirtual 267, 67, 0, 0, 1495), 4, 0, 1, 9, 0, 0, 0) := rfl
theorem bu_98_125 : mm_at mt_P 98 125 = some ((125, 1, .aload_n 0, 0, 0, 0, 0), 4, 0, 1, 9, 0, 0, 0) := rfl
theorem bu_98_126 : mm_at mt_P 98 126 = some ((126, 3, .getfield 203, 9, 13, 0, 1230), 4, 0, 1, 9, 0, 0, 0) := rfl
theorem bu_98_129 : mm_at mt_P 98 129 = some ((129, 3, .ifCond .le 4, 0, 0, 0, 0), 4, 0, 1, 9, 0, 0, 0) := rfl
theorem bu_98_132 : mm_at mt_P 98 132 = some ((132, 1, .return_, 0, 0, 0, 0), 4, 0, 1, 9, 0, 0, 0) := rfl
theorem bu_98_133 : mm_at mt_P 98 133 = some ((133, 1, .aload_n 0, 0, 0, 0, 0), 4, 0, 1, 9, 0, 0, 0) := rfl
theorem bu_98_134 : mm_at mt_P 98 134 = some ((134, 3, .getfield 40, 9, 21, 0, 1238), 4, 0, 1, 9, 0, 0, 0) := rfl
theorem bu_98_137 : mm_at mt_P 98 137 = some ((137, 1, .aload_n 0, 0, 0, 0, 0), 4, 0, 1, 9, 0, 0, 0) := rfl
theorem bu_98_138 : mm_at mt_P 98 138 = some ((138, 3, .getfield 239, 9, 20, 0, 1237), 4, 0, 1, 9, 0, 0, 0) := rfl
theorem bu_98_141 : mm_at mt_P 98 141 = some ((141, 1, .aload_n 0, 0, 0, 0, 0), 4, 0, 1, 9, 0, 0, 0) := rfl
theorem bu_98_142 : mm_at mt_P 98 142 = some ((142, 3, .getfield 30, 9, 8, 0, 1225), 4, 0, 1, 9, 0, 0, 0) := rfl
theorem bu_98_145 : mm_at mt_P 98 145 = some ((145, 1, .iload_n 2, 0, 0, 0, 0), 4, 0, 1, 9, 0, 0, 0) := rfl
theorem bu_98_146 : mm_at mt_P 98 146 = some ((146, 1, .laload, 0, 0, 0, 0), 4, 0, 1, 9, 0, 0, 0) := rfl
theorem bu_98_147 : mm_at mt_P 98 147 = some ((147, 1, .lastore, 0, 0, 0, 0), 4, 0, 1, 9, 0, 0, 0) := rfl
theorem bu_98_148 : mm_at mt_P 98 148 = some ((148, 1, .aload_n 0, 0, 0, 0, 0), 4, 0, 1, 9, 0, 0, 0) := rfl
theorem bu_98_149 : mm_at mt_P 98 149 = some ((149, 1, .dup, 0, 0, 0, 0), 4, 0, 1, 9, 0, 0, 0) := rfl
theorem bu_98_150 : mm_at mt_P 98 150 = some ((150, 3, .getfield 239, 9, 20, 0, 1237), 4, 0, 1, 9, 0, 0, 0) := rfl
theorem bu_98_153 : mm_at mt_P 98 153 = some ((153, 1, .iconst 1, 0, 0, 0, 0), 4, 0, 1, 9, 0, 0, 0) := rfl
theorem bu_98_154 : mm_at mt_P 98 154 = some ((154, 1, .iadd, 0, 0, 0, 0), 4, 0, 1, 9, 0, 0, 0) := rfl
theorem bu_98_155 : mm_at mt_P 98 155 = some ((155, 3, .putfield 239, 9, 20, 0, 1237), 4, 0, 1, 9, 0, 0, 0) := rfl
theorem bu_98_158 : mm_at mt_P 98 158 = some ((158, 1, .aload_n 0, 0, 0, 0, 0), 4, 0, 1, 9, 0, 0, 0) := rfl
theorem bu_98_159 : mm_at mt_P 98 159 = some ((159, 3, .getfield 43, 9, 22, 0, 1239), 4, 0, 1, 9, 0, 0, 0) := rfl
theorem bu_98_162 : mm_at mt_P 98 162 = some ((162, 1, .aload_n 0, 0, 0, 0, 0), 4, 0, 1, 9, 0, 0, 0) := rfl
theorem bu_98_163 : mm_at mt_P 98 163 = some ((163, 3, .getfield 236, 9, 19, 0, 1236), 4, 0, 1, 9, 0, 0, 0) := rfl
theorem bu_98_166 : mm_at mt_P 98 166 = some ((166, 1, .dup2, 0, 0, 0, 0), 4, 0, 1, 9, 0, 0, 0) := rfl
theorem bu_98_167 : mm_at mt_P 98 167 = some ((167, 1, .iaload, 0, 0, 0, 0), 4, 0, 1, 9, 0, 0, 0) := rfl
theorem bu_98_168 : mm_at mt_P 98 168 = some ((168, 1, .iconst 1, 0, 0, 0, 0), 4, 0, 1, 9, 0, 0, 0) := rfl
theorem bu_98_169 : mm_at mt_P 98 169 = some ((169, 1, .iadd, 0, 0, 0, 0), 4, 0, 1, 9, 0, 0, 0) := rfl
theorem bu_98_170 : mm_at mt_P 98 170 = some ((170, 1, .iastore, 0, 0, 0, 0), 4, 0, 1, 9, 0, 0, 0) := rfl
theorem bu_98_171 : mm_at mt_P 98 171 = some ((171, 1, .return_, 0, 0, 0, 0), 4, 0, 1, 9, 0, 0, 0) := rfl
theorem bu_99_0 : mm_at mt_P 99 0 = some ((0, 1, .aload_n 0, 0, 0, 0, 0), 2, 0, 1, 9, 0, 0, 0) := rfl
theorem bu_99_1 : mm_at mt_P 99 1 = some ((1, 3, .getfield 20, 9, 5, 0, 1222), 2, 0, 1, 9, 0, 0, 0) := rfl
theorem bu_99_4 : mm_at mt_P 99 4 = some ((4, 1, .aload_n 0, 0, 0, 0, 0), 2, 0, 1, 9, 0, 0, 0) := rfl
theorem bu_99_5 : mm_at mt_P 99 5 = some ((5, 3, .getfield 206, 9, 11, 0, 1228), 2, 0, 1, 9, 0, 0, 0) := rfl
theorem bu_99_8 : mm_at mt_P 99 8 = some ((8, 1, .iaload, 0, 0, 0, 0), 2, 0, 1, 9, 0, 0, 0) := rfl
theorem bu_99_9 : mm_at mt_P 99 9 = some ((9, 63, .tableswitch 244 20 31 #[63, 244, 244, 244, 244, 244, 244, 244, 96, 157, 186, 215], 0, 0, 0, 0), 2, 0, 1, 9, 0, 0, 0) := rfl
theorem bu_99_72 : mm_at mt_P 99 72 = some ((72, 1, .aload_n 0, 0, 0, 0, 0), 2, 0, 1, 9, 0, 0, 0) := rfl
theorem bu_99_73 : mm_at mt_P 99 73 = some ((73, 3, .getfield 43, 9, 22, 0, 1239), 2, 0, 1, 9, 0, 0, 0) := rfl
theorem bu_99_76 : mm_at mt_P 99 76 = some ((76, 1, .aload_n 0, 0, 0, 0, 0), 2, 0, 1, 9, 0, 0, 0) := rfl
theorem bu_99_77 : mm_at mt_P 99 77 = some ((77, 3, .getfield 236, 9, 19, 0, 1236), 2, 0, 1, 9, 0, 0, 0) := rfl
theorem bu_99_80 : mm_at mt_P 99 80 = some ((80, 1, .iaload, 0, 0, 0, 0), 2, 0, 1, 9, 0, 0, 0) := rfl
theorem bu_99_81 : mm_at mt_P 99 81 = some ((81, 2, .bipush 6, 0, 0, 0, 0), 2, 0, 1, 9, 0, 0, 0) := rfl
theorem bu_99_83 : mm_at mt_P 99 83 = some ((83, 3, .if_icmp .ne 8, 0, 0, 0, 0), 2, 0, 1, 9, 0, 0, 0) := rfl
theorem bu_99_86 : mm_at mt_P 99 86 = some ((86, 1, .aload_n 0, 0, 0, 0, 0), 2, 0, 1, 9, 0, 0, 0) := rfl
theorem bu_99_87 : mm_at mt_P 99 87 = some ((87, 1, .iconst 2, 0, 0, 0, 0), 2, 0, 1, 9, 0, 0, 0) := rfl
theorem bu_99_88 : mm_at mt_P 99 88 = some ((88, 3, .invokevirtual 218, 27, 0, 0, 1483), 2, 0, 1, 9, 0, 0, 0) := rfl
theorem bu_99_91 : mm_at mt_P 99 91 = some ((91, 1, .aload_n 0, 0, 0, 0, 0), 2, 0, 1, 9, 0, 0, 0) := rfl
theorem bu_99_92 : mm_at mt_P 99 92 = some ((92, 3, .getfield 203, 9, 13, 0, 1230), 2, 0, 1, 9, 0, 0, 0) := rfl
theorem bu_99_95 : mm_at mt_P 99 95 = some ((95, 3, .ifCond .ne 211, 0, 0, 0, 0), 2, 0, 1, 9, 0, 0, 0) := rfl
theorem bu_99_98 : mm_at mt_P 99 98 = some ((98, 1, .aload_n 0, 0, 0, 0, 0), 2, 0, 1, 9, 0, 0, 0) := rfl
theorem bu_99_99 : mm_at mt_P 99 99 = some ((99, 3, .invokevirtual 260, 98, 0, 0, 1487), 2, 0, 1, 9, 0, 0, 0) := rfl
theorem bu_99_102 : mm_at mt_P 99 102 = some ((102, 3, .goto 204, 0, 0, 0, 0), 2, 0, 1, 9, 0, 0, 0) := rfl
theorem bu_99_105 : mm_at mt_P 99 105 = some ((105, 1, .aload_n 0, 0, 0, 0, 0), 2, 0, 1, 9, 0, 0, 0) := rfl
theorem bu_99_106 : mm_at mt_P 99 106 = some ((106, 3, .invokevirtual 224, 37, 0, 0, 1491), 2, 0, 1, 9, 0, 0, 0) := rfl
theorem bu_99_109 : mm_at mt_P 99 109 = some ((109, 1, .aload_n 0, 0, 0, 0, 0), 2, 0, 1, 9, 0, 0, 0) := rfl
theorem bu_99_110 : mm_at mt_P 99 110 = some ((110, 3, .getfield 52, 9, 25, 0, 1242), 2, 0, 1, 9, 0, 0, 0) := rfl
theorem bu_99_113 : mm_at mt_P 99 113 = some ((113, 1, .aload_n 0, 0, 0, 0, 0), 2, 0, 1, 9, 0, 0, 0) := rfl
theorem bu_99_114 : mm_at mt_P 99 114 = some ((114, 3, .getfield 236, 9, 19, 0, 1236), 2, 0, 1, 9, 0, 0, 0) := rfl
theorem bu_99_117 : mm_at mt_P 99 117 = some ((117, 1, .aload_n 0, 0, 0, 0, 0), 2, 0, 1, 9, 0, 0, 0) := rfl
theorem bu_99_118 : mm_at mt_P 99 118 = some ((118, 1, .iconst 1, 0, 0, 0, 0), 2, 0, 1, 9, 0, 0, 0) := rfl
theorem bu_99_119 : mm_at mt_P 99 119 = some ((119, 2, .bipush 99, 0, 0, 0, 0), 2, 0, 1, 9, 0, 0, 0) := rfl
theorem bu_99_121 : mm_at mt_P 99 121 = some ((121, 3, .invokevirtual 263, 10, 0, 0, 1503), 2, 0, 1, 9, 0, 0, 0) := rfl
theorem bu_99_124 : mm_at mt_P 99 124 = some ((124, 1, .iastore, 0, 0, 0, 0), 2, 0, 1, 9, 0, 0, 0) := rfl
theorem bu_99_125 : mm_at mt_P 99 125 = some ((125, 1, .aload_n 0, 0, 0, 0, 0), 2, 0, 1, 9, 0, 0, 0) := rfl
theorem bu_99_126 : mm_at mt_P 99 126 = some ((126, 3, .getfield 55, 9, 26, 0, 1243), 2, 0, 1, 9, 0, 0, 0) := rfl
theorem bu_99_129 : mm_at mt_P 99 129 = some ((129, 1, .aload_n 0, 0, 0, 0, 0), 2, 0, 1, 9, 0, 0, 0) := rfl
theorem bu_99_130 : mm_at mt_P 99 130 = some ((130, 3, .getfield 236, 9, 19, 0, 1236), 2, 0, 1, 9, 0, 0, 0) := rfl
theorem bu_99_133 : mm_at mt_P 99 133 = some ((133, 1, .aload_n 0, 0, 0, 0, 0), 2, 0, 1, 9, 0, 0, 0) := rfl
theorem bu_99_134 : mm_at mt_P 99 134 = some ((134, 1, .iconst 0, 0, 0, 0, 0), 2, 0, 1, 9, 0, 0, 0) := rfl
theorem bu_99_135 : mm_at mt_P 99 135 = some ((135, 3, .sipush 999, 0, 0, 0, 0), 2, 0, 1, 9, 0, 0, 0) := rfl
theorem bu_99_138 : mm_at mt_P 99 138 = some ((138, 3, .invokevirtual 263, 10, 0, 0, 1503), 2, 0, 1, 9, 0, 0, 0) := rfl
theorem bu_99_141 : mm_at mt_P 99 141 = some ((141, 1, .iastore, 0, 0, 0, 0), 2, 0, 1, 9, 0, 0, 0) := rfl
theorem bu_99_142 : mm_at mt_P 99 142 = some ((142, 1, .aload_n 0, 0, 0, 0, 0), 2, 0, 1, 9, 0, 0, 0) := rfl
theorem bu_99_143 : mm_at mt_P 99 143 = some ((143, 3, .getfield 58, 9, 27, 0, 1244), 2, 0, 1, 9, 0, 0, 0) := rfl
theorem bu_99_146 : mm_at mt_P 99 146 = some ((146, 1, .aload_n 0, 0, 0, 0, 0), 2, 0, 1, 9, 0, 0, 0) := rfl
theorem bu_99_147 : mm_at mt_P 99 147 = some ((147, 3, .getfield 236, 9, 19, 0, 1236), 2, 0, 1, 9, 0, 0, 0) := rfl
theorem bu_99_150 : mm_at mt_P 99 150 = some ((150, 1, .aload_n 0, 0, 0, 0, 0), 2, 0, 1, 9, 0, 0, 0) := rfl
theorem bu_99_151 : mm_at mt_P 99 151 = some ((151, 1, .iconst 0, 0, 0, 0, 0), 2, 0, 1, 9, 0, 0, 0) := rfl
theorem bu_99_152 : mm_at mt_P 99 152 = some ((152, 2, .bipush 99, 0, 0, 0, 0), 2, 0, 1, 9, 0, 0, 0) := rfl
theorem bu_99_154 : mm_at mt_P 99 154 = some ((154, 3, .invokevirtual 263, 10, 0, 0, 1503), 2, 0, 1, 9, 0, 0, 0) := rfl
theorem bu_99_157 : mm_at mt_P 99 157 = some ((157, 1, .iastore, 0, 0, 0, 0), 2, 0, 1, 9, 0, 0, 0) := rfl
theorem bu_99_158 : mm_at mt_P 99 158 = some ((158, 1, .aload_n 0, 0, 0, 0, 0), 2, 0, 1, 9, 0, 0, 0) := rfl
theorem bu_99_159 : mm_at mt_P 99 159 = some ((159, 1, .iconst 4, 0, 0, 0, 0), 2, 0, 1, 9, 0, 0, 0) := rfl
theorem bu_99_160 : mm_at mt_P 99 160 = some ((160, 3, .invokevirtual 267, 67, 0, 0, 1495), 2, 0, 1, 9, 0, 0, 0) := rfl
theorem bu_99_163 : mm_at mt_P 99 163 = some ((163, 3, .goto 143, 0, 0, 0, 0), 2, 0, 1, 9, 0, 0, 0) := rfl
theorem bu_99_166 : mm_at mt_P 99 166 = some ((166, 1, .aload_n 0, 0, 0, 0, 0), 2, 0, 1, 9, 0, 0, 0) := rfl
theorem bu_99_167 : mm_at mt_P 99 167 = some ((167, 3, .invokevirtual 224, 37, 0, 0, 1491), 2, 0, 1, 9, 0, 0, 0) := rfl
theorem bu_99_170 : mm_at mt_P 99 170 = some ((170, 1, .aload_n 0, 0, 0, 0, 0), 2, 0, 1, 9, 0, 0, 0) := rfl
theorem bu_99_171 : mm_at mt_P 99 171 = some ((171, 3, .getfield 61, 9, 28, 0, 1245), 2, 0, 1, 9, 0, 0, 0) := rfl
theorem bu_99_174 : mm_at mt_P 99 174 = some ((174, 1, .aload_n 0, 0, 0, 0, 0), 2, 0, 1, 9, 0, 0, 0) := rfl
theorem bu_99_175 : mm_at mt_P 99 175 = some ((175, 3, .getfield 236, 9, 19, 0, 1236), 2, 0, 1, 9, 0, 0, 0) := rfl
theorem bu_99_178 : mm_at mt_P 99 178 = some ((178, 1, .aload_n 0, 0, 0, 0, 0), 2, 0, 1, 9, 0, 0, 0) := rfl
theorem bu_99_179 : mm_at mt_P 99 179 = some ((179, 1, .iconst 1, 0, 0, 0, 0), 2, 0, 1, 9, 0, 0, 0) := rfl
theorem bu_99_180 : mm_at mt_P 99 180 = some ((180, 3, .sipush 999, 0, 0, 0, 0), 2, 0, 1, 9, 0, 0, 0) := rfl
theorem bu_99_183 : mm_at mt_P 99 183 = some ((183, 3, .invokevirtual 263, 10, 0, 0, 1503), 2, 0, 1, 9, 0, 0, 0) := rfl
theorem bu_99_186 : mm_at mt_P 99 186 = some ((186, 1, .iastore, 0, 0, 0, 0), 2, 0, 1, 9, 0, 0, 0) := rfl
theorem bu_99_187 : mm_at mt_P 99 187 = some ((187, 1, .aload_n 0, 0, 0, 0, 0), 2, 0, 1, 9, 0, 0, 0) := rfl
theorem bu_99_188 : mm_at mt_P 99 188 = some ((188, 1, .iconst 4, 0, 0, 0, 0), 2, 0, 1, 9, 0, 0, 0) := rfl
theorem bu_99_189 : mm_at mt_P 99 189 = some ((189, 3, .invokevirtual 267, 67, 0, 0, 1495), 2, 0, 1, 9, 0, 0, 0) := rfl
theorem bu_99_192 : mm_at mt_P 99 192 = some ((192, 3, .goto 114, 0, 0, 0, 0), 2, 0, 1, 9, 0, 0, 0) := rfl
theorem bu_99_195 : mm_at mt_P 99 195 = some ((195, 1, .aload_n 0, 0, 0, 0, 0), 2, 0, 1, 9, 0, 0, 0) := rfl
theorem bu_99_196 : mm_at mt_P 99 196 = some ((196, 3, .invokevirtual 224, 37, 0, 0, 1491), 2, 0, 1, 9, 0, 0, 0) := rfl
theorem bu_99_199 : mm_at mt_P 99 199 = some ((199, 1, .aload_n 0, 0, 0, 0, 0), 2, 0, 1, 9, 0, 0, 0) := rfl
theorem bu_99_200 : mm_at mt_P 99 200 = some ((200, 3, .getfield 64, 9, 29, 0, 1246), 2, 0, 1, 9, 0, 0, 0) := rfl
theorem bu_99_203 : mm_at mt_P 99 203 = some ((203, 1, .aload_n 0, 0, 0, 0, 0), 2, 0, 1, 9, 0, 0, 0) := rfl
theorem bu_99_204 : mm_at mt_P 99 204 = some ((204, 3, .getfield 236, 9, 19, 0, 1236), 2, 0, 1, 9, 0, 0, 0) := rfl
theorem bu_99_207 : mm_at mt_P 99 207 = some ((207, 1, .aload_n 0, 0, 0, 0, 0), 2, 0, 1, 9, 0, 0, 0) := rfl
theorem bu_99_208 : mm_at mt_P 99 208 = some ((208, 1, .iconst 0, 0, 0, 0, 0), 2, 0, 1, 9, 0, 0, 0) := rfl
theorem bu_99_209 : mm_at mt_P 99 209 = some ((209, 3, .sipush 9999, 0, 0, 0, 0), 2, 0, 1, 9, 0, 0, 0) := rfl
theorem bu_99_212 : mm_at mt_P 99 212 = some ((212, 3, .invokevirtual 263, 10, 0, 0, 1503), 2, 0, 1, 9, 0, 0, 0) := rfl
theorem bu_99_215 : mm_at mt_P 99 215 = some ((215, 1, .iastore, 0, 0, 0, 0), 2, 0, 1, 9, 0, 0, 0) := rfl
theorem bu_99_216 : mm_at mt_P 99 216 = some ((216, 1, .aload_n 0, 0, 0, 0, 0), 2, 0, 1, 9, 0, 0, 0) := rfl
theorem bu_99_217 : mm_at mt_P 99 217 = some ((217, 1, .iconst 4, 0, 0, 0, 0), 2, 0, 1, 9, 0, 0, 0) := rfl
theorem bu_99_218 : mm_at mt_P 99 218 = some ((218, 3, .invokevirtual 267, 67, 0, 0, 1495), 2, 0, 1, 9, 0, 0, 0) := rfl
theorem bu_99_221 : mm_at mt_P 99 221 = some ((221, 3, .goto 85, 0, 0, 0, 0), 2, 0, 1, 9, 0, 0, 0) := rfl
theorem bu_99_224 : mm_at mt_P 99 224 = some ((224, 1, .aload_n 0, 0, 0, 0, 0), 2, 0, 1, 9, 0, 0, 0) := rfl
theorem bu_99_225 : mm_at mt_P 99 225 = some ((225, 3, .invokevirtual 224, 37, 0, 0, 1491), 2, 0, 1, 9, 0, 0, 0) := rfl
theorem bu_99_228 : mm_at mt_P 99 228 = some ((228, 1, .aload_n 0, 0, 0, 0, 0), 2, 0, 1, 9, 0, 0, 0) := rfl
theorem bu_99_229 : mm_at mt_P 99 229 = some ((229, 3, .getfield 67, 9, 30, 0, 1247), 2, 0, 1, 9, 0, 0, 0) := rfl
theorem bu_99_232 : mm_at mt_P 99 232 = some ((232, 1, .aload_n 0, 0, 0, 0, 0), 2, 0, 1, 9, 0, 0, 0) := rfl
theorem bu_99_233 : mm_at mt_P 99 233 = some ((233, 3, .getfield 236, 9, 19, 0, 1236), 2, 0, 1, 9, 0, 0, 0) := rfl
theorem bu_99_236 : mm_at mt_P 99 236 = some ((236, 1, .aload_n 0, 0, 0, 0, 0), 2, 0, 1, 9, 0, 0, 0) := rfl
theorem bu_99_237 : mm_at mt_P 99 237 = some ((237, 1, .iconst 0, 0, 0, 0, 0), 2, 0, 1, 9, 0, 0, 0) := rfl
theorem bu_99_238 : mm_at mt_P 99 238 = some ((238, 3, .sipush 9999, 0, 0, 0, 0), 2, 0, 1, 9, 0, 0, 0) := rfl
theorem bu_99_241 : mm_at mt_P 99 241 = some ((241, 3, .invokevirtual 263, 10, 0, 0, 1503), 2, 0, 1, 9, 0, 0, 0) := rfl
theorem bu_99_244 : mm_at mt_P 99 244 = some ((244, 1, .iastore, 0, 0, 0, 0), 2, 0, 1, 9, 0, 0, 0) := rfl
theorem bu_99_245 : mm_at mt_P 99 245 = some ((245, 1, .aload_n 0, 0, 0, 0, 0), 2, 0, 1, 9, 0, 0, 0) := rfl
theorem bu_99_246 : mm_at mt_P 99 246 = some ((246, 1, .iconst 4, 0, 0, 0, 0), 2, 0, 1, 9, 0, 0, 0) := rfl
theorem bu_99_247 : mm_at mt_P 99 247 = some ((247, 3, .invokevirtual 267, 67, 0, 0, 1495), 2, 0, 1, 9, 0, 0, 0) := rfl
theorem bu_99_250 : mm_at mt_P 99 250 = some ((250, 3, .goto 56, 0, 0, 0, 0), 2, 0, 1, 9, 0, 0, 0) := rfl
theorem bu_99_253 : mm_at mt_P 99 253 = some ((253, 1, .aload_n 0, 0, 0, 0, 0), 2, 0, 1, 9, 0, 0, 0) := rfl
theorem bu_99_254 : mm_at mt_P 99 254 = some ((254, 3, .getfield 20, 9, 5, 0, 1222), 2, 0, 1, 9, 0, 0, 0) := rfl
theorem bu_99_257 : mm_at mt_P 99 257 = some ((257, 1, .aload_n 0, 0, 0, 0, 0), 2, 0, 1, 9, 0, 0, 0) := rfl
theorem bu_99_258 : mm_at mt_P 99 258 = some ((258, 3, .getfield 206, 9, 11, 0, 1228), 2, 0, 1, 9, 0, 0, 0) := rfl
theorem bu_99_261 : mm_at mt_P 99 261 = some ((261, 1, .iaload, 0, 0, 0, 0), 2, 0, 1, 9, 0, 0, 0) := rfl
theorem bu_99_262 : mm_at mt_P 99 262 = some ((262, 2, .bipush 21, 0, 0, 0, 0), 2, 0, 1, 9, 0, 0, 0) := rfl
theorem bu_99_264 : mm_at mt_P 99 264 = some ((264, 1, .isub, 0, 0, 0, 0), 2, 0, 1, 9, 0, 0, 0) := rfl
theorem bu_99_265 : mm_at mt_P 99 265 = some ((265, 1, .istore_n 1, 0, 0, 0, 0), 2, 0, 1, 9, 0, 0, 0) := rfl
theorem bu_99_266 : mm_at mt_P 99 266 = some ((266, 1, .iload_n 1, 0, 0, 0, 0), 2, 0, 1, 9, 0, 0, 0) := rfl
theorem bu_99_267 : mm_at mt_P 99 267 = some ((267, 3, .ifCond .lt 17, 0, 0, 0, 0), 2, 0, 1, 9, 0, 0, 0) := rfl
theorem bu_99_270 : mm_at mt_P 99 270 = some ((270, 1, .aload_n 0, 0, 0, 0, 0), 2, 0, 1, 9, 0, 0, 0) := rfl
theorem bu_99_271 : mm_at mt_P 99 271 = some ((271, 3, .getfield 20, 9, 5, 0, 1222), 2, 0, 1, 9, 0, 0, 0) := rfl
theorem bu_99_274 : mm_at mt_P 99 274 = some ((274, 1, .aload_n 0, 0, 0, 0, 0), 2, 0, 1, 9, 0, 0, 0) := rfl
theorem bu_99_275 : mm_at mt_P 99 275 = some ((275, 3, .getfield 206, 9, 11, 0, 1228), 2, 0, 1, 9, 0, 0, 0) := rfl
theorem bu_99_278 : mm_at mt_P 99 278 = some ((278, 1, .iaload, 0, 0, 0, 0), 2, 0, 1, 9, 0, 0, 0) := rfl
theorem bu_99_279 : mm_at mt_P 99 279 = some ((279, 2, .bipush 27, 0, 0, 0, 0), 2, 0, 1, 9, 0, 0, 0) := rfl
theorem bu_99_281 : mm_at mt_P 99 281 = some ((281, 3, .if_icmp .le 8, 0, 0, 0, 0), 2, 0, 1, 9, 0, 0, 0) := rfl
theorem bu_99_284 : mm_at mt_P 99 284 = some ((284, 1, .aload_n 0, 0, 0, 0, 0), 2, 0, 1, 9, 0, 0, 0) := rfl
theorem bu_99_285 : mm_at mt_P 99 285 = some ((285, 1, .iconst 1, 0, 0, 0, 0), 2, 0, 1, 9, 0, 0, 0) := rfl
theorem bu_99_286 : mm_at mt_P 99 286 = some ((286, 3, .invokevirtual 218, 27, 0, 0, 1483), 2, 0, 1, 9, 0, 0, 0) := rfl
theorem bu_99_289 : mm_at mt_P 99 289 = some ((289, 1, .aload_n 0, 0, 0, 0, 0), 2, 0, 1, 9, 0, 0, 0) := rfl
theorem bu_99_290 : mm_at mt_P 99 290 = some ((290, 3, .getfield 203, 9, 13, 0, 1230), 2, 0, 1, 9, 0, 0, 0) := rfl
theorem bu_99_293 : mm_at mt_P 99 293 = some ((293, 3, .ifCond .le 4, 0, 0, 0, 0), 2, 0, 1, 9, 0, 0, 0) := rfl
theorem bu_99_296 : mm_at mt_P 99 296 = some ((296, 1, .return_, 0, 0, 0, 0), 2, 0, 1, 9, 0, 0, 0) := rfl
theorem bu_99_297 : mm_at mt_P 99 297 = some ((297, 1, .aload_n 0, 0, 0, 0, 0), 2, 0, 1, 9, 0, 0, 0) := rfl
theorem bu_99_298 : mm_at mt_P 99 298 = some ((298, 3, .invokevirtual 224, 37, 0, 0, 1491), 2, 0, 1, 9, 0, 0, 0) := rfl
theorem bu_99_301 : mm_at mt_P 99 301 = some ((301, 1, .aload_n 0, 0, 0, 0, 0), 2, 0, 1, 9, 0, 0, 0) := rfl
theorem bu_99_302 : mm_at mt_P 99 302 = some ((302, 1, .iload_n 1, 0, 0, 0, 0), 2, 0, 1, 9, 0, 0, 0) := rfl
theorem bu_99_303 : mm_at mt_P 99 303 = some ((303, 3, .invokevirtual 270, 97, 0, 0, 1507), 2, 0, 1, 9, 0, 0, 0) := rfl
theorem bu_99_306 : mm_at mt_P 99 306 = some ((306, 1, .return_, 0, 0, 0, 0), 2, 0, 1, 9, 0, 0, 0) := rfl
section RQB
variable {K V P : Nat → Int} {Q : Nat → Nat → Bool} {σ : py_S} {M : Nat} {ns : List Nat} {oo e : Nat} {E : mm_E} {PO : mm_C → Prop} {NN : Nat} {h0 h : mm_H} {s : Nat → Int32} {A : Nat → Nat → Int32} {L : Nat → Nat → Int64} {gs : List mm_F}
set_option maxHeartbeats 4000000 in
theorem rr_98n {a t0 : Int32} {τ : Nat} {s0 : Nat → Int32} {A0 : Nat → Nat → Int32} {L0 : Nat → Nat → Int64} (hT : rq_T K V P M A0) (hQ : ∀ i j, i < M → j < M → K i = 1 → K j = 1 → (Q i j = true ↔ L0 94 i = L0 94 j)) (hns : σ.2.2.2.2 = ns) (ht0 : σ.2.1 = 0 → t0.toInt = (τ : Int) ∧ τ < M ∧ K τ = 1 ∧ τ < σ.1) : ∀ NN : Nat, (∀ (h : mm_H) (s : Nat → Int32) (A : Nat → Nat → Int32) (L : Nat → Nat → Int64) (lv : mm_V) (o : Option Value), bm_P rz_T E h0 h s A L → rq_F s0 A0 L0 s A L → rq_R K P M (py_nm Q τ σ) ns 0 0 s A L → mm_get lv 0 = some (.ref (E.1 + 88)) → mm_get lv 1 = some (.int a) → mm_get lv 2 = some (.int t0) → bp_G E PO NN ((98, 77, lv, [], 0, 0) :: gs, h, o)) → ∀ (h : mm_H) (s : Nat → Int32) (A : Nat → Nat → Int32) (L : Nat → Nat → Int64) (lv : mm_V) (o : Option Value) (X : py_S) (i : Int32), bm_P rz_T E h0 h s A L → rq_F s0 A0 L0 s A L → rq_R K P M X ns 0 0 s A L → mm_get lv 0 = some (.ref (E.1 + 88)) → mm_get lv 1 = some (.int a) → mm_get lv 2 = some (.int t0) → mm_get lv 3 = some (.int i) → 0 ≤ i.toInt → (X.2.1 = 0 → i.toInt ≤ (ns.length : Int) ∧ (X.2.2.1 ≠ 0 → (X.2.2.2.1 < τ ∨ (X.2.2.2.1 = τ ∧ X.2.2.1 ≤ 3)))) → rq_nm Q ns τ σ X i.toInt.toNat → bp_G E PO NN ((98, 34, lv, [], 0, 0) :: gs, h, o) := by
  intro NN
  induction NN with
  | zero => intro kk h s A L lv o X i hP hF hR g0 g1 g2 g3 i0 hw0 hn; exact bp_zero bu_98_34
  | succ NN ih =>
    intro kk h s A L lv o X i hP hF hR g0 g1 g2 g3 i0 hw0 hn
    have q1 := hR.1
    have r50 := fun u => (hR.2.1 u).2.2.2.2.1
    refine bp_ld (pc' := 35) bu_98_34 rfl rfl (fun _ _ _ => rfl) g3 rfl ?_
    refine bp_ld (pc' := 36) bu_98_35 rfl rfl (fun _ _ _ => rfl) g0 rfl ?_
    refine bn_gi (pc' := 39) (K := 8820) bu_98_36 rfl rfl (fun _ _ _ => rfl) hP rz_o88 rz_i88_20 rfl rfl ?_
    refine bp_ic (pc' := 42) (pt := 77) bu_98_39 rfl rfl (fun k2283 => ?_) (fun k2283 => ?_)
    · replace k2283 : ((s 8820)).toInt ≤ (i).toInt := k2283
      by_cases q0 : X.2.1 = 0
      · have r5 := (hR.2.1 q0).2.2.2.2.1
        have q5 := hw0 q0
        have ex := rq_nm_end hns (by omega) (by omega) hn
        exact kk _ _ _ _ _ _ hP hF (by rw [← ex]; exact hR) g0 g1 g2
      · have ex := rq_nm_f q0 hn
        exact kk _ _ _ _ _ _ hP hF (by rw [← ex]; exact hR) g0 g1 g2
    · replace k2283 : ¬ (((s 8820)).toInt ≤ (i).toInt) := k2283
      refine bp_ld (pc' := 43) bu_98_42 rfl rfl (fun _ _ _ => rfl) g0 rfl ?_
      refine bn_gi (pc' := 46) (K := 8813) bu_98_43 rfl rfl (fun _ _ _ => rfl) hP rz_o88 rz_i88_13 rfl rfl ?_
      refine bp_i0 (pc' := 49) (pt := 77) bu_98_46 rfl rfl (fun k2284 => ?_) (fun k2284 => ?_)
      · replace k2284 : ((s 8813)).toInt ≠ 0 := k2284
        by_cases q0 : X.2.1 = 0
        · have r5 := (hR.2.1 q0).2.2.2.2.1
          have q5 := hw0 q0
          have ex := rq_nm_end hns (by omega) (by omega) hn
          exact kk _ _ _ _ _ _ hP hF (by rw [← ex]; exact hR) g0 g1 g2
        · have ex := rq_nm_f q0 hn
          exact kk _ _ _ _ _ _ hP hF (by rw [← ex]; exact hR) g0 g1 g2
      · replace k2284 : ¬ (((s 8813)).toInt ≠ 0) := k2284
        have q0 : X.2.1 = 0 := by omega
        have r2 := hR.2.1 q0
        have r5 := r2.2.2.2.2.1
        have r6 := r2.2.2.2.2.2.2.1
        have q5 := hw0 q0
        have q30 := ht0 (by rcases hn with ⟨u, -⟩ | ⟨u, -⟩; rw [← u]; exact q0; rw [u, py_wr_t.2.1] at q0; exact q0)
        have q3 : t0.toInt.toNat = τ ∧ τ < M ∧ K τ = 1 := ⟨by omega, q30.2.1, q30.2.2.1⟩
        have q4 : τ < X.1 := by rcases hn with ⟨u, -⟩ | ⟨u, -⟩; rw [u]; exact q30.2.2.2; rw [u, py_wr_t.1]; exact q30.2.2.2
        have ub : ns.length ≤ 6 := r2.2.2.2.2.2.1
        refine bp_ld (pc' := 50) bu_98_49 rfl rfl (fun _ _ _ => rfl) g0 rfl ?_
        refine bn_gr (pc' := 53) (t := 96) bu_98_50 rfl rfl (fun _ _ _ => rfl) hP rz_o88 rz_r88_21 ?_
        refine bp_ld (pc' := 54) bu_98_53 rfl rfl (fun _ _ _ => rfl) g3 rfl ?_
        refine bn_laF (pc' := 55) bu_98_54 rfl rfl (fun _ _ _ => rfl) hP rz_l96 (fun b2285 b2286 => ?_)
        refine bp_ld (pc' := 56) bu_98_55 rfl rfl (fun _ _ _ => rfl) g0 rfl ?_
        refine bn_gr (pc' := 59) (t := 94) bu_98_56 rfl rfl (fun _ _ _ => rfl) hP rz_o88 rz_r88_8 ?_
        refine bp_ld (pc' := 60) bu_98_59 rfl rfl (fun _ _ _ => rfl) g2 rfl ?_
        refine bn_laF (pc' := 61) bu_98_60 rfl rfl (fun _ _ _ => rfl) hP rz_l94 (fun b2287 b2288 => ?_)
        refine bn_lcmp (pc' := 62) bu_98_61 rfl (fun v2289 e2290 => ?_)
        refine bp_i0 (pc' := 65) (pt := 71) bu_98_62 rfl rfl (fun k2291 => ?_) (fun k2291 => ?_)
        · replace k2291 : (v2289).toInt ≠ 0 := k2291
          refine bp_inc (pc' := 74) bu_98_71 rfl (by decide) g3 (by decide) (by omega) (by omega) (fun lv2292 y2295 F2293 g2294 e2296 => ?_)
          have g2297 := F2293 0 (.ref (E.1 + 88)) g0 (by decide) (Or.inl rfl)
          have g2298 := F2293 1 (.int a) g1 (by decide) (Or.inl rfl)
          have g2299 := F2293 2 (.int t0) g2 (by decide) (Or.inl rfl)
          refine bp_goD (pc' := 34) bu_98_74 rfl ?_
          have b6 := r6 i.toInt.toNat (by omega)
          have ec := hQ (ns.getD i.toInt.toNat 0) τ b6.2.1 q3.2.1 b6.2.2 q3.2.2
          rw [← hF.2.2.1, ← b6.1] at ec
          have e9 := congrArg Int64.toInt (show L 94 t0.toInt.toNat = L 94 τ by rw [q3.1])
          have ei : (y2295).toInt.toNat = i.toInt.toNat + 1 := by omega
          have hq : Q (ns.getD i.toInt.toNat 0) τ = false := Bool.eq_false_iff.mpr (fun u => by
            have u2 := congrArg Int64.toInt (ec.mp u)
            omega)
          refine ih (fun h s A L lv o p1 p2 p3 p4 p5 p6 => bp_mono (Nat.le_succ NN) (kk h s A L lv o p1 p2 p3 p4 p5 p6)) _ _ _ _ _ _ _ _ hP hF hR g2297 g2298 g2299 g2294 (by omega) (fun _ => ⟨by omega, q5.2⟩) ?_
          rw [ei]
          rcases hn with ⟨rfl, hn⟩ | ⟨rfl, j, hj, hn⟩
          · refine Or.inl ⟨rfl, fun j hj => ?_⟩
            by_cases e : j = i.toInt.toNat
            · rw [e]
              exact hq
            · exact hn j (by omega)
          · exact Or.inr ⟨rfl, j, by omega, hn⟩
        · replace k2291 : ¬ ((v2289).toInt ≠ 0) := k2291
          refine bp_ld (pc' := 66) bu_98_65 rfl rfl (fun _ _ _ => rfl) g0 rfl ?_
          refine bp_c (pc' := 67) (n := 3) bu_98_66 rfl rfl (fun _ _ _ => rfl) (by decide) (fun c2300 e2301 => ?_)
          refine bp_ld (pc' := 68) bu_98_67 rfl rfl (fun _ _ _ => rfl) g2 rfl ?_
          refine bn_cvF (pc' := 71) (st := []) (args := [.int t0, .int c2300]) bu_98_68 rfl rfl rfl (by decide) hP rz_o88 (by decide) rfl (Nat.le_of_ble_eq_true rfl) (Nat.le_of_ble_eq_true rfl) ?_
          refine rr_112 (k := c2300) (t := t0) hP (fun h2302 s2303 hP2304 f2305 p2306 => ?_)
          have R2307 : rq_R K P M (py_wr 3 τ X) ns 0 0 s2303 A L := rq_wr2 hR (rq_T_F hT hF) q0 (by decide) q4 (q5.2) rfl f2305 (by rw [q3.1]; exact ((rq_T_F hT hF).2.2.1 τ q3.2.1).2.1) (by omega) p2306
          have F2308 : rq_F s A L s2303 A L := ⟨⟨f2305 8802 (by decide) (by decide), f2305 8804 (by decide) (by decide), f2305 8810 (by decide) (by decide), f2305 8818 (by decide) (by decide), f2305 8819 (by decide) (by decide)⟩, ⟨rfl, rfl, rfl, rfl, rfl⟩, rfl, rfl, f2305 8865 (by decide) (by decide), rfl, fun _ _ _ => rfl⟩
          have F2309 := rq_F_t hF F2308
          show bp_G E PO (NN + 1) ((98, 71, lv, [], 0, 0) :: gs, h2302, none)
          refine bp_inc (pc' := 74) bu_98_71 rfl (by decide) g3 (by decide) (by omega) (by omega) (fun lv2310 y2313 F2311 g2312 e2314 => ?_)
          have g2315 := F2311 0 (.ref (E.1 + 88)) g0 (by decide) (Or.inl rfl)
          have g2316 := F2311 1 (.int a) g1 (by decide) (Or.inl rfl)
          have g2317 := F2311 2 (.int t0) g2 (by decide) (Or.inl rfl)
          refine bp_goD (pc' := 34) bu_98_74 rfl ?_
          have b6 := r6 i.toInt.toNat (by omega)
          have ec := hQ (ns.getD i.toInt.toNat 0) τ b6.2.1 q3.2.1 b6.2.2 q3.2.2
          rw [← hF.2.2.1, ← b6.1] at ec
          have e9 := congrArg Int64.toInt (show L 94 t0.toInt.toNat = L 94 τ by rw [q3.1])
          have ei : (y2313).toInt.toNat = i.toInt.toNat + 1 := by omega
          have hq : Q (ns.getD i.toInt.toNat 0) τ = true := ec.mpr (Int64.toInt_inj.mp (by omega))
          have hw := py_wr_t (σ := X) (k := 3) (t := τ)
          refine ih (fun h s A L lv o p1 p2 p3 p4 p5 p6 => bp_mono (Nat.le_succ NN) (kk h s A L lv o p1 p2 p3 p4 p5 p6)) _ _ _ _ _ _ _ _ hP2304 F2309 R2307 g2315 g2316 g2317 g2312 (by omega) (fun _ => ⟨by omega, ?_⟩) ?_
          · by_cases z : X.2.2.1 = 0
            · have e1 : py_wr 3 τ X = (X.1, X.2.1, 3, τ, X.2.2.2.2) := if_pos ⟨q0, z⟩
              rw [e1]
              exact fun _ => Or.inr ⟨rfl, Nat.le_refl _⟩
            · have e1 : py_wr 3 τ X = X := if_neg (fun u => z u.2)
              rw [e1]
              exact q5.2
          · rw [ei]
            rcases hn with ⟨rfl, hn⟩ | ⟨rfl, hn⟩
            · exact Or.inr ⟨rfl, _, Nat.lt_succ_self _, hq⟩
            · exact Or.inr ⟨py_wr_i (by decide), _, Nat.lt_succ_self _, hq⟩
set_option maxHeartbeats 1000000 in
theorem rr_98b {y : Int32} {p : Nat} {a t0 : Int32} {d n : Nat} {X : py_S} {lv : mm_V} {oo9 : Option Value} {s0 : Nat → Int32} {A0 : Nat → Nat → Int32} {L0 : Nat → Nat → Int64} (hT0 : rq_T K V P M A0) (hP : bm_P rz_T E h0 h s A L) (hG : rq_G s0 A0 L0 s A L) (hR : rq_R K P M X ns 0 0 s A L) (g0 : mm_get lv 0 = some (.ref (E.1 + 88))) (g1 : mm_get lv 1 = some (.int a)) (g2 : mm_get lv 2 = some (.int t0)) (g3 : mm_get lv 3 = some (.int y)) (hd : (s0 8819).toInt = (d : Int)) (hd1 : d ≤ 1) (hn : n < 6) (ha : a.toInt = 6 * (d : Int) + (n : Int)) (hy : y.toInt = (p : Int)) (hp : p < 4) (kk : ∀ (h' : mm_H) (s' : Nat → Int32) (A' : Nat → Nat → Int32) (L' : Nat → Nat → Int64) (lv' : mm_V) (o' : Option Value) (y' r : Int32) (i : Nat), bm_P rz_T E h0 h' s' A' L' → rq_G s0 A0 L0 s' A' L' → rq_R K P M (py_nu K V 0 9 X) ns 0 0 s' A' L' → mm_get lv' 0 = some (.ref (E.1 + 88)) → mm_get lv' 1 = some (.int a) → mm_get lv' 2 = some (.int t0) → mm_get lv' 3 = some (.int y') → y'.toInt = (p : Int) + 1 → (∀ c, 97 ≤ c → c ≤ 105 → c ≠ 98 → A' c = A c) → i = 4 * (6 * d + n) + p → A' 98 = upd (A 98) i (mm_nar 0 r) → (X.2.1 = 0 → K X.1 = 2 → r.toInt = V X.1) → bp_G E PO NN ((98, 79, lv', [], 0, 0) :: gs, h', o')) : bp_G E PO NN ((98, 79, lv, [], 0, 0) :: gs, h, oo9) := by
  have hT := rq_T_G hT0 hG
  have q1 := hR.1
  have d18 := congrArg Int32.toInt hG.1.2.2.2.2
  refine bp_ld (pc' := 80) bu_98_79 rfl rfl (fun _ _ _ => rfl) g3 rfl ?_
  refine bp_c (pc' := 81) (n := 4) bu_98_80 rfl rfl (fun _ _ _ => rfl) (by decide) (fun c2318 e2319 => ?_)
  refine bp_ic (pc' := 84) (pt := 107) bu_98_81 rfl rfl (fun k2320 => ?_) (fun k2320 => ?_)
  · replace k2320 : (c2318).toInt ≤ (y).toInt := k2320
    exfalso
    omega
  · replace k2320 : ¬ ((c2318).toInt ≤ (y).toInt) := k2320
    refine bp_ld (pc' := 85) bu_98_84 rfl rfl (fun _ _ _ => rfl) g0 rfl ?_
    refine bn_gr (pc' := 88) (t := 98) bu_98_85 rfl rfl (fun _ _ _ => rfl) hP rz_o88 rz_r88_23 ?_
    refine bp_c (pc' := 89) (n := 4) bu_98_88 rfl rfl (fun _ _ _ => rfl) (by decide) (fun c2321 e2322 => ?_)
    refine bp_ld (pc' := 90) bu_98_89 rfl rfl (fun _ _ _ => rfl) g1 rfl ?_
    refine bp_mul (pc' := 91) bu_98_90 rfl (by rw [e2322]; omega) (by rw [e2322]; omega) (fun v2323 e2324 => ?_)
    rw [e2322] at e2324
    refine bp_ld (pc' := 92) bu_98_91 rfl rfl (fun _ _ _ => rfl) g3 rfl ?_
    refine bp_add (pc' := 93) bu_98_92 rfl (by omega) (by omega) (fun v2325 e2326 => ?_)
    refine bp_ld (pc' := 94) bu_98_93 rfl rfl (fun _ _ _ => rfl) g0 rfl ?_
    refine bp_c (pc' := 95) (n := 0) bu_98_94 rfl rfl (fun _ _ _ => rfl) (by decide) (fun c2327 e2328 => ?_)
    refine bp_c (pc' := 97) (n := 9) bu_98_95 rfl rfl (fun _ _ _ => rfl) (by decide) (fun c2329 e2330 => ?_)
    refine bn_cvF (pc' := 100) (st := [.int v2325, .ref (E.1 + 98)]) (args := [.int c2329, .int c2327]) bu_98_97 rfl rfl rfl (by decide) hP rz_o88 (by decide) rfl (Nat.le_of_ble_eq_true rfl) (Nat.le_of_ble_eq_true rfl) ?_
    refine rr_10 hP hR hT (fun h2331 s2332 A2333 L2334 r2338 hP2335 F2336 R2337 v2339 => ?_)
    rw [show (c2327 : Int32).toInt = 0 from e2328, show (c2329 : Int32).toInt = 9 from e2330] at R2337
    have u2340 := R2337.1
    have d19 : (s2332 8819).toInt = (s 8819).toInt := congrArg Int32.toInt (F2336.1.2.2.2.2)
    show bp_G E PO NN ((98, 100, lv, [.int r2338, .int v2325, .ref (E.1 + 98)], 0, 0) :: gs, h2331, none)
    refine bn_iasF (pc' := 101) bu_98_100 rfl rfl (fun _ _ _ => rfl) hP2335 rz_a98 (Or.inl rfl) (fun b2343 b2344 h2341 hP2342 => ?_)
    refine bp_inc (pc' := 104) bu_98_101 rfl (by decide) g3 (by decide) (by omega) (by omega) (fun lv2345 y2348 F2346 g2347 e2349 => ?_)
    have g2350 := F2346 0 (.ref (E.1 + 88)) g0 (by decide) (Or.inl rfl)
    have g2351 := F2346 1 (.int a) g1 (by decide) (Or.inl rfl)
    have g2352 := F2346 2 (.int t0) g2 (by decide) (Or.inl rfl)
    refine bp_go (pc' := 79) bu_98_104 rfl ?_
    have R2353 : rq_R K P M (py_nu K V 0 9 X) ns 0 0 s2332 (bh_up A2333 98 (v2325).toInt.toNat (mm_nar 0 r2338)) L2334 := rq_R_s R2337 rfl rfl rfl rfl rfl rfl rfl rfl (bh_up_ne (by decide))
    have G2354 : rq_G s2332 A2333 L2334 s2332 (bh_up A2333 98 (v2325).toInt.toNat (mm_nar 0 r2338)) L2334 := ⟨⟨rfl, rfl, rfl, rfl, rfl⟩, ⟨bh_up_ne (by decide), bh_up_ne (by decide), bh_up_ne (by decide), bh_up_ne (by decide), bh_up_ne (by decide)⟩, rfl, rfl, rfl, bh_up_ne (by decide), rq_D_up rq_D_r (Or.inl ⟨rfl, by omega, by omega⟩)⟩
    have w2355 : ∀ c, 97 ≤ c → c ≤ 105 → c ≠ 98 → (bh_up A2333 98 (v2325).toInt.toNat (mm_nar 0 r2338)) c = A c := fun c c1 c2 c3 => (bh_up_ne c3).trans (F2336.2.2.2.2.2.2 c c1 c2)
    have w2356 : (bh_up A2333 98 (v2325).toInt.toNat (mm_nar 0 r2338)) 98 = upd (A 98) (v2325).toInt.toNat (mm_nar 0 r2338) := bh_up_eq.trans (congrArg (fun f => upd f (v2325).toInt.toNat (mm_nar 0 r2338)) (F2336.2.2.2.2.2.2 98 (by decide) (by decide)))
    have G2357 := rq_G_t hG (rq_G_t (rq_G_of F2336) G2354)
    exact kk _ _ _ _ _ _ _ _ _ hP2342 G2357 R2353 g2350 g2351 g2352 g2347 (by omega) w2355 (by omega) w2356 v2339
set_option maxHeartbeats 1000000 in
theorem rr_98c {y : Int32} {a t0 : Int32} {d n : Nat} {X : py_S} {lv : mm_V} {oo9 : Option Value} {s0 : Nat → Int32} {A0 : Nat → Nat → Int32} {L0 : Nat → Nat → Int64} (hT0 : rq_T K V P M A0) (hP : bm_P rz_T E h0 h s A L) (hG : rq_G s0 A0 L0 s A L) (hR : rq_R K P M X ns 0 0 s A L) (g0 : mm_get lv 0 = some (.ref (E.1 + 88))) (g1 : mm_get lv 1 = some (.int a)) (g2 : mm_get lv 2 = some (.int t0)) (g3 : mm_get lv 3 = some (.int y)) (hd : (s0 8819).toInt = (d : Int)) (hd1 : d ≤ 1) (hn : n < 6) (ha : a.toInt = 6 * (d : Int) + (n : Int)) (hy : y.toInt = 4) (ks : ∀ (h' : mm_H) (s' : Nat → Int32) (A' : Nat → Nat → Int32) (L' : Nat → Nat → Int64) (lv' : mm_V) (o' : Option Value) (r : Int32) (i : Nat), bm_P rz_T E h0 h' s' A' L' → rq_G s0 A0 L0 s' A' L' → rq_R K P M (py_mu K 4 (py_nu K V 0 9 X)) ns 0 0 s' A' L' → mm_get lv' 0 = some (.ref (E.1 + 88)) → mm_get lv' 1 = some (.int a) → mm_get lv' 2 = some (.int t0) → (py_mu K 4 (py_nu K V 0 9 X)).2.1 = 0 → (∀ c, 97 ≤ c → c ≤ 105 → c ≠ 99 → A' c = A c) → i = 6 * d + n → A' 99 = upd (A 99) i (mm_nar 0 r) → (X.2.1 = 0 → K X.1 = 2 → r.toInt = V X.1) → bp_G E PO NN ((98, 133, lv', [], 0, 0) :: gs, h', o')) (kf : ∀ (h' : mm_H) (s' : Nat → Int32) (A' : Nat → Nat → Int32) (L' : Nat → Nat → Int64) (r : Int32) (i : Nat), bm_P rz_T E h0 h' s' A' L' → rq_G s0 A0 L0 s' A' L' → rq_R K P M (py_mu K 4 (py_nu K V 0 9 X)) ns 0 0 s' A' L' → (py_mu K 4 (py_nu K V 0 9 X)).2.1 ≠ 0 → (∀ c, 97 ≤ c → c ≤ 105 → c ≠ 99 → A' c = A c) → i = 6 * d + n → A' 99 = upd (A 99) i (mm_nar 0 r) → (X.2.1 = 0 → K X.1 = 2 → r.toInt = V X.1) → bp_G E PO NN (mm_back none gs h')) : bp_G E PO NN ((98, 79, lv, [], 0, 0) :: gs, h, oo9) := by
  have hT := rq_T_G hT0 hG
  have q1 := hR.1
  have d18 := congrArg Int32.toInt hG.1.2.2.2.2
  refine bp_ld (pc' := 80) bu_98_79 rfl rfl (fun _ _ _ => rfl) g3 rfl ?_
  refine bp_c (pc' := 81) (n := 4) bu_98_80 rfl rfl (fun _ _ _ => rfl) (by decide) (fun c2358 e2359 => ?_)
  refine bp_ic (pc' := 84) (pt := 107) bu_98_81 rfl rfl (fun k2360 => ?_) (fun k2360 => ?_)
  · replace k2360 : (c2358).toInt ≤ (y).toInt := k2360
    refine bp_ld (pc' := 108) bu_98_107 rfl rfl (fun _ _ _ => rfl) g0 rfl ?_
    refine bn_gr (pc' := 111) (t := 99) bu_98_108 rfl rfl (fun _ _ _ => rfl) hP rz_o88 rz_r88_24 ?_
    refine bp_ld (pc' := 112) bu_98_111 rfl rfl (fun _ _ _ => rfl) g1 rfl ?_
    refine bp_ld (pc' := 113) bu_98_112 rfl rfl (fun _ _ _ => rfl) g0 rfl ?_
    refine bp_c (pc' := 114) (n := 0) bu_98_113 rfl rfl (fun _ _ _ => rfl) (by decide) (fun c2361 e2362 => ?_)
    refine bp_c (pc' := 116) (n := 9) bu_98_114 rfl rfl (fun _ _ _ => rfl) (by decide) (fun c2363 e2364 => ?_)
    refine bn_cvF (pc' := 119) (st := [.int a, .ref (E.1 + 99)]) (args := [.int c2363, .int c2361]) bu_98_116 rfl rfl rfl (by decide) hP rz_o88 (by decide) rfl (Nat.le_of_ble_eq_true rfl) (Nat.le_of_ble_eq_true rfl) ?_
    refine rr_10 hP hR hT (fun h2365 s2366 A2367 L2368 r2372 hP2369 F2370 R2371 v2373 => ?_)
    rw [show (c2361 : Int32).toInt = 0 from e2362, show (c2363 : Int32).toInt = 9 from e2364] at R2371
    have u2374 := R2371.1
    have d19 : (s2366 8819).toInt = (s 8819).toInt := congrArg Int32.toInt (F2370.1.2.2.2.2)
    show bp_G E PO NN ((98, 119, lv, [.int r2372, .int a, .ref (E.1 + 99)], 0, 0) :: gs, h2365, none)
    refine bn_iasF (pc' := 120) bu_98_119 rfl rfl (fun _ _ _ => rfl) hP2369 rz_a99 (Or.inl rfl) (fun b2377 b2378 h2375 hP2376 => ?_)
    refine bp_ld (pc' := 121) bu_98_120 rfl rfl (fun _ _ _ => rfl) g0 rfl ?_
    refine bp_c (pc' := 122) (n := 4) bu_98_121 rfl rfl (fun _ _ _ => rfl) (by decide) (fun c2379 e2380 => ?_)
    refine bn_cvF (pc' := 125) (st := []) (args := [.int c2379]) bu_98_122 rfl rfl rfl (by decide) hP2376 rz_o88 (by decide) rfl (Nat.le_of_ble_eq_true rfl) (Nat.le_of_ble_eq_true rfl) ?_
    have R2381 : rq_R K P M (py_nu K V 0 9 X) ns 0 0 s2366 (bh_up A2367 99 (a).toInt.toNat (mm_nar 0 r2372)) L2368 := rq_R_s R2371 rfl rfl rfl rfl rfl rfl rfl rfl (bh_up_ne (by decide))
    have G2382 : rq_G s2366 A2367 L2368 s2366 (bh_up A2367 99 (a).toInt.toNat (mm_nar 0 r2372)) L2368 := ⟨⟨rfl, rfl, rfl, rfl, rfl⟩, ⟨bh_up_ne (by decide), bh_up_ne (by decide), bh_up_ne (by decide), bh_up_ne (by decide), bh_up_ne (by decide)⟩, rfl, rfl, rfl, bh_up_ne (by decide), rq_D_up rq_D_r (Or.inr (Or.inl ⟨rfl, by omega, by omega⟩))⟩
    have w2383 : ∀ c, 97 ≤ c → c ≤ 105 → c ≠ 99 → (bh_up A2367 99 (a).toInt.toNat (mm_nar 0 r2372)) c = A c := fun c c1 c2 c3 => (bh_up_ne c3).trans (F2370.2.2.2.2.2.2 c c1 c2)
    have w2384 : (bh_up A2367 99 (a).toInt.toNat (mm_nar 0 r2372)) 99 = upd (A 99) (a).toInt.toNat (mm_nar 0 r2372) := bh_up_eq.trans (congrArg (fun f => upd f (a).toInt.toNat (mm_nar 0 r2372)) (F2370.2.2.2.2.2.2 99 (by decide) (by decide)))
    have G2385 := rq_G_t hG (rq_G_t (rq_G_of F2370) G2382)
    refine rr_67 (kc := 4) hP2376 (by omega) (by decide) (by decide) R2381 (rq_T_G hT0 G2385) (fun h2386 s2387 A2388 L2389 hP2390 F2391 R2392 => ?_)
    have G2395 := rq_G_t G2385 (rq_G_of F2391)
    have w2393 : ∀ c, 97 ≤ c → c ≤ 105 → c ≠ 99 → A2388 c = A c := fun c c1 c2 c3 => (F2391.2.2.2.2.2.2 c c1 c2).trans (w2383 c c1 c2 c3)
    have w2394 := (F2391.2.2.2.2.2.2 99 (by decide) (by decide)).trans w2384
    have u2396 := R2392.1
    show bp_G E PO NN ((98, 125, lv, [], 0, 0) :: gs, h2386, none)
    refine bp_ld (pc' := 126) bu_98_125 rfl rfl (fun _ _ _ => rfl) g0 rfl ?_
    refine bn_gi (pc' := 129) (K := 8813) bu_98_126 rfl rfl (fun _ _ _ => rfl) hP2390 rz_o88 rz_i88_13 rfl rfl ?_
    refine bp_i0 (pc' := 132) (pt := 133) bu_98_129 rfl rfl (fun k2397 => ?_) (fun k2397 => ?_)
    · replace k2397 : ((s2387 8813)).toInt ≤ 0 := k2397
      exact ks _ _ _ _ _ _ _ _ hP2390 G2395 R2392 g0 g1 g2 (by omega) w2393 (by omega) w2394 v2373
    · replace k2397 : ¬ (((s2387 8813)).toInt ≤ 0) := k2397
      refine bp_rv bu_98_132 ?_
      exact kf _ _ _ _ _ _ hP2390 G2395 R2392 (by omega) w2393 (by omega) w2394 v2373
  · replace k2360 : ¬ ((c2358).toInt ≤ (y).toInt) := k2360
    exfalso
    omega
set_option maxHeartbeats 1000000 in
theorem rr_98d {τ : Nat} {a t0 : Int32} {X : py_S} {lv : mm_V} {oo9 : Option Value} {s0 : Nat → Int32} {A0 : Nat → Nat → Int32} {L0 : Nat → Nat → Int64} (hT0 : rq_T K V P M A0) (hP : bm_P rz_T E h0 h s A L) (hG : rq_G s0 A0 L0 s A L) (hR : rq_R K P M X ns 0 0 s A L) (g0 : mm_get lv 0 = some (.ref (E.1 + 88))) (g1 : mm_get lv 1 = some (.int a)) (g2 : mm_get lv 2 = some (.int t0)) (hd0 : 0 ≤ (s0 8819).toInt) (hq : X.2.1 = 0) (hl : ns.length < 6) (hK : K τ = 1) (hτ : τ < M) (ht : t0.toInt = (τ : Int)) (kk : ∀ (h' : mm_H) (s' : Nat → Int32) (A' : Nat → Nat → Int32) (L' : Nat → Nat → Int64), bm_P rz_T E h0 h' s' A' L' → rq_G s0 A0 L0 s' A' L' → rq_R K P M (py_ad τ X) (ns ++ [τ]) 0 0 s' A' L' → (∀ c, 97 ≤ c → c ≤ 105 → c ≠ 97 → A' c = A c) → bp_G E PO NN (mm_back none gs h')) : bp_G E PO NN ((98, 133, lv, [], 0, 0) :: gs, h, oo9) := by
  have hT := rq_T_G hT0 hG
  have q1 := hR.1
  have d18 := congrArg Int32.toInt hG.1.2.2.2.2
  have r2 := hR.2.1 hq
  have r5 := r2.2.2.2.2.1
  have r9 := r2.2.2.2.2.2.2.2.1
  refine bp_ld (pc' := 134) bu_98_133 rfl rfl (fun _ _ _ => rfl) g0 rfl ?_
  refine bn_gr (pc' := 137) (t := 96) bu_98_134 rfl rfl (fun _ _ _ => rfl) hP rz_o88 rz_r88_21 ?_
  refine bp_ld (pc' := 138) bu_98_137 rfl rfl (fun _ _ _ => rfl) g0 rfl ?_
  refine bn_gi (pc' := 141) (K := 8820) bu_98_138 rfl rfl (fun _ _ _ => rfl) hP rz_o88 rz_i88_20 rfl rfl ?_
  refine bp_ld (pc' := 142) bu_98_141 rfl rfl (fun _ _ _ => rfl) g0 rfl ?_
  refine bn_gr (pc' := 145) (t := 94) bu_98_142 rfl rfl (fun _ _ _ => rfl) hP rz_o88 rz_r88_8 ?_
  refine bp_ld (pc' := 146) bu_98_145 rfl rfl (fun _ _ _ => rfl) g2 rfl ?_
  refine bn_laF (pc' := 147) bu_98_146 rfl rfl (fun _ _ _ => rfl) hP rz_l94 (fun b2398 b2399 => ?_)
  refine bn_lasF (pc' := 148) bu_98_147 rfl rfl (fun _ _ _ => rfl) hP rz_l96 (fun b2402 b2403 h2400 hP2401 => ?_)
  refine bp_ld (pc' := 149) bu_98_148 rfl rfl (fun _ _ _ => rfl) g0 rfl ?_
  refine bp_dup (pc' := 150) bu_98_149 rfl rfl ?_
  refine bn_gi (pc' := 153) (K := 8820) bu_98_150 rfl rfl (fun _ _ _ => rfl) hP2401 rz_o88 rz_i88_20 rfl rfl ?_
  refine bp_c (pc' := 154) (n := 1) bu_98_153 rfl rfl (fun _ _ _ => rfl) (by decide) (fun c2404 e2405 => ?_)
  refine bp_add (pc' := 155) bu_98_154 rfl (by omega) (by omega) (fun v2406 e2407 => ?_)
  refine bn_pf (pc' := 158) (K := 8820) bu_98_155 rfl rfl (fun _ _ _ => rfl) hP2401 rz_o88 rz_i88_20 rfl rfl (fun h2408 s2409 hP2410 e2411 f2412 => ?_)
  refine bp_ld (pc' := 159) bu_98_158 rfl rfl (fun _ _ _ => rfl) g0 rfl ?_
  refine bn_gr (pc' := 162) (t := 97) bu_98_159 rfl rfl (fun _ _ _ => rfl) hP2410 rz_o88 rz_r88_22 ?_
  refine bp_ld (pc' := 163) bu_98_162 rfl rfl (fun _ _ _ => rfl) g0 rfl ?_
  refine bn_gi (pc' := 166) (K := 8819) bu_98_163 rfl rfl (fun _ _ _ => rfl) hP2410 rz_o88 rz_i88_19 rfl (f2412 8819 (by decide)) ?_
  refine bp_dup2 (pc' := 167) bu_98_166 rfl rfl rfl ?_
  refine bn_iaF (pc' := 168) bu_98_167 rfl rfl (fun _ _ _ => rfl) hP2410 rz_a97 (Or.inl rfl) (fun b2413 b2414 => ?_)
  refine bp_c (pc' := 169) (n := 1) bu_98_168 rfl rfl (fun _ _ _ => rfl) (by decide) (fun c2415 e2416 => ?_)
  refine bp_add (pc' := 170) bu_98_169 rfl (by omega) (by omega) (fun v2417 e2418 => ?_)
  refine bn_iasF (pc' := 171) bu_98_170 rfl rfl (fun _ _ _ => rfl) hP2410 rz_a97 (Or.inl rfl) (fun b2421 b2422 h2419 hP2420 => ?_)
  refine bp_rv bu_98_171 ?_
  have z8820 := congrArg Int32.toInt e2411
  have e1 : (s 8820).toInt.toNat = ns.length := by omega
  have e2 : t0.toInt.toNat = τ := by omega
  have hPe := hP2420
  rw [e1, e2] at hPe
  have hF : rq_G s A L s2409 (bh_up A 97 ((s 8819)).toInt.toNat (mm_nar 0 v2417)) (bh_upL L 96 ns.length (L 94 τ)) := ⟨⟨f2412 8802 (by decide), f2412 8804 (by decide), f2412 8810 (by decide), f2412 8818 (by decide), f2412 8819 (by decide)⟩, ⟨bh_up_ne (by decide), bh_up_ne (by decide), bh_up_ne (by decide), bh_up_ne (by decide), bh_up_ne (by decide)⟩, if_neg (by decide), if_neg (by decide), f2412 8865 (by decide), bh_up_ne (by decide), rq_D_up rq_D_r (Or.inr (Or.inr ⟨by decide, by decide, rfl⟩))⟩
  refine kk _ _ _ _ hPe (rq_G_t hG hF) ?_ (fun c c1 c2 c3 => bh_up_ne c3)
  refine rq_adn hR hq hl hK hτ (by omega) f2412 ?_
  rw [f2412 8819 (by decide), bh_up_i]
  show (v2417).toInt = _
  omega
theorem rr_98 (hP : bm_P rz_T E h0 h s A L) (hR : rq_R K P M σ ns 0 0 s A L) (hT : rq_T K V P M A) (hQ : ∀ i j, i < M → j < M → K i = 1 → K j = 1 → (Q i j = true ↔ L 94 i = L 94 j)) (hq0 : σ.2.1 = 0) (hk : K σ.1 = 20) (hl : ns.length < 6) (hns : σ.2.2.2.2 = ns) (hd : 0 ≤ (s 8819).toInt ∧ (s 8819).toInt ≤ 1) (kk : ∀ (h' : mm_H) (s' : Nat → Int32) (A' : Nat → Nat → Int32) (L' : Nat → Nat → Int64), bm_P rz_T E h0 h' s' A' L' → rq_G s A L s' A' L' → rq_R K P M (py_man K V Q σ) (py_man K V Q σ).2.2.2.2 0 0 s' A' L' → rq_M V ((py_man K V Q σ).2.1 = 0) (py_go σ).1 ns.length (s 8819).toInt.toNat A A' → bp_G E PO NN (mm_back (none) gs h')) : bp_G E PO NN ((98, 0, [(0, .ref (E.1 + 88))], [], 0, 0) :: gs, h, none) := by
  have q1 := hR.1
  have r9e := (hR.2.1 hq0).2.2.2.2.2.2.2.1
  have hm := py_man_eq (K := K) (V := V) (Q := Q) (σ := σ) (by rw [hns]; omega)
  have eZ : py_mu K 4 (py_five K V (py_nm Q (py_go σ).1 (py_mu K 1 (py_go σ)))) = (py_mu K 4 (py_nu K V 0 9 (py_nu K V 0 9 (py_nu K V 0 9 (py_nu K V 0 9 (py_nu K V 0 9 (py_nm Q (py_go σ).1 (py_mu K 1 (py_go σ))))))))) := rfl
  rw [eZ] at hm
  refine bp_ld (pc' := 1) bu_98_0 rfl rfl (fun _ _ _ => rfl) rfl rfl ?_
  refine bn_cvF (pc' := 4) (st := []) (args := []) bu_98_1 rfl rfl rfl (by decide) hP rz_o88 (by decide) rfl (Nat.le_of_ble_eq_true rfl) (Nat.le_of_ble_eq_true rfl) ?_
  refine rr_37 hP (by decide) hR hT (fun _ => by omega) (fun h2423 s2424 A2425 L2426 hP2427 F2428 R2429 => ?_)
  show bp_G E PO NN ((98, 4, _, [], 0, 0) :: gs, h2423, none)
  refine bp_c (pc' := 6) (n := 6) bu_98_4 rfl rfl (fun _ _ _ => rfl) (by decide) (fun c2430 e2431 => ?_)
  refine bp_ld (pc' := 7) bu_98_6 rfl rfl (fun _ _ _ => rfl) rfl rfl ?_
  refine bn_gi (pc' := 10) (K := 8819) bu_98_7 rfl rfl (fun _ _ _ => rfl) hP2427 rz_o88 rz_i88_19 rfl rfl ?_
  have d19 : (s2424 8819).toInt = (s 8819).toInt := congrArg Int32.toInt (F2428.1.2.2.2.2)
  refine bp_mul (pc' := 11) bu_98_10 rfl (by rw [e2431]; omega) (by rw [e2431]; omega) (fun v2432 e2433 => ?_)
  rw [e2431] at e2433
  refine bp_ld (pc' := 12) bu_98_11 rfl rfl (fun _ _ _ => rfl) rfl rfl ?_
  refine bn_gr (pc' := 15) (t := 97) bu_98_12 rfl rfl (fun _ _ _ => rfl) hP2427 rz_o88 rz_r88_22 ?_
  refine bp_ld (pc' := 16) bu_98_15 rfl rfl (fun _ _ _ => rfl) rfl rfl ?_
  refine bn_gi (pc' := 19) (K := 8819) bu_98_16 rfl rfl (fun _ _ _ => rfl) hP2427 rz_o88 rz_i88_19 rfl rfl ?_
  refine bn_iaF (pc' := 20) bu_98_19 rfl rfl (fun _ _ _ => rfl) hP2427 rz_a97 (Or.inl rfl) (fun b2434 b2435 => ?_)
  have m97 : (A2425 97 (s2424 8819).toInt.toNat).toInt = (ns.length : Int) := by
    rw [F2428.2.2.2.2.2.2 97 (by decide) (by decide), F2428.1.2.2.2.2]
    exact r9e
  refine bp_add (pc' := 21) bu_98_20 rfl (by omega) (by omega) (fun v2436 e2437 => ?_)
  refine bp_st (pc' := 22) bu_98_21 rfl rfl (fun _ _ _ => rfl) rfl (by decide) (by decide) (fun lv2438 F2439 g2440 => ?_)
  have g2441 := F2439 0 (.ref (E.1 + 88)) rfl (by decide) (Or.inl rfl)
  refine bp_ld (pc' := 23) bu_98_22 rfl rfl (fun _ _ _ => rfl) g2441 rfl ?_
  refine bn_gi (pc' := 26) (K := 8811) bu_98_23 rfl rfl (fun _ _ _ => rfl) hP2427 rz_o88 rz_i88_11 rfl rfl ?_
  refine bp_st (pc' := 27) bu_98_26 rfl rfl (fun _ _ _ => rfl) rfl (by decide) (by decide) (fun lv2442 F2443 g2444 => ?_)
  have g2445 := F2443 0 (.ref (E.1 + 88)) g2441 (by decide) (Or.inl rfl)
  have g2446 := F2443 1 (.int v2436) g2440 (by decide) (Or.inl rfl)
  refine bp_ld (pc' := 28) bu_98_27 rfl rfl (fun _ _ _ => rfl) g2445 rfl ?_
  refine bp_c (pc' := 29) (n := 1) bu_98_28 rfl rfl (fun _ _ _ => rfl) (by decide) (fun c2447 e2448 => ?_)
  refine bn_cvF (pc' := 32) (st := []) (args := [.int c2447]) bu_98_29 rfl rfl rfl (by decide) hP2427 rz_o88 (by decide) rfl (Nat.le_of_ble_eq_true rfl) (Nat.le_of_ble_eq_true rfl) ?_
  refine rr_67 (kc := 1) hP2427 (by omega) (by decide) (by decide) R2429 (rq_T_F hT F2428) (fun h2449 s2450 A2451 L2452 hP2453 F2454 R2455 => ?_)
  have F2456 := rq_F_t F2428 F2454
  have u2457 := R2455.1
  show bp_G E PO NN ((98, 32, lv2442, [], 0, 0) :: gs, h2449, none)
  refine bp_c (pc' := 33) (n := 0) bu_98_32 rfl rfl (fun _ _ _ => rfl) (by decide) (fun c2458 e2459 => ?_)
  refine bp_st (pc' := 34) bu_98_33 rfl rfl (fun _ _ _ => rfl) rfl (by decide) (by decide) (fun lv2460 F2461 g2462 => ?_)
  have g2463 := F2461 0 (.ref (E.1 + 88)) g2445 (by decide) (Or.inl rfl)
  have g2464 := F2461 1 (.int v2436) g2446 (by decide) (Or.inl rfl)
  have g2465 := F2461 2 (.int (s2424 8811)) g2444 (by decide) (Or.inl rfl)
  have hs1 := fun u => py_mu_st (K := K) (k := 1) (σ := py_go σ) u
  have hp0 : (py_mu K 1 (py_go σ)).2.1 = 0 → ((s2424 8811)).toInt = ((py_go σ).1 : Int) ∧ (py_go σ).1 < M ∧ K (py_go σ).1 = 1 ∧ (py_go σ).1 < (py_mu K 1 (py_go σ)).1 := fun u => by
    have a := hs1 u
    have b := R2429.2.1 a.1
    exact ⟨b.1, b.2.1, a.2.1, by omega⟩
  have hp1 : (py_mu K 1 (py_go σ)).2.1 = 0 → (py_mu K 1 (py_go σ)).2.2.1 ≠ 0 → ((py_mu K 1 (py_go σ)).2.2.2.1 < (py_go σ).1 ∨ ((py_mu K 1 (py_go σ)).2.2.2.1 = (py_go σ).1 ∧ (py_mu K 1 (py_go σ)).2.2.1 ≤ 3)) := fun u z => by
    have a := hs1 u
    rw [a.2.2.2] at z ⊢
    exact Or.inl ((R2429.2.1 a.1).2.2.2.1 z).2
  have ha : (v2436).toInt = 6 * (((s 8819).toInt.toNat : Nat) : Int) + (ns.length : Int) := by omega
  refine rr_98n (σ := (py_mu K 1 (py_go σ))) (τ := (py_go σ).1) hT hQ (by rw [py_n_mu, py_n_go]; exact hns) hp0 NN (fun h2466 s2467 A2468 L2469 lv2470 o2471 hP2472 F2473 R2474 g2475 g2476 g2477 => ?_) _ _ _ _ _ _ _ _ hP2453 F2456 R2455 g2463 g2464 g2465 g2462 (by omega) (fun u => ⟨by omega, hp1 u⟩) (Or.inl ⟨rfl, fun j hj => absurd hj (by omega)⟩)
  refine bp_c (pc' := 78) (n := 0) bu_98_77 rfl rfl (fun _ _ _ => rfl) (by decide) (fun c2478 e2479 => ?_)
  refine bp_st (pc' := 79) bu_98_78 rfl rfl (fun _ _ _ => rfl) rfl (by decide) (by decide) (fun lv2480 F2481 g2482 => ?_)
  have g2483 := F2481 0 (.ref (E.1 + 88)) g2475 (by decide) (Or.inl rfl)
  have g2484 := F2481 1 (.int v2436) g2476 (by decide) (Or.inl rfl)
  have g2485 := F2481 2 (.int (s2424 8811)) g2477 (by decide) (Or.inl rfl)
  refine rr_98b (p := 0) (d := (s 8819).toInt.toNat) (n := ns.length) (s0 := s) (A0 := A) (L0 := L) hT hP2472 (rq_G_of F2473) R2474 g2483 g2484 g2485 g2482 (by omega) (by omega) hl ha e2479 (by decide) (fun h2486 s2487 A2488 L2489 lv2490 o2491 y2492 r2493 i2494 hP2495 G2496 R2497 g2498 g2499 g2500 g2501 ey2502 w2503 ei2504 u2505 v2506 => ?_)
  refine rr_98b (p := 1) (d := (s 8819).toInt.toNat) (n := ns.length) (s0 := s) (A0 := A) (L0 := L) hT hP2495 G2496 R2497 g2498 g2499 g2500 g2501 (by omega) (by omega) hl ha ey2502 (by decide) (fun h2507 s2508 A2509 L2510 lv2511 o2512 y2513 r2514 i2515 hP2516 G2517 R2518 g2519 g2520 g2521 g2522 ey2523 w2524 ei2525 u2526 v2527 => ?_)
  refine rr_98b (p := 2) (d := (s 8819).toInt.toNat) (n := ns.length) (s0 := s) (A0 := A) (L0 := L) hT hP2516 G2517 R2518 g2519 g2520 g2521 g2522 (by omega) (by omega) hl ha ey2523 (by decide) (fun h2528 s2529 A2530 L2531 lv2532 o2533 y2534 r2535 i2536 hP2537 G2538 R2539 g2540 g2541 g2542 g2543 ey2544 w2545 ei2546 u2547 v2548 => ?_)
  refine rr_98b (p := 3) (d := (s 8819).toInt.toNat) (n := ns.length) (s0 := s) (A0 := A) (L0 := L) hT hP2537 G2538 R2539 g2540 g2541 g2542 g2543 (by omega) (by omega) hl ha ey2544 (by decide) (fun h2549 s2550 A2551 L2552 lv2553 o2554 y2555 r2556 i2557 hP2558 G2559 R2560 g2561 g2562 g2563 g2564 ey2565 w2566 ei2567 u2568 v2569 => ?_)
  refine rr_98c (d := (s 8819).toInt.toNat) (n := ns.length) (s0 := s) (A0 := A) (L0 := L) hT hP2558 G2559 R2560 g2561 g2562 g2563 g2564 (by omega) (by omega) hl ha (by omega) (fun h2570 s2571 A2572 L2573 lv2574 o2575 r2576 i2577 hP2578 G2579 R2580 g2581 g2582 g2583 q2584 w2585 ei2586 u2587 v2588 => ?_) (fun h2589 s2590 A2591 L2592 r2593 i2594 hP2595 G2596 R2597 q2598 w2599 ei2600 u2601 v2602 => ?_)
  · have x98 : A2572 98 = upd (upd (upd (upd (A 98) i2494 (mm_nar 0 r2493)) i2515 (mm_nar 0 r2514)) i2536 (mm_nar 0 r2535)) i2557 (mm_nar 0 r2556) := by
      rw [w2585 98 (by decide) (by decide) (by decide), u2568, u2547, u2526, u2505, (F2473.2.2.2.2.2.2 98 (by decide) (by decide))]
    have x99 : A2572 99 = upd (A 99) i2577 (mm_nar 0 r2576) := by
      rw [u2587, w2566 99 (by decide) (by decide) (by decide), w2545 99 (by decide) (by decide) (by decide), w2524 99 (by decide) (by decide) (by decide), w2503 99 (by decide) (by decide) (by decide), F2473.2.2.2.2.2.2 99 (by decide) (by decide)]
    have xo : ∀ c, 100 ≤ c → c ≤ 105 → A2572 c = A c := fun c c1 c2 => by
      rw [w2585 c (by omega) c2 (by omega), w2566 c (by omega) c2 (by omega), w2545 c (by omega) c2 (by omega), w2524 c (by omega) c2 (by omega), w2503 c (by omega) c2 (by omega), F2473.2.2.2.2.2.2 c (by omega) c2]
    have q0 : (py_mu K 4 (py_nu K V 0 9 (py_nu K V 0 9 (py_nu K V 0 9 (py_nu K V 0 9 (py_nu K V 0 9 (py_nm Q (py_go σ).1 (py_mu K 1 (py_go σ))))))))).2.1 = 0 := q2584
    have hm1 := hm.1 q0
    have hp2 := hp0 (by
      by_cases u : (py_mu K 1 (py_go σ)).2.1 = 0
      · exact u
      · exact absurd q0 (by rw [py_nm_f u, py_nu_f u, py_nu_f u, py_nu_f u, py_nu_f u, py_nu_f u, py_mu_f u]; exact u))
    refine rr_98d (τ := (py_go σ).1) (s0 := s) (A0 := A) (L0 := L) hT hP2578 G2579 R2580 g2581 g2582 g2583 hd.1 q0 hl hp2.2.2.1 hp2.2.1 hp2.1 (fun h2603 s2604 A2605 L2606 hP2607 G2608 R2609 w2610 => ?_)
    have en : (py_man K V Q σ).2.2.2.2 = ns ++ [(py_go σ).1] := by
      rw [hm1.1]
      show (py_mu K 4 (py_nu K V 0 9 (py_nu K V 0 9 (py_nu K V 0 9 (py_nu K V 0 9 (py_nu K V 0 9 (py_nm Q (py_go σ).1 (py_mu K 1 (py_go σ))))))))).2.2.2.2 ++ [(py_go σ).1] = _
      rw [py_n_mu, py_n_nu, py_n_nu, py_n_nu, py_n_nu, py_n_nu, py_n_nm, py_n_mu, py_n_go, hns]
    refine kk _ _ _ _ hP2607 G2608 (by rw [en, hm1.1]; exact R2609) ?_
    have f5 := py_five_ok q0
    have eN : (py_nm Q (py_go σ).1 (py_mu K 1 (py_go σ))).1 = (py_go σ).1 + 1 := (py_nm_t (Q := Q)).1.trans ((hs1 (by have := f5.1; rwa [(py_nm_t (Q := Q)).2] at this)).2.2.1)
    rw [eN] at f5
    have g0 := v2506 f5.1 (by rw [eN]; exact f5.2.1)
    have g1 := v2527 f5.2.2.1.1 (by rw [f5.2.2.1.2.1]; exact f5.2.2.1.2.2)
    have g2 := v2548 f5.2.2.2.1.1 (by rw [f5.2.2.2.1.2.1]; exact f5.2.2.2.1.2.2)
    have g3 := v2569 f5.2.2.2.2.1.1 (by rw [f5.2.2.2.2.1.2.1]; exact f5.2.2.2.2.1.2.2)
    have g4 := v2588 f5.2.2.2.2.2.1 (by rw [f5.2.2.2.2.2.2.1]; exact f5.2.2.2.2.2.2.2)
    rw [eN] at g0
    rw [f5.2.2.1.2.1] at g1
    rw [f5.2.2.2.1.2.1] at g2
    rw [f5.2.2.2.2.1.2.1] at g3
    rw [f5.2.2.2.2.2.2.1] at g4
    exact rq_M_of (fun c c1 c2 => (w2610 c (by omega) c2 (by omega)).trans (xo c c1 c2)) ((w2610 98 (by decide) (by decide) (by decide)).trans x98) ((w2610 99 (by decide) (by decide) (by decide)).trans x99) (ei2504.trans (Nat.add_zero _)) ei2525 ei2546 ei2567 ei2586 (fun _ => ⟨g0, g1, g2, g3, g4⟩)
  · have x98 : A2591 98 = upd (upd (upd (upd (A 98) i2494 (mm_nar 0 r2493)) i2515 (mm_nar 0 r2514)) i2536 (mm_nar 0 r2535)) i2557 (mm_nar 0 r2556) := by
      rw [w2599 98 (by decide) (by decide) (by decide), u2568, u2547, u2526, u2505, (F2473.2.2.2.2.2.2 98 (by decide) (by decide))]
    have x99 : A2591 99 = upd (A 99) i2594 (mm_nar 0 r2593) := by
      rw [u2601, w2566 99 (by decide) (by decide) (by decide), w2545 99 (by decide) (by decide) (by decide), w2524 99 (by decide) (by decide) (by decide), w2503 99 (by decide) (by decide) (by decide), F2473.2.2.2.2.2.2 99 (by decide) (by decide)]
    have xo : ∀ c, 100 ≤ c → c ≤ 105 → A2591 c = A c := fun c c1 c2 => by
      rw [w2599 c (by omega) c2 (by omega), w2566 c (by omega) c2 (by omega), w2545 c (by omega) c2 (by omega), w2524 c (by omega) c2 (by omega), w2503 c (by omega) c2 (by omega), F2473.2.2.2.2.2.2 c (by omega) c2]
    have q0 : (py_mu K 4 (py_nu K V 0 9 (py_nu K V 0 9 (py_nu K V 0 9 (py_nu K V 0 9 (py_nu K V 0 9 (py_nm Q (py_go σ).1 (py_mu K 1 (py_go σ))))))))).2.1 ≠ 0 := q2598
    have hm2 := hm.2 q0
    exact kk _ _ _ _ hP2595 G2596 (rq_R_f q0 hm2.1 hm2.2 R2597) (rq_M_of xo x98 x99 (ei2504.trans (Nat.add_zero _)) ei2525 ei2546 ei2567 ei2600 (fun q => absurd (hm2.1.symm.trans q) q0))
theorem py_man_nm {K V : Nat → Int} {Q : Nat → Nat → Bool} {σ : py_S} (h : (py_man K V Q σ).2.1 = 0) : (py_man K V Q σ).2.2.2.2 = σ.2.2.2.2 ++ [(py_go σ).1] := by
  unfold py_man at h ⊢
  by_cases c1 : σ.2.2.2.2.length = 6
  · rw [if_pos c1] at h
    exact absurd h (py_fl_f (by decide))
  · rw [if_neg c1] at h ⊢
    by_cases c2 : (py_go σ).2.1 = 0 ∧ K (py_go σ).1 = 1
    · rw [if_pos c2]
      unfold py_five
      rw [py_n_mu, py_n_nu, py_n_nu, py_n_nu, py_n_nu, py_n_nu, py_n_go]
      show (py_nm Q (py_go σ).1 (py_go σ)).2.2.2.2 ++ [(py_go σ).1] = _
      rw [py_n_nm, py_n_go]
    · rw [if_neg c2] at h
      exact absurd h (py_fl_f (by decide))
set_option maxHeartbeats 4000000 in
theorem rr_99_72 (hP : bm_P rz_T E h0 h s A L) (hR : rq_R K P M σ ns 0 0 s A L) (hT : rq_T K V P M A) (hQ : ∀ i j, i < M → j < M → K i = 1 → K j = 1 → (Q i j = true ↔ L 94 i = L 94 j)) (hK0 : 0 ≤ K σ.1) (hq0 : σ.2.1 = 0) (hns : σ.2.2.2.2 = ns) (hd : 0 ≤ (s 8819).toInt ∧ (s 8819).toInt ≤ 1) (kk : ∀ (h' : mm_H) (s' : Nat → Int32) (A' : Nat → Nat → Int32) (L' : Nat → Nat → Int64), bm_P rz_T E h0 h' s' A' L' → rq_G s A L s' A' L' → rq_R K P M (py_tell K V Q σ) (py_tell K V Q σ).2.2.2.2 0 0 s' A' L' → ((py_tell K V Q σ).2.1 = 0 → ∀ ω, rq_O V ns ω (s 8819).toInt.toNat A → rq_O V (py_tell K V Q σ).2.2.2.2 (py_st K σ ω) (s 8819).toInt.toNat A') → bp_G E PO NN (mm_back (none) gs h')) (kc : ((A 91 ((s 8811)).toInt.toNat)).toInt = 20) : bp_G E PO NN ((99, 72, [(0, .ref (E.1 + 88))], [], 0, 0) :: gs, h, none) := by
  have q1 := hR.1
  have q2 : σ.2.1 = 0 → (s 8811).toInt = (σ.1 : Int) ∧ (A 91 (s 8811).toInt.toNat).toInt = K σ.1 ∧ (K σ.1 = 2 → (A 93 (s 8811).toInt.toNat).toInt = V σ.1) ∧ (A 92 (s 8811).toInt.toNat).toInt = P σ.1 := fun hf => by
    have a1 := hR.2.1 hf
    have ei : (s 8811).toInt.toNat = σ.1 := by omega
    have a2 := hT.2.2.1 σ.1 a1.2.1
    rw [ei]
    exact ⟨a1.1, a2.1, a2.2.2, a2.2.1⟩
  have q3 := q2 hq0
  have r2 := hR.2.1 hq0
  have hK1 := hK0
  have r5 := r2.2.2.2.2.1
  have r6 := r2.2.2.2.2.2.1
  have r9 := r2.2.2.2.2.2.2.2.1
  refine bp_ld (pc' := 73) bu_99_72 rfl rfl (fun _ _ _ => rfl) rfl rfl ?_
  refine bn_gr (pc' := 76) (t := 97) bu_99_73 rfl rfl (fun _ _ _ => rfl) hP rz_o88 rz_r88_22 ?_
  refine bp_ld (pc' := 77) bu_99_76 rfl rfl (fun _ _ _ => rfl) rfl rfl ?_
  refine bn_gi (pc' := 80) (K := 8819) bu_99_77 rfl rfl (fun _ _ _ => rfl) hP rz_o88 rz_i88_19 rfl rfl ?_
  refine bn_iaF (pc' := 81) bu_99_80 rfl rfl (fun _ _ _ => rfl) hP rz_a97 (Or.inl rfl) (fun b2614 b2615 => ?_)
  refine bp_c (pc' := 83) (n := 6) bu_99_81 rfl rfl (fun _ _ _ => rfl) (by decide) (fun c2616 e2617 => ?_)
  refine bp_ic (pc' := 86) (pt := 91) bu_99_83 rfl rfl (fun k2618 => ?_) (fun k2618 => ?_)
  · replace k2618 : ((A 97 ((s 8819)).toInt.toNat)).toInt ≠ (c2616).toInt := k2618
    refine bp_ld (pc' := 92) bu_99_91 rfl rfl (fun _ _ _ => rfl) rfl rfl ?_
    refine bn_gi (pc' := 95) (K := 8813) bu_99_92 rfl rfl (fun _ _ _ => rfl) hP rz_o88 rz_i88_13 rfl rfl ?_
    refine bp_i0 (pc' := 98) (pt := 306) bu_99_95 rfl rfl (fun k2619 => ?_) (fun k2619 => ?_)
    · replace k2619 : ((s 8813)).toInt ≠ 0 := k2619
      refine bp_rv bu_99_306 ?_
      exfalso
      omega
    · replace k2619 : ¬ (((s 8813)).toInt ≠ 0) := k2619
      refine bp_ld (pc' := 99) bu_99_98 rfl rfl (fun _ _ _ => rfl) rfl rfl ?_
      refine bn_cvF (pc' := 102) (st := []) (args := []) bu_99_99 rfl rfl rfl (by decide) hP rz_o88 (by decide) rfl (Nat.le_of_ble_eq_true rfl) (Nat.le_of_ble_eq_true rfl) ?_
      refine rr_98 hP hR hT hQ hq0 (by omega) (by omega) hns hd (fun h2620 s2621 A2622 L2623 hP2624 F2625 R2626 M2627 => ?_)
      have G2628 := rq_G_t rq_G_r F2625
      show bp_G E PO NN ((99, 102, _, [], 0, 0) :: gs, h2620, none)
      refine bp_go (pc' := 306) bu_99_102 rfl ?_
      refine bp_rv bu_99_306 ?_
      have ee : py_tell K V Q σ = (py_man K V Q σ) := by
        unfold py_tell
        rw [if_neg (not_not_intro hq0), if_pos (by omega)]
      have e3 : ∀ ω, py_st K σ ω = ω := fun ω => by
        unfold py_st
        rw [if_neg (by omega), if_neg (by omega), if_neg (by omega), if_neg (by omega), if_neg (by omega)]
      rw [← ee] at R2626
      refine kk _ _ _ _ hP2624 G2628 R2626 (fun q ω hO => ?_)
      rw [ee] at q ⊢
      rw [py_man_nm q, hns, e3]
      exact rq_O_man M2627 q hO
  · replace k2618 : ¬ (((A 97 ((s 8819)).toInt.toNat)).toInt ≠ (c2616).toInt) := k2618
    refine bp_ld (pc' := 87) bu_99_86 rfl rfl (fun _ _ _ => rfl) rfl rfl ?_
    refine bp_c (pc' := 88) (n := 2) bu_99_87 rfl rfl (fun _ _ _ => rfl) (by decide) (fun c2629 e2630 => ?_)
    refine bn_cvF (pc' := 91) (st := []) (args := [.int c2629]) bu_99_88 rfl rfl rfl (by decide) hP rz_o88 (by decide) rfl (Nat.le_of_ble_eq_true rfl) (Nat.le_of_ble_eq_true rfl) ?_
    refine rr_27 (kn := 2) hP (by omega) (by decide) hR hT (fun h2631 s2632 A2633 L2634 hP2635 F2636 R2637 => ?_)
    have w2638 : A2633 97 = (A 97) := (F2636.2.2.2.2.2.2 97 (by decide) (by decide))
    have w2639 : A2633 98 = (A 98) := (F2636.2.2.2.2.2.2 98 (by decide) (by decide))
    have w2640 : A2633 99 = (A 99) := (F2636.2.2.2.2.2.2 99 (by decide) (by decide))
    have w2641 : A2633 100 = (A 100) := (F2636.2.2.2.2.2.2 100 (by decide) (by decide))
    have w2642 : A2633 101 = (A 101) := (F2636.2.2.2.2.2.2 101 (by decide) (by decide))
    have w2643 : A2633 102 = (A 102) := (F2636.2.2.2.2.2.2 102 (by decide) (by decide))
    have w2644 : A2633 103 = (A 103) := (F2636.2.2.2.2.2.2 103 (by decide) (by decide))
    have w2645 : A2633 104 = (A 104) := (F2636.2.2.2.2.2.2 104 (by decide) (by decide))
    have w2646 : A2633 105 = (A 105) := (F2636.2.2.2.2.2.2 105 (by decide) (by decide))
    have d2647 : (s2632 8819).toInt = (s 8819).toInt := congrArg Int32.toInt (F2636.1.2.2.2.2)
    have u2648 := R2637.1
    have u2649 := py_fl_f (σ := σ) (k := 2) (by decide)
    show bp_G E PO NN ((99, 91, _, [], 0, 0) :: gs, h2631, none)
    refine bp_ld (pc' := 92) bu_99_91 rfl rfl (fun _ _ _ => rfl) rfl rfl ?_
    refine bn_gi (pc' := 95) (K := 8813) bu_99_92 rfl rfl (fun _ _ _ => rfl) hP2635 rz_o88 rz_i88_13 rfl rfl ?_
    refine bp_i0 (pc' := 98) (pt := 306) bu_99_95 rfl rfl (fun k2650 => ?_) (fun k2650 => ?_)
    · replace k2650 : ((s2632 8813)).toInt ≠ 0 := k2650
      refine bp_rv bu_99_306 ?_
      have ee : py_tell K V Q σ = (py_fl 2 σ) := by
        unfold py_tell
        rw [if_neg (not_not_intro hq0), if_pos (by omega)]
        exact if_pos (by rw [hns]; omega)
      have en : (py_tell K V Q σ).2.2.2.2 = ns := by
        rw [ee, py_n_fl]
        exact hns
      exact kk _ _ _ _ hP2635 (rq_G_of F2636) (by rw [en, ee]; exact rq_R_0 (py_fl_f (by decide)) R2637) (fun q => absurd q (by rw [ee]; exact py_fl_f (by decide)))
    · replace k2650 : ¬ (((s2632 8813)).toInt ≠ 0) := k2650
      refine bp_ld (pc' := 99) bu_99_98 rfl rfl (fun _ _ _ => rfl) rfl rfl ?_
      refine bn_cvF (pc' := 102) (st := []) (args := []) bu_99_99 rfl rfl rfl (by decide) hP2635 rz_o88 (by decide) rfl (Nat.le_of_ble_eq_true rfl) (Nat.le_of_ble_eq_true rfl) ?_
      exfalso
      omega
set_option maxHeartbeats 4000000 in
theorem rr_99_105 (hP : bm_P rz_T E h0 h s A L) (hR : rq_R K P M σ ns 0 0 s A L) (hT : rq_T K V P M A) (hQ : ∀ i j, i < M → j < M → K i = 1 → K j = 1 → (Q i j = true ↔ L 94 i = L 94 j)) (hK0 : 0 ≤ K σ.1) (hq0 : σ.2.1 = 0) (hns : σ.2.2.2.2 = ns) (hd : 0 ≤ (s 8819).toInt ∧ (s 8819).toInt ≤ 1) (kk : ∀ (h' : mm_H) (s' : Nat → Int32) (A' : Nat → Nat → Int32) (L' : Nat → Nat → Int64), bm_P rz_T E h0 h' s' A' L' → rq_G s A L s' A' L' → rq_R K P M (py_tell K V Q σ) (py_tell K V Q σ).2.2.2.2 0 0 s' A' L' → ((py_tell K V Q σ).2.1 = 0 → ∀ ω, rq_O V ns ω (s 8819).toInt.toNat A → rq_O V (py_tell K V Q σ).2.2.2.2 (py_st K σ ω) (s 8819).toInt.toNat A') → bp_G E PO NN (mm_back (none) gs h')) (kc : ((A 91 ((s 8811)).toInt.toNat)).toInt = 28) : bp_G E PO NN ((99, 105, [(0, .ref (E.1 + 88))], [], 0, 0) :: gs, h, none) := by
  have q1 := hR.1
  have q2 : σ.2.1 = 0 → (s 8811).toInt = (σ.1 : Int) ∧ (A 91 (s 8811).toInt.toNat).toInt = K σ.1 ∧ (K σ.1 = 2 → (A 93 (s 8811).toInt.toNat).toInt = V σ.1) ∧ (A 92 (s 8811).toInt.toNat).toInt = P σ.1 := fun hf => by
    have a1 := hR.2.1 hf
    have ei : (s 8811).toInt.toNat = σ.1 := by omega
    have a2 := hT.2.2.1 σ.1 a1.2.1
    rw [ei]
    exact ⟨a1.1, a2.1, a2.2.2, a2.2.1⟩
  have q3 := q2 hq0
  have r2 := hR.2.1 hq0
  have hK1 := hK0
  have r5 := r2.2.2.2.2.1
  have r6 := r2.2.2.2.2.2.1
  have r9 := r2.2.2.2.2.2.2.2.1
  refine bp_ld (pc' := 106) bu_99_105 rfl rfl (fun _ _ _ => rfl) rfl rfl ?_
  refine bn_cvF (pc' := 109) (st := []) (args := []) bu_99_106 rfl rfl rfl (by decide) hP rz_o88 (by decide) rfl (Nat.le_of_ble_eq_true rfl) (Nat.le_of_ble_eq_true rfl) ?_
  refine rr_37 hP (by decide) hR hT (fun _ => by omega) (fun h2652 s2653 A2654 L2655 hP2656 F2657 R2658 => ?_)
  have w2659 : A2654 97 = (A 97) := (F2657.2.2.2.2.2.2 97 (by decide) (by decide))
  have w2660 : A2654 98 = (A 98) := (F2657.2.2.2.2.2.2 98 (by decide) (by decide))
  have w2661 : A2654 99 = (A 99) := (F2657.2.2.2.2.2.2 99 (by decide) (by decide))
  have w2662 : A2654 100 = (A 100) := (F2657.2.2.2.2.2.2 100 (by decide) (by decide))
  have w2663 : A2654 101 = (A 101) := (F2657.2.2.2.2.2.2 101 (by decide) (by decide))
  have w2664 : A2654 102 = (A 102) := (F2657.2.2.2.2.2.2 102 (by decide) (by decide))
  have w2665 : A2654 103 = (A 103) := (F2657.2.2.2.2.2.2 103 (by decide) (by decide))
  have w2666 : A2654 104 = (A 104) := (F2657.2.2.2.2.2.2 104 (by decide) (by decide))
  have w2667 : A2654 105 = (A 105) := (F2657.2.2.2.2.2.2 105 (by decide) (by decide))
  have d2668 : (s2653 8819).toInt = (s 8819).toInt := congrArg Int32.toInt (F2657.1.2.2.2.2)
  show bp_G E PO NN ((99, 109, _, [], 0, 0) :: gs, h2652, none)
  refine bp_ld (pc' := 110) bu_99_109 rfl rfl (fun _ _ _ => rfl) rfl rfl ?_
  refine bn_gr (pc' := 113) (t := 100) bu_99_110 rfl rfl (fun _ _ _ => rfl) hP2656 rz_o88 rz_r88_25 ?_
  refine bp_ld (pc' := 114) bu_99_113 rfl rfl (fun _ _ _ => rfl) rfl rfl ?_
  refine bn_gi (pc' := 117) (K := 8819) bu_99_114 rfl rfl (fun _ _ _ => rfl) hP2656 rz_o88 rz_i88_19 rfl rfl ?_
  refine bp_ld (pc' := 118) bu_99_117 rfl rfl (fun _ _ _ => rfl) rfl rfl ?_
  refine bp_c (pc' := 119) (n := 1) bu_99_118 rfl rfl (fun _ _ _ => rfl) (by decide) (fun c2669 e2670 => ?_)
  refine bp_c (pc' := 121) (n := 99) bu_99_119 rfl rfl (fun _ _ _ => rfl) (by decide) (fun c2671 e2672 => ?_)
  refine bn_cvF (pc' := 124) (st := [.int (s2653 8819), .ref (E.1 + 100)]) (args := [.int c2671, .int c2669]) bu_99_121 rfl rfl rfl (by decide) hP2656 rz_o88 (by decide) rfl (Nat.le_of_ble_eq_true rfl) (Nat.le_of_ble_eq_true rfl) ?_
  refine rr_10 hP2656 R2658 (rq_T_F hT F2657) (fun h2673 s2674 A2675 L2676 r2680 hP2677 F2678 R2679 v2681 => ?_)
  have F2682 := rq_F_t F2657 F2678
  have w2683 : A2675 97 = (A 97) := (F2678.2.2.2.2.2.2 97 (by decide) (by decide)).trans w2659
  have w2684 : A2675 98 = (A 98) := (F2678.2.2.2.2.2.2 98 (by decide) (by decide)).trans w2660
  have w2685 : A2675 99 = (A 99) := (F2678.2.2.2.2.2.2 99 (by decide) (by decide)).trans w2661
  have w2686 : A2675 100 = (A 100) := (F2678.2.2.2.2.2.2 100 (by decide) (by decide)).trans w2662
  have w2687 : A2675 101 = (A 101) := (F2678.2.2.2.2.2.2 101 (by decide) (by decide)).trans w2663
  have w2688 : A2675 102 = (A 102) := (F2678.2.2.2.2.2.2 102 (by decide) (by decide)).trans w2664
  have w2689 : A2675 103 = (A 103) := (F2678.2.2.2.2.2.2 103 (by decide) (by decide)).trans w2665
  have w2690 : A2675 104 = (A 104) := (F2678.2.2.2.2.2.2 104 (by decide) (by decide)).trans w2666
  have w2691 : A2675 105 = (A 105) := (F2678.2.2.2.2.2.2 105 (by decide) (by decide)).trans w2667
  have d2692 : (s2674 8819).toInt = (s 8819).toInt := congrArg Int32.toInt (F2682.1.2.2.2.2)
  rw [show (c2669 : Int32).toInt = 1 from e2670, show (c2671 : Int32).toInt = 99 from e2672] at R2679
  have u2693 := R2679.1
  have d19 : (s2674 8819).toInt = (s 8819).toInt := congrArg Int32.toInt (F2682.1.2.2.2.2)
  show bp_G E PO NN ((99, 124, _, [.int r2680, .int (s2653 8819), .ref (E.1 + 100)], 0, 0) :: gs, h2673, none)
  refine bn_iasF (pc' := 125) bu_99_124 rfl rfl (fun _ _ _ => rfl) hP2677 rz_a100 (Or.inl rfl) (fun b2696 b2697 h2694 hP2695 => ?_)
  refine bp_ld (pc' := 126) bu_99_125 rfl rfl (fun _ _ _ => rfl) rfl rfl ?_
  refine bn_gr (pc' := 129) (t := 101) bu_99_126 rfl rfl (fun _ _ _ => rfl) hP2695 rz_o88 rz_r88_26 ?_
  refine bp_ld (pc' := 130) bu_99_129 rfl rfl (fun _ _ _ => rfl) rfl rfl ?_
  refine bn_gi (pc' := 133) (K := 8819) bu_99_130 rfl rfl (fun _ _ _ => rfl) hP2695 rz_o88 rz_i88_19 rfl rfl ?_
  refine bp_ld (pc' := 134) bu_99_133 rfl rfl (fun _ _ _ => rfl) rfl rfl ?_
  refine bp_c (pc' := 135) (n := 0) bu_99_134 rfl rfl (fun _ _ _ => rfl) (by decide) (fun c2698 e2699 => ?_)
  refine bp_c (pc' := 138) (n := 999) bu_99_135 rfl rfl (fun _ _ _ => rfl) (by decide) (fun c2700 e2701 => ?_)
  refine bn_cvF (pc' := 141) (st := [.int (s2674 8819), .ref (E.1 + 101)]) (args := [.int c2700, .int c2698]) bu_99_138 rfl rfl rfl (by decide) hP2695 rz_o88 (by decide) rfl (Nat.le_of_ble_eq_true rfl) (Nat.le_of_ble_eq_true rfl) ?_
  have R2702 : rq_R K P M (py_nu K V 1 99 (py_go σ)) ns 0 0 s2674 (bh_up A2675 100 ((s2653 8819)).toInt.toNat (mm_nar 0 r2680)) L2676 := rq_R_s R2679 rfl rfl rfl rfl rfl rfl rfl rfl (bh_up_ne (by decide))
  have d19 : (s2674 8819).toInt = (s 8819).toInt := congrArg Int32.toInt (F2682.1.2.2.2.2)
  have G2703 : rq_G s2674 A2675 L2676 s2674 (bh_up A2675 100 ((s2653 8819)).toInt.toNat (mm_nar 0 r2680)) L2676 := ⟨⟨rfl, rfl, rfl, rfl, rfl⟩, ⟨(bh_up_ne (by decide)), (bh_up_ne (by decide)), (bh_up_ne (by decide)), (bh_up_ne (by decide)), (bh_up_ne (by decide))⟩, rfl, rfl, rfl, (bh_up_ne (by decide)), rq_D_up rq_D_r (Or.inr (Or.inr ⟨by decide, by decide, by omega⟩))⟩
  have w2704 : (bh_up A2675 100 ((s2653 8819)).toInt.toNat (mm_nar 0 r2680)) 97 = (A 97) := (bh_up_ne (by decide)).trans w2683
  have w2705 : (bh_up A2675 100 ((s2653 8819)).toInt.toNat (mm_nar 0 r2680)) 98 = (A 98) := (bh_up_ne (by decide)).trans w2684
  have w2706 : (bh_up A2675 100 ((s2653 8819)).toInt.toNat (mm_nar 0 r2680)) 99 = (A 99) := (bh_up_ne (by decide)).trans w2685
  have w2707 : (bh_up A2675 100 ((s2653 8819)).toInt.toNat (mm_nar 0 r2680)) 100 = (upd (A 100) ((s2653 8819)).toInt.toNat (mm_nar 0 r2680)) := bh_up_eq.trans (congrArg (fun f => upd f ((s2653 8819)).toInt.toNat (mm_nar 0 r2680)) w2686)
  have w2708 : (bh_up A2675 100 ((s2653 8819)).toInt.toNat (mm_nar 0 r2680)) 101 = (A 101) := (bh_up_ne (by decide)).trans w2687
  have w2709 : (bh_up A2675 100 ((s2653 8819)).toInt.toNat (mm_nar 0 r2680)) 102 = (A 102) := (bh_up_ne (by decide)).trans w2688
  have w2710 : (bh_up A2675 100 ((s2653 8819)).toInt.toNat (mm_nar 0 r2680)) 103 = (A 103) := (bh_up_ne (by decide)).trans w2689
  have w2711 : (bh_up A2675 100 ((s2653 8819)).toInt.toNat (mm_nar 0 r2680)) 104 = (A 104) := (bh_up_ne (by decide)).trans w2690
  have w2712 : (bh_up A2675 100 ((s2653 8819)).toInt.toNat (mm_nar 0 r2680)) 105 = (A 105) := (bh_up_ne (by decide)).trans w2691
  have G2713 := rq_G_t (rq_G_of F2682) G2703
  refine rr_10 hP2695 R2702 (rq_T_G hT G2713) (fun h2714 s2715 A2716 L2717 r2721 hP2718 F2719 R2720 v2722 => ?_)
  have G2723 := rq_G_t G2713 (rq_G_of F2719)
  have w2724 : A2716 97 = (A 97) := (F2719.2.2.2.2.2.2 97 (by decide) (by decide)).trans w2704
  have w2725 : A2716 98 = (A 98) := (F2719.2.2.2.2.2.2 98 (by decide) (by decide)).trans w2705
  have w2726 : A2716 99 = (A 99) := (F2719.2.2.2.2.2.2 99 (by decide) (by decide)).trans w2706
  have w2727 : A2716 100 = (upd (A 100) ((s2653 8819)).toInt.toNat (mm_nar 0 r2680)) := (F2719.2.2.2.2.2.2 100 (by decide) (by decide)).trans w2707
  have w2728 : A2716 101 = (A 101) := (F2719.2.2.2.2.2.2 101 (by decide) (by decide)).trans w2708
  have w2729 : A2716 102 = (A 102) := (F2719.2.2.2.2.2.2 102 (by decide) (by decide)).trans w2709
  have w2730 : A2716 103 = (A 103) := (F2719.2.2.2.2.2.2 103 (by decide) (by decide)).trans w2710
  have w2731 : A2716 104 = (A 104) := (F2719.2.2.2.2.2.2 104 (by decide) (by decide)).trans w2711
  have w2732 : A2716 105 = (A 105) := (F2719.2.2.2.2.2.2 105 (by decide) (by decide)).trans w2712
  have d2733 : (s2715 8819).toInt = (s 8819).toInt := congrArg Int32.toInt (G2723.1.2.2.2.2)
  rw [show (c2698 : Int32).toInt = 0 from e2699, show (c2700 : Int32).toInt = 999 from e2701] at R2720
  have u2734 := R2720.1
  have d19 : (s2715 8819).toInt = (s 8819).toInt := congrArg Int32.toInt (G2723.1.2.2.2.2)
  show bp_G E PO NN ((99, 141, _, [.int r2721, .int (s2674 8819), .ref (E.1 + 101)], 0, 0) :: gs, h2714, none)
  refine bn_iasF (pc' := 142) bu_99_141 rfl rfl (fun _ _ _ => rfl) hP2718 rz_a101 (Or.inl rfl) (fun b2737 b2738 h2735 hP2736 => ?_)
  refine bp_ld (pc' := 143) bu_99_142 rfl rfl (fun _ _ _ => rfl) rfl rfl ?_
  refine bn_gr (pc' := 146) (t := 102) bu_99_143 rfl rfl (fun _ _ _ => rfl) hP2736 rz_o88 rz_r88_27 ?_
  refine bp_ld (pc' := 147) bu_99_146 rfl rfl (fun _ _ _ => rfl) rfl rfl ?_
  refine bn_gi (pc' := 150) (K := 8819) bu_99_147 rfl rfl (fun _ _ _ => rfl) hP2736 rz_o88 rz_i88_19 rfl rfl ?_
  refine bp_ld (pc' := 151) bu_99_150 rfl rfl (fun _ _ _ => rfl) rfl rfl ?_
  refine bp_c (pc' := 152) (n := 0) bu_99_151 rfl rfl (fun _ _ _ => rfl) (by decide) (fun c2739 e2740 => ?_)
  refine bp_c (pc' := 154) (n := 99) bu_99_152 rfl rfl (fun _ _ _ => rfl) (by decide) (fun c2741 e2742 => ?_)
  refine bn_cvF (pc' := 157) (st := [.int (s2715 8819), .ref (E.1 + 102)]) (args := [.int c2741, .int c2739]) bu_99_154 rfl rfl rfl (by decide) hP2736 rz_o88 (by decide) rfl (Nat.le_of_ble_eq_true rfl) (Nat.le_of_ble_eq_true rfl) ?_
  have R2743 : rq_R K P M (py_nu K V 0 999 (py_nu K V 1 99 (py_go σ))) ns 0 0 s2715 (bh_up A2716 101 ((s2674 8819)).toInt.toNat (mm_nar 0 r2721)) L2717 := rq_R_s R2720 rfl rfl rfl rfl rfl rfl rfl rfl (bh_up_ne (by decide))
  have d19 : (s2715 8819).toInt = (s 8819).toInt := congrArg Int32.toInt (G2723.1.2.2.2.2)
  have G2744 : rq_G s2715 A2716 L2717 s2715 (bh_up A2716 101 ((s2674 8819)).toInt.toNat (mm_nar 0 r2721)) L2717 := ⟨⟨rfl, rfl, rfl, rfl, rfl⟩, ⟨(bh_up_ne (by decide)), (bh_up_ne (by decide)), (bh_up_ne (by decide)), (bh_up_ne (by decide)), (bh_up_ne (by decide))⟩, rfl, rfl, rfl, (bh_up_ne (by decide)), rq_D_up rq_D_r (Or.inr (Or.inr ⟨by decide, by decide, by omega⟩))⟩
  have w2745 : (bh_up A2716 101 ((s2674 8819)).toInt.toNat (mm_nar 0 r2721)) 97 = (A 97) := (bh_up_ne (by decide)).trans w2724
  have w2746 : (bh_up A2716 101 ((s2674 8819)).toInt.toNat (mm_nar 0 r2721)) 98 = (A 98) := (bh_up_ne (by decide)).trans w2725
  have w2747 : (bh_up A2716 101 ((s2674 8819)).toInt.toNat (mm_nar 0 r2721)) 99 = (A 99) := (bh_up_ne (by decide)).trans w2726
  have w2748 : (bh_up A2716 101 ((s2674 8819)).toInt.toNat (mm_nar 0 r2721)) 100 = (upd (A 100) ((s2653 8819)).toInt.toNat (mm_nar 0 r2680)) := (bh_up_ne (by decide)).trans w2727
  have w2749 : (bh_up A2716 101 ((s2674 8819)).toInt.toNat (mm_nar 0 r2721)) 101 = (upd (A 101) ((s2674 8819)).toInt.toNat (mm_nar 0 r2721)) := bh_up_eq.trans (congrArg (fun f => upd f ((s2674 8819)).toInt.toNat (mm_nar 0 r2721)) w2728)
  have w2750 : (bh_up A2716 101 ((s2674 8819)).toInt.toNat (mm_nar 0 r2721)) 102 = (A 102) := (bh_up_ne (by decide)).trans w2729
  have w2751 : (bh_up A2716 101 ((s2674 8819)).toInt.toNat (mm_nar 0 r2721)) 103 = (A 103) := (bh_up_ne (by decide)).trans w2730
  have w2752 : (bh_up A2716 101 ((s2674 8819)).toInt.toNat (mm_nar 0 r2721)) 104 = (A 104) := (bh_up_ne (by decide)).trans w2731
  have w2753 : (bh_up A2716 101 ((s2674 8819)).toInt.toNat (mm_nar 0 r2721)) 105 = (A 105) := (bh_up_ne (by decide)).trans w2732
  have G2754 := rq_G_t G2723 G2744
  refine rr_10 hP2736 R2743 (rq_T_G hT G2754) (fun h2755 s2756 A2757 L2758 r2762 hP2759 F2760 R2761 v2763 => ?_)
  have G2764 := rq_G_t G2754 (rq_G_of F2760)
  have w2765 : A2757 97 = (A 97) := (F2760.2.2.2.2.2.2 97 (by decide) (by decide)).trans w2745
  have w2766 : A2757 98 = (A 98) := (F2760.2.2.2.2.2.2 98 (by decide) (by decide)).trans w2746
  have w2767 : A2757 99 = (A 99) := (F2760.2.2.2.2.2.2 99 (by decide) (by decide)).trans w2747
  have w2768 : A2757 100 = (upd (A 100) ((s2653 8819)).toInt.toNat (mm_nar 0 r2680)) := (F2760.2.2.2.2.2.2 100 (by decide) (by decide)).trans w2748
  have w2769 : A2757 101 = (upd (A 101) ((s2674 8819)).toInt.toNat (mm_nar 0 r2721)) := (F2760.2.2.2.2.2.2 101 (by decide) (by decide)).trans w2749
  have w2770 : A2757 102 = (A 102) := (F2760.2.2.2.2.2.2 102 (by decide) (by decide)).trans w2750
  have w2771 : A2757 103 = (A 103) := (F2760.2.2.2.2.2.2 103 (by decide) (by decide)).trans w2751
  have w2772 : A2757 104 = (A 104) := (F2760.2.2.2.2.2.2 104 (by decide) (by decide)).trans w2752
  have w2773 : A2757 105 = (A 105) := (F2760.2.2.2.2.2.2 105 (by decide) (by decide)).trans w2753
  have d2774 : (s2756 8819).toInt = (s 8819).toInt := congrArg Int32.toInt (G2764.1.2.2.2.2)
  rw [show (c2739 : Int32).toInt = 0 from e2740, show (c2741 : Int32).toInt = 99 from e2742] at R2761
  have u2775 := R2761.1
  have d19 : (s2756 8819).toInt = (s 8819).toInt := congrArg Int32.toInt (G2764.1.2.2.2.2)
  show bp_G E PO NN ((99, 157, _, [.int r2762, .int (s2715 8819), .ref (E.1 + 102)], 0, 0) :: gs, h2755, none)
  refine bn_iasF (pc' := 158) bu_99_157 rfl rfl (fun _ _ _ => rfl) hP2759 rz_a102 (Or.inl rfl) (fun b2778 b2779 h2776 hP2777 => ?_)
  refine bp_ld (pc' := 159) bu_99_158 rfl rfl (fun _ _ _ => rfl) rfl rfl ?_
  refine bp_c (pc' := 160) (n := 4) bu_99_159 rfl rfl (fun _ _ _ => rfl) (by decide) (fun c2780 e2781 => ?_)
  refine bn_cvF (pc' := 163) (st := []) (args := [.int c2780]) bu_99_160 rfl rfl rfl (by decide) hP2777 rz_o88 (by decide) rfl (Nat.le_of_ble_eq_true rfl) (Nat.le_of_ble_eq_true rfl) ?_
  have R2782 : rq_R K P M (py_nu K V 0 99 (py_nu K V 0 999 (py_nu K V 1 99 (py_go σ)))) ns 0 0 s2756 (bh_up A2757 102 ((s2715 8819)).toInt.toNat (mm_nar 0 r2762)) L2758 := rq_R_s R2761 rfl rfl rfl rfl rfl rfl rfl rfl (bh_up_ne (by decide))
  have d19 : (s2756 8819).toInt = (s 8819).toInt := congrArg Int32.toInt (G2764.1.2.2.2.2)
  have G2783 : rq_G s2756 A2757 L2758 s2756 (bh_up A2757 102 ((s2715 8819)).toInt.toNat (mm_nar 0 r2762)) L2758 := ⟨⟨rfl, rfl, rfl, rfl, rfl⟩, ⟨(bh_up_ne (by decide)), (bh_up_ne (by decide)), (bh_up_ne (by decide)), (bh_up_ne (by decide)), (bh_up_ne (by decide))⟩, rfl, rfl, rfl, (bh_up_ne (by decide)), rq_D_up rq_D_r (Or.inr (Or.inr ⟨by decide, by decide, by omega⟩))⟩
  have w2784 : (bh_up A2757 102 ((s2715 8819)).toInt.toNat (mm_nar 0 r2762)) 97 = (A 97) := (bh_up_ne (by decide)).trans w2765
  have w2785 : (bh_up A2757 102 ((s2715 8819)).toInt.toNat (mm_nar 0 r2762)) 98 = (A 98) := (bh_up_ne (by decide)).trans w2766
  have w2786 : (bh_up A2757 102 ((s2715 8819)).toInt.toNat (mm_nar 0 r2762)) 99 = (A 99) := (bh_up_ne (by decide)).trans w2767
  have w2787 : (bh_up A2757 102 ((s2715 8819)).toInt.toNat (mm_nar 0 r2762)) 100 = (upd (A 100) ((s2653 8819)).toInt.toNat (mm_nar 0 r2680)) := (bh_up_ne (by decide)).trans w2768
  have w2788 : (bh_up A2757 102 ((s2715 8819)).toInt.toNat (mm_nar 0 r2762)) 101 = (upd (A 101) ((s2674 8819)).toInt.toNat (mm_nar 0 r2721)) := (bh_up_ne (by decide)).trans w2769
  have w2789 : (bh_up A2757 102 ((s2715 8819)).toInt.toNat (mm_nar 0 r2762)) 102 = (upd (A 102) ((s2715 8819)).toInt.toNat (mm_nar 0 r2762)) := bh_up_eq.trans (congrArg (fun f => upd f ((s2715 8819)).toInt.toNat (mm_nar 0 r2762)) w2770)
  have w2790 : (bh_up A2757 102 ((s2715 8819)).toInt.toNat (mm_nar 0 r2762)) 103 = (A 103) := (bh_up_ne (by decide)).trans w2771
  have w2791 : (bh_up A2757 102 ((s2715 8819)).toInt.toNat (mm_nar 0 r2762)) 104 = (A 104) := (bh_up_ne (by decide)).trans w2772
  have w2792 : (bh_up A2757 102 ((s2715 8819)).toInt.toNat (mm_nar 0 r2762)) 105 = (A 105) := (bh_up_ne (by decide)).trans w2773
  have G2793 := rq_G_t G2764 G2783
  refine rr_67 (kc := 4) hP2777 (by omega) (by decide) (by decide) R2782 (rq_T_G hT G2793) (fun h2794 s2795 A2796 L2797 hP2798 F2799 R2800 => ?_)
  have G2801 := rq_G_t G2793 (rq_G_of F2799)
  have w2802 : A2796 97 = (A 97) := (F2799.2.2.2.2.2.2 97 (by decide) (by decide)).trans w2784
  have w2803 : A2796 98 = (A 98) := (F2799.2.2.2.2.2.2 98 (by decide) (by decide)).trans w2785
  have w2804 : A2796 99 = (A 99) := (F2799.2.2.2.2.2.2 99 (by decide) (by decide)).trans w2786
  have w2805 : A2796 100 = (upd (A 100) ((s2653 8819)).toInt.toNat (mm_nar 0 r2680)) := (F2799.2.2.2.2.2.2 100 (by decide) (by decide)).trans w2787
  have w2806 : A2796 101 = (upd (A 101) ((s2674 8819)).toInt.toNat (mm_nar 0 r2721)) := (F2799.2.2.2.2.2.2 101 (by decide) (by decide)).trans w2788
  have w2807 : A2796 102 = (upd (A 102) ((s2715 8819)).toInt.toNat (mm_nar 0 r2762)) := (F2799.2.2.2.2.2.2 102 (by decide) (by decide)).trans w2789
  have w2808 : A2796 103 = (A 103) := (F2799.2.2.2.2.2.2 103 (by decide) (by decide)).trans w2790
  have w2809 : A2796 104 = (A 104) := (F2799.2.2.2.2.2.2 104 (by decide) (by decide)).trans w2791
  have w2810 : A2796 105 = (A 105) := (F2799.2.2.2.2.2.2 105 (by decide) (by decide)).trans w2792
  have d2811 : (s2795 8819).toInt = (s 8819).toInt := congrArg Int32.toInt (G2801.1.2.2.2.2)
  have u2812 := R2800.1
  show bp_G E PO NN ((99, 163, _, [], 0, 0) :: gs, h2794, none)
  refine bp_go (pc' := 306) bu_99_163 rfl ?_
  refine bp_rv bu_99_306 ?_
  have ee : py_tell K V Q σ = (py_mu K 4 (py_nu K V 0 99 (py_nu K V 0 999 (py_nu K V 1 99 (py_go σ))))) := by
    unfold py_tell
    rw [if_neg (not_not_intro hq0), if_neg (by omega), if_neg (by omega), if_pos (by omega)]
  have en : (py_tell K V Q σ).2.2.2.2 = ns := by
    rw [ee, py_n_mu, py_n_nu, py_n_nu, py_n_nu, py_n_go]
    exact hns
  refine kk _ _ _ _ hP2798 G2801 (by rw [en, ee]; exact R2800) (fun q ω hO => ?_)
  rw [ee] at q
  rw [en]
  have f3 := py_three_ok q
  have eg := (py_go_st f3.1).2
  have e3 : py_st K σ ω = py_up ω 0 (σ.1 + 1) := by
    unfold py_st
    rw [if_pos (by omega)]
  have x0 := v2681 f3.1 f3.2.1
  have x1 := v2722 f3.2.2.1.1 (by rw [f3.2.2.1.2.1]; exact f3.2.2.1.2.2)
  have x2 := v2763 f3.2.2.2.1 (by rw [f3.2.2.2.2.1]; exact f3.2.2.2.2.2)
  rw [f3.2.2.1.2.1] at x1
  rw [f3.2.2.2.2.1] at x2
  rw [eg] at x0 x1 x2
  refine rq_O_n hO w2803 w2804 ?_ ?_ ?_ ?_ ?_ ?_
  · rw [w2805, show (s 8819).toInt.toNat = ((s2653 8819)).toInt.toNat by omega, rq_up_i, e3, py_up_i, py_v_s (by omega)]
    exact x0
  · rw [w2806, show (s 8819).toInt.toNat = ((s2674 8819)).toInt.toNat by omega, rq_up_i, e3, py_up_i, py_v_s (by omega)]
    exact x1
  · rw [w2807, show (s 8819).toInt.toNat = ((s2715 8819)).toInt.toNat by omega, rq_up_i, e3, py_up_i, py_v_s (by omega)]
    exact x2
  · rw [w2808, e3, py_up_o (by decide)]
    exact hO.2.2.2.2.1
  · rw [w2809, e3, py_up_o (by decide)]
    exact hO.2.2.2.2.2.1
  · rw [w2810, e3, py_up_o (by decide)]
    exact hO.2.2.2.2.2.2
set_option maxHeartbeats 4000000 in
theorem rr_99_166 (hP : bm_P rz_T E h0 h s A L) (hR : rq_R K P M σ ns 0 0 s A L) (hT : rq_T K V P M A) (hQ : ∀ i j, i < M → j < M → K i = 1 → K j = 1 → (Q i j = true ↔ L 94 i = L 94 j)) (hK0 : 0 ≤ K σ.1) (hq0 : σ.2.1 = 0) (hns : σ.2.2.2.2 = ns) (hd : 0 ≤ (s 8819).toInt ∧ (s 8819).toInt ≤ 1) (kk : ∀ (h' : mm_H) (s' : Nat → Int32) (A' : Nat → Nat → Int32) (L' : Nat → Nat → Int64), bm_P rz_T E h0 h' s' A' L' → rq_G s A L s' A' L' → rq_R K P M (py_tell K V Q σ) (py_tell K V Q σ).2.2.2.2 0 0 s' A' L' → ((py_tell K V Q σ).2.1 = 0 → ∀ ω, rq_O V ns ω (s 8819).toInt.toNat A → rq_O V (py_tell K V Q σ).2.2.2.2 (py_st K σ ω) (s 8819).toInt.toNat A') → bp_G E PO NN (mm_back (none) gs h')) (kc : ((A 91 ((s 8811)).toInt.toNat)).toInt = 29) : bp_G E PO NN ((99, 166, [(0, .ref (E.1 + 88))], [], 0, 0) :: gs, h, none) := by
  have q1 := hR.1
  have q2 : σ.2.1 = 0 → (s 8811).toInt = (σ.1 : Int) ∧ (A 91 (s 8811).toInt.toNat).toInt = K σ.1 ∧ (K σ.1 = 2 → (A 93 (s 8811).toInt.toNat).toInt = V σ.1) ∧ (A 92 (s 8811).toInt.toNat).toInt = P σ.1 := fun hf => by
    have a1 := hR.2.1 hf
    have ei : (s 8811).toInt.toNat = σ.1 := by omega
    have a2 := hT.2.2.1 σ.1 a1.2.1
    rw [ei]
    exact ⟨a1.1, a2.1, a2.2.2, a2.2.1⟩
  have q3 := q2 hq0
  have r2 := hR.2.1 hq0
  have hK1 := hK0
  have r5 := r2.2.2.2.2.1
  have r6 := r2.2.2.2.2.2.1
  have r9 := r2.2.2.2.2.2.2.2.1
  refine bp_ld (pc' := 167) bu_99_166 rfl rfl (fun _ _ _ => rfl) rfl rfl ?_
  refine bn_cvF (pc' := 170) (st := []) (args := []) bu_99_167 rfl rfl rfl (by decide) hP rz_o88 (by decide) rfl (Nat.le_of_ble_eq_true rfl) (Nat.le_of_ble_eq_true rfl) ?_
  refine rr_37 hP (by decide) hR hT (fun _ => by omega) (fun h2814 s2815 A2816 L2817 hP2818 F2819 R2820 => ?_)
  have w2821 : A2816 97 = (A 97) := (F2819.2.2.2.2.2.2 97 (by decide) (by decide))
  have w2822 : A2816 98 = (A 98) := (F2819.2.2.2.2.2.2 98 (by decide) (by decide))
  have w2823 : A2816 99 = (A 99) := (F2819.2.2.2.2.2.2 99 (by decide) (by decide))
  have w2824 : A2816 100 = (A 100) := (F2819.2.2.2.2.2.2 100 (by decide) (by decide))
  have w2825 : A2816 101 = (A 101) := (F2819.2.2.2.2.2.2 101 (by decide) (by decide))
  have w2826 : A2816 102 = (A 102) := (F2819.2.2.2.2.2.2 102 (by decide) (by decide))
  have w2827 : A2816 103 = (A 103) := (F2819.2.2.2.2.2.2 103 (by decide) (by decide))
  have w2828 : A2816 104 = (A 104) := (F2819.2.2.2.2.2.2 104 (by decide) (by decide))
  have w2829 : A2816 105 = (A 105) := (F2819.2.2.2.2.2.2 105 (by decide) (by decide))
  have d2830 : (s2815 8819).toInt = (s 8819).toInt := congrArg Int32.toInt (F2819.1.2.2.2.2)
  show bp_G E PO NN ((99, 170, _, [], 0, 0) :: gs, h2814, none)
  refine bp_ld (pc' := 171) bu_99_170 rfl rfl (fun _ _ _ => rfl) rfl rfl ?_
  refine bn_gr (pc' := 174) (t := 103) bu_99_171 rfl rfl (fun _ _ _ => rfl) hP2818 rz_o88 rz_r88_28 ?_
  refine bp_ld (pc' := 175) bu_99_174 rfl rfl (fun _ _ _ => rfl) rfl rfl ?_
  refine bn_gi (pc' := 178) (K := 8819) bu_99_175 rfl rfl (fun _ _ _ => rfl) hP2818 rz_o88 rz_i88_19 rfl rfl ?_
  refine bp_ld (pc' := 179) bu_99_178 rfl rfl (fun _ _ _ => rfl) rfl rfl ?_
  refine bp_c (pc' := 180) (n := 1) bu_99_179 rfl rfl (fun _ _ _ => rfl) (by decide) (fun c2831 e2832 => ?_)
  refine bp_c (pc' := 183) (n := 999) bu_99_180 rfl rfl (fun _ _ _ => rfl) (by decide) (fun c2833 e2834 => ?_)
  refine bn_cvF (pc' := 186) (st := [.int (s2815 8819), .ref (E.1 + 103)]) (args := [.int c2833, .int c2831]) bu_99_183 rfl rfl rfl (by decide) hP2818 rz_o88 (by decide) rfl (Nat.le_of_ble_eq_true rfl) (Nat.le_of_ble_eq_true rfl) ?_
  refine rr_10 hP2818 R2820 (rq_T_F hT F2819) (fun h2835 s2836 A2837 L2838 r2842 hP2839 F2840 R2841 v2843 => ?_)
  have F2844 := rq_F_t F2819 F2840
  have w2845 : A2837 97 = (A 97) := (F2840.2.2.2.2.2.2 97 (by decide) (by decide)).trans w2821
  have w2846 : A2837 98 = (A 98) := (F2840.2.2.2.2.2.2 98 (by decide) (by decide)).trans w2822
  have w2847 : A2837 99 = (A 99) := (F2840.2.2.2.2.2.2 99 (by decide) (by decide)).trans w2823
  have w2848 : A2837 100 = (A 100) := (F2840.2.2.2.2.2.2 100 (by decide) (by decide)).trans w2824
  have w2849 : A2837 101 = (A 101) := (F2840.2.2.2.2.2.2 101 (by decide) (by decide)).trans w2825
  have w2850 : A2837 102 = (A 102) := (F2840.2.2.2.2.2.2 102 (by decide) (by decide)).trans w2826
  have w2851 : A2837 103 = (A 103) := (F2840.2.2.2.2.2.2 103 (by decide) (by decide)).trans w2827
  have w2852 : A2837 104 = (A 104) := (F2840.2.2.2.2.2.2 104 (by decide) (by decide)).trans w2828
  have w2853 : A2837 105 = (A 105) := (F2840.2.2.2.2.2.2 105 (by decide) (by decide)).trans w2829
  have d2854 : (s2836 8819).toInt = (s 8819).toInt := congrArg Int32.toInt (F2844.1.2.2.2.2)
  rw [show (c2831 : Int32).toInt = 1 from e2832, show (c2833 : Int32).toInt = 999 from e2834] at R2841
  have u2855 := R2841.1
  have d19 : (s2836 8819).toInt = (s 8819).toInt := congrArg Int32.toInt (F2844.1.2.2.2.2)
  show bp_G E PO NN ((99, 186, _, [.int r2842, .int (s2815 8819), .ref (E.1 + 103)], 0, 0) :: gs, h2835, none)
  refine bn_iasF (pc' := 187) bu_99_186 rfl rfl (fun _ _ _ => rfl) hP2839 rz_a103 (Or.inl rfl) (fun b2858 b2859 h2856 hP2857 => ?_)
  refine bp_ld (pc' := 188) bu_99_187 rfl rfl (fun _ _ _ => rfl) rfl rfl ?_
  refine bp_c (pc' := 189) (n := 4) bu_99_188 rfl rfl (fun _ _ _ => rfl) (by decide) (fun c2860 e2861 => ?_)
  refine bn_cvF (pc' := 192) (st := []) (args := [.int c2860]) bu_99_189 rfl rfl rfl (by decide) hP2857 rz_o88 (by decide) rfl (Nat.le_of_ble_eq_true rfl) (Nat.le_of_ble_eq_true rfl) ?_
  have R2862 : rq_R K P M (py_nu K V 1 999 (py_go σ)) ns 0 0 s2836 (bh_up A2837 103 ((s2815 8819)).toInt.toNat (mm_nar 0 r2842)) L2838 := rq_R_s R2841 rfl rfl rfl rfl rfl rfl rfl rfl (bh_up_ne (by decide))
  have d19 : (s2836 8819).toInt = (s 8819).toInt := congrArg Int32.toInt (F2844.1.2.2.2.2)
  have G2863 : rq_G s2836 A2837 L2838 s2836 (bh_up A2837 103 ((s2815 8819)).toInt.toNat (mm_nar 0 r2842)) L2838 := ⟨⟨rfl, rfl, rfl, rfl, rfl⟩, ⟨(bh_up_ne (by decide)), (bh_up_ne (by decide)), (bh_up_ne (by decide)), (bh_up_ne (by decide)), (bh_up_ne (by decide))⟩, rfl, rfl, rfl, (bh_up_ne (by decide)), rq_D_up rq_D_r (Or.inr (Or.inr ⟨by decide, by decide, by omega⟩))⟩
  have w2864 : (bh_up A2837 103 ((s2815 8819)).toInt.toNat (mm_nar 0 r2842)) 97 = (A 97) := (bh_up_ne (by decide)).trans w2845
  have w2865 : (bh_up A2837 103 ((s2815 8819)).toInt.toNat (mm_nar 0 r2842)) 98 = (A 98) := (bh_up_ne (by decide)).trans w2846
  have w2866 : (bh_up A2837 103 ((s2815 8819)).toInt.toNat (mm_nar 0 r2842)) 99 = (A 99) := (bh_up_ne (by decide)).trans w2847
  have w2867 : (bh_up A2837 103 ((s2815 8819)).toInt.toNat (mm_nar 0 r2842)) 100 = (A 100) := (bh_up_ne (by decide)).trans w2848
  have w2868 : (bh_up A2837 103 ((s2815 8819)).toInt.toNat (mm_nar 0 r2842)) 101 = (A 101) := (bh_up_ne (by decide)).trans w2849
  have w2869 : (bh_up A2837 103 ((s2815 8819)).toInt.toNat (mm_nar 0 r2842)) 102 = (A 102) := (bh_up_ne (by decide)).trans w2850
  have w2870 : (bh_up A2837 103 ((s2815 8819)).toInt.toNat (mm_nar 0 r2842)) 103 = (upd (A 103) ((s2815 8819)).toInt.toNat (mm_nar 0 r2842)) := bh_up_eq.trans (congrArg (fun f => upd f ((s2815 8819)).toInt.toNat (mm_nar 0 r2842)) w2851)
  have w2871 : (bh_up A2837 103 ((s2815 8819)).toInt.toNat (mm_nar 0 r2842)) 104 = (A 104) := (bh_up_ne (by decide)).trans w2852
  have w2872 : (bh_up A2837 103 ((s2815 8819)).toInt.toNat (mm_nar 0 r2842)) 105 = (A 105) := (bh_up_ne (by decide)).trans w2853
  have G2873 := rq_G_t (rq_G_of F2844) G2863
  refine rr_67 (kc := 4) hP2857 (by omega) (by decide) (by decide) R2862 (rq_T_G hT G2873) (fun h2874 s2875 A2876 L2877 hP2878 F2879 R2880 => ?_)
  have G2881 := rq_G_t G2873 (rq_G_of F2879)
  have w2882 : A2876 97 = (A 97) := (F2879.2.2.2.2.2.2 97 (by decide) (by decide)).trans w2864
  have w2883 : A2876 98 = (A 98) := (F2879.2.2.2.2.2.2 98 (by decide) (by decide)).trans w2865
  have w2884 : A2876 99 = (A 99) := (F2879.2.2.2.2.2.2 99 (by decide) (by decide)).trans w2866
  have w2885 : A2876 100 = (A 100) := (F2879.2.2.2.2.2.2 100 (by decide) (by decide)).trans w2867
  have w2886 : A2876 101 = (A 101) := (F2879.2.2.2.2.2.2 101 (by decide) (by decide)).trans w2868
  have w2887 : A2876 102 = (A 102) := (F2879.2.2.2.2.2.2 102 (by decide) (by decide)).trans w2869
  have w2888 : A2876 103 = (upd (A 103) ((s2815 8819)).toInt.toNat (mm_nar 0 r2842)) := (F2879.2.2.2.2.2.2 103 (by decide) (by decide)).trans w2870
  have w2889 : A2876 104 = (A 104) := (F2879.2.2.2.2.2.2 104 (by decide) (by decide)).trans w2871
  have w2890 : A2876 105 = (A 105) := (F2879.2.2.2.2.2.2 105 (by decide) (by decide)).trans w2872
  have d2891 : (s2875 8819).toInt = (s 8819).toInt := congrArg Int32.toInt (G2881.1.2.2.2.2)
  have u2892 := R2880.1
  show bp_G E PO NN ((99, 192, _, [], 0, 0) :: gs, h2874, none)
  refine bp_go (pc' := 306) bu_99_192 rfl ?_
  refine bp_rv bu_99_306 ?_
  have ee : py_tell K V Q σ = (py_mu K 4 (py_nu K V 1 999 (py_go σ))) := by
    unfold py_tell
    rw [if_neg (not_not_intro hq0), if_neg (by omega), if_neg (by omega), if_neg (by omega), if_pos (by omega)]
  have en : (py_tell K V Q σ).2.2.2.2 = ns := by
    rw [ee, py_n_mu, py_n_nu, py_n_go]
    exact hns
  refine kk _ _ _ _ hP2878 G2881 (by rw [en, ee]; exact R2880) (fun q ω hO => ?_)
  rw [ee] at q
  rw [en]
  have f1 := py_one_ok q
  have eg := (py_go_st f1.1).2
  have x0 := v2843 f1.1 f1.2
  rw [eg] at x0
  have e3 : py_st K σ ω = py_up ω 1 (σ.1 + 1) := by
    unfold py_st
    rw [if_neg (by omega), if_pos (by omega)]
  refine rq_O_n hO w2883 w2884 ?_ ?_ ?_ ?_ ?_ ?_
  · rw [w2885, e3, py_up_o (by decide)]
    exact hO.2.1
  · rw [w2886, e3, py_up_o (by decide)]
    exact hO.2.2.1
  · rw [w2887, e3, py_up_o (by decide)]
    exact hO.2.2.2.1
  · rw [w2888, show (s 8819).toInt.toNat = ((s2815 8819)).toInt.toNat by omega, rq_up_i, e3, py_up_i, py_v_s (by omega)]
    exact x0
  · rw [w2889, e3, py_up_o (by decide)]
    exact hO.2.2.2.2.2.1
  · rw [w2890, e3, py_up_o (by decide)]
    exact hO.2.2.2.2.2.2
set_option maxHeartbeats 4000000 in
theorem rr_99_195 (hP : bm_P rz_T E h0 h s A L) (hR : rq_R K P M σ ns 0 0 s A L) (hT : rq_T K V P M A) (hQ : ∀ i j, i < M → j < M → K i = 1 → K j = 1 → (Q i j = true ↔ L 94 i = L 94 j)) (hK0 : 0 ≤ K σ.1) (hq0 : σ.2.1 = 0) (hns : σ.2.2.2.2 = ns) (hd : 0 ≤ (s 8819).toInt ∧ (s 8819).toInt ≤ 1) (kk : ∀ (h' : mm_H) (s' : Nat → Int32) (A' : Nat → Nat → Int32) (L' : Nat → Nat → Int64), bm_P rz_T E h0 h' s' A' L' → rq_G s A L s' A' L' → rq_R K P M (py_tell K V Q σ) (py_tell K V Q σ).2.2.2.2 0 0 s' A' L' → ((py_tell K V Q σ).2.1 = 0 → ∀ ω, rq_O V ns ω (s 8819).toInt.toNat A → rq_O V (py_tell K V Q σ).2.2.2.2 (py_st K σ ω) (s 8819).toInt.toNat A') → bp_G E PO NN (mm_back (none) gs h')) (kc : ((A 91 ((s 8811)).toInt.toNat)).toInt = 30) : bp_G E PO NN ((99, 195, [(0, .ref (E.1 + 88))], [], 0, 0) :: gs, h, none) := by
  have q1 := hR.1
  have q2 : σ.2.1 = 0 → (s 8811).toInt = (σ.1 : Int) ∧ (A 91 (s 8811).toInt.toNat).toInt = K σ.1 ∧ (K σ.1 = 2 → (A 93 (s 8811).toInt.toNat).toInt = V σ.1) ∧ (A 92 (s 8811).toInt.toNat).toInt = P σ.1 := fun hf => by
    have a1 := hR.2.1 hf
    have ei : (s 8811).toInt.toNat = σ.1 := by omega
    have a2 := hT.2.2.1 σ.1 a1.2.1
    rw [ei]
    exact ⟨a1.1, a2.1, a2.2.2, a2.2.1⟩
  have q3 := q2 hq0
  have r2 := hR.2.1 hq0
  have hK1 := hK0
  have r5 := r2.2.2.2.2.1
  have r6 := r2.2.2.2.2.2.1
  have r9 := r2.2.2.2.2.2.2.2.1
  refine bp_ld (pc' := 196) bu_99_195 rfl rfl (fun _ _ _ => rfl) rfl rfl ?_
  refine bn_cvF (pc' := 199) (st := []) (args := []) bu_99_196 rfl rfl rfl (by decide) hP rz_o88 (by decide) rfl (Nat.le_of_ble_eq_true rfl) (Nat.le_of_ble_eq_true rfl) ?_
  refine rr_37 hP (by decide) hR hT (fun _ => by omega) (fun h2894 s2895 A2896 L2897 hP2898 F2899 R2900 => ?_)
  have w2901 : A2896 97 = (A 97) := (F2899.2.2.2.2.2.2 97 (by decide) (by decide))
  have w2902 : A2896 98 = (A 98) := (F2899.2.2.2.2.2.2 98 (by decide) (by decide))
  have w2903 : A2896 99 = (A 99) := (F2899.2.2.2.2.2.2 99 (by decide) (by decide))
  have w2904 : A2896 100 = (A 100) := (F2899.2.2.2.2.2.2 100 (by decide) (by decide))
  have w2905 : A2896 101 = (A 101) := (F2899.2.2.2.2.2.2 101 (by decide) (by decide))
  have w2906 : A2896 102 = (A 102) := (F2899.2.2.2.2.2.2 102 (by decide) (by decide))
  have w2907 : A2896 103 = (A 103) := (F2899.2.2.2.2.2.2 103 (by decide) (by decide))
  have w2908 : A2896 104 = (A 104) := (F2899.2.2.2.2.2.2 104 (by decide) (by decide))
  have w2909 : A2896 105 = (A 105) := (F2899.2.2.2.2.2.2 105 (by decide) (by decide))
  have d2910 : (s2895 8819).toInt = (s 8819).toInt := congrArg Int32.toInt (F2899.1.2.2.2.2)
  show bp_G E PO NN ((99, 199, _, [], 0, 0) :: gs, h2894, none)
  refine bp_ld (pc' := 200) bu_99_199 rfl rfl (fun _ _ _ => rfl) rfl rfl ?_
  refine bn_gr (pc' := 203) (t := 104) bu_99_200 rfl rfl (fun _ _ _ => rfl) hP2898 rz_o88 rz_r88_29 ?_
  refine bp_ld (pc' := 204) bu_99_203 rfl rfl (fun _ _ _ => rfl) rfl rfl ?_
  refine bn_gi (pc' := 207) (K := 8819) bu_99_204 rfl rfl (fun _ _ _ => rfl) hP2898 rz_o88 rz_i88_19 rfl rfl ?_
  refine bp_ld (pc' := 208) bu_99_207 rfl rfl (fun _ _ _ => rfl) rfl rfl ?_
  refine bp_c (pc' := 209) (n := 0) bu_99_208 rfl rfl (fun _ _ _ => rfl) (by decide) (fun c2911 e2912 => ?_)
  refine bp_c (pc' := 212) (n := 9999) bu_99_209 rfl rfl (fun _ _ _ => rfl) (by decide) (fun c2913 e2914 => ?_)
  refine bn_cvF (pc' := 215) (st := [.int (s2895 8819), .ref (E.1 + 104)]) (args := [.int c2913, .int c2911]) bu_99_212 rfl rfl rfl (by decide) hP2898 rz_o88 (by decide) rfl (Nat.le_of_ble_eq_true rfl) (Nat.le_of_ble_eq_true rfl) ?_
  refine rr_10 hP2898 R2900 (rq_T_F hT F2899) (fun h2915 s2916 A2917 L2918 r2922 hP2919 F2920 R2921 v2923 => ?_)
  have F2924 := rq_F_t F2899 F2920
  have w2925 : A2917 97 = (A 97) := (F2920.2.2.2.2.2.2 97 (by decide) (by decide)).trans w2901
  have w2926 : A2917 98 = (A 98) := (F2920.2.2.2.2.2.2 98 (by decide) (by decide)).trans w2902
  have w2927 : A2917 99 = (A 99) := (F2920.2.2.2.2.2.2 99 (by decide) (by decide)).trans w2903
  have w2928 : A2917 100 = (A 100) := (F2920.2.2.2.2.2.2 100 (by decide) (by decide)).trans w2904
  have w2929 : A2917 101 = (A 101) := (F2920.2.2.2.2.2.2 101 (by decide) (by decide)).trans w2905
  have w2930 : A2917 102 = (A 102) := (F2920.2.2.2.2.2.2 102 (by decide) (by decide)).trans w2906
  have w2931 : A2917 103 = (A 103) := (F2920.2.2.2.2.2.2 103 (by decide) (by decide)).trans w2907
  have w2932 : A2917 104 = (A 104) := (F2920.2.2.2.2.2.2 104 (by decide) (by decide)).trans w2908
  have w2933 : A2917 105 = (A 105) := (F2920.2.2.2.2.2.2 105 (by decide) (by decide)).trans w2909
  have d2934 : (s2916 8819).toInt = (s 8819).toInt := congrArg Int32.toInt (F2924.1.2.2.2.2)
  rw [show (c2911 : Int32).toInt = 0 from e2912, show (c2913 : Int32).toInt = 9999 from e2914] at R2921
  have u2935 := R2921.1
  have d19 : (s2916 8819).toInt = (s 8819).toInt := congrArg Int32.toInt (F2924.1.2.2.2.2)
  show bp_G E PO NN ((99, 215, _, [.int r2922, .int (s2895 8819), .ref (E.1 + 104)], 0, 0) :: gs, h2915, none)
  refine bn_iasF (pc' := 216) bu_99_215 rfl rfl (fun _ _ _ => rfl) hP2919 rz_a104 (Or.inl rfl) (fun b2938 b2939 h2936 hP2937 => ?_)
  refine bp_ld (pc' := 217) bu_99_216 rfl rfl (fun _ _ _ => rfl) rfl rfl ?_
  refine bp_c (pc' := 218) (n := 4) bu_99_217 rfl rfl (fun _ _ _ => rfl) (by decide) (fun c2940 e2941 => ?_)
  refine bn_cvF (pc' := 221) (st := []) (args := [.int c2940]) bu_99_218 rfl rfl rfl (by decide) hP2937 rz_o88 (by decide) rfl (Nat.le_of_ble_eq_true rfl) (Nat.le_of_ble_eq_true rfl) ?_
  have R2942 : rq_R K P M (py_nu K V 0 9999 (py_go σ)) ns 0 0 s2916 (bh_up A2917 104 ((s2895 8819)).toInt.toNat (mm_nar 0 r2922)) L2918 := rq_R_s R2921 rfl rfl rfl rfl rfl rfl rfl rfl (bh_up_ne (by decide))
  have d19 : (s2916 8819).toInt = (s 8819).toInt := congrArg Int32.toInt (F2924.1.2.2.2.2)
  have G2943 : rq_G s2916 A2917 L2918 s2916 (bh_up A2917 104 ((s2895 8819)).toInt.toNat (mm_nar 0 r2922)) L2918 := ⟨⟨rfl, rfl, rfl, rfl, rfl⟩, ⟨(bh_up_ne (by decide)), (bh_up_ne (by decide)), (bh_up_ne (by decide)), (bh_up_ne (by decide)), (bh_up_ne (by decide))⟩, rfl, rfl, rfl, (bh_up_ne (by decide)), rq_D_up rq_D_r (Or.inr (Or.inr ⟨by decide, by decide, by omega⟩))⟩
  have w2944 : (bh_up A2917 104 ((s2895 8819)).toInt.toNat (mm_nar 0 r2922)) 97 = (A 97) := (bh_up_ne (by decide)).trans w2925
  have w2945 : (bh_up A2917 104 ((s2895 8819)).toInt.toNat (mm_nar 0 r2922)) 98 = (A 98) := (bh_up_ne (by decide)).trans w2926
  have w2946 : (bh_up A2917 104 ((s2895 8819)).toInt.toNat (mm_nar 0 r2922)) 99 = (A 99) := (bh_up_ne (by decide)).trans w2927
  have w2947 : (bh_up A2917 104 ((s2895 8819)).toInt.toNat (mm_nar 0 r2922)) 100 = (A 100) := (bh_up_ne (by decide)).trans w2928
  have w2948 : (bh_up A2917 104 ((s2895 8819)).toInt.toNat (mm_nar 0 r2922)) 101 = (A 101) := (bh_up_ne (by decide)).trans w2929
  have w2949 : (bh_up A2917 104 ((s2895 8819)).toInt.toNat (mm_nar 0 r2922)) 102 = (A 102) := (bh_up_ne (by decide)).trans w2930
  have w2950 : (bh_up A2917 104 ((s2895 8819)).toInt.toNat (mm_nar 0 r2922)) 103 = (A 103) := (bh_up_ne (by decide)).trans w2931
  have w2951 : (bh_up A2917 104 ((s2895 8819)).toInt.toNat (mm_nar 0 r2922)) 104 = (upd (A 104) ((s2895 8819)).toInt.toNat (mm_nar 0 r2922)) := bh_up_eq.trans (congrArg (fun f => upd f ((s2895 8819)).toInt.toNat (mm_nar 0 r2922)) w2932)
  have w2952 : (bh_up A2917 104 ((s2895 8819)).toInt.toNat (mm_nar 0 r2922)) 105 = (A 105) := (bh_up_ne (by decide)).trans w2933
  have G2953 := rq_G_t (rq_G_of F2924) G2943
  refine rr_67 (kc := 4) hP2937 (by omega) (by decide) (by decide) R2942 (rq_T_G hT G2953) (fun h2954 s2955 A2956 L2957 hP2958 F2959 R2960 => ?_)
  have G2961 := rq_G_t G2953 (rq_G_of F2959)
  have w2962 : A2956 97 = (A 97) := (F2959.2.2.2.2.2.2 97 (by decide) (by decide)).trans w2944
  have w2963 : A2956 98 = (A 98) := (F2959.2.2.2.2.2.2 98 (by decide) (by decide)).trans w2945
  have w2964 : A2956 99 = (A 99) := (F2959.2.2.2.2.2.2 99 (by decide) (by decide)).trans w2946
  have w2965 : A2956 100 = (A 100) := (F2959.2.2.2.2.2.2 100 (by decide) (by decide)).trans w2947
  have w2966 : A2956 101 = (A 101) := (F2959.2.2.2.2.2.2 101 (by decide) (by decide)).trans w2948
  have w2967 : A2956 102 = (A 102) := (F2959.2.2.2.2.2.2 102 (by decide) (by decide)).trans w2949
  have w2968 : A2956 103 = (A 103) := (F2959.2.2.2.2.2.2 103 (by decide) (by decide)).trans w2950
  have w2969 : A2956 104 = (upd (A 104) ((s2895 8819)).toInt.toNat (mm_nar 0 r2922)) := (F2959.2.2.2.2.2.2 104 (by decide) (by decide)).trans w2951
  have w2970 : A2956 105 = (A 105) := (F2959.2.2.2.2.2.2 105 (by decide) (by decide)).trans w2952
  have d2971 : (s2955 8819).toInt = (s 8819).toInt := congrArg Int32.toInt (G2961.1.2.2.2.2)
  have u2972 := R2960.1
  show bp_G E PO NN ((99, 221, _, [], 0, 0) :: gs, h2954, none)
  refine bp_go (pc' := 306) bu_99_221 rfl ?_
  refine bp_rv bu_99_306 ?_
  have ee : py_tell K V Q σ = (py_mu K 4 (py_nu K V 0 9999 (py_go σ))) := by
    unfold py_tell
    rw [if_neg (not_not_intro hq0), if_neg (by omega), if_neg (by omega), if_neg (by omega), if_neg (by omega), if_pos (by omega)]
  have en : (py_tell K V Q σ).2.2.2.2 = ns := by
    rw [ee, py_n_mu, py_n_nu, py_n_go]
    exact hns
  refine kk _ _ _ _ hP2958 G2961 (by rw [en, ee]; exact R2960) (fun q ω hO => ?_)
  rw [ee] at q
  rw [en]
  have f1 := py_one_ok q
  have eg := (py_go_st f1.1).2
  have x0 := v2923 f1.1 f1.2
  rw [eg] at x0
  have e3 : py_st K σ ω = py_up ω 2 (σ.1 + 1) := by
    unfold py_st
    rw [if_neg (by omega), if_neg (by omega), if_pos (by omega)]
  refine rq_O_n hO w2963 w2964 ?_ ?_ ?_ ?_ ?_ ?_
  · rw [w2965, e3, py_up_o (by decide)]
    exact hO.2.1
  · rw [w2966, e3, py_up_o (by decide)]
    exact hO.2.2.1
  · rw [w2967, e3, py_up_o (by decide)]
    exact hO.2.2.2.1
  · rw [w2968, e3, py_up_o (by decide)]
    exact hO.2.2.2.2.1
  · rw [w2969, show (s 8819).toInt.toNat = ((s2895 8819)).toInt.toNat by omega, rq_up_i, e3, py_up_i, py_v_s (by omega)]
    exact x0
  · rw [w2970, e3, py_up_o (by decide)]
    exact hO.2.2.2.2.2.2
set_option maxHeartbeats 4000000 in
theorem rr_99_224 (hP : bm_P rz_T E h0 h s A L) (hR : rq_R K P M σ ns 0 0 s A L) (hT : rq_T K V P M A) (hQ : ∀ i j, i < M → j < M → K i = 1 → K j = 1 → (Q i j = true ↔ L 94 i = L 94 j)) (hK0 : 0 ≤ K σ.1) (hq0 : σ.2.1 = 0) (hns : σ.2.2.2.2 = ns) (hd : 0 ≤ (s 8819).toInt ∧ (s 8819).toInt ≤ 1) (kk : ∀ (h' : mm_H) (s' : Nat → Int32) (A' : Nat → Nat → Int32) (L' : Nat → Nat → Int64), bm_P rz_T E h0 h' s' A' L' → rq_G s A L s' A' L' → rq_R K P M (py_tell K V Q σ) (py_tell K V Q σ).2.2.2.2 0 0 s' A' L' → ((py_tell K V Q σ).2.1 = 0 → ∀ ω, rq_O V ns ω (s 8819).toInt.toNat A → rq_O V (py_tell K V Q σ).2.2.2.2 (py_st K σ ω) (s 8819).toInt.toNat A') → bp_G E PO NN (mm_back (none) gs h')) (kc : ((A 91 ((s 8811)).toInt.toNat)).toInt = 31) : bp_G E PO NN ((99, 224, [(0, .ref (E.1 + 88))], [], 0, 0) :: gs, h, none) := by
  have q1 := hR.1
  have q2 : σ.2.1 = 0 → (s 8811).toInt = (σ.1 : Int) ∧ (A 91 (s 8811).toInt.toNat).toInt = K σ.1 ∧ (K σ.1 = 2 → (A 93 (s 8811).toInt.toNat).toInt = V σ.1) ∧ (A 92 (s 8811).toInt.toNat).toInt = P σ.1 := fun hf => by
    have a1 := hR.2.1 hf
    have ei : (s 8811).toInt.toNat = σ.1 := by omega
    have a2 := hT.2.2.1 σ.1 a1.2.1
    rw [ei]
    exact ⟨a1.1, a2.1, a2.2.2, a2.2.1⟩
  have q3 := q2 hq0
  have r2 := hR.2.1 hq0
  have hK1 := hK0
  have r5 := r2.2.2.2.2.1
  have r6 := r2.2.2.2.2.2.1
  have r9 := r2.2.2.2.2.2.2.2.1
  refine bp_ld (pc' := 225) bu_99_224 rfl rfl (fun _ _ _ => rfl) rfl rfl ?_
  refine bn_cvF (pc' := 228) (st := []) (args := []) bu_99_225 rfl rfl rfl (by decide) hP rz_o88 (by decide) rfl (Nat.le_of_ble_eq_true rfl) (Nat.le_of_ble_eq_true rfl) ?_
  refine rr_37 hP (by decide) hR hT (fun _ => by omega) (fun h2974 s2975 A2976 L2977 hP2978 F2979 R2980 => ?_)
  have w2981 : A2976 97 = (A 97) := (F2979.2.2.2.2.2.2 97 (by decide) (by decide))
  have w2982 : A2976 98 = (A 98) := (F2979.2.2.2.2.2.2 98 (by decide) (by decide))
  have w2983 : A2976 99 = (A 99) := (F2979.2.2.2.2.2.2 99 (by decide) (by decide))
  have w2984 : A2976 100 = (A 100) := (F2979.2.2.2.2.2.2 100 (by decide) (by decide))
  have w2985 : A2976 101 = (A 101) := (F2979.2.2.2.2.2.2 101 (by decide) (by decide))
  have w2986 : A2976 102 = (A 102) := (F2979.2.2.2.2.2.2 102 (by decide) (by decide))
  have w2987 : A2976 103 = (A 103) := (F2979.2.2.2.2.2.2 103 (by decide) (by decide))
  have w2988 : A2976 104 = (A 104) := (F2979.2.2.2.2.2.2 104 (by decide) (by decide))
  have w2989 : A2976 105 = (A 105) := (F2979.2.2.2.2.2.2 105 (by decide) (by decide))
  have d2990 : (s2975 8819).toInt = (s 8819).toInt := congrArg Int32.toInt (F2979.1.2.2.2.2)
  show bp_G E PO NN ((99, 228, _, [], 0, 0) :: gs, h2974, none)
  refine bp_ld (pc' := 229) bu_99_228 rfl rfl (fun _ _ _ => rfl) rfl rfl ?_
  refine bn_gr (pc' := 232) (t := 105) bu_99_229 rfl rfl (fun _ _ _ => rfl) hP2978 rz_o88 rz_r88_30 ?_
  refine bp_ld (pc' := 233) bu_99_232 rfl rfl (fun _ _ _ => rfl) rfl rfl ?_
  refine bn_gi (pc' := 236) (K := 8819) bu_99_233 rfl rfl (fun _ _ _ => rfl) hP2978 rz_o88 rz_i88_19 rfl rfl ?_
  refine bp_ld (pc' := 237) bu_99_236 rfl rfl (fun _ _ _ => rfl) rfl rfl ?_
  refine bp_c (pc' := 238) (n := 0) bu_99_237 rfl rfl (fun _ _ _ => rfl) (by decide) (fun c2991 e2992 => ?_)
  refine bp_c (pc' := 241) (n := 9999) bu_99_238 rfl rfl (fun _ _ _ => rfl) (by decide) (fun c2993 e2994 => ?_)
  refine bn_cvF (pc' := 244) (st := [.int (s2975 8819), .ref (E.1 + 105)]) (args := [.int c2993, .int c2991]) bu_99_241 rfl rfl rfl (by decide) hP2978 rz_o88 (by decide) rfl (Nat.le_of_ble_eq_true rfl) (Nat.le_of_ble_eq_true rfl) ?_
  refine rr_10 hP2978 R2980 (rq_T_F hT F2979) (fun h2995 s2996 A2997 L2998 r3002 hP2999 F3000 R3001 v3003 => ?_)
  have F3004 := rq_F_t F2979 F3000
  have w3005 : A2997 97 = (A 97) := (F3000.2.2.2.2.2.2 97 (by decide) (by decide)).trans w2981
  have w3006 : A2997 98 = (A 98) := (F3000.2.2.2.2.2.2 98 (by decide) (by decide)).trans w2982
  have w3007 : A2997 99 = (A 99) := (F3000.2.2.2.2.2.2 99 (by decide) (by decide)).trans w2983
  have w3008 : A2997 100 = (A 100) := (F3000.2.2.2.2.2.2 100 (by decide) (by decide)).trans w2984
  have w3009 : A2997 101 = (A 101) := (F3000.2.2.2.2.2.2 101 (by decide) (by decide)).trans w2985
  have w3010 : A2997 102 = (A 102) := (F3000.2.2.2.2.2.2 102 (by decide) (by decide)).trans w2986
  have w3011 : A2997 103 = (A 103) := (F3000.2.2.2.2.2.2 103 (by decide) (by decide)).trans w2987
  have w3012 : A2997 104 = (A 104) := (F3000.2.2.2.2.2.2 104 (by decide) (by decide)).trans w2988
  have w3013 : A2997 105 = (A 105) := (F3000.2.2.2.2.2.2 105 (by decide) (by decide)).trans w2989
  have d3014 : (s2996 8819).toInt = (s 8819).toInt := congrArg Int32.toInt (F3004.1.2.2.2.2)
  rw [show (c2991 : Int32).toInt = 0 from e2992, show (c2993 : Int32).toInt = 9999 from e2994] at R3001
  have u3015 := R3001.1
  have d19 : (s2996 8819).toInt = (s 8819).toInt := congrArg Int32.toInt (F3004.1.2.2.2.2)
  show bp_G E PO NN ((99, 244, _, [.int r3002, .int (s2975 8819), .ref (E.1 + 105)], 0, 0) :: gs, h2995, none)
  refine bn_iasF (pc' := 245) bu_99_244 rfl rfl (fun _ _ _ => rfl) hP2999 rz_a105 (Or.inl rfl) (fun b3018 b3019 h3016 hP3017 => ?_)
  refine bp_ld (pc' := 246) bu_99_245 rfl rfl (fun _ _ _ => rfl) rfl rfl ?_
  refine bp_c (pc' := 247) (n := 4) bu_99_246 rfl rfl (fun _ _ _ => rfl) (by decide) (fun c3020 e3021 => ?_)
  refine bn_cvF (pc' := 250) (st := []) (args := [.int c3020]) bu_99_247 rfl rfl rfl (by decide) hP3017 rz_o88 (by decide) rfl (Nat.le_of_ble_eq_true rfl) (Nat.le_of_ble_eq_true rfl) ?_
  have R3022 : rq_R K P M (py_nu K V 0 9999 (py_go σ)) ns 0 0 s2996 (bh_up A2997 105 ((s2975 8819)).toInt.toNat (mm_nar 0 r3002)) L2998 := rq_R_s R3001 rfl rfl rfl rfl rfl rfl rfl rfl (bh_up_ne (by decide))
  have d19 : (s2996 8819).toInt = (s 8819).toInt := congrArg Int32.toInt (F3004.1.2.2.2.2)
  have G3023 : rq_G s2996 A2997 L2998 s2996 (bh_up A2997 105 ((s2975 8819)).toInt.toNat (mm_nar 0 r3002)) L2998 := ⟨⟨rfl, rfl, rfl, rfl, rfl⟩, ⟨(bh_up_ne (by decide)), (bh_up_ne (by decide)), (bh_up_ne (by decide)), (bh_up_ne (by decide)), (bh_up_ne (by decide))⟩, rfl, rfl, rfl, (bh_up_ne (by decide)), rq_D_up rq_D_r (Or.inr (Or.inr ⟨by decide, by decide, by omega⟩))⟩
  have w3024 : (bh_up A2997 105 ((s2975 8819)).toInt.toNat (mm_nar 0 r3002)) 97 = (A 97) := (bh_up_ne (by decide)).trans w3005
  have w3025 : (bh_up A2997 105 ((s2975 8819)).toInt.toNat (mm_nar 0 r3002)) 98 = (A 98) := (bh_up_ne (by decide)).trans w3006
  have w3026 : (bh_up A2997 105 ((s2975 8819)).toInt.toNat (mm_nar 0 r3002)) 99 = (A 99) := (bh_up_ne (by decide)).trans w3007
  have w3027 : (bh_up A2997 105 ((s2975 8819)).toInt.toNat (mm_nar 0 r3002)) 100 = (A 100) := (bh_up_ne (by decide)).trans w3008
  have w3028 : (bh_up A2997 105 ((s2975 8819)).toInt.toNat (mm_nar 0 r3002)) 101 = (A 101) := (bh_up_ne (by decide)).trans w3009
  have w3029 : (bh_up A2997 105 ((s2975 8819)).toInt.toNat (mm_nar 0 r3002)) 102 = (A 102) := (bh_up_ne (by decide)).trans w3010
  have w3030 : (bh_up A2997 105 ((s2975 8819)).toInt.toNat (mm_nar 0 r3002)) 103 = (A 103) := (bh_up_ne (by decide)).trans w3011
  have w3031 : (bh_up A2997 105 ((s2975 8819)).toInt.toNat (mm_nar 0 r3002)) 104 = (A 104) := (bh_up_ne (by decide)).trans w3012
  have w3032 : (bh_up A2997 105 ((s2975 8819)).toInt.toNat (mm_nar 0 r3002)) 105 = (upd (A 105) ((s2975 8819)).toInt.toNat (mm_nar 0 r3002)) := bh_up_eq.trans (congrArg (fun f => upd f ((s2975 8819)).toInt.toNat (mm_nar 0 r3002)) w3013)
  have G3033 := rq_G_t (rq_G_of F3004) G3023
  refine rr_67 (kc := 4) hP3017 (by omega) (by decide) (by decide) R3022 (rq_T_G hT G3033) (fun h3034 s3035 A3036 L3037 hP3038 F3039 R3040 => ?_)
  have G3041 := rq_G_t G3033 (rq_G_of F3039)
  have w3042 : A3036 97 = (A 97) := (F3039.2.2.2.2.2.2 97 (by decide) (by decide)).trans w3024
  have w3043 : A3036 98 = (A 98) := (F3039.2.2.2.2.2.2 98 (by decide) (by decide)).trans w3025
  have w3044 : A3036 99 = (A 99) := (F3039.2.2.2.2.2.2 99 (by decide) (by decide)).trans w3026
  have w3045 : A3036 100 = (A 100) := (F3039.2.2.2.2.2.2 100 (by decide) (by decide)).trans w3027
  have w3046 : A3036 101 = (A 101) := (F3039.2.2.2.2.2.2 101 (by decide) (by decide)).trans w3028
  have w3047 : A3036 102 = (A 102) := (F3039.2.2.2.2.2.2 102 (by decide) (by decide)).trans w3029
  have w3048 : A3036 103 = (A 103) := (F3039.2.2.2.2.2.2 103 (by decide) (by decide)).trans w3030
  have w3049 : A3036 104 = (A 104) := (F3039.2.2.2.2.2.2 104 (by decide) (by decide)).trans w3031
  have w3050 : A3036 105 = (upd (A 105) ((s2975 8819)).toInt.toNat (mm_nar 0 r3002)) := (F3039.2.2.2.2.2.2 105 (by decide) (by decide)).trans w3032
  have d3051 : (s3035 8819).toInt = (s 8819).toInt := congrArg Int32.toInt (G3041.1.2.2.2.2)
  have u3052 := R3040.1
  show bp_G E PO NN ((99, 250, _, [], 0, 0) :: gs, h3034, none)
  refine bp_go (pc' := 306) bu_99_250 rfl ?_
  refine bp_rv bu_99_306 ?_
  have ee : py_tell K V Q σ = (py_mu K 4 (py_nu K V 0 9999 (py_go σ))) := by
    unfold py_tell
    rw [if_neg (not_not_intro hq0), if_neg (by omega), if_neg (by omega), if_neg (by omega), if_neg (by omega), if_pos (by omega)]
  have en : (py_tell K V Q σ).2.2.2.2 = ns := by
    rw [ee, py_n_mu, py_n_nu, py_n_go]
    exact hns
  refine kk _ _ _ _ hP3038 G3041 (by rw [en, ee]; exact R3040) (fun q ω hO => ?_)
  rw [ee] at q
  rw [en]
  have f1 := py_one_ok q
  have eg := (py_go_st f1.1).2
  have x0 := v3003 f1.1 f1.2
  rw [eg] at x0
  have e3 : py_st K σ ω = py_up ω 3 (σ.1 + 1) := by
    unfold py_st
    rw [if_neg (by omega), if_neg (by omega), if_neg (by omega), if_pos (by omega)]
  refine rq_O_n hO w3043 w3044 ?_ ?_ ?_ ?_ ?_ ?_
  · rw [w3045, e3, py_up_o (by decide)]
    exact hO.2.1
  · rw [w3046, e3, py_up_o (by decide)]
    exact hO.2.2.1
  · rw [w3047, e3, py_up_o (by decide)]
    exact hO.2.2.2.1
  · rw [w3048, e3, py_up_o (by decide)]
    exact hO.2.2.2.2.1
  · rw [w3049, e3, py_up_o (by decide)]
    exact hO.2.2.2.2.2.1
  · rw [w3050, show (s 8819).toInt.toNat = ((s2975 8819)).toInt.toNat by omega, rq_up_i, e3, py_up_i, py_v_s (by omega)]
    exact x0
set_option maxHeartbeats 4000000 in
theorem rr_99_253 (hP : bm_P rz_T E h0 h s A L) (hR : rq_R K P M σ ns 0 0 s A L) (hT : rq_T K V P M A) (hQ : ∀ i j, i < M → j < M → K i = 1 → K j = 1 → (Q i j = true ↔ L 94 i = L 94 j)) (hK0 : 0 ≤ K σ.1) (hq0 : σ.2.1 = 0) (hns : σ.2.2.2.2 = ns) (hd : 0 ≤ (s 8819).toInt ∧ (s 8819).toInt ≤ 1) (kk : ∀ (h' : mm_H) (s' : Nat → Int32) (A' : Nat → Nat → Int32) (L' : Nat → Nat → Int64), bm_P rz_T E h0 h' s' A' L' → rq_G s A L s' A' L' → rq_R K P M (py_tell K V Q σ) (py_tell K V Q σ).2.2.2.2 0 0 s' A' L' → ((py_tell K V Q σ).2.1 = 0 → ∀ ω, rq_O V ns ω (s 8819).toInt.toNat A → rq_O V (py_tell K V Q σ).2.2.2.2 (py_st K σ ω) (s 8819).toInt.toNat A') → bp_G E PO NN (mm_back (none) gs h')) (kd0 : ((A 91 ((s 8811)).toInt.toNat)).toInt ≠ 20) (kd1 : ((A 91 ((s 8811)).toInt.toNat)).toInt ≠ 28) (kd2 : ((A 91 ((s 8811)).toInt.toNat)).toInt ≠ 29) (kd3 : ((A 91 ((s 8811)).toInt.toNat)).toInt ≠ 30) (kd4 : ((A 91 ((s 8811)).toInt.toNat)).toInt ≠ 31) : bp_G E PO NN ((99, 253, [(0, .ref (E.1 + 88))], [], 0, 0) :: gs, h, none) := by
  have q1 := hR.1
  have q2 : σ.2.1 = 0 → (s 8811).toInt = (σ.1 : Int) ∧ (A 91 (s 8811).toInt.toNat).toInt = K σ.1 ∧ (K σ.1 = 2 → (A 93 (s 8811).toInt.toNat).toInt = V σ.1) ∧ (A 92 (s 8811).toInt.toNat).toInt = P σ.1 := fun hf => by
    have a1 := hR.2.1 hf
    have ei : (s 8811).toInt.toNat = σ.1 := by omega
    have a2 := hT.2.2.1 σ.1 a1.2.1
    rw [ei]
    exact ⟨a1.1, a2.1, a2.2.2, a2.2.1⟩
  have q3 := q2 hq0
  have r2 := hR.2.1 hq0
  have hK1 := hK0
  have r5 := r2.2.2.2.2.1
  have r6 := r2.2.2.2.2.2.1
  have r9 := r2.2.2.2.2.2.2.2.1
  refine bp_ld (pc' := 254) bu_99_253 rfl rfl (fun _ _ _ => rfl) rfl rfl ?_
  refine bn_gr (pc' := 257) (t := 91) bu_99_254 rfl rfl (fun _ _ _ => rfl) hP rz_o88 rz_r88_5 ?_
  refine bp_ld (pc' := 258) bu_99_257 rfl rfl (fun _ _ _ => rfl) rfl rfl ?_
  refine bn_gi (pc' := 261) (K := 8811) bu_99_258 rfl rfl (fun _ _ _ => rfl) hP rz_o88 rz_i88_11 rfl rfl ?_
  refine bn_iaF (pc' := 262) bu_99_261 rfl rfl (fun _ _ _ => rfl) hP rz_a91 (Or.inl rfl) (fun b3053 b3054 => ?_)
  refine bp_c (pc' := 264) (n := 21) bu_99_262 rfl rfl (fun _ _ _ => rfl) (by decide) (fun c3055 e3056 => ?_)
  refine bn_subx (pc' := 265) bu_99_264 rfl (fun v3057 e3058 => ?_)
  refine bp_st (pc' := 266) bu_99_265 rfl rfl (fun _ _ _ => rfl) rfl (by decide) (by decide) (fun lv3059 F3060 g3061 => ?_)
  have g3062 := F3060 0 (.ref (E.1 + 88)) rfl (by decide) (Or.inl rfl)
  refine bp_ld (pc' := 267) bu_99_266 rfl rfl (fun _ _ _ => rfl) g3061 rfl ?_
  refine bp_i0 (pc' := 270) (pt := 284) bu_99_267 rfl rfl (fun k3063 => ?_) (fun k3063 => ?_)
  · replace k3063 : (v3057).toInt < 0 := k3063
    refine bp_ld (pc' := 285) bu_99_284 rfl rfl (fun _ _ _ => rfl) g3062 rfl ?_
    refine bp_c (pc' := 286) (n := 1) bu_99_285 rfl rfl (fun _ _ _ => rfl) (by decide) (fun c3064 e3065 => ?_)
    refine bn_cvF (pc' := 289) (st := []) (args := [.int c3064]) bu_99_286 rfl rfl rfl (by decide) hP rz_o88 (by decide) rfl (Nat.le_of_ble_eq_true rfl) (Nat.le_of_ble_eq_true rfl) ?_
    refine rr_27 (kn := 1) hP (by omega) (by decide) hR hT (fun h3066 s3067 A3068 L3069 hP3070 F3071 R3072 => ?_)
    have w3073 : A3068 97 = (A 97) := (F3071.2.2.2.2.2.2 97 (by decide) (by decide))
    have w3074 : A3068 98 = (A 98) := (F3071.2.2.2.2.2.2 98 (by decide) (by decide))
    have w3075 : A3068 99 = (A 99) := (F3071.2.2.2.2.2.2 99 (by decide) (by decide))
    have w3076 : A3068 100 = (A 100) := (F3071.2.2.2.2.2.2 100 (by decide) (by decide))
    have w3077 : A3068 101 = (A 101) := (F3071.2.2.2.2.2.2 101 (by decide) (by decide))
    have w3078 : A3068 102 = (A 102) := (F3071.2.2.2.2.2.2 102 (by decide) (by decide))
    have w3079 : A3068 103 = (A 103) := (F3071.2.2.2.2.2.2 103 (by decide) (by decide))
    have w3080 : A3068 104 = (A 104) := (F3071.2.2.2.2.2.2 104 (by decide) (by decide))
    have w3081 : A3068 105 = (A 105) := (F3071.2.2.2.2.2.2 105 (by decide) (by decide))
    have d3082 : (s3067 8819).toInt = (s 8819).toInt := congrArg Int32.toInt (F3071.1.2.2.2.2)
    have u3083 := R3072.1
    have u3084 := py_fl_f (σ := σ) (k := 1) (by decide)
    show bp_G E PO NN ((99, 289, lv3059, [], 0, 0) :: gs, h3066, none)
    refine bp_ld (pc' := 290) bu_99_289 rfl rfl (fun _ _ _ => rfl) g3062 rfl ?_
    refine bn_gi (pc' := 293) (K := 8813) bu_99_290 rfl rfl (fun _ _ _ => rfl) hP3070 rz_o88 rz_i88_13 rfl rfl ?_
    refine bp_i0 (pc' := 296) (pt := 297) bu_99_293 rfl rfl (fun k3085 => ?_) (fun k3085 => ?_)
    · replace k3085 : ((s3067 8813)).toInt ≤ 0 := k3085
      refine bp_ld (pc' := 298) bu_99_297 rfl rfl (fun _ _ _ => rfl) g3062 rfl ?_
      refine bn_cvF (pc' := 301) (st := []) (args := []) bu_99_298 rfl rfl rfl (by decide) hP3070 rz_o88 (by decide) rfl (Nat.le_of_ble_eq_true rfl) (Nat.le_of_ble_eq_true rfl) ?_
      refine rr_37 hP3070 (by decide) R3072 (rq_T_F hT F3071) (fun _ => by omega) (fun h3086 s3087 A3088 L3089 hP3090 F3091 R3092 => ?_)
      have F3093 := rq_F_t F3071 F3091
      have w3094 : A3088 97 = (A 97) := (F3091.2.2.2.2.2.2 97 (by decide) (by decide)).trans w3073
      have w3095 : A3088 98 = (A 98) := (F3091.2.2.2.2.2.2 98 (by decide) (by decide)).trans w3074
      have w3096 : A3088 99 = (A 99) := (F3091.2.2.2.2.2.2 99 (by decide) (by decide)).trans w3075
      have w3097 : A3088 100 = (A 100) := (F3091.2.2.2.2.2.2 100 (by decide) (by decide)).trans w3076
      have w3098 : A3088 101 = (A 101) := (F3091.2.2.2.2.2.2 101 (by decide) (by decide)).trans w3077
      have w3099 : A3088 102 = (A 102) := (F3091.2.2.2.2.2.2 102 (by decide) (by decide)).trans w3078
      have w3100 : A3088 103 = (A 103) := (F3091.2.2.2.2.2.2 103 (by decide) (by decide)).trans w3079
      have w3101 : A3088 104 = (A 104) := (F3091.2.2.2.2.2.2 104 (by decide) (by decide)).trans w3080
      have w3102 : A3088 105 = (A 105) := (F3091.2.2.2.2.2.2 105 (by decide) (by decide)).trans w3081
      have d3103 : (s3087 8819).toInt = (s 8819).toInt := congrArg Int32.toInt (F3093.1.2.2.2.2)
      show bp_G E PO NN ((99, 301, lv3059, [], 0, 0) :: gs, h3086, none)
      refine bp_ld (pc' := 302) bu_99_301 rfl rfl (fun _ _ _ => rfl) g3062 rfl ?_
      refine bp_ld (pc' := 303) bu_99_302 rfl rfl (fun _ _ _ => rfl) g3061 rfl ?_
      refine bn_cvF (pc' := 306) (st := []) (args := [.int v3057]) bu_99_303 rfl rfl rfl (by decide) hP3090 rz_o88 (by decide) rfl (Nat.le_of_ble_eq_true rfl) (Nat.le_of_ble_eq_true rfl) ?_
      refine rr_97 hP3090 R3092 (rq_T_F hT F3093) (fun h3104 s3105 A3106 L3107 hP3108 F3109 R3110 => ?_)
      have F3111 := rq_F_t F3093 F3109
      have w3112 : A3106 97 = (A 97) := (F3109.2.2.2.2.2.2 97 (by decide) (by decide)).trans w3094
      have w3113 : A3106 98 = (A 98) := (F3109.2.2.2.2.2.2 98 (by decide) (by decide)).trans w3095
      have w3114 : A3106 99 = (A 99) := (F3109.2.2.2.2.2.2 99 (by decide) (by decide)).trans w3096
      have w3115 : A3106 100 = (A 100) := (F3109.2.2.2.2.2.2 100 (by decide) (by decide)).trans w3097
      have w3116 : A3106 101 = (A 101) := (F3109.2.2.2.2.2.2 101 (by decide) (by decide)).trans w3098
      have w3117 : A3106 102 = (A 102) := (F3109.2.2.2.2.2.2 102 (by decide) (by decide)).trans w3099
      have w3118 : A3106 103 = (A 103) := (F3109.2.2.2.2.2.2 103 (by decide) (by decide)).trans w3100
      have w3119 : A3106 104 = (A 104) := (F3109.2.2.2.2.2.2 104 (by decide) (by decide)).trans w3101
      have w3120 : A3106 105 = (A 105) := (F3109.2.2.2.2.2.2 105 (by decide) (by decide)).trans w3102
      have d3121 : (s3105 8819).toInt = (s 8819).toInt := congrArg Int32.toInt (F3111.1.2.2.2.2)
      show bp_G E PO NN ((99, 306, lv3059, [], 0, 0) :: gs, h3104, none)
      refine bp_rv bu_99_306 ?_
      exfalso
      omega
    · replace k3085 : ¬ (((s3067 8813)).toInt ≤ 0) := k3085
      refine bp_rv bu_99_296 ?_
      have ee : py_tell K V Q σ = (py_fl 1 σ) := by
        unfold py_tell
        rw [if_neg (not_not_intro hq0), if_neg (by omega), if_neg (by omega), if_neg (by omega), if_neg (by omega), if_neg (by omega)]
      have en : (py_tell K V Q σ).2.2.2.2 = ns := by
        rw [ee, py_n_fl]
        exact hns
      exact kk _ _ _ _ hP3070 (rq_G_of F3071) (by rw [en, ee]; exact rq_R_0 (py_fl_f (by decide)) R3072) (fun q => absurd q (by rw [ee]; exact py_fl_f (by decide)))
  · replace k3063 : ¬ ((v3057).toInt < 0) := k3063
    refine bp_ld (pc' := 271) bu_99_270 rfl rfl (fun _ _ _ => rfl) g3062 rfl ?_
    refine bn_gr (pc' := 274) (t := 91) bu_99_271 rfl rfl (fun _ _ _ => rfl) hP rz_o88 rz_r88_5 ?_
    refine bp_ld (pc' := 275) bu_99_274 rfl rfl (fun _ _ _ => rfl) g3062 rfl ?_
    refine bn_gi (pc' := 278) (K := 8811) bu_99_275 rfl rfl (fun _ _ _ => rfl) hP rz_o88 rz_i88_11 rfl rfl ?_
    refine bn_iaF (pc' := 279) bu_99_278 rfl rfl (fun _ _ _ => rfl) hP rz_a91 (Or.inl rfl) (fun b3122 b3123 => ?_)
    refine bp_c (pc' := 281) (n := 27) bu_99_279 rfl rfl (fun _ _ _ => rfl) (by decide) (fun c3124 e3125 => ?_)
    refine bp_ic (pc' := 284) (pt := 289) bu_99_281 rfl rfl (fun k3126 => ?_) (fun k3126 => ?_)
    · replace k3126 : ((A 91 ((s 8811)).toInt.toNat)).toInt ≤ (c3124).toInt := k3126
      refine bp_ld (pc' := 290) bu_99_289 rfl rfl (fun _ _ _ => rfl) g3062 rfl ?_
      refine bn_gi (pc' := 293) (K := 8813) bu_99_290 rfl rfl (fun _ _ _ => rfl) hP rz_o88 rz_i88_13 rfl rfl ?_
      refine bp_i0 (pc' := 296) (pt := 297) bu_99_293 rfl rfl (fun k3127 => ?_) (fun k3127 => ?_)
      · replace k3127 : ((s 8813)).toInt ≤ 0 := k3127
        refine bp_ld (pc' := 298) bu_99_297 rfl rfl (fun _ _ _ => rfl) g3062 rfl ?_
        refine bn_cvF (pc' := 301) (st := []) (args := []) bu_99_298 rfl rfl rfl (by decide) hP rz_o88 (by decide) rfl (Nat.le_of_ble_eq_true rfl) (Nat.le_of_ble_eq_true rfl) ?_
        refine rr_37 hP (by decide) hR hT (fun _ => by omega) (fun h3128 s3129 A3130 L3131 hP3132 F3133 R3134 => ?_)
        have w3135 : A3130 97 = (A 97) := (F3133.2.2.2.2.2.2 97 (by decide) (by decide))
        have w3136 : A3130 98 = (A 98) := (F3133.2.2.2.2.2.2 98 (by decide) (by decide))
        have w3137 : A3130 99 = (A 99) := (F3133.2.2.2.2.2.2 99 (by decide) (by decide))
        have w3138 : A3130 100 = (A 100) := (F3133.2.2.2.2.2.2 100 (by decide) (by decide))
        have w3139 : A3130 101 = (A 101) := (F3133.2.2.2.2.2.2 101 (by decide) (by decide))
        have w3140 : A3130 102 = (A 102) := (F3133.2.2.2.2.2.2 102 (by decide) (by decide))
        have w3141 : A3130 103 = (A 103) := (F3133.2.2.2.2.2.2 103 (by decide) (by decide))
        have w3142 : A3130 104 = (A 104) := (F3133.2.2.2.2.2.2 104 (by decide) (by decide))
        have w3143 : A3130 105 = (A 105) := (F3133.2.2.2.2.2.2 105 (by decide) (by decide))
        have d3144 : (s3129 8819).toInt = (s 8819).toInt := congrArg Int32.toInt (F3133.1.2.2.2.2)
        show bp_G E PO NN ((99, 301, lv3059, [], 0, 0) :: gs, h3128, none)
        refine bp_ld (pc' := 302) bu_99_301 rfl rfl (fun _ _ _ => rfl) g3062 rfl ?_
        refine bp_ld (pc' := 303) bu_99_302 rfl rfl (fun _ _ _ => rfl) g3061 rfl ?_
        refine bn_cvF (pc' := 306) (st := []) (args := [.int v3057]) bu_99_303 rfl rfl rfl (by decide) hP3132 rz_o88 (by decide) rfl (Nat.le_of_ble_eq_true rfl) (Nat.le_of_ble_eq_true rfl) ?_
        refine rr_97 hP3132 R3134 (rq_T_F hT F3133) (fun h3145 s3146 A3147 L3148 hP3149 F3150 R3151 => ?_)
        have F3152 := rq_F_t F3133 F3150
        have w3153 : A3147 97 = (A 97) := (F3150.2.2.2.2.2.2 97 (by decide) (by decide)).trans w3135
        have w3154 : A3147 98 = (A 98) := (F3150.2.2.2.2.2.2 98 (by decide) (by decide)).trans w3136
        have w3155 : A3147 99 = (A 99) := (F3150.2.2.2.2.2.2 99 (by decide) (by decide)).trans w3137
        have w3156 : A3147 100 = (A 100) := (F3150.2.2.2.2.2.2 100 (by decide) (by decide)).trans w3138
        have w3157 : A3147 101 = (A 101) := (F3150.2.2.2.2.2.2 101 (by decide) (by decide)).trans w3139
        have w3158 : A3147 102 = (A 102) := (F3150.2.2.2.2.2.2 102 (by decide) (by decide)).trans w3140
        have w3159 : A3147 103 = (A 103) := (F3150.2.2.2.2.2.2 103 (by decide) (by decide)).trans w3141
        have w3160 : A3147 104 = (A 104) := (F3150.2.2.2.2.2.2 104 (by decide) (by decide)).trans w3142
        have w3161 : A3147 105 = (A 105) := (F3150.2.2.2.2.2.2 105 (by decide) (by decide)).trans w3143
        have d3162 : (s3146 8819).toInt = (s 8819).toInt := congrArg Int32.toInt (F3152.1.2.2.2.2)
        show bp_G E PO NN ((99, 306, lv3059, [], 0, 0) :: gs, h3145, none)
        refine bp_rv bu_99_306 ?_
        have ee : py_tell K V Q σ = (py_mu K 4 (py_x K true 0 (py_ifs K 4 (py_mu K 5 (py_go σ))))) := by
          unfold py_tell
          rw [if_neg (not_not_intro hq0), if_neg (by omega), if_pos (by omega)]
          rfl
        have en : (py_tell K V Q σ).2.2.2.2 = ns := by
          rw [ee]
          exact (py_n_law (K := K) (σ := σ)).trans hns
        refine kk _ _ _ _ hP3149 (rq_G_of F3152) (by rw [en, ee]; exact R3151) (fun q ω hO => ?_)
        rw [en]
        refine rq_O_s hO F3152.2.2.2.2.2.2 (fun i hi => ?_)
        unfold py_st
        rw [if_neg (by omega), if_neg (by omega), if_neg (by omega), if_neg (by omega), if_pos ⟨by omega, by omega⟩]
        exact py_up_o (by omega)
      · replace k3127 : ¬ (((s 8813)).toInt ≤ 0) := k3127
        refine bp_rv bu_99_296 ?_
        exfalso
        omega
    · replace k3126 : ¬ (((A 91 ((s 8811)).toInt.toNat)).toInt ≤ (c3124).toInt) := k3126
      refine bp_ld (pc' := 285) bu_99_284 rfl rfl (fun _ _ _ => rfl) g3062 rfl ?_
      refine bp_c (pc' := 286) (n := 1) bu_99_285 rfl rfl (fun _ _ _ => rfl) (by decide) (fun c3163 e3164 => ?_)
      refine bn_cvF (pc' := 289) (st := []) (args := [.int c3163]) bu_99_286 rfl rfl rfl (by decide) hP rz_o88 (by decide) rfl (Nat.le_of_ble_eq_true rfl) (Nat.le_of_ble_eq_true rfl) ?_
      refine rr_27 (kn := 1) hP (by omega) (by decide) hR hT (fun h3165 s3166 A3167 L3168 hP3169 F3170 R3171 => ?_)
      have w3172 : A3167 97 = (A 97) := (F3170.2.2.2.2.2.2 97 (by decide) (by decide))
      have w3173 : A3167 98 = (A 98) := (F3170.2.2.2.2.2.2 98 (by decide) (by decide))
      have w3174 : A3167 99 = (A 99) := (F3170.2.2.2.2.2.2 99 (by decide) (by decide))
      have w3175 : A3167 100 = (A 100) := (F3170.2.2.2.2.2.2 100 (by decide) (by decide))
      have w3176 : A3167 101 = (A 101) := (F3170.2.2.2.2.2.2 101 (by decide) (by decide))
      have w3177 : A3167 102 = (A 102) := (F3170.2.2.2.2.2.2 102 (by decide) (by decide))
      have w3178 : A3167 103 = (A 103) := (F3170.2.2.2.2.2.2 103 (by decide) (by decide))
      have w3179 : A3167 104 = (A 104) := (F3170.2.2.2.2.2.2 104 (by decide) (by decide))
      have w3180 : A3167 105 = (A 105) := (F3170.2.2.2.2.2.2 105 (by decide) (by decide))
      have d3181 : (s3166 8819).toInt = (s 8819).toInt := congrArg Int32.toInt (F3170.1.2.2.2.2)
      have u3182 := R3171.1
      have u3183 := py_fl_f (σ := σ) (k := 1) (by decide)
      show bp_G E PO NN ((99, 289, lv3059, [], 0, 0) :: gs, h3165, none)
      refine bp_ld (pc' := 290) bu_99_289 rfl rfl (fun _ _ _ => rfl) g3062 rfl ?_
      refine bn_gi (pc' := 293) (K := 8813) bu_99_290 rfl rfl (fun _ _ _ => rfl) hP3169 rz_o88 rz_i88_13 rfl rfl ?_
      refine bp_i0 (pc' := 296) (pt := 297) bu_99_293 rfl rfl (fun k3184 => ?_) (fun k3184 => ?_)
      · replace k3184 : ((s3166 8813)).toInt ≤ 0 := k3184
        refine bp_ld (pc' := 298) bu_99_297 rfl rfl (fun _ _ _ => rfl) g3062 rfl ?_
        refine bn_cvF (pc' := 301) (st := []) (args := []) bu_99_298 rfl rfl rfl (by decide) hP3169 rz_o88 (by decide) rfl (Nat.le_of_ble_eq_true rfl) (Nat.le_of_ble_eq_true rfl) ?_
        refine rr_37 hP3169 (by decide) R3171 (rq_T_F hT F3170) (fun _ => by omega) (fun h3185 s3186 A3187 L3188 hP3189 F3190 R3191 => ?_)
        have F3192 := rq_F_t F3170 F3190
        have w3193 : A3187 97 = (A 97) := (F3190.2.2.2.2.2.2 97 (by decide) (by decide)).trans w3172
        have w3194 : A3187 98 = (A 98) := (F3190.2.2.2.2.2.2 98 (by decide) (by decide)).trans w3173
        have w3195 : A3187 99 = (A 99) := (F3190.2.2.2.2.2.2 99 (by decide) (by decide)).trans w3174
        have w3196 : A3187 100 = (A 100) := (F3190.2.2.2.2.2.2 100 (by decide) (by decide)).trans w3175
        have w3197 : A3187 101 = (A 101) := (F3190.2.2.2.2.2.2 101 (by decide) (by decide)).trans w3176
        have w3198 : A3187 102 = (A 102) := (F3190.2.2.2.2.2.2 102 (by decide) (by decide)).trans w3177
        have w3199 : A3187 103 = (A 103) := (F3190.2.2.2.2.2.2 103 (by decide) (by decide)).trans w3178
        have w3200 : A3187 104 = (A 104) := (F3190.2.2.2.2.2.2 104 (by decide) (by decide)).trans w3179
        have w3201 : A3187 105 = (A 105) := (F3190.2.2.2.2.2.2 105 (by decide) (by decide)).trans w3180
        have d3202 : (s3186 8819).toInt = (s 8819).toInt := congrArg Int32.toInt (F3192.1.2.2.2.2)
        show bp_G E PO NN ((99, 301, lv3059, [], 0, 0) :: gs, h3185, none)
        refine bp_ld (pc' := 302) bu_99_301 rfl rfl (fun _ _ _ => rfl) g3062 rfl ?_
        refine bp_ld (pc' := 303) bu_99_302 rfl rfl (fun _ _ _ => rfl) g3061 rfl ?_
        refine bn_cvF (pc' := 306) (st := []) (args := [.int v3057]) bu_99_303 rfl rfl rfl (by decide) hP3189 rz_o88 (by decide) rfl (Nat.le_of_ble_eq_true rfl) (Nat.le_of_ble_eq_true rfl) ?_
        refine rr_97 hP3189 R3191 (rq_T_F hT F3192) (fun h3203 s3204 A3205 L3206 hP3207 F3208 R3209 => ?_)
        have F3210 := rq_F_t F3192 F3208
        have w3211 : A3205 97 = (A 97) := (F3208.2.2.2.2.2.2 97 (by decide) (by decide)).trans w3193
        have w3212 : A3205 98 = (A 98) := (F3208.2.2.2.2.2.2 98 (by decide) (by decide)).trans w3194
        have w3213 : A3205 99 = (A 99) := (F3208.2.2.2.2.2.2 99 (by decide) (by decide)).trans w3195
        have w3214 : A3205 100 = (A 100) := (F3208.2.2.2.2.2.2 100 (by decide) (by decide)).trans w3196
        have w3215 : A3205 101 = (A 101) := (F3208.2.2.2.2.2.2 101 (by decide) (by decide)).trans w3197
        have w3216 : A3205 102 = (A 102) := (F3208.2.2.2.2.2.2 102 (by decide) (by decide)).trans w3198
        have w3217 : A3205 103 = (A 103) := (F3208.2.2.2.2.2.2 103 (by decide) (by decide)).trans w3199
        have w3218 : A3205 104 = (A 104) := (F3208.2.2.2.2.2.2 104 (by decide) (by decide)).trans w3200
        have w3219 : A3205 105 = (A 105) := (F3208.2.2.2.2.2.2 105 (by decide) (by decide)).trans w3201
        have d3220 : (s3204 8819).toInt = (s 8819).toInt := congrArg Int32.toInt (F3210.1.2.2.2.2)
        show bp_G E PO NN ((99, 306, lv3059, [], 0, 0) :: gs, h3203, none)
        refine bp_rv bu_99_306 ?_
        exfalso
        omega
      · replace k3184 : ¬ (((s3166 8813)).toInt ≤ 0) := k3184
        refine bp_rv bu_99_296 ?_
        have ee : py_tell K V Q σ = (py_fl 1 σ) := by
          unfold py_tell
          rw [if_neg (not_not_intro hq0), if_neg (by omega), if_neg (by omega), if_neg (by omega), if_neg (by omega), if_neg (by omega)]
        have en : (py_tell K V Q σ).2.2.2.2 = ns := by
          rw [ee, py_n_fl]
          exact hns
        exact kk _ _ _ _ hP3169 (rq_G_of F3170) (by rw [en, ee]; exact rq_R_0 (py_fl_f (by decide)) R3171) (fun q => absurd q (by rw [ee]; exact py_fl_f (by decide)))
theorem rr_99 (hP : bm_P rz_T E h0 h s A L) (hR : rq_R K P M σ ns 0 0 s A L) (hT : rq_T K V P M A) (hQ : ∀ i j, i < M → j < M → K i = 1 → K j = 1 → (Q i j = true ↔ L 94 i = L 94 j)) (hK0 : 0 ≤ K σ.1) (hq0 : σ.2.1 = 0) (hns : σ.2.2.2.2 = ns) (hd : 0 ≤ (s 8819).toInt ∧ (s 8819).toInt ≤ 1) (kk : ∀ (h' : mm_H) (s' : Nat → Int32) (A' : Nat → Nat → Int32) (L' : Nat → Nat → Int64), bm_P rz_T E h0 h' s' A' L' → rq_G s A L s' A' L' → rq_R K P M (py_tell K V Q σ) (py_tell K V Q σ).2.2.2.2 0 0 s' A' L' → ((py_tell K V Q σ).2.1 = 0 → ∀ ω, rq_O V ns ω (s 8819).toInt.toNat A → rq_O V (py_tell K V Q σ).2.2.2.2 (py_st K σ ω) (s 8819).toInt.toNat A') → bp_G E PO NN (mm_back (none) gs h')) : bp_G E PO NN ((99, 0, [(0, .ref (E.1 + 88))], [], 0, 0) :: gs, h, none) := by
  have q1 := hR.1
  have q2 : σ.2.1 = 0 → (s 8811).toInt = (σ.1 : Int) ∧ (A 91 (s 8811).toInt.toNat).toInt = K σ.1 ∧ (K σ.1 = 2 → (A 93 (s 8811).toInt.toNat).toInt = V σ.1) ∧ (A 92 (s 8811).toInt.toNat).toInt = P σ.1 := fun hf => by
    have a1 := hR.2.1 hf
    have ei : (s 8811).toInt.toNat = σ.1 := by omega
    have a2 := hT.2.2.1 σ.1 a1.2.1
    rw [ei]
    exact ⟨a1.1, a2.1, a2.2.2, a2.2.1⟩
  have q3 := q2 hq0
  have r2 := hR.2.1 hq0
  have hK1 := hK0
  have r5 := r2.2.2.2.2.1
  have r6 := r2.2.2.2.2.2.1
  have r9 := r2.2.2.2.2.2.2.2.1
  refine bp_ld (pc' := 1) bu_99_0 rfl rfl (fun _ _ _ => rfl) rfl rfl ?_
  refine bn_gr (pc' := 4) (t := 91) bu_99_1 rfl rfl (fun _ _ _ => rfl) hP rz_o88 rz_r88_5 ?_
  refine bp_ld (pc' := 5) bu_99_4 rfl rfl (fun _ _ _ => rfl) rfl rfl ?_
  refine bn_gi (pc' := 8) (K := 8811) bu_99_5 rfl rfl (fun _ _ _ => rfl) hP rz_o88 rz_i88_11 rfl rfl ?_
  refine bn_iaF (pc' := 9) bu_99_8 rfl rfl (fun _ _ _ => rfl) hP rz_a91 (Or.inl rfl) (fun b2611 b2612 => ?_)
  by_cases k2613 : ((A 91 ((s 8811)).toInt.toNat)).toInt = 20
  · refine bp_sw (pc' := 72) (off := 63) bu_99_9 (by rw [k2613]; rfl) rfl ?_
    exact rr_99_72 hP hR hT hQ hK0 hq0 hns hd kk k2613
  by_cases k2651 : ((A 91 ((s 8811)).toInt.toNat)).toInt = 28
  · refine bp_sw (pc' := 105) (off := 96) bu_99_9 (by rw [k2651]; rfl) rfl ?_
    exact rr_99_105 hP hR hT hQ hK0 hq0 hns hd kk k2651
  by_cases k2813 : ((A 91 ((s 8811)).toInt.toNat)).toInt = 29
  · refine bp_sw (pc' := 166) (off := 157) bu_99_9 (by rw [k2813]; rfl) rfl ?_
    exact rr_99_166 hP hR hT hQ hK0 hq0 hns hd kk k2813
  by_cases k2893 : ((A 91 ((s 8811)).toInt.toNat)).toInt = 30
  · refine bp_sw (pc' := 195) (off := 186) bu_99_9 (by rw [k2893]; rfl) rfl ?_
    exact rr_99_195 hP hR hT hQ hK0 hq0 hns hd kk k2893
  by_cases k2973 : ((A 91 ((s 8811)).toInt.toNat)).toInt = 31
  · refine bp_sw (pc' := 224) (off := 215) bu_99_9 (by rw [k2973]; rfl) rfl ?_
    exact rr_99_224 hP hR hT hQ hK0 hq0 hns hd kk k2973
  refine bp_sw (pc' := 253) (off := 244) bu_99_9 ?_ rfl ?_
  · by_cases hc : ((A 91 ((s 8811)).toInt.toNat)).toInt < 20 ∨ 31 < ((A 91 ((s 8811)).toInt.toNat)).toInt
    · rw [if_pos hc]
    · rw [if_neg hc]
      have hd9 : (((A 91 ((s 8811)).toInt.toNat)).toInt - 20).toNat = 1 ∨ (((A 91 ((s 8811)).toInt.toNat)).toInt - 20).toNat = 2 ∨ (((A 91 ((s 8811)).toInt.toNat)).toInt - 20).toNat = 3 ∨ (((A 91 ((s 8811)).toInt.toNat)).toInt - 20).toNat = 4 ∨ (((A 91 ((s 8811)).toInt.toNat)).toInt - 20).toNat = 5 ∨ (((A 91 ((s 8811)).toInt.toNat)).toInt - 20).toNat = 6 ∨ (((A 91 ((s 8811)).toInt.toNat)).toInt - 20).toNat = 7 := by omega
      rcases hd9 with hd9 | hd9 | hd9 | hd9 | hd9 | hd9 | hd9 <;> rw [hd9] <;> rfl
  · exact rr_99_253 hP hR hT hQ hK0 hq0 hns hd kk k2613 k2651 k2813 k2893 k2973
end RQB
