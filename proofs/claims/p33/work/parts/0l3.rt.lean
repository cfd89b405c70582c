/-! PARTIAL: the reference's reader, exact, 3: men, one thing told (wip/p5/mkr3.py) -/
theorem py_wr_go {σ : py_S} {k t : Nat} (h : (py_go σ).2.1 = 0) : py_wr k t (py_go σ) = py_go (py_wr k t σ) := by
  obtain ⟨h0, -⟩ := py_go_st h
  by_cases e : σ.1 = 400
  · rw [py_go_e h0 e] at h
    exact absurd h (show (2 : Nat) ≠ 0 by decide)
  · rw [py_go_s h0 e]
    by_cases g : σ.2.2.1 = 0
    · have e1 : py_wr k t σ = (σ.1, σ.2.1, k, t, σ.2.2.2.2) := if_pos ⟨h0, g⟩
      have e2 : py_wr k t (σ.1 + 1, σ.2) = (σ.1 + 1, σ.2.1, k, t, σ.2.2.2.2) := if_pos ⟨h0, g⟩
      rw [e1, e2, py_go_s (σ := (σ.1, σ.2.1, k, t, σ.2.2.2.2)) h0 e]
    · have e1 : py_wr k t σ = σ := if_neg (fun q => g q.2)
      have e2 : py_wr k t (σ.1 + 1, σ.2) = (σ.1 + 1, σ.2) := if_neg (fun q => g q.2)
      rw [e1, e2, py_go_s h0 e]
theorem py_wr_i {σ : py_S} {k t : Nat} (hk : k ≠ 0) : py_wr k t (py_wr k t σ) = py_wr k t σ := by
  by_cases g : σ.2.1 = 0 ∧ σ.2.2.1 = 0
  · have e1 : py_wr k t σ = (σ.1, σ.2.1, k, t, σ.2.2.2.2) := if_pos g
    rw [e1]
    exact if_neg (fun q => hk q.2)
  · have e1 : py_wr k t σ = σ := if_neg g
    rw [e1, e1]
theorem py_wr_f {σ : py_S} {k t : Nat} (h : σ.2.1 ≠ 0) : py_wr k t σ = σ := if_neg (fun q => h q.1)
theorem py_nu_f {K V : Nat → Int} {lo hi : Int} {σ : py_S} (h : σ.2.1 ≠ 0) : py_nu K V lo hi σ = σ := by
  unfold py_nu
  rw [if_neg (fun e => h e.1)]
  exact if_neg h
theorem py_nm_f {Q : Nat → Nat → Bool} {σ : py_S} {t : Nat} (h : σ.2.1 ≠ 0) : py_nm Q t σ = σ := by
  unfold py_nm
  split
  · exact py_wr_f h
  · rfl
theorem py_five_f {K V : Nat → Int} {σ : py_S} (h : σ.2.1 ≠ 0) : py_five K V σ = σ := by
  unfold py_five
  rw [py_nu_f h, py_nu_f h, py_nu_f h, py_nu_f h, py_nu_f h]
theorem py_nm_t {Q : Nat → Nat → Bool} {σ : py_S} {t : Nat} : (py_nm Q t σ).1 = σ.1 ∧ (py_nm Q t σ).2.1 = σ.2.1 := by
  unfold py_nm
  split
  · exact ⟨py_wr_t.1, py_wr_t.2.1⟩
  · exact ⟨rfl, rfl⟩
theorem py_man_eq {K V : Nat → Int} {Q : Nat → Nat → Bool} {σ : py_S} (hl : σ.2.2.2.2.length ≠ 6) : ((py_mu K 4 (py_five K V (py_nm Q (py_go σ).1 (py_mu K 1 (py_go σ))))).2.1 = 0 → py_man K V Q σ = py_ad (py_go σ).1 (py_mu K 4 (py_five K V (py_nm Q (py_go σ).1 (py_mu K 1 (py_go σ))))) ∧ (py_go σ).2.1 = 0 ∧ K (py_go σ).1 = 1 ∧ (py_go σ).1 < (py_mu K 1 (py_go σ)).1) ∧ ((py_mu K 4 (py_five K V (py_nm Q (py_go σ).1 (py_mu K 1 (py_go σ))))).2.1 ≠ 0 → (py_man K V Q σ).2.1 = (py_mu K 4 (py_five K V (py_nm Q (py_go σ).1 (py_mu K 1 (py_go σ))))).2.1 ∧ (py_man K V Q σ).1 = (py_mu K 4 (py_five K V (py_nm Q (py_go σ).1 (py_mu K 1 (py_go σ))))).1) := by
  generalize h1 : py_go σ = σ1
  by_cases c : σ1.2.1 = 0 ∧ K σ1.1 = 1
  · have e2 : py_mu K 1 σ1 = py_go σ1 := if_pos c
    have em : py_man K V Q σ = py_ad σ1.1 (py_mu K 4 (py_five K V (py_go (py_nm Q σ1.1 σ1)))) := by
      unfold py_man
      rw [h1, if_neg hl, if_pos c]
      unfold py_five
      rw [py_ad_go, py_ad_nu, py_ad_nu, py_ad_nu, py_ad_nu, py_ad_nu, py_ad_mu]
    rw [e2, em]
    by_cases g : (py_go σ1).2.1 = 0
    · have en : py_nm Q σ1.1 (py_go σ1) = py_go (py_nm Q σ1.1 σ1) := by
        unfold py_nm
        rw [py_n_go]
        split
        · exact py_wr_go g
        · rfl
      rw [en]
      have lt : σ1.1 < (py_go σ1).1 := by
        rw [(py_go_st g).2]
        exact Nat.lt_succ_self _
      generalize py_mu K 4 (py_five K V (py_go (py_nm Q σ1.1 σ1))) = Z
      exact ⟨fun _ => ⟨rfl, c.1, c.2, lt⟩, fun _ => ⟨rfl, rfl⟩⟩
    · rw [py_nm_f g, py_five_f g, py_mu_f g]
      refine ⟨fun q => absurd q g, fun _ => ?_⟩
      have e4 : σ1.1 = 400 := by
        by_cases e : σ1.1 = 400
        · exact e
        · rw [py_go_s c.1 e] at g
          exact absurd c.1 g
      have w := py_nm_t (Q := Q) (σ := σ1) (t := σ1.1)
      have g2 : py_go (py_nm Q σ1.1 σ1) = ((py_nm Q σ1.1 σ1).1, 2, (py_nm Q σ1.1 σ1).2.2) := py_go_e (by rw [w.2]; exact c.1) (by rw [w.1]; exact e4)
      have g3 : (py_go (py_nm Q σ1.1 σ1)).2.1 ≠ 0 := by
        rw [g2]
        exact (show (2 : Nat) ≠ 0 by decide)
      rw [py_five_f g3, py_mu_f g3, g2, py_go_e c.1 e4]
      exact ⟨rfl, w.1⟩
  · have e2 : py_mu K 1 σ1 = py_fl 1 σ1 := if_neg c
    have g : (py_fl 1 σ1).2.1 ≠ 0 := py_fl_f (by decide)
    have em : py_man K V Q σ = py_fl 1 σ1 := by
      unfold py_man
      rw [h1, if_neg hl, if_neg c]
    rw [e2, py_nm_f g, py_five_f g, py_mu_f g, em]
    exact ⟨fun q => absurd q g, fun _ => ⟨rfl, rfl⟩⟩
/-- a later fault is noted at an earlier token -/
theorem rq_wr2 {K V P : Nat → Int} {σ : py_S} {M : Nat} {ns : List Nat} {o : Nat} {s s1 : Nat → Int32} {A : Nat → Nat → Int32} {L : Nat → Nat → Int64} {k τ : Nat} {p : Int} (hR : rq_R K P M σ ns o 0 s A L) (hT : rq_T K V P M A) (hf : σ.2.1 = 0) (hk : k ≠ 0) (hτ : τ < σ.1) (hw : σ.2.2.1 ≠ 0 → (σ.2.2.2.1 < τ ∨ (σ.2.2.2.1 = τ ∧ σ.2.2.1 ≤ k))) (hp : p = P τ) (f : ∀ j, j ≠ 8815 → j ≠ 8816 → s1 j = s j) {pv kv : Int32} (hpv : pv.toInt = p) (hkv : kv.toInt = (k : Int)) (w : ((0 < (s 8813).toInt ∨ ((s 8815).toInt ≠ 0 ∧ ((s 8816).toInt < pv.toInt ∨ (pv.toInt = (s 8816).toInt ∧ (s 8815).toInt ≤ kv.toInt)))) ∧ s1 8815 = s 8815 ∧ s1 8816 = s 8816) ∨ (¬ (0 < (s 8813).toInt ∨ ((s 8815).toInt ≠ 0 ∧ ((s 8816).toInt < pv.toInt ∨ (pv.toInt = (s 8816).toInt ∧ (s 8815).toInt ≤ kv.toInt)))) ∧ s1 8815 = kv ∧ s1 8816 = pv)) : rq_R K P M (py_wr k τ σ) ns o 0 s1 A L := by
  obtain ⟨r1, r2, r3⟩ := hR
  have r2 := r2 hf
  have c11 := f 8811 (by decide) (by decide)
  have c13 := f 8813 (by decide) (by decide)
  have c19 := f 8819 (by decide) (by decide)
  have c20 := f 8820 (by decide) (by decide)
  have c12 := f 8812 (by decide) (by decide)
  by_cases e0 : σ.2.2.1 = 0
  · have ee : py_wr k τ σ = (σ.1, σ.2.1, k, τ, σ.2.2.2.2) := if_pos ⟨hf, e0⟩
    rw [ee]
    rcases w with w | w
    · exfalso
      have := r2.2.2.1
      omega
    · refine ⟨by rw [c13]; exact r1, fun _ => ⟨by rw [c11]; exact r2.1, r2.2.1, by rw [w.2.1]; exact hkv, fun _ => ⟨by rw [w.2.2, hpv]; exact hp, hτ⟩, by rw [c20]; exact r2.2.2.2.2.1, r2.2.2.2.2.2.1, r2.2.2.2.2.2.2.1, by rw [c19]; exact r2.2.2.2.2.2.2.2.1, by rw [c12]; exact r2.2.2.2.2.2.2.2.2⟩, fun h => absurd hf h⟩
  · have ee : py_wr k τ σ = σ := if_neg (fun h => e0 h.2)
    rw [ee]
    have q := r2.2.2.2.1 e0
    have lt := hT.2.2.2.2 σ.2.2.2.1 τ
    have r21 := r2.2.1
    have hw := hw e0
    have sw := r2.2.2.1
    rcases w with w | w
    · refine ⟨by rw [c13]; exact r1, fun _ => ⟨by rw [c11]; exact r2.1, r2.2.1, by rw [w.2.1]; exact r2.2.2.1, fun _ => ⟨by rw [w.2.2]; exact q.1, q.2⟩, by rw [c20]; exact r2.2.2.2.2.1, r2.2.2.2.2.2.1, r2.2.2.2.2.2.2.1, by rw [c19]; exact r2.2.2.2.2.2.2.2.1, by rw [c12]; exact r2.2.2.2.2.2.2.2.2⟩, fun h => absurd hf h⟩
    · exfalso
      rcases hw with hw | hw
      · have lt := lt hw (by omega)
        omega
      · rw [hw.1] at q
        omega
/-- a man's name is kept -/
theorem rq_adn {K P : Nat → Int} {σ : py_S} {M : Nat} {ns : List Nat} {o e τ : Nat} {s s1 : Nat → Int32} {A A1 : Nat → Nat → Int32} {L : Nat → Nat → Int64} (hR : rq_R K P M σ ns o e s A L) (hf : σ.2.1 = 0) (hl : ns.length < 6) (hK : K τ = 1) (hτ : τ < M) (h20 : (s1 8820).toInt = (s 8820).toInt + 1) (ho : ∀ j, j ≠ 8820 → s1 j = s j) (hA : (A1 97 (s1 8819).toInt.toNat).toInt = (ns.length : Int) + 1) : rq_R K P M (py_ad τ σ) (ns ++ [τ]) o e s1 A1 (bh_upL L 96 ns.length (L 94 τ)) := by
  obtain ⟨r1, r2, r3⟩ := hR
  obtain ⟨a1, a2, a3, a4, a5, a6, a7, a8, a9⟩ := r2 hf
  have e94 : (bh_upL L 96 ns.length (L 94 τ)) 94 = L 94 := if_neg (by decide)
  have elen : (ns ++ [τ]).length = ns.length + 1 := List.length_append
  refine ⟨by rw [ho 8813 (by decide)]; exact r1, fun _ => ⟨by rw [ho 8811 (by decide)]; exact a1, a2, by rw [ho 8815 (by decide)]; exact a3, by rw [ho 8816 (by decide)]; exact a4, by rw [elen]; omega, by rw [elen]; omega, fun i hi => ?_, by rw [elen]; omega, by rw [ho 8812 (by decide)]; exact a9⟩, fun h => absurd hf h⟩
  rw [elen] at hi
  rw [e94]
  unfold bh_upL vp_updL
  rw [if_pos rfl]
  by_cases ei : i = ns.length
  · rw [if_pos ei]
    have eg : (ns ++ [τ]).getD i 0 = τ := by
      rw [ei, List.getD_eq_getElem?_getD, List.getElem?_append_right (Nat.le_refl _), Nat.sub_self]
      rfl
    rw [eg]
    exact ⟨rfl, hτ, hK⟩
  · rw [if_neg ei]
    have eg : (ns ++ [τ]).getD i 0 = ns.getD i 0 := by
      rw [List.getD_eq_getElem?_getD, List.getD_eq_getElem?_getD, List.getElem?_append_left (by omega)]
    rw [eg]
    exact a7 i (by omega)
theorem rq_R_f {K P : Nat → Int} {σ σ2 : py_S} {M : Nat} {ns : List Nat} {o e : Nat} {s : Nat → Int32} {A : Nat → Nat → Int32} {L : Nat → Nat → Int64} {ns2 : List Nat} {e2 o2 : Nat} (hf : σ.2.1 ≠ 0) (h1 : σ2.2.1 = σ.2.1) (h2 : σ2.1 = σ.1) (hR : rq_R K P M σ ns o e s A L) : rq_R K P M σ2 ns2 o2 e2 s A L := ⟨by rw [h1]; exact hR.1, fun h => absurd (h1.symm.trans h) hf, fun _ => by rw [h2]; exact hR.2.2 hf⟩
/-- the names seen so far -/
def rq_nm (Q : Nat → Nat → Bool) (ns : List Nat) (τ : Nat) (σ X : py_S) (i : Nat) : Prop := (X = σ ∧ ∀ j, j < i → Q (ns.getD j 0) τ = false) ∨ (X = py_wr 3 τ σ ∧ ∃ j, j < i ∧ Q (ns.getD j 0) τ = true)
theorem rq_nm_end {Q : Nat → Nat → Bool} {ns : List Nat} {τ : Nat} {σ X : py_S} (hn : σ.2.2.2.2 = ns) {i : Nat} (hi : ns.length ≤ i) (hii : i ≤ ns.length) (h : rq_nm Q ns τ σ X i) : X = py_nm Q τ σ := by
  have key : (σ.2.2.2.2.any (fun i => Q i τ) = true) ↔ ∃ j, j < i ∧ Q (ns.getD j 0) τ = true := by
    rw [hn, List.any_eq_true]
    constructor
    · rintro ⟨x, hx, hq⟩
      obtain ⟨j, hj, ej⟩ := List.getElem_of_mem hx
      refine ⟨j, by omega, ?_⟩
      rw [List.getD_eq_getElem?_getD, List.getElem?_eq_getElem hj, ej]
      exact hq
    · rintro ⟨j, hj, hq⟩
      have hj2 : j < ns.length := by omega
      rw [List.getD_eq_getElem?_getD, List.getElem?_eq_getElem hj2] at hq
      exact ⟨ns[j], List.getElem_mem hj2, hq⟩
  unfold py_nm
  rcases h with ⟨rfl, h⟩ | ⟨rfl, h⟩
  · rw [if_neg (fun q => by
      obtain ⟨j, hj, hq⟩ := key.mp q
      rw [h j hj] at hq
      cases hq)]
  · rw [if_pos (key.mpr h)]
theorem rq_nm_f {Q : Nat → Nat → Bool} {ns : List Nat} {τ : Nat} {σ X : py_S} {i : Nat} (hX : X.2.1 ≠ 0) (h : rq_nm Q ns τ σ X i) : X = py_nm Q τ σ := by
  rcases h with ⟨rfl, h⟩ | ⟨rfl, h⟩
  · exact (py_nm_f hX).symm
  · rw [py_wr_t.2.1] at hX
    rw [py_nm_f hX, py_wr_f hX]
theorem py_mu_st {K : Nat → Int} {k : Int} {σ : py_S} (h : (py_mu K k σ).2.1 = 0) : σ.2.1 = 0 ∧ K σ.1 = k ∧ (py_mu K k σ).1 = σ.1 + 1 ∧ (py_mu K k σ).2.2 = σ.2.2 := by
  by_cases c : σ.2.1 = 0 ∧ K σ.1 = k
  · have e : py_mu K k σ = py_go σ := if_pos c
    rw [e] at h ⊢
    refine ⟨c.1, c.2, (py_go_st h).2, ?_⟩
    by_cases e4 : σ.1 = 400
    · rw [py_go_e c.1 e4]
    · rw [py_go_s c.1 e4]
  · have e : py_mu K k σ = py_fl 1 σ := if_neg c
    rw [e] at h
    exact absurd h (py_fl_f (by decide))
theorem bu_98_0 : mm_at mt_P 98 0 = some ((0, 1, .aload_n 0, 0, 0, 0, 0), 4, 0, 1, 9, 0, 0, 0) := rfl
theorem bu_98_1 : mm_at mt_P 98 1 = some ((1, 3, .invokevirtual 224, 37, 0, 0, 1491), 4, 0, 1, 9, 0, 0, 0) := rfl
theorem bu_98_4 : mm_at mt_P 98 4 = some ((4, 2, .bipush 6, 0, 0, 0, 0), 4, 0, 1, 9, 0, 0, 0) := rfl
theorem bu_98_6 : mm_at mt_P 98 6 = some ((6, 1, .aload_n 0, 0, 0, 0, 0), 4, 0, 1, 9, 0, 0, 0) := rfl
theorem bu_98_7 : mm_at mt_P 98 7 = some ((7, 3, .getfield 236, 9, 19, 0, 1236), 4, 0, 1, 9, 0, 0, 0) := rfl
theorem bu_98_10 : mm_at mt_P 98 10 = some ((10, 1, .imul, 0, 0, 0, 0), 4, 0, 1, 9, 0, 0, 0) := rfl
theorem bu_98_11 : mm_at mt_P 98 11 = some ((11, 1, .aload_n 0, 0, 0, 0, 0), 4, 0, 1, 9, 0, 0, 0) := rfl
theorem bu_98_12 : mm_at mt_P 98 12 = some ((12, 3, .getfield 43, 9, 22, 0, 1239), 4, 0, 1, 9, 0, 0, 0) := rfl
theorem bu_98_15 : mm_at mt_P 98 15 = some ((15, 1, .aload_n 0, 0, 0, 0, 0), 4, 0, 1, 9, 0, 0, 0) := rfl
theorem bu_98_16 : mm_at mt_P 98 16 = some ((16, 3, .getfield 236, 9, 19, 0, 1236), 4, 0, 1, 9, 0, 0, 0) := rfl
theorem bu_98_19 : mm_at mt_P 98 19 = some ((19, 1, .iaload, 0, 0, 0, 0), 4, 0, 1, 9, 0, 0, 0) := rfl
theorem bu_98_20 : mm_at mt_P 98 20 = some ((20, 1, .iadd, 0, 0, 0, 0), 4, 0, 1, 9, 0, 0, 0) := rfl
theorem bu_98_21 : mm_at mt_P 98 21 = some ((21, 1, .istore_n 1, 0, 0, 0, 0), 4, 0, 1, 9, 0, 0, 0) := rfl
theorem bu_98_22 : mm_at mt_P 98 22 = some ((22, 1, .aload_n 0, 0, 0, 0, 0), 4, 0, 1, 9, 0, 0, 0) := rfl
theorem bu_98_23 : mm_at mt_P 98 23 = some ((23, 3, .getfield 206, 9, 11, 0, 1228), 4, 0, 1, 9, 0, 0, 0) := rfl
theorem bu_98_26 : mm_at mt_P 98 26 = some ((26, 1, .istore_n 2, 0, 0, 0, 0), 4, 0, 1, 9, 0, 0, 0) := rfl
theorem bu_98_27 : mm_at mt_P 98 27 = some ((27, 1, .aload_n 0, 0, 0, 0, 0), 4, 0, 1, 9, 0, 0, 0) := rfl
theorem bu_98_28 : mm_at mt_P 98 28 = some ((28, 1, .iconst 1, 0, 0, 0, 0), 4, 0, 1, 9, 0, 0, 0) := rfl
theorem bu_98_29 : mm_at mt_P 98 29 = some ((29, 3, .invokevirtual 267, 67, 0, 0, 1495), 4, 0, 1, 9, 0, 0, 0) := rfl
theorem bu_98_32 : mm_at mt_P 98 32 = some ((32, 1, .iconst 0, 0, 0, 0, 0), 4, 0, 1, 9, 0, 0, 0) := rfl
theorem bu_98_33 : mm_at mt_P 98 33 = some ((33, 1, .istore_n 3, 0, 0, 0, 0), 4, 0, 1, 9, 0, 0, 0) := rfl
theorem bu_98_34 : mm_at mt_P 98 34 = some ((34, 1, .iload_n 3, 0, 0, 0, 0), 4, 0, 1, 9, 0, 0, 0) := rfl
theorem bu_98_35 : mm_at mt_P 98 35 = some ((35, 1, .aload_n 0, 0, 0, 0, 0), 4, 0, 1, 9, 0, 0, 0) := rfl
theorem bu_98_36 : mm_at mt_P 98 36 = some ((36, 3, .getfield 239, 9, 20, 0, 1237), 4, 0, 1, 9, 0, 0, 0) := rfl
theorem bu_98_39 : mm_at mt_P 98 39 = some ((39, 3, .if_icmp .ge 38, 0, 0, 0, 0), 4, 0, 1, 9, 0, 0, 0) := rfl
theorem bu_98_42 : mm_at mt_P 98 42 = some ((42, 1, .aload_n 0, 0, 0, 0, 0), 4, 0, 1, 9, 0, 0, 0) := rfl
theorem bu_98_43 : mm_at mt_P 98 43 = some ((43, 3, .getfield 203, 9, 13, 0, 1230), 4, 0, 1, 9, 0, 0, 0) := rfl
theorem bu_98_46 : mm_at mt_P 98 46 = some ((46, 3, .ifCond .ne 31, 0, 0, 0, 0), 4, 0, 1, 9, 0, 0, 0) := rfl
theorem bu_98_49 : mm_at mt_P 98 49 = some ((49, 1, .aload_n 0, 0, 0, 0, 0), 4, 0, 1, 9, 0, 0, 0) := rfl
theorem bu_98_50 : mm_at mt_P 98 50 = some ((50, 3, .getfield 40, 9, 21, 0, 1238), 4, 0, 1, 9, 0, 0, 0) := rfl
theorem bu_98_53 : mm_at mt_P 98 53 = some ((53, 1, .iload_n 3, 0, 0, 0, 0), 4, 0, 1, 9, 0, 0, 0) := rfl
theorem bu_98_54 : mm_at mt_P 98 54 = some ((54, 1, .laload, 0, 0, 0, 0), 4, 0, 1, 9, 0, 0, 0) := rfl
theorem bu_98_55 : mm_at mt_P 98 55 = some ((55, 1, .aload_n 0, 0, 0, 0, 0), 4, 0, 1, 9, 0, 0, 0) := rfl
theorem bu_98_56 : mm_at mt_P 98 56 = some ((56, 3, .getfield 30, 9, 8, 0, 1225), 4, 0, 1, 9, 0, 0, 0) := rfl
theorem bu_98_59 : mm_at mt_P 98 59 = some ((59, 1, .iload_n 2, 0, 0, 0, 0), 4, 0, 1, 9, 0, 0, 0) := rfl
theorem bu_98_60 : mm_at mt_P 98 60 = some ((60, 1, .laload, 0, 0, 0, 0), 4, 0, 1, 9, 0, 0, 0) := rfl
theorem bu_98_61 : mm_at mt_P 98 61 = some ((61, 1, .lcmp, 0, 0, 0, 0), 4, 0, 1, 9, 0, 0, 0) := rfl
theorem bu_98_62 : mm_at mt_P 98 62 = some ((62, 3, .ifCond .ne 9, 0, 0, 0, 0), 4, 0, 1, 9, 0, 0, 0) := rfl
theorem bu_98_65 : mm_at mt_P 98 65 = some ((65, 1, .aload_n 0, 0, 0, 0, 0), 4, 0, 1, 9, 0, 0, 0) := rfl
theorem bu_98_66 : mm_at mt_P 98 66 = some ((66, 1, .iconst 3, 0, 0, 0, 0), 4, 0, 1, 9, 0, 0, 0) := rfl
theorem bu_98_67 : mm_at mt_P 98 67 = some ((67, 1, .iload_n 2, 0, 0, 0, 0), 4, 0, 1, 9, 0, 0, 0) := rfl
theorem bu_98_68 : mm_at mt_P 98 68 = some ((68, 3, .invokevirtual 273, 112, 0, 0, 1499), 4, 0, 1, 9, 0, 0, 0) := rfl
theorem bu_98_71 : mm_at mt_P 98 71 = some ((71, 3, .iinc 3 1, 0, 0, 0, 0), 4, 0, 1, 9, 0, 0, 0) := rfl
theorem bu_98_74 : mm_at mt_P 98 74 = some ((74, 3, .goto (-40), 0, 0, 0, 0), 4, 0, 1, 9, 0, 0, 0) := rfl
theorem bu_98_77 : mm_at mt_P 98 77 = some ((77, 1, .iconst 0, 0, 0, 0, 0), 4, 0, 1, 9, 0, 0, 0) := rfl
theorem bu_98_78 : mm_at mt_P 98 78 = some ((78, 1, .istore_n 3, 0, 0, 0, 0), 4, 0, 1, 9, 0, 0, 0) := rfl
theorem bu_98_79 : mm_at mt_P 98 79 = some ((79, 1, .iload_n 3, 0, 0, 0, 0), 4, 0, 1, 9, 0, 0, 0) := rfl
theorem bu_98_80 : mm_at mt_P 98 80 = some ((80, 1, .iconst 4, 0, 0, 0, 0), 4, 0, 1, 9, 0, 0, 0) := rfl
theorem bu_98_81 : mm_at mt_P 98 81 = some ((81, 3, .if_icmp .ge 26, 0, 0, 0, 0), 4, 0, 1, 9, 0, 0, 0) := rfl
theorem bu_98_84 : mm_at mt_P 98 84 = some ((84, 1, .aload_n 0, 0, 0, 0, 0), 4, 0, 1, 9, 0, 0, 0) := rfl
theorem bu_98_85 : mm_at mt_P 98 85 = some ((85, 3, .getfield 46, 9, 23, 0, 1240), 4, 0, 1, 9, 0, 0, 0) := rfl
theorem bu_98_88 : mm_at mt_P 98 88 = some ((88, 1, .iconst 4, 0, 0, 0, 0), 4, 0, 1, 9, 0, 0, 0) := rfl
theorem bu_98_89 : mm_at mt_P 98 89 = some ((89, 1, .iload_n 1, 0, 0, 0, 0), 4, 0, 1, 9, 0, 0, 0) := rfl
theorem bu_98_90 : mm_at mt_P 98 90 = some ((90, 1, .imul, 0, 0, 0, 0), 4, 0, 1, 9, 0, 0, 0) := rfl
theorem bu_98_91 : mm_at mt_P 98 91 = some ((91, 1, .iload_n 3, 0, 0, 0, 0), 4, 0, 1, 9, 0, 0, 0) := rfl
theorem bu_98_92 : mm_at mt_P 98 92 = some ((92, 1, .iadd, 0, 0, 0, 0), 4, 0, 1, 9, 0, 0, 0) := rfl
theorem bu_98_93 : mm_at mt_P 98 93 = some ((93, 1, .aload_n 0, 0, 0, 0, 0), 4, 0, 1, 9, 0, 0, 0) := rfl
theorem bu_98_94 : mm_at mt_P 98 94 = some ((94, 1, .iconst 0, 0, 0, 0, 0), 4, 0, 1, 9, 0, 0, 0) := rfl
theorem bu_98_95 : mm_at mt_P 98 95 = some ((95, 2, .bipush 9, 0, 0, 0, 0), 4, 0, 1, 9, 0, 0, 0) := rfl
theorem bu_98_97 : mm_at mt_P 98 97 = some ((97, 3, .invokevirtual 263, 10, 0, 0, 1503), 4, 0, 1, 9, 0, 0, 0) := rfl
theorem bu_98_100 : mm_at mt_P 98 100 = some ((100, 1, .iastore, 0, 0, 0, 0), 4, 0, 1, 9, 0, 0, 0) := rfl
theorem bu_98_101 : mm_at mt_P 98 101 = some ((101, 3, .iinc 3 1, 0, 0, 0, 0), 4, 0, 1, 9, 0, 0, 0) := rfl
theorem bu_98_104 : mm_at mt_P 98 104 = some ((104, 3, .goto (-25), 0, 0, 0, 0), 4, 0, 1, 9, 0, 0, 0) := rfl
theorem bu_98_107 : mm_at mt_P 98 107 = some ((107, 1, .aload_n 0, 0, 0, 0, 0), 4, 0, 1, 9, 0, 0, 0) := rfl
theorem bu_98_108 : mm_at mt_P 98 108 = some ((108, 3, .getfield 49, 9, 24, 0, 1241), 4, 0, 1, 9, 0, 0, 0) := rfl
theorem bu_98_111 : mm_at mt_P 98 111 = some ((111, 1, .iload_n 1, 0, 0, 0, 0), 4, 0, 1, 9, 0, 0, 0) := rfl
theorem bu_98_112 : mm_at mt_P 98 112 = some ((112, 1, .aload_n 0, 0, 0, 0, 0), 4, 0, 1, 9, 0, 0, 0) := rfl
theorem bu_98_113 : mm_at mt_P 98 113 = some ((113, 1, .iconst 0, 0, 0, 0, 0), 4, 0, 1, 9, 0, 0, 0) := rfl
theorem bu_98_114 : mm_at mt_P 98 114 = some ((114, 2, .bipush 9, 0, 0, 0, 0), 4, 0, 1, 9, 0, 0, 0) := rfl
theorem bu_98_116 : mm_at mt_P 98 116 = some ((116, 3, .invokevirtual 263, 10, 0, 0, 1503), 4, 0, 1, 9, 0, 0, 0) := rfl
theorem bu_98_119 : mm_at mt_P 98 119 = some ((119, 1, .iastore, 0, 0, 0, 0), 4, 0, 1, 9, 0, 0, 0) := rfl
theorem bu_98_120 : mm_at mt_P 98 120 = some ((120, 1, .aload_n 0, 0, 0, 0, 0), 4, 0, 1, 9, 0, 0, 0) := rfl
theorem bu_98_121 : mm_at mt_P 98 121 = some ((121, 1, .iconst 4, 0, 0, 0, 0), 4, 0, 1, 9, 0, 0, 0) := rfl
theorem bu_98_122 : mm_at mt_P 98 122 = some ((122, 3, .invokevirtual 267, 67, 0, 0, 1495), 4, 0, 1, 9, 0, 0, 0) := rfl
theorem bu_98_125 : mm_at mt_P 98 125 = some ((125, 1, .aload_n 0, 0, 0, 0, 0), 4, 0, 1, 9, 0, 0, 0) := rfl
theorem bu_98_126 : mm_at mt_P 98 126 = some ((126, 3, .getfield 203, 9, 13, 0, 1230), 4, 0, 1, 9, 0, 0, 0) := rfl
theorem bu_98_129 : mm_at mt_P 98 129 = some ((129, 3, .ifCond .le 4, 0, 0, 0, 0), 4, 0, 1, 9, 0, 0, 0) := rfl
theorem bu_98_132 : mm_at mt_P 98 132 = some ((132, 1, .return_, 0, 0, 0, 0), 4, 0, 1, 9, 0, 0, 0) := rfl
theorem bu_98_133 : mm_at mt_P 98 133 = some ((133, 1, .aload_n 0, 0, 0, 0, 0), 4, 0, 1, 9, 0, 0, 0) := rfl
theorem bu_98_134 : mm_at mt_P 98 134 = some ((134, 3, .getfield 40, 9, 21, 0, 1238), 4, 0, 1, 9, 0, 0, 0) := rfl
theorem bu_98_137 : mm_at mt_P 98 137 = some ((137, 1, .aload_n 0, 0, 0, 0, 0), 4, 0, 1, 9, 0, 0, 0) := rfl
theorem bu_98_138 : mm_at mt_P 98 138 = some ((138, 3, .getfield 239, 9, 20, 0, 1237), 4, 0, 1, 9, 0, 0, 0) := rfl
theorem bu_98_141 : mm_at mt_P 98 141 = some ((141, 1, .aload_n 0, 0, 0, 0, 0), 4, 0, 1, 9, 0, 0, 0) := rfl
theorem bu_98_142 : mm_at mt_P 98 142 = some ((142, 3, .getfield 30, 9, 8, 0, 1225), 4, 0, 1, 9, 0, 0, 0) := rfl
theorem bu_98_145 : mm_at mt_P 98 145 = some ((145, 1, .iload_n 2, 0, 0, 0, 0), 4, 0, 1, 9, 0, 0, 0) := rfl
theorem bu_98_146 : mm_at mt_P 98 146 = some ((146, 1, .laload, 0, 0, 0, 0), 4, 0, 1, 9, 0, 0, 0) := rfl
theorem bu_98_147 : mm_at mt_P 98 147 = some ((147, 1, .lastore, 0, 0, 0, 0), 4, 0, 1, 9, 0, 0, 0) := rfl
theorem bu_98_148 : mm_at mt_P 98 148 = some ((148, 1, .aload_n 0, 0, 0, 0, 0), 4, 0, 1, 9, 0, 0, 0) := rfl
theorem bu_98_149 : mm_at mt_P 98 149 = some ((149, 1, .dup, 0, 0, 0, 0), 4, 0, 1, 9, 0, 0, 0) := rfl
theorem bu_98_150 : mm_at mt_P 98 150 = some ((150, 3, .getfield 239, 9, 20, 0, 1237), 4, 0, 1, 9, 0, 0, 0) := rfl
theorem bu_98_153 : mm_at mt_P 98 153 = some ((153, 1, .iconst 1, 0, 0, 0, 0), 4, 0, 1, 9, 0, 0, 0) := rfl
theorem bu_98_154 : mm_at mt_P 98 154 = some ((154, 1, .iadd, 0, 0, 0, 0), 4, 0, 1, 9, 0, 0, 0) := rfl
theorem bu_98_155 : mm_at mt_P 98 155 = some ((155, 3, .putfield 239, 9, 20, 0, 1237), 4, 0, 1, 9, 0, 0, 0) := rfl
theorem bu_98_158 : mm_at mt_P 98 158 = some ((158, 1, .aload_n 0, 0, 0, 0, 0), 4, 0, 1, 9, 0, 0, 0) := rfl
theorem bu_98_159 : mm_at mt_P 98 159 = some ((159, 3, .getfield 43, 9, 22, 0, 1239), 4, 0, 1, 9, 0, 0, 0) := rfl
theorem bu_98_162 : mm_at mt_P 98 162 = some ((162, 1, .aload_n 0, 0, 0, 0, 0), 4, 0, 1, 9, 0, 0, 0) := rfl
theorem bu_98_163 : mm_at mt_P 98 163 = some ((163, 3, .getfield 236, 9, 19, 0, 1236), 4, 0, 1, 9, 0, 0, 0) := rfl
theorem bu_98_166 : mm_at mt_P 98 166 = some ((166, 1, .dup2, 0, 0, 0, 0), 4, 0, 1, 9, 0, 0, 0) := rfl
theorem bu_98_167 : mm_at mt_P 98 167 = some ((167, 1, .iaload, 0, 0, 0, 0), 4, 0, 1, 9, 0, 0, 0) := rfl
theorem bu_98_168 : mm_at mt_P 98 168 = some ((168, 1, .iconst 1, 0, 0, 0, 0), 4, 0, 1, 9, 0, 0, 0) := rfl
theorem bu_98_169 : mm_at mt_P 98 169 = some ((169, 1, .iadd, 0, 0, 0, 0), 4, 0, 1, 9, 0, 0, 0) := rfl
theorem bu_98_170 : mm_at mt_P 98 170 = some ((170, 1, .iastore, 0, 0, 0, 0), 4, 0, 1, 9, 0, 0, 0) := rfl
theorem bu_98_171 : mm_at mt_P 98 171 = some ((171, 1, .return_, 0, 0, 0, 0), 4, 0, 1, 9, 0, 0, 0) := rfl
theorem bu_99_0 : mm_at mt_P 99 0 = some ((0, 1, .aload_n 0, 0, 0, 0, 0), 2, 0, 1, 9, 0, 0, 0) := rfl
theorem bu_99_1 : mm_at mt_P 99 1 = some ((1, 3, .getfield 20, 9, 5, 0, 1222), 2, 0, 1, 9, 0, 0, 0) := rfl
theorem bu_99_4 : mm_at mt_P 99 4 = some ((4, 1, .aload_n 0, 0, 0, 0, 0), 2, 0, 1, 9, 0, 0, 0) := rfl
theorem bu_99_5 : mm_at mt_P 99 5 = some ((5, 3, .getfield 206, 9, 11, 0, 1228), 2, 0, 1, 9, 0, 0, 0) := rfl
theorem bu_99_8 : mm_at mt_P 99 8 = some ((8, 1, .iaload, 0, 0, 0, 0), 2, 0, 1, 9, 0, 0, 0) := rfl
theorem bu_99_9 : mm_at mt_P 99 9 = some ((9, 63, .tableswitch 244 20 31 #[63, 244, 244, 244, 244, 244, 244, 244, 96, 157, 186, 215], 0, 0, 0, 0), 2, 0, 1, 9, 0, 0, 0) := rfl
theorem bu_99_72 : mm_at mt_P 99 72 = some ((72, 1, .aload_n 0, 0, 0, 0, 0), 2, 0, 1, 9, 0, 0, 0) := rfl
theorem bu_99_73 : mm_at mt_P 99 73 = some ((73, 3, .getfield 43, 9, 22, 0, 1239), 2, 0, 1, 9, 0, 0, 0) := rfl
theorem bu_99_76 : mm_at mt_P 99 76 = some ((76, 1, .aload_n 0, 0, 0, 0, 0), 2, 0, 1, 9, 0, 0, 0) := rfl
theorem bu_99_77 : mm_at mt_P 99 77 = some ((77, 3, .getfield 236, 9, 19, 0, 1236), 2, 0, 1, 9, 0, 0, 0) := rfl
theorem bu_99_80 : mm_at mt_P 99 80 = some ((80, 1, .iaload, 0, 0, 0, 0), 2, 0, 1, 9, 0, 0, 0) := rfl
theorem bu_99_81 : mm_at mt_P 99 81 = some ((81, 2, .bipush 6, 0, 0, 0, 0), 2, 0, 1, 9, 0, 0, 0) := rfl
theorem bu_99_83 : mm_at mt_P 99 83 = some ((83, 3, .if_icmp .ne 8, 0, 0, 0, 0), 2, 0, 1, 9, 0, 0, 0) := rfl
theorem bu_99_86 : mm_at mt_P 99 86 = some ((86, 1, .aload_n 0, 0, 0, 0, 0), 2, 0, 1, 9, 0, 0, 0) := rfl
theorem bu_99_87 : mm_at mt_P 99 87 = some ((87, 1, .iconst 2, 0, 0, 0, 0), 2, 0, 1, 9, 0, 0, 0) := rfl
theorem bu_99_88 : mm_at mt_P 99 88 = some ((88, 3, .invokevirtual 218, 27, 0, 0, 1483), 2, 0, 1, 9, 0, 0, 0) := rfl
theorem bu_99_91 : mm_at mt_P 99 91 = some ((91, 1, .aload_n 0, 0, 0, 0, 0), 2, 0, 1, 9, 0, 0, 0) := rfl
theorem bu_99_92 : mm_at mt_P 99 92 = some ((92, 3, .getfield 203, 9, 13, 0, 1230), 2, 0, 1, 9, 0, 0, 0) := rfl
theorem bu_99_95 : mm_at mt_P 99 95 = some ((95, 3, .ifCond .ne 211, 0, 0, 0, 0), 2, 0, 1, 9, 0, 0, 0) := rfl
theorem bu_99_98 : mm_at mt_P 99 98 = some ((98, 1, .aload_n 0, 0, 0, 0, 0), 2, 0, 1, 9, 0, 0, 0) := rfl
theorem bu_99_99 : mm_at mt_P 99 99 = some ((99, 3, .invokevirtual 260, 98, 0, 0, 1487), 2, 0, 1, 9, 0, 0, 0) := rfl
theorem bu_99_102 : mm_at mt_P 99 102 = some ((102, 3, .goto 204, 0, 0, 0, 0), 2, 0, 1, 9, 0, 0, 0) := rfl
theorem bu_99_105 : mm_at mt_P 99 105 = some ((105, 1, .aload_n 0, 0, 0, 0, 0), 2, 0, 1, 9, 0, 0, 0) := rfl
theorem bu_99_106 : mm_at mt_P 99 106 = some ((106, 3, .invokevirtual 224, 37, 0, 0, 1491), 2, 0, 1, 9, 0, 0, 0) := rfl
theorem bu_99_109 : mm_at mt_P 99 109 = some ((109, 1, .aload_n 0, 0, 0, 0, 0), 2, 0, 1, 9, 0, 0, 0) := rfl
theorem bu_99_110 : mm_at mt_P 99 110 = some ((110, 3, .getfield 52, 9, 25, 0, 1242), 2, 0, 1, 9, 0, 0, 0) := rfl
theorem bu_99_113 : mm_at mt_P 99 113 = some ((113, 1, .aload_n 0, 0, 0, 0, 0), 2, 0, 1, 9, 0, 0, 0) := rfl
theorem bu_99_114 : mm_at mt_P 99 114 = some ((114, 3, .getfield 236, 9, 19, 0, 1236), 2, 0, 1, 9, 0, 0, 0) := rfl
theorem bu_99_117 : mm_at mt_P 99 117 = some ((117, 1, .aload_n 0, 0, 0, 0, 0), 2, 0, 1, 9, 0, 0, 0) := rfl
theorem bu_99_118 : mm_at mt_P 99 118 = some ((118, 1, .iconst 1, 0, 0, 0, 0), 2, 0, 1, 9, 0, 0, 0) := rfl
theorem bu_99_119 : mm_at mt_P 99 119 = some ((119, 2, .bipush 99, 0, 0, 0, 0), 2, 0, 1, 9, 0, 0, 0) := rfl
theorem bu_99_121 : mm_at mt_P 99 121 = some ((121, 3, .invokevirtual 263, 10, 0, 0, 1503), 2, 0, 1, 9, 0, 0, 0) := rfl
theorem bu_99_124 : mm_at mt_P 99 124 = some ((124, 1, .iastore, 0, 0, 0, 0), 2, 0, 1, 9, 0, 0, 0) := rfl
theorem bu_99_125 : mm_at mt_P 99 125 = some ((125, 1, .aload_n 0, 0, 0, 0, 0), 2, 0, 1, 9, 0, 0, 0) := rfl
theorem bu_99_126 : mm_at mt_P 99 126 = some ((126, 3, .getfield 55, 9, 26, 0, 1243), 2, 0, 1, 9, 0, 0, 0) := rfl
theorem bu_99_129 : mm_at mt_P 99 129 = some ((129, 1, .aload_n 0, 0, 0, 0, 0), 2, 0, 1, 9, 0, 0, 0) := rfl
theorem bu_99_130 : mm_at mt_P 99 130 = some ((130, 3, .getfield 236, 9, 19, 0, 1236), 2, 0, 1, 9, 0, 0, 0) := rfl
theorem bu_99_133 : mm_at mt_P 99 133 = some ((133, 1, .aload_n 0, 0, 0, 0, 0), 2, 0, 1, 9, 0, 0, 0) := rfl
theorem bu_99_134 : mm_at mt_P 99 134 = some ((134, 1, .iconst 0, 0, 0, 0, 0), 2, 0, 1, 9, 0, 0, 0) := rfl
theorem bu_99_135 : mm_at mt_P 99 135 = some ((135, 3, .sipush 999, 0, 0, 0, 0), 2, 0, 1, 9, 0, 0, 0) := rfl
theorem bu_99_138 : mm_at mt_P 99 138 = some ((138, 3, .invokevirtual 263, 10, 0, 0, 1503), 2, 0, 1, 9, 0, 0, 0) := rfl
theorem bu_99_141 : mm_at mt_P 99 141 = some ((141, 1, .iastore, 0, 0, 0, 0), 2, 0, 1, 9, 0, 0, 0) := rfl
theorem bu_99_142 : mm_at mt_P 99 142 = some ((142, 1, .aload_n 0, 0, 0, 0, 0), 2, 0, 1, 9, 0, 0, 0) := rfl
theorem bu_99_143 : mm_at mt_P 99 143 = some ((143, 3, .getfield 58, 9, 27, 0, 1244), 2, 0, 1, 9, 0, 0, 0) := rfl
theorem bu_99_146 : mm_at mt_P 99 146 = some ((146, 1, .aload_n 0, 0, 0, 0, 0), 2, 0, 1, 9, 0, 0, 0) := rfl
theorem bu_99_147 : mm_at mt_P 99 147 = some ((147, 3, .getfield 236, 9, 19, 0, 1236), 2, 0, 1, 9, 0, 0, 0) := rfl
theorem bu_99_150 : mm_at mt_P 99 150 = some ((150, 1, .aload_n 0, 0, 0, 0, 0), 2, 0, 1, 9, 0, 0, 0) := rfl
theorem bu_99_151 : mm_at mt_P 99 151 = some ((151, 1, .iconst 0, 0, 0, 0, 0), 2, 0, 1, 9, 0, 0, 0) := rfl
theorem bu_99_152 : mm_at mt_P 99 152 = some ((152, 2, .bipush 99, 0, 0, 0, 0), 2, 0, 1, 9, 0, 0, 0) := rfl
theorem bu_99_154 : mm_at mt_P 99 154 = some ((154, 3, .invokevirtual 263, 10, 0, 0, 1503), 2, 0, 1, 9, 0, 0, 0) := rfl
theorem bu_99_157 : mm_at mt_P 99 157 = some ((157, 1, .iastore, 0, 0, 0, 0), 2, 0, 1, 9, 0, 0, 0) := rfl
theorem bu_99_158 : mm_at mt_P 99 158 = some ((158, 1, .aload_n 0, 0, 0, 0, 0), 2, 0, 1, 9, 0, 0, 0) := rfl
theorem bu_99_159 : mm_at mt_P 99 159 = some ((159, 1, .iconst 4, 0, 0, 0, 0), 2, 0, 1, 9, 0, 0, 0) := rfl
theorem bu_99_160 : mm_at mt_P 99 160 = some ((160, 3, .invokevirtual 267, 67, 0, 0, 1495), 2, 0, 1, 9, 0, 0, 0) := rfl
theorem bu_99_163 : mm_at mt_P 99 163 = some ((163, 3, .goto 143, 0, 0, 0, 0), 2, 0, 1, 9, 0, 0, 0) := rfl
theorem bu_99_166 : mm_at mt_P 99 166 = some ((166, 1, .aload_n 0, 0, 0, 0, 0), 2, 0, 1, 9, 0, 0, 0) := rfl
theorem bu_99_167 : mm_at mt_P 99 167 = some ((167, 3, .invokevirtual 224, 37, 0, 0, 1491), 2, 0, 1, 9, 0, 0, 0) := rfl
theorem bu_99_170 : mm_at mt_P 99 170 = some ((170, 1, .aload_n 0, 0, 0, 0, 0), 2, 0, 1, 9, 0, 0, 0) := rfl
theorem bu_99_171 : mm_at mt_P 99 171 = some ((171, 3, .getfield 61, 9, 28, 0, 1245), 2, 0, 1, 9, 0, 0, 0) := rfl
theorem bu_99_174 : mm_at mt_P 99 174 = some ((174, 1, .aload_n 0, 0, 0, 0, 0), 2, 0, 1, 9, 0, 0, 0) := rfl
theorem bu_99_175 : mm_at mt_P 99 175 = some ((175, 3, .getfield 236, 9, 19, 0, 1236), 2, 0, 1, 9, 0, 0, 0) := rfl
theorem bu_99_178 : mm_at mt_P 99 178 = some ((178, 1, .aload_n 0, 0, 0, 0, 0), 2, 0, 1, 9, 0, 0, 0) := rfl
theorem bu_99_179 : mm_at mt_P 99 179 = some ((179, 1, .iconst 1, 0, 0, 0, 0), 2, 0, 1, 9, 0, 0, 0) := rfl
theorem bu_99_180 : mm_at mt_P 99 180 = some ((180, 3, .sipush 999, 0, 0, 0, 0), 2, 0, 1, 9, 0, 0, 0) := rfl
theorem bu_99_183 : mm_at mt_P 99 183 = some ((183, 3, .invokevirtual 263, 10, 0, 0, 1503), 2, 0, 1, 9, 0, 0, 0) := rfl
theorem bu_99_186 : mm_at mt_P 99 186 = some ((186, 1, .iastore, 0, 0, 0, 0), 2, 0, 1, 9, 0, 0, 0) := rfl
theorem bu_99_187 : mm_at mt_P 99 187 = some ((187, 1, .aload_n 0, 0, 0, 0, 0), 2, 0, 1, 9, 0, 0, 0) := rfl
theorem bu_99_188 : mm_at mt_P 99 188 = some ((188, 1, .iconst 4, 0, 0, 0, 0), 2, 0, 1, 9, 0, 0, 0) := rfl
theorem bu_99_189 : mm_at mt_P 99 189 = some ((189, 3, .invokevirtual 267, 67, 0, 0, 1495), 2, 0, 1, 9, 0, 0, 0) := rfl
theorem bu_99_192 : mm_at mt_P 99 192 = some ((192, 3, .goto 114, 0, 0, 0, 0), 2, 0, 1, 9, 0, 0, 0) := rfl
theorem bu_99_195 : mm_at mt_P 99 195 = some ((195, 1, .aload_n 0, 0, 0, 0, 0), 2, 0, 1, 9, 0, 0, 0) := rfl
theorem bu_99_196 : mm_at mt_P 99 196 = some ((196, 3, .invokevirtual 224, 37, 0, 0, 1491), 2, 0, 1, 9, 0, 0, 0) := rfl
theorem bu_99_199 : mm_at mt_P 99 199 = some ((199, 1, .aload_n 0, 0, 0, 0, 0), 2, 0, 1, 9, 0, 0, 0) := rfl
theorem bu_99_200 : mm_at mt_P 99 200 = some ((200, 3, .getfield 64, 9, 29, 0, 1246), 2, 0, 1, 9, 0, 0, 0) := rfl
theorem bu_99_203 : mm_at mt_P 99 203 = some ((203, 1, .aload_n 0, 0, 0, 0, 0), 2, 0, 1, 9, 0, 0, 0) := rfl
theorem bu_99_204 : mm_at mt_P 99 204 = some ((204, 3, .getfield 236, 9, 19, 0, 1236), 2, 0, 1, 9, 0, 0, 0) := rfl
theorem bu_99_207 : mm_at mt_P 99 207 = some ((207, 1, .aload_n 0, 0, 0, 0, 0), 2, 0, 1, 9, 0, 0, 0) := rfl
theorem bu_99_208 : mm_at mt_P 99 208 = some ((208, 1, .iconst 0, 0, 0, 0, 0), 2, 0, 1, 9, 0, 0, 0) := rfl
theorem bu_99_209 : mm_at mt_P 99 209 = some ((209, 3, .sipush 9999, 0, 0, 0, 0), 2, 0, 1, 9, 0, 0, 0) := rfl
theorem bu_99_212 : mm_at mt_P 99 212 = some ((212, 3, .invokevirtual 263, 10, 0, 0, 1503), 2, 0, 1, 9, 0, 0, 0) := rfl
theorem bu_99_215 : mm_at mt_P 99 215 = some ((215, 1, .iastore, 0, 0, 0, 0), 2, 0, 1, 9, 0, 0, 0) := rfl
theorem bu_99_216 : mm_at mt_P 99 216 = some ((216, 1, .aload_n 0, 0, 0, 0, 0), 2, 0, 1, 9, 0, 0, 0) := rfl
theorem bu_99_217 : mm_at mt_P 99 217 = some ((217, 1, .iconst 4, 0, 0, 0, 0), 2, 0, 1, 9, 0, 0, 0) := rfl
theorem bu_99_218 : mm_at mt_P 99 218 = some ((218, 3, .invokevirtual 267, 67, 0, 0, 1495), 2, 0, 1, 9, 0, 0, 0) := rfl
theorem bu_99_221 : mm_at mt_P 99 221 = some ((221, 3, .goto 85, 0, 0, 0, 0), 2, 0, 1, 9, 0, 0, 0) := rfl
theorem bu_99_224 : mm_at mt_P 99 224 = some ((224, 1, .aload_n 0, 0, 0, 0, 0), 2, 0, 1, 9, 0, 0, 0) := rfl
theorem bu_99_225 : mm_at mt_P 99 225 = some ((225, 3, .invokevirtual 224, 37, 0, 0, 1491), 2, 0, 1, 9, 0, 0, 0) := rfl
theorem bu_99_228 : mm_at mt_P 99 228 = some ((228, 1, .aload_n 0, 0, 0, 0, 0), 2, 0, 1, 9, 0, 0, 0) := rfl
theorem bu_99_229 : mm_at mt_P 99 229 = some ((229, 3, .getfield 67, 9, 30, 0, 1247), 2, 0, 1, 9, 0, 0, 0) := rfl
theorem bu_99_232 : mm_at mt_P 99 232 = some ((232, 1, .aload_n 0, 0, 0, 0, 0), 2, 0, 1, 9, 0, 0, 0) := rfl
theorem bu_99_233 : mm_at mt_P 99 233 = some ((233, 3, .getfield 236, 9, 19, 0, 1236), 2, 0, 1, 9, 0, 0, 0) := rfl
theorem bu_99_236 : mm_at mt_P 99 236 = some ((236, 1, .aload_n 0, 0, 0, 0, 0), 2, 0, 1, 9, 0, 0, 0) := rfl
theorem bu_99_237 : mm_at mt_P 99 237 = some ((237, 1, .iconst 0, 0, 0, 0, 0), 2, 0, 1, 9, 0, 0, 0) := rfl
theorem bu_99_238 : mm_at mt_P 99 238 = some ((238, 3, .sipush 9999, 0, 0, 0, 0), 2, 0, 1, 9, 0, 0, 0) := rfl
theorem bu_99_241 : mm_at mt_P 99 241 = some ((241, 3, .invokevirtual 263, 10, 0, 0, 1503), 2, 0, 1, 9, 0, 0, 0) := rfl
theorem bu_99_244 : mm_at mt_P 99 244 = some ((244, 1, .iastore, 0, 0, 0, 0), 2, 0, 1, 9, 0, 0, 0) := rfl
theorem bu_99_245 : mm_at mt_P 99 245 = some ((245, 1, .aload_n 0, 0, 0, 0, 0), 2, 0, 1, 9, 0, 0, 0) := rfl
theorem bu_99_246 : mm_at mt_P 99 246 = some ((246, 1, .iconst 4, 0, 0, 0, 0), 2, 0, 1, 9, 0, 0, 0) := rfl
theorem bu_99_247 : mm_at mt_P 99 247 = some ((247, 3, .invokevirtual 267, 67, 0, 0, 1495), 2, 0, 1, 9, 0, 0, 0) := rfl
theorem bu_99_250 : mm_at mt_P 99 250 = some ((250, 3, .goto 56, 0, 0, 0, 0), 2, 0, 1, 9, 0, 0, 0) := rfl
theorem bu_99_253 : mm_at mt_P 99 253 = some ((253, 1, .aload_n 0, 0, 0, 0, 0), 2, 0, 1, 9, 0, 0, 0) := rfl
theorem bu_99_254 : mm_at mt_P 99 254 = some ((254, 3, .getfield 20, 9, 5, 0, 1222), 2, 0, 1, 9, 0, 0, 0) := rfl
theorem bu_99_257 : mm_at mt_P 99 257 = some ((257, 1, .aload_n 0, 0, 0, 0, 0), 2, 0, 1, 9, 0, 0, 0) := rfl
theorem bu_99_258 : mm_at mt_P 99 258 = some ((258, 3, .getfield 206, 9, 11, 0, 1228), 2, 0, 1, 9, 0, 0, 0) := rfl
theorem bu_99_261 : mm_at mt_P 99 261 = some ((261, 1, .iaload, 0, 0, 0, 0), 2, 0, 1, 9, 0, 0, 0) := rfl
theorem bu_99_262 : mm_at mt_P 99 262 = some ((262, 2, .bipush 21, 0, 0, 0, 0), 2, 0, 1, 9, 0, 0, 0) := rfl
theorem bu_99_264 : mm_at mt_P 99 264 = some ((264, 1, .isub, 0, 0, 0, 0), 2, 0, 1, 9, 0, 0, 0) := rfl
theorem bu_99_265 : mm_at mt_P 99 265 = some ((265, 1, .istore_n 1, 0, 0, 0, 0), 2, 0, 1, 9, 0, 0, 0) := rfl
theorem bu_99_266 : mm_at mt_P 99 266 = some ((266, 1, .iload_n 1, 0, 0, 0, 0), 2, 0, 1, 9, 0, 0, 0) := rfl
theorem bu_99_267 : mm_at mt_P 99 267 = some ((267, 3, .ifCond .lt 17, 0, 0, 0, 0), 2, 0, 1, 9, 0, 0, 0) := rfl
theorem bu_99_270 : mm_at mt_P 99 270 = some ((270, 1, .aload_n 0, 0, 0, 0, 0), 2, 0, 1, 9, 0, 0, 0) := rfl
theorem bu_99_271 : mm_at mt_P 99 271 = some ((271, 3, .getfield 20, 9, 5, 0, 1222), 2, 0, 1, 9, 0, 0, 0) := rfl
theorem bu_99_274 : mm_at mt_P 99 274 = some ((274, 1, .aload_n 0, 0, 0, 0, 0), 2, 0, 1, 9, 0, 0, 0) := rfl
theorem bu_99_275 : mm_at mt_P 99 275 = some ((275, 3, .getfield 206, 9, 11, 0, 1228), 2, 0, 1, 9, 0, 0, 0) := rfl
theorem bu_99_278 : mm_at mt_P 99 278 = some ((278, 1, .iaload, 0, 0, 0, 0), 2, 0, 1, 9, 0, 0, 0) := rfl
theorem bu_99_279 : mm_at mt_P 99 279 = some ((279, 2, .bipush 27, 0, 0, 0, 0), 2, 0, 1, 9, 0, 0, 0) := rfl
theorem bu_99_281 : mm_at mt_P 99 281 = some ((281, 3, .if_icmp .le 8, 0, 0, 0, 0), 2, 0, 1, 9, 0, 0, 0) := rfl
theorem bu_99_284 : mm_at mt_P 99 284 = some ((284, 1, .aload_n 0, 0, 0, 0, 0), 2, 0, 1, 9, 0, 0, 0) := rfl
theorem bu_99_285 : mm_at mt_P 99 285 = some ((285, 1, .iconst 1, 0, 0, 0, 0), 2, 0, 1, 9, 0, 0, 0) := rfl
theorem bu_99_286 : mm_at mt_P 99 286 = some ((286, 3, .invokevirtual 218, 27, 0, 0, 1483), 2, 0, 1, 9, 0, 0, 0) := rfl
theorem bu_99_289 : mm_at mt_P 99 289 = some ((289, 1, .aload_n 0, 0, 0, 0, 0), 2, 0, 1, 9, 0, 0, 0) := rfl
theorem bu_99_290 : mm_at mt_P 99 290 = some ((290, 3, .getfield 203, 9, 13, 0, 1230), 2, 0, 1, 9, 0, 0, 0) := rfl
theorem bu_99_293 : mm_at mt_P 99 293 = some ((293, 3, .ifCond .le 4, 0, 0, 0, 0), 2, 0, 1, 9, 0, 0, 0) := rfl
theorem bu_99_296 : mm_at mt_P 99 296 = some ((296, 1, .return_, 0, 0, 0, 0), 2, 0, 1, 9, 0, 0, 0) := rfl
theorem bu_99_297 : mm_at mt_P 99 297 = some ((297, 1, .aload_n 0, 0, 0, 0, 0), 2, 0, 1, 9, 0, 0, 0) := rfl
theorem bu_99_298 : mm_at mt_P 99 298 = some ((298, 3, .invokevirtual 224, 37, 0, 0, 1491), 2, 0, 1, 9, 0, 0, 0) := rfl
theorem bu_99_301 : mm_at mt_P 99 301 = some ((301, 1, .aload_n 0, 0, 0, 0, 0), 2, 0, 1, 9, 0, 0, 0) := rfl
theorem bu_99_302 : mm_at mt_P 99 302 = some ((302, 1, .iload_n 1, 0, 0, 0, 0), 2, 0, 1, 9, 0, 0, 0) := rfl
theorem bu_99_303 : mm_at mt_P 99 303 = some ((303, 3, .invokevirtual 270, 97, 0, 0, 1507), 2, 0, 1, 9, 0, 0, 0) := rfl
theorem bu_99_306 : mm_at mt_P 99 306 = some ((306, 1, .return_, 0, 0, 0, 0), 2, 0, 1, 9, 0, 0, 0) := rfl
section RQB
variable {K V P : Nat → Int} {Q : Nat → Nat → Bool} {σ : py_S} {M : Nat} {ns : List Nat} {oo e : Nat} {E : mm_E} {PO : mm_C → Prop} {NN : Nat} {h0 h : mm_H} {s : Nat → Int32} {A : Nat → Nat → Int32} {L : Nat → Nat → Int64} {gs : List mm_F}
set_option maxHeartbeats 4000000 in
theorem rr_98n {a t0 : Int32} {τ : Nat} {s0 : Nat → Int32} {A0 : Nat → Nat → Int32} {L0 : Nat → Nat → Int64} (hT : rq_T K V P M A0) (hQ : ∀ i j, i < M → j < M → K i = 1 → K j = 1 → (Q i j = true ↔ L0 94 i = L0 94 j)) (hns : σ.2.2.2.2 = ns) (ht0 : σ.2.1 = 0 → t0.toInt = (τ : Int) ∧ τ < M ∧ K τ = 1 ∧ τ < σ.1) : ∀ NN : Nat, (∀ (h : mm_H) (s : Nat → Int32) (A : Nat → Nat → Int32) (L : Nat → Nat → Int64) (lv : mm_V) (o : Option Value), bm_P rz_T E h0 h s A L → rq_F s0 A0 L0 s A L → rq_R K P M (py_nm Q τ σ) ns 0 0 s A L → mm_get lv 0 = some (.ref (E.1 + 88)) → mm_get lv 1 = some (.int a) → mm_get lv 2 = some (.int t0) → bp_G E PO NN ((98, 77, lv, [], 0, 0) :: gs, h, o)) → ∀ (h : mm_H) (s : Nat → Int32) (A : Nat → Nat → Int32) (L : Nat → Nat → Int64) (lv : mm_V) (o : Option Value) (X : py_S) (i : Int32), bm_P rz_T E h0 h s A L → rq_F s0 A0 L0 s A L → rq_R K P M X ns 0 0 s A L → mm_get lv 0 = some (.ref (E.1 + 88)) → mm_get lv 1 = some (.int a) → mm_get lv 2 = some (.int t0) → mm_get lv 3 = some (.int i) → 0 ≤ i.toInt → (X.2.1 = 0 → i.toInt ≤ (ns.length : Int) ∧ (X.2.2.1 ≠ 0 → (X.2.2.2.1 < τ ∨ (X.2.2.2.1 = τ ∧ X.2.2.1 ≤ 3)))) → rq_nm Q ns τ σ X i.toInt.toNat → bp_G E PO NN ((98, 34, lv, [], 0, 0) :: gs, h, o) := by
  intro NN
  induction NN with
  | zero => intro kk h s A L lv o X i hP hF hR g0 g1 g2 g3 i0 hw0 hn; exact bp_zero bu_98_34
  | succ NN ih =>
    intro kk h s A L lv o X i hP hF hR g0 g1 g2 g3 i0 hw0 hn
    have q1 := hR.1
    have r50 := fun u => (hR.2.1 u).2.2.2.2.1
    refine bp_ld (pc' := 35) bu_98_34 rfl rfl (fun _ _ _ => rfl) g3 rfl ?_
    refine bp_ld (pc' := 36) bu_98_35 rfl rfl (fun _ _ _ => rfl) g0 rfl ?_
    refine bn_gi (pc' := 39) (K := 8820) bu_98_36 rfl rfl (fun _ _ _ => rfl) hP rz_o88 rz_i88_20 rfl rfl ?_
    refine bp_ic (pc' := 42) (pt := 77) bu_98_39 rfl rfl (fun k2283 => ?_) (fun k2283 => ?_)
    · replace k2283 : ((s 8820)).toInt ≤ (i).toInt := k2283
      by_cases q0 : X.2.1 = 0
      · have r5 := (hR.2.1 q0).2.2.2.2.1
        have q5 := hw0 q0
        have ex := rq_nm_end hns (by omega) (by omega) hn
        exact kk _ _ _ _ _ _ hP hF (by rw [← ex]; exact hR) g0 g1 g2
      · have ex := rq_nm_f q0 hn
        exact kk _ _ _ _ _ _ hP hF (by rw [← ex]; exact hR) g0 g1 g2
    · replace k2283 : ¬ (((s 8820)).toInt ≤ (i).toInt) := k2283
      refine bp_ld (pc' := 43) bu_98_42 rfl rfl (fun _ _ _ => rfl) g0 rfl ?_
      refine bn_gi (pc' := 46) (K := 8813) bu_98_43 rfl rfl (fun _ _ _ => rfl) hP rz_o88 rz_i88_13 rfl rfl ?_
      refine bp_i0 (pc' := 49) (pt := 77) bu_98_46 rfl rfl (fun k2284 => ?_) (fun k2284 => ?_)
      · replace k2284 : ((s 8813)).toInt ≠ 0 := k2284
        by_cases q0 : X.2.1 = 0
        · have r5 := (hR.2.1 q0).2.2.2.2.1
          have q5 := hw0 q0
          have ex := rq_nm_end hns (by omega) (by omega) hn
          exact kk _ _ _ _ _ _ hP hF (by rw [← ex]; exact hR) g0 g1 g2
        · have ex := rq_nm_f q0 hn
          exact kk _ _ _ _ _ _ hP hF (by rw [← ex]; exact hR) g0 g1 g2
      · replace k2284 : ¬ (((s 8813)).toInt ≠ 0) := k2284
        have q0 : X.2.1 = 0 := by omega
        have r2 := hR.2.1 q0
        have r5 := r2.2.2.2.2.1
        have r6 := r2.2.2.2.2.2.2.1
        have q5 := hw0 q0
        have q30 := ht0 (by rcases hn with ⟨u, -⟩ | ⟨u, -⟩; rw [← u]; exact q0; rw [u, py_wr_t.2.1] at q0; exact q0)
        have q3 : t0.toInt.toNat = τ ∧ τ < M ∧ K τ = 1 := ⟨by omega, q30.2.1, q30.2.2.1⟩
        have q4 : τ < X.1 := by rcases hn with ⟨u, -⟩ | ⟨u, -⟩; rw [u]; exact q30.2.2.2; rw [u, py_wr_t.1]; exact q30.2.2.2
        have ub : ns.length ≤ 6 := r2.2.2.2.2.2.1
        refine bp_ld (pc' := 50) bu_98_49 rfl rfl (fun _ _ _ => rfl) g0 rfl ?_
        refine bn_gr (pc' := 53) (t := 96) bu_98_50 rfl rfl (fun _ _ _ => rfl) hP rz_o88 rz_r88_21 ?_
        refine bp_ld (pc' := 54) bu_98_53 rfl rfl (fun _ _ _ => rfl) g3 rfl ?_
        refine bn_laF (pc' := 55) bu_98_54 rfl rfl (fun _ _ _ => rfl) hP rz_l96 (fun b2285 b2286 => ?_)
        refine bp_ld (pc' := 56) bu_98_55 rfl rfl (fun _ _ _ => rfl) g0 rfl ?_
        refine bn_gr (pc' := 59) (t := 94) bu_98_56 rfl rfl (fun _ _ _ => rfl) hP rz_o88 rz_r88_8 ?_
        refine bp_ld (pc' := 60) bu_98_59 rfl rfl (fun _ _ _ => rfl) g2 rfl ?_
        refine bn_laF (pc' := 61) bu_98_60 rfl rfl (fun _ _ _ => rfl) hP rz_l94 (fun b2287 b2288 => ?_)
        refine bn_lcmp (pc' := 62) bu_98_61 rfl (fun v2289 e2290 => ?_)
        refine bp_i0 (pc' := 65) (pt := 71) bu_98_62 rfl rfl (fun k2291 => ?_) (fun k2291 => ?_)
        · replace k2291 : (v2289).toInt ≠ 0 := k2291
          refine bp_inc (pc' := 74) bu_98_71 rfl (by decide) g3 (by decide) (by omega) (by omega) (fun lv2292 y2295 F2293 g2294 e2296 => ?_)
          have g2297 := F2293 0 (.ref (E.1 + 88)) g0 (by decide) (Or.inl rfl)
          have g2298 := F2293 1 (.int a) g1 (by decide) (Or.inl rfl)
          have g2299 := F2293 2 (.int t0) g2 (by decide) (Or.inl rfl)
          refine bp_goD (pc' := 34) bu_98_74 rfl ?_
          have b6 := r6 i.toInt.toNat (by omega)
          have ec := hQ (ns.getD i.toInt.toNat 0) τ b6.2.1 q3.2.1 b6.2.2 q3.2.2
          rw [← hF.2.2.1, ← b6.1] at ec
          have e9 := congrArg Int64.toInt (show L 94 t0.toInt.toNat = L 94 τ by rw [q3.1])
          have ei : (y2295).toInt.toNat = i.toInt.toNat + 1 := by omega
          have hq : Q (ns.getD i.toInt.toNat 0) τ = false := Bool.eq_false_iff.mpr (fun u => by
            have u2 := congrArg Int64.toInt (ec.mp u)
            omega)
          refine ih (fun h s A L lv o p1 p2 p3 p4 p5 p6 => bp_mono (Nat.le_succ NN) (kk h s A L lv o p1 p2 p3 p4 p5 p6)) _ _ _ _ _ _ _ _ hP hF hR g2297 g2298 g2299 g2294 (by omega) (fun _ => ⟨by omega, q5.2⟩) ?_
          rw [ei]
          rcases hn with ⟨rfl, hn⟩ | ⟨rfl, j, hj, hn⟩
          · refine Or.inl ⟨rfl, fun j hj => ?_⟩
            by_cases e : j = i.toInt.toNat
            · rw [e]
              exact hq
            · exact hn j (by omega)
          · exact Or.inr ⟨rfl, j, by omega, hn⟩
        · replace k2291 : ¬ ((v2289).toInt ≠ 0) := k2291
          refine bp_ld (pc' := 66) bu_98_65 rfl rfl (fun _ _ _ => rfl) g0 rfl ?_
          refine bp_c (pc' := 67) (n := 3) bu_98_66 rfl rfl (fun _ _ _ => rfl) (by decide) (fun c2300 e2301 => ?_)
          refine bp_ld (pc' := 68) bu_98_67 rfl rfl (fun _ _ _ => rfl) g2 rfl ?_
          refine bn_cvF (pc' := 71) (st := []) (args := [.int t0, .int c2300]) bu_98_68 rfl rfl rfl (by decide) hP rz_o88 (by decide) rfl (Nat.le_of_ble_eq_true rfl) (Nat.le_of_ble_eq_true rfl) ?_
          refine rr_112 (k := c2300) (t := t0) hP (fun h2302 s2303 hP2304 f2305 p2306 => ?_)
          have R2307 : rq_R K P M (py_wr 3 τ X) ns 0 0 s2303 A L := rq_wr2 hR (rq_T_F hT hF) q0 (by decide) q4 (q5.2) rfl f2305 (by rw [q3.1]; exact ((rq_T_F hT hF).2.2.1 τ q3.2.1).2.1) (by omega) p2306
          have F2308 : rq_F s A L s2303 A L := ⟨⟨f2305 8802 (by decide) (by decide), f2305 8804 (by decide) (by decide), f2305 8810 (by decide) (by decide), f2305 8818 (by decide) (by decide), f2305 8819 (by decide) (by decide)⟩, ⟨rfl, rfl, rfl, rfl, rfl⟩, rfl, rfl, f2305 8865 (by decide) (by decide), rfl, fun _ _ => rfl⟩
          have F2309 := rq_F_t hF F2308
          show bp_G E PO (NN + 1) ((98, 71, lv, [], 0, 0) :: gs, h2302, none)
          refine bp_inc (pc' := 74) bu_98_71 rfl (by decide) g3 (by decide) (by omega) (by omega) (fun lv2310 y2313 F2311 g2312 e2314 => ?_)
          have g2315 := F2311 0 (.ref (E.1 + 88)) g0 (by decide) (Or.inl rfl)
          have g2316 := F2311 1 (.int a) g1 (by decide) (Or.inl rfl)
          have g2317 := F2311 2 (.int t0) g2 (by decide) (Or.inl rfl)
          refine bp_goD (pc' := 34) bu_98_74 rfl ?_
          have b6 := r6 i.toInt.toNat (by omega)
          have ec := hQ (ns.getD i.toInt.toNat 0) τ b6.2.1 q3.2.1 b6.2.2 q3.2.2
          rw [← hF.2.2.1, ← b6.1] at ec
          have e9 := congrArg Int64.toInt (show L 94 t0.toInt.toNat = L 94 τ by rw [q3.1])
          have ei : (y2313).toInt.toNat = i.toInt.toNat + 1 := by omega
          have hq : Q (ns.getD i.toInt.toNat 0) τ = true := ec.mpr (Int64.toInt_inj.mp (by omega))
          have hw := py_wr_t (σ := X) (k := 3) (t := τ)
          refine ih (fun h s A L lv o p1 p2 p3 p4 p5 p6 => bp_mono (Nat.le_succ NN) (kk h s A L lv o p1 p2 p3 p4 p5 p6)) _ _ _ _ _ _ _ _ hP2304 F2309 R2307 g2315 g2316 g2317 g2312 (by omega) (fun _ => ⟨by omega, ?_⟩) ?_
          · by_cases z : X.2.2.1 = 0
            · have e1 : py_wr 3 τ X = (X.1, X.2.1, 3, τ, X.2.2.2.2) := if_pos ⟨q0, z⟩
              rw [e1]
              exact fun _ => Or.inr ⟨rfl, Nat.le_refl _⟩
            · have e1 : py_wr 3 τ X = X := if_neg (fun u => z u.2)
              rw [e1]
              exact q5.2
          · rw [ei]
            rcases hn with ⟨rfl, hn⟩ | ⟨rfl, hn⟩
            · exact Or.inr ⟨rfl, _, Nat.lt_succ_self _, hq⟩
            · exact Or.inr ⟨py_wr_i (by decide), _, Nat.lt_succ_self _, hq⟩
theorem rr_98 (hP : bm_P rz_T E h0 h s A L) (hR : rq_R K P M σ ns 0 0 s A L) (hT : rq_T K V P M A) (hQ : ∀ i j, i < M → j < M → K i = 1 → K j = 1 → (Q i j = true ↔ L 94 i = L 94 j)) (hq0 : σ.2.1 = 0) (hk : K σ.1 = 20) (hl : ns.length < 6) (hns : σ.2.2.2.2 = ns) (kk : ∀ (h' : mm_H) (s' : Nat → Int32) (A' : Nat → Nat → Int32) (L' : Nat → Nat → Int64), bm_P rz_T E h0 h' s' A' L' → rq_F s A L s' A' L' → rq_R K P M (py_man K V Q σ) (py_man K V Q σ).2.2.2.2 0 0 s' A' L' → bp_G E PO NN (mm_back (none) gs h')) : bp_G E PO NN ((98, 0, [(0, .ref (E.1 + 88))], [], 0, 0) :: gs, h, none) := by
  have q1 := hR.1
  have hm := py_man_eq (K := K) (V := V) (Q := Q) (σ := σ) (by rw [hns]; omega)
  have eZ : py_mu K 4 (py_five K V (py_nm Q (py_go σ).1 (py_mu K 1 (py_go σ)))) = (py_mu K 4 (py_nu K V 0 9 (py_nu K V 0 9 (py_nu K V 0 9 (py_nu K V 0 9 (py_nu K V 0 9 (py_nm Q (py_go σ).1 (py_mu K 1 (py_go σ))))))))) := rfl
  rw [eZ] at hm
  refine bp_ld (pc' := 1) bu_98_0 rfl rfl (fun _ _ _ => rfl) rfl rfl ?_
  refine bn_cvF (pc' := 4) (st := []) (args := []) bu_98_1 rfl rfl rfl (by decide) hP rz_o88 (by decide) rfl (Nat.le_of_ble_eq_true rfl) (Nat.le_of_ble_eq_true rfl) ?_
  refine rr_37 hP (by decide) hR hT (fun _ => by omega) (fun h2318 s2319 A2320 L2321 hP2322 F2323 R2324 => ?_)
  show bp_G E PO NN ((98, 4, _, [], 0, 0) :: gs, h2318, none)
  refine bp_c (pc' := 6) (n := 6) bu_98_4 rfl rfl (fun _ _ _ => rfl) (by decide) (fun c2325 e2326 => ?_)
  refine bp_ld (pc' := 7) bu_98_6 rfl rfl (fun _ _ _ => rfl) rfl rfl ?_
  refine bn_gi (pc' := 10) (K := 8819) bu_98_7 rfl rfl (fun _ _ _ => rfl) hP2322 rz_o88 rz_i88_19 rfl rfl ?_
  refine bp_mulA (pc' := 11) bu_98_10 rfl (fun v2327 => ?_)
  refine bp_ld (pc' := 12) bu_98_11 rfl rfl (fun _ _ _ => rfl) rfl rfl ?_
  refine bn_gr (pc' := 15) (t := 97) bu_98_12 rfl rfl (fun _ _ _ => rfl) hP2322 rz_o88 rz_r88_22 ?_
  refine bp_ld (pc' := 16) bu_98_15 rfl rfl (fun _ _ _ => rfl) rfl rfl ?_
  refine bn_gi (pc' := 19) (K := 8819) bu_98_16 rfl rfl (fun _ _ _ => rfl) hP2322 rz_o88 rz_i88_19 rfl rfl ?_
  refine bn_iaF (pc' := 20) bu_98_19 rfl rfl (fun _ _ _ => rfl) hP2322 rz_a97 (Or.inl rfl) (fun b2328 b2329 => ?_)
  refine bp_addA (pc' := 21) bu_98_20 rfl (fun v2330 => ?_)
  refine bp_st (pc' := 22) bu_98_21 rfl rfl (fun _ _ _ => rfl) rfl (by decide) (by decide) (fun lv2331 F2332 g2333 => ?_)
  have g2334 := F2332 0 (.ref (E.1 + 88)) rfl (by decide) (Or.inl rfl)
  refine bp_ld (pc' := 23) bu_98_22 rfl rfl (fun _ _ _ => rfl) g2334 rfl ?_
  refine bn_gi (pc' := 26) (K := 8811) bu_98_23 rfl rfl (fun _ _ _ => rfl) hP2322 rz_o88 rz_i88_11 rfl rfl ?_
  refine bp_st (pc' := 27) bu_98_26 rfl rfl (fun _ _ _ => rfl) rfl (by decide) (by decide) (fun lv2335 F2336 g2337 => ?_)
  have g2338 := F2336 0 (.ref (E.1 + 88)) g2334 (by decide) (Or.inl rfl)
  have g2339 := F2336 1 (.int v2330) g2333 (by decide) (Or.inl rfl)
  refine bp_ld (pc' := 28) bu_98_27 rfl rfl (fun _ _ _ => rfl) g2338 rfl ?_
  refine bp_c (pc' := 29) (n := 1) bu_98_28 rfl rfl (fun _ _ _ => rfl) (by decide) (fun c2340 e2341 => ?_)
  refine bn_cvF (pc' := 32) (st := []) (args := [.int c2340]) bu_98_29 rfl rfl rfl (by decide) hP2322 rz_o88 (by decide) rfl (Nat.le_of_ble_eq_true rfl) (Nat.le_of_ble_eq_true rfl) ?_
  refine rr_67 (kc := 1) hP2322 (by omega) (by decide) (by decide) R2324 (rq_T_F hT F2323) (fun h2342 s2343 A2344 L2345 hP2346 F2347 R2348 => ?_)
  have F2349 := rq_F_t F2323 F2347
  have u2350 := R2348.1
  show bp_G E PO NN ((98, 32, lv2335, [], 0, 0) :: gs, h2342, none)
  refine bp_c (pc' := 33) (n := 0) bu_98_32 rfl rfl (fun _ _ _ => rfl) (by decide) (fun c2351 e2352 => ?_)
  refine bp_st (pc' := 34) bu_98_33 rfl rfl (fun _ _ _ => rfl) rfl (by decide) (by decide) (fun lv2353 F2354 g2355 => ?_)
  have g2356 := F2354 0 (.ref (E.1 + 88)) g2338 (by decide) (Or.inl rfl)
  have g2357 := F2354 1 (.int v2330) g2339 (by decide) (Or.inl rfl)
  have g2358 := F2354 2 (.int (s2319 8811)) g2337 (by decide) (Or.inl rfl)
  have hs1 := fun u => py_mu_st (K := K) (k := 1) (σ := py_go σ) u
  have hp0 : (py_mu K 1 (py_go σ)).2.1 = 0 → ((s2319 8811)).toInt = ((py_go σ).1 : Int) ∧ (py_go σ).1 < M ∧ K (py_go σ).1 = 1 ∧ (py_go σ).1 < (py_mu K 1 (py_go σ)).1 := fun u => by
    have a := hs1 u
    have b := R2324.2.1 a.1
    exact ⟨b.1, b.2.1, a.2.1, by omega⟩
  have hp1 : (py_mu K 1 (py_go σ)).2.1 = 0 → (py_mu K 1 (py_go σ)).2.2.1 ≠ 0 → ((py_mu K 1 (py_go σ)).2.2.2.1 < (py_go σ).1 ∨ ((py_mu K 1 (py_go σ)).2.2.2.1 = (py_go σ).1 ∧ (py_mu K 1 (py_go σ)).2.2.1 ≤ 3)) := fun u z => by
    have a := hs1 u
    rw [a.2.2.2] at z ⊢
    exact Or.inl ((R2324.2.1 a.1).2.2.2.1 z).2
  refine rr_98n (σ := (py_mu K 1 (py_go σ))) (τ := (py_go σ).1) hT hQ (by rw [py_n_mu, py_n_go]; exact hns) hp0 NN (fun h2359 s2360 A2361 L2362 lv2363 o2364 hP2365 F2366 R2367 g2368 g2369 g2370 => ?_) _ _ _ _ _ _ _ _ hP2346 F2349 R2348 g2356 g2357 g2358 g2355 (by omega) (fun u => ⟨by omega, hp1 u⟩) (Or.inl ⟨rfl, fun j hj => absurd hj (by omega)⟩)
  have u2371 := R2367.1
  refine bp_c (pc' := 78) (n := 0) bu_98_77 rfl rfl (fun _ _ _ => rfl) (by decide) (fun c2372 e2373 => ?_)
  refine bp_st (pc' := 79) bu_98_78 rfl rfl (fun _ _ _ => rfl) rfl (by decide) (by decide) (fun lv2374 F2375 g2376 => ?_)
  have g2377 := F2375 0 (.ref (E.1 + 88)) g2368 (by decide) (Or.inl rfl)
  have g2378 := F2375 1 (.int v2330) g2369 (by decide) (Or.inl rfl)
  have g2379 := F2375 2 (.int (s2319 8811)) g2370 (by decide) (Or.inl rfl)
  refine bp_ld (pc' := 80) bu_98_79 rfl rfl (fun _ _ _ => rfl) g2376 rfl ?_
  refine bp_c (pc' := 81) (n := 4) bu_98_80 rfl rfl (fun _ _ _ => rfl) (by decide) (fun c2380 e2381 => ?_)
  refine bp_ic (pc' := 84) (pt := 107) bu_98_81 rfl rfl (fun k2382 => ?_) (fun k2382 => ?_)
  · replace k2382 : (c2380).toInt ≤ (c2372).toInt := k2382
    omega
  · replace k2382 : ¬ ((c2380).toInt ≤ (c2372).toInt) := k2382
    refine bp_ld (pc' := 85) bu_98_84 rfl rfl (fun _ _ _ => rfl) g2377 rfl ?_
    refine bn_gr (pc' := 88) (t := 98) bu_98_85 rfl rfl (fun _ _ _ => rfl) hP2365 rz_o88 rz_r88_23 ?_
    refine bp_c (pc' := 89) (n := 4) bu_98_88 rfl rfl (fun _ _ _ => rfl) (by decide) (fun c2383 e2384 => ?_)
    refine bp_ld (pc' := 90) bu_98_89 rfl rfl (fun _ _ _ => rfl) g2378 rfl ?_
    refine bp_mulA (pc' := 91) bu_98_90 rfl (fun v2385 => ?_)
    refine bp_ld (pc' := 92) bu_98_91 rfl rfl (fun _ _ _ => rfl) g2376 rfl ?_
    refine bp_addA (pc' := 93) bu_98_92 rfl (fun v2386 => ?_)
    refine bp_ld (pc' := 94) bu_98_93 rfl rfl (fun _ _ _ => rfl) g2377 rfl ?_
    refine bp_c (pc' := 95) (n := 0) bu_98_94 rfl rfl (fun _ _ _ => rfl) (by decide) (fun c2387 e2388 => ?_)
    refine bp_c (pc' := 97) (n := 9) bu_98_95 rfl rfl (fun _ _ _ => rfl) (by decide) (fun c2389 e2390 => ?_)
    refine bn_cvF (pc' := 100) (st := [.int v2386, .ref (E.1 + 98)]) (args := [.int c2389, .int c2387]) bu_98_97 rfl rfl rfl (by decide) hP2365 rz_o88 (by decide) rfl (Nat.le_of_ble_eq_true rfl) (Nat.le_of_ble_eq_true rfl) ?_
    refine rr_10 hP2365 R2367 (rq_T_F hT F2366) (fun h2391 s2392 A2393 L2394 r2398 hP2395 F2396 R2397 v2399 => ?_)
    have F2400 := rq_F_t F2366 F2396
    rw [show (c2387 : Int32).toInt = 0 from e2388, show (c2389 : Int32).toInt = 9 from e2390] at R2397
    have u2401 := R2397.1
    show bp_G E PO NN ((98, 100, lv2374, [.int r2398, .int v2386, .ref (E.1 + 98)], 0, 0) :: gs, h2391, none)
    refine bn_iasF (pc' := 101) bu_98_100 rfl rfl (fun _ _ _ => rfl) hP2395 rz_a98 (Or.inl rfl) (fun b2404 b2405 h2402 hP2403 => ?_)
    refine bp_inc (pc' := 104) bu_98_101 rfl (by decide) g2376 (by decide) (by omega) (by omega) (fun lv2406 y2409 F2407 g2408 e2410 => ?_)
    have g2411 := F2407 0 (.ref (E.1 + 88)) g2377 (by decide) (Or.inl rfl)
    have g2412 := F2407 1 (.int v2330) g2378 (by decide) (Or.inl rfl)
    have g2413 := F2407 2 (.int (s2319 8811)) g2379 (by decide) (Or.inl rfl)
    have e2414 : y2409.toInt = 1 := by omega
    refine bp_go (pc' := 79) bu_98_104 rfl ?_
    refine bp_ld (pc' := 80) bu_98_79 rfl rfl (fun _ _ _ => rfl) g2408 rfl ?_
    refine bp_c (pc' := 81) (n := 4) bu_98_80 rfl rfl (fun _ _ _ => rfl) (by decide) (fun c2415 e2416 => ?_)
    refine bp_ic (pc' := 84) (pt := 107) bu_98_81 rfl rfl (fun k2417 => ?_) (fun k2417 => ?_)
    · replace k2417 : (c2415).toInt ≤ (y2409).toInt := k2417
      omega
    · replace k2417 : ¬ ((c2415).toInt ≤ (y2409).toInt) := k2417
      refine bp_ld (pc' := 85) bu_98_84 rfl rfl (fun _ _ _ => rfl) g2411 rfl ?_
      refine bn_gr (pc' := 88) (t := 98) bu_98_85 rfl rfl (fun _ _ _ => rfl) hP2403 rz_o88 rz_r88_23 ?_
      refine bp_c (pc' := 89) (n := 4) bu_98_88 rfl rfl (fun _ _ _ => rfl) (by decide) (fun c2418 e2419 => ?_)
      refine bp_ld (pc' := 90) bu_98_89 rfl rfl (fun _ _ _ => rfl) g2412 rfl ?_
      refine bp_mulA (pc' := 91) bu_98_90 rfl (fun v2420 => ?_)
      refine bp_ld (pc' := 92) bu_98_91 rfl rfl (fun _ _ _ => rfl) g2408 rfl ?_
      refine bp_addA (pc' := 93) bu_98_92 rfl (fun v2421 => ?_)
      refine bp_ld (pc' := 94) bu_98_93 rfl rfl (fun _ _ _ => rfl) g2411 rfl ?_
      refine bp_c (pc' := 95) (n := 0) bu_98_94 rfl rfl (fun _ _ _ => rfl) (by decide) (fun c2422 e2423 => ?_)
      refine bp_c (pc' := 97) (n := 9) bu_98_95 rfl rfl (fun _ _ _ => rfl) (by decide) (fun c2424 e2425 => ?_)
      refine bn_cvF (pc' := 100) (st := [.int v2421, .ref (E.1 + 98)]) (args := [.int c2424, .int c2422]) bu_98_97 rfl rfl rfl (by decide) hP2403 rz_o88 (by decide) rfl (Nat.le_of_ble_eq_true rfl) (Nat.le_of_ble_eq_true rfl) ?_
      have R2426 : rq_R K P M (py_nu K V 0 9 (py_nm Q (py_go σ).1 (py_mu K 1 (py_go σ)))) ns 0 0 s2392 (bh_up A2393 98 (v2386).toInt.toNat (mm_nar 0 r2398)) L2394 := rq_R_s R2397 rfl rfl rfl rfl rfl rfl rfl rfl (bh_up_ne (by decide))
      have F2427 : rq_F s2392 A2393 L2394 s2392 (bh_up A2393 98 (v2386).toInt.toNat (mm_nar 0 r2398)) L2394 := ⟨⟨rfl, rfl, rfl, rfl, rfl⟩, ⟨(bh_up_ne (by decide)), (bh_up_ne (by decide)), (bh_up_ne (by decide)), (bh_up_ne (by decide)), (bh_up_ne (by decide))⟩, rfl, rfl, rfl, (bh_up_ne (by decide)), fun j _ => congrFun (bh_up_ne (by decide)) j⟩
      have F2428 := rq_F_t F2400 F2427
      refine rr_10 hP2403 R2426 (rq_T_F hT F2428) (fun h2429 s2430 A2431 L2432 r2436 hP2433 F2434 R2435 v2437 => ?_)
      have F2438 := rq_F_t F2428 F2434
      rw [show (c2422 : Int32).toInt = 0 from e2423, show (c2424 : Int32).toInt = 9 from e2425] at R2435
      have u2439 := R2435.1
      show bp_G E PO NN ((98, 100, lv2406, [.int r2436, .int v2421, .ref (E.1 + 98)], 0, 0) :: gs, h2429, none)
      refine bn_iasF (pc' := 101) bu_98_100 rfl rfl (fun _ _ _ => rfl) hP2433 rz_a98 (Or.inl rfl) (fun b2442 b2443 h2440 hP2441 => ?_)
      refine bp_inc (pc' := 104) bu_98_101 rfl (by decide) g2408 (by decide) (by omega) (by omega) (fun lv2444 y2447 F2445 g2446 e2448 => ?_)
      have g2449 := F2445 0 (.ref (E.1 + 88)) g2411 (by decide) (Or.inl rfl)
      have g2450 := F2445 1 (.int v2330) g2412 (by decide) (Or.inl rfl)
      have g2451 := F2445 2 (.int (s2319 8811)) g2413 (by decide) (Or.inl rfl)
      have e2452 : y2447.toInt = 2 := by omega
      refine bp_go (pc' := 79) bu_98_104 rfl ?_
      refine bp_ld (pc' := 80) bu_98_79 rfl rfl (fun _ _ _ => rfl) g2446 rfl ?_
      refine bp_c (pc' := 81) (n := 4) bu_98_80 rfl rfl (fun _ _ _ => rfl) (by decide) (fun c2453 e2454 => ?_)
      refine bp_ic (pc' := 84) (pt := 107) bu_98_81 rfl rfl (fun k2455 => ?_) (fun k2455 => ?_)
      · replace k2455 : (c2453).toInt ≤ (y2447).toInt := k2455
        omega
      · replace k2455 : ¬ ((c2453).toInt ≤ (y2447).toInt) := k2455
        refine bp_ld (pc' := 85) bu_98_84 rfl rfl (fun _ _ _ => rfl) g2449 rfl ?_
        refine bn_gr (pc' := 88) (t := 98) bu_98_85 rfl rfl (fun _ _ _ => rfl) hP2441 rz_o88 rz_r88_23 ?_
        refine bp_c (pc' := 89) (n := 4) bu_98_88 rfl rfl (fun _ _ _ => rfl) (by decide) (fun c2456 e2457 => ?_)
        refine bp_ld (pc' := 90) bu_98_89 rfl rfl (fun _ _ _ => rfl) g2450 rfl ?_
        refine bp_mulA (pc' := 91) bu_98_90 rfl (fun v2458 => ?_)
        refine bp_ld (pc' := 92) bu_98_91 rfl rfl (fun _ _ _ => rfl) g2446 rfl ?_
        refine bp_addA (pc' := 93) bu_98_92 rfl (fun v2459 => ?_)
        refine bp_ld (pc' := 94) bu_98_93 rfl rfl (fun _ _ _ => rfl) g2449 rfl ?_
        refine bp_c (pc' := 95) (n := 0) bu_98_94 rfl rfl (fun _ _ _ => rfl) (by decide) (fun c2460 e2461 => ?_)
        refine bp_c (pc' := 97) (n := 9) bu_98_95 rfl rfl (fun _ _ _ => rfl) (by decide) (fun c2462 e2463 => ?_)
        refine bn_cvF (pc' := 100) (st := [.int v2459, .ref (E.1 + 98)]) (args := [.int c2462, .int c2460]) bu_98_97 rfl rfl rfl (by decide) hP2441 rz_o88 (by decide) rfl (Nat.le_of_ble_eq_true rfl) (Nat.le_of_ble_eq_true rfl) ?_
        have R2464 : rq_R K P M (py_nu K V 0 9 (py_nu K V 0 9 (py_nm Q (py_go σ).1 (py_mu K 1 (py_go σ))))) ns 0 0 s2430 (bh_up A2431 98 (v2421).toInt.toNat (mm_nar 0 r2436)) L2432 := rq_R_s R2435 rfl rfl rfl rfl rfl rfl rfl rfl (bh_up_ne (by decide))
        have F2465 : rq_F s2430 A2431 L2432 s2430 (bh_up A2431 98 (v2421).toInt.toNat (mm_nar 0 r2436)) L2432 := ⟨⟨rfl, rfl, rfl, rfl, rfl⟩, ⟨(bh_up_ne (by decide)), (bh_up_ne (by decide)), (bh_up_ne (by decide)), (bh_up_ne (by decide)), (bh_up_ne (by decide))⟩, rfl, rfl, rfl, (bh_up_ne (by decide)), fun j _ => congrFun (bh_up_ne (by decide)) j⟩
        have F2466 := rq_F_t F2438 F2465
        refine rr_10 hP2441 R2464 (rq_T_F hT F2466) (fun h2467 s2468 A2469 L2470 r2474 hP2471 F2472 R2473 v2475 => ?_)
        have F2476 := rq_F_t F2466 F2472
        rw [show (c2460 : Int32).toInt = 0 from e2461, show (c2462 : Int32).toInt = 9 from e2463] at R2473
        have u2477 := R2473.1
        show bp_G E PO NN ((98, 100, lv2444, [.int r2474, .int v2459, .ref (E.1 + 98)], 0, 0) :: gs, h2467, none)
        refine bn_iasF (pc' := 101) bu_98_100 rfl rfl (fun _ _ _ => rfl) hP2471 rz_a98 (Or.inl rfl) (fun b2480 b2481 h2478 hP2479 => ?_)
        refine bp_inc (pc' := 104) bu_98_101 rfl (by decide) g2446 (by decide) (by omega) (by omega) (fun lv2482 y2485 F2483 g2484 e2486 => ?_)
        have g2487 := F2483 0 (.ref (E.1 + 88)) g2449 (by decide) (Or.inl rfl)
        have g2488 := F2483 1 (.int v2330) g2450 (by decide) (Or.inl rfl)
        have g2489 := F2483 2 (.int (s2319 8811)) g2451 (by decide) (Or.inl rfl)
        have e2490 : y2485.toInt = 3 := by omega
        refine bp_go (pc' := 79) bu_98_104 rfl ?_
        refine bp_ld (pc' := 80) bu_98_79 rfl rfl (fun _ _ _ => rfl) g2484 rfl ?_
        refine bp_c (pc' := 81) (n := 4) bu_98_80 rfl rfl (fun _ _ _ => rfl) (by decide) (fun c2491 e2492 => ?_)
        refine bp_ic (pc' := 84) (pt := 107) bu_98_81 rfl rfl (fun k2493 => ?_) (fun k2493 => ?_)
        · replace k2493 : (c2491).toInt ≤ (y2485).toInt := k2493
          omega
        · replace k2493 : ¬ ((c2491).toInt ≤ (y2485).toInt) := k2493
          refine bp_ld (pc' := 85) bu_98_84 rfl rfl (fun _ _ _ => rfl) g2487 rfl ?_
          refine bn_gr (pc' := 88) (t := 98) bu_98_85 rfl rfl (fun _ _ _ => rfl) hP2479 rz_o88 rz_r88_23 ?_
          refine bp_c (pc' := 89) (n := 4) bu_98_88 rfl rfl (fun _ _ _ => rfl) (by decide) (fun c2494 e2495 => ?_)
          refine bp_ld (pc' := 90) bu_98_89 rfl rfl (fun _ _ _ => rfl) g2488 rfl ?_
          refine bp_mulA (pc' := 91) bu_98_90 rfl (fun v2496 => ?_)
          refine bp_ld (pc' := 92) bu_98_91 rfl rfl (fun _ _ _ => rfl) g2484 rfl ?_
          refine bp_addA (pc' := 93) bu_98_92 rfl (fun v2497 => ?_)
          refine bp_ld (pc' := 94) bu_98_93 rfl rfl (fun _ _ _ => rfl) g2487 rfl ?_
          refine bp_c (pc' := 95) (n := 0) bu_98_94 rfl rfl (fun _ _ _ => rfl) (by decide) (fun c2498 e2499 => ?_)
          refine bp_c (pc' := 97) (n := 9) bu_98_95 rfl rfl (fun _ _ _ => rfl) (by decide) (fun c2500 e2501 => ?_)
          refine bn_cvF (pc' := 100) (st := [.int v2497, .ref (E.1 + 98)]) (args := [.int c2500, .int c2498]) bu_98_97 rfl rfl rfl (by decide) hP2479 rz_o88 (by decide) rfl (Nat.le_of_ble_eq_true rfl) (Nat.le_of_ble_eq_true rfl) ?_
          have R2502 : rq_R K P M (py_nu K V 0 9 (py_nu K V 0 9 (py_nu K V 0 9 (py_nm Q (py_go σ).1 (py_mu K 1 (py_go σ)))))) ns 0 0 s2468 (bh_up A2469 98 (v2459).toInt.toNat (mm_nar 0 r2474)) L2470 := rq_R_s R2473 rfl rfl rfl rfl rfl rfl rfl rfl (bh_up_ne (by decide))
          have F2503 : rq_F s2468 A2469 L2470 s2468 (bh_up A2469 98 (v2459).toInt.toNat (mm_nar 0 r2474)) L2470 := ⟨⟨rfl, rfl, rfl, rfl, rfl⟩, ⟨(bh_up_ne (by decide)), (bh_up_ne (by decide)), (bh_up_ne (by decide)), (bh_up_ne (by decide)), (bh_up_ne (by decide))⟩, rfl, rfl, rfl, (bh_up_ne (by decide)), fun j _ => congrFun (bh_up_ne (by decide)) j⟩
          have F2504 := rq_F_t F2476 F2503
          refine rr_10 hP2479 R2502 (rq_T_F hT F2504) (fun h2505 s2506 A2507 L2508 r2512 hP2509 F2510 R2511 v2513 => ?_)
          have F2514 := rq_F_t F2504 F2510
          rw [show (c2498 : Int32).toInt = 0 from e2499, show (c2500 : Int32).toInt = 9 from e2501] at R2511
          have u2515 := R2511.1
          show bp_G E PO NN ((98, 100, lv2482, [.int r2512, .int v2497, .ref (E.1 + 98)], 0, 0) :: gs, h2505, none)
          refine bn_iasF (pc' := 101) bu_98_100 rfl rfl (fun _ _ _ => rfl) hP2509 rz_a98 (Or.inl rfl) (fun b2518 b2519 h2516 hP2517 => ?_)
          refine bp_inc (pc' := 104) bu_98_101 rfl (by decide) g2484 (by decide) (by omega) (by omega) (fun lv2520 y2523 F2521 g2522 e2524 => ?_)
          have g2525 := F2521 0 (.ref (E.1 + 88)) g2487 (by decide) (Or.inl rfl)
          have g2526 := F2521 1 (.int v2330) g2488 (by decide) (Or.inl rfl)
          have g2527 := F2521 2 (.int (s2319 8811)) g2489 (by decide) (Or.inl rfl)
          have e2528 : y2523.toInt = 4 := by omega
          refine bp_go (pc' := 79) bu_98_104 rfl ?_
          refine bp_ld (pc' := 80) bu_98_79 rfl rfl (fun _ _ _ => rfl) g2522 rfl ?_
          refine bp_c (pc' := 81) (n := 4) bu_98_80 rfl rfl (fun _ _ _ => rfl) (by decide) (fun c2529 e2530 => ?_)
          refine bp_ic (pc' := 84) (pt := 107) bu_98_81 rfl rfl (fun k2531 => ?_) (fun k2531 => ?_)
          · replace k2531 : (c2529).toInt ≤ (y2523).toInt := k2531
            refine bp_ld (pc' := 108) bu_98_107 rfl rfl (fun _ _ _ => rfl) g2525 rfl ?_
            refine bn_gr (pc' := 111) (t := 99) bu_98_108 rfl rfl (fun _ _ _ => rfl) hP2517 rz_o88 rz_r88_24 ?_
            refine bp_ld (pc' := 112) bu_98_111 rfl rfl (fun _ _ _ => rfl) g2526 rfl ?_
            refine bp_ld (pc' := 113) bu_98_112 rfl rfl (fun _ _ _ => rfl) g2525 rfl ?_
            refine bp_c (pc' := 114) (n := 0) bu_98_113 rfl rfl (fun _ _ _ => rfl) (by decide) (fun c2532 e2533 => ?_)
            refine bp_c (pc' := 116) (n := 9) bu_98_114 rfl rfl (fun _ _ _ => rfl) (by decide) (fun c2534 e2535 => ?_)
            refine bn_cvF (pc' := 119) (st := [.int v2330, .ref (E.1 + 99)]) (args := [.int c2534, .int c2532]) bu_98_116 rfl rfl rfl (by decide) hP2517 rz_o88 (by decide) rfl (Nat.le_of_ble_eq_true rfl) (Nat.le_of_ble_eq_true rfl) ?_
            have R2536 : rq_R K P M (py_nu K V 0 9 (py_nu K V 0 9 (py_nu K V 0 9 (py_nu K V 0 9 (py_nm Q (py_go σ).1 (py_mu K 1 (py_go σ))))))) ns 0 0 s2506 (bh_up A2507 98 (v2497).toInt.toNat (mm_nar 0 r2512)) L2508 := rq_R_s R2511 rfl rfl rfl rfl rfl rfl rfl rfl (bh_up_ne (by decide))
            have F2537 : rq_F s2506 A2507 L2508 s2506 (bh_up A2507 98 (v2497).toInt.toNat (mm_nar 0 r2512)) L2508 := ⟨⟨rfl, rfl, rfl, rfl, rfl⟩, ⟨(bh_up_ne (by decide)), (bh_up_ne (by decide)), (bh_up_ne (by decide)), (bh_up_ne (by decide)), (bh_up_ne (by decide))⟩, rfl, rfl, rfl, (bh_up_ne (by decide)), fun j _ => congrFun (bh_up_ne (by decide)) j⟩
            have F2538 := rq_F_t F2514 F2537
            refine rr_10 hP2517 R2536 (rq_T_F hT F2538) (fun h2539 s2540 A2541 L2542 r2546 hP2543 F2544 R2545 v2547 => ?_)
            have F2548 := rq_F_t F2538 F2544
            rw [show (c2532 : Int32).toInt = 0 from e2533, show (c2534 : Int32).toInt = 9 from e2535] at R2545
            have u2549 := R2545.1
            show bp_G E PO NN ((98, 119, lv2520, [.int r2546, .int v2330, .ref (E.1 + 99)], 0, 0) :: gs, h2539, none)
            refine bn_iasF (pc' := 120) bu_98_119 rfl rfl (fun _ _ _ => rfl) hP2543 rz_a99 (Or.inl rfl) (fun b2552 b2553 h2550 hP2551 => ?_)
            refine bp_ld (pc' := 121) bu_98_120 rfl rfl (fun _ _ _ => rfl) g2525 rfl ?_
            refine bp_c (pc' := 122) (n := 4) bu_98_121 rfl rfl (fun _ _ _ => rfl) (by decide) (fun c2554 e2555 => ?_)
            refine bn_cvF (pc' := 125) (st := []) (args := [.int c2554]) bu_98_122 rfl rfl rfl (by decide) hP2551 rz_o88 (by decide) rfl (Nat.le_of_ble_eq_true rfl) (Nat.le_of_ble_eq_true rfl) ?_
            have R2556 : rq_R K P M (py_nu K V 0 9 (py_nu K V 0 9 (py_nu K V 0 9 (py_nu K V 0 9 (py_nu K V 0 9 (py_nm Q (py_go σ).1 (py_mu K 1 (py_go σ)))))))) ns 0 0 s2540 (bh_up A2541 99 (v2330).toInt.toNat (mm_nar 0 r2546)) L2542 := rq_R_s R2545 rfl rfl rfl rfl rfl rfl rfl rfl (bh_up_ne (by decide))
            have F2557 : rq_F s2540 A2541 L2542 s2540 (bh_up A2541 99 (v2330).toInt.toNat (mm_nar 0 r2546)) L2542 := ⟨⟨rfl, rfl, rfl, rfl, rfl⟩, ⟨(bh_up_ne (by decide)), (bh_up_ne (by decide)), (bh_up_ne (by decide)), (bh_up_ne (by decide)), (bh_up_ne (by decide))⟩, rfl, rfl, rfl, (bh_up_ne (by decide)), fun j _ => congrFun (bh_up_ne (by decide)) j⟩
            have F2558 := rq_F_t F2548 F2557
            refine rr_67 (kc := 4) hP2551 (by omega) (by decide) (by decide) R2556 (rq_T_F hT F2558) (fun h2559 s2560 A2561 L2562 hP2563 F2564 R2565 => ?_)
            have F2566 := rq_F_t F2558 F2564
            have u2567 := R2565.1
            show bp_G E PO NN ((98, 125, lv2520, [], 0, 0) :: gs, h2559, none)
            refine bp_ld (pc' := 126) bu_98_125 rfl rfl (fun _ _ _ => rfl) g2525 rfl ?_
            refine bn_gi (pc' := 129) (K := 8813) bu_98_126 rfl rfl (fun _ _ _ => rfl) hP2563 rz_o88 rz_i88_13 rfl rfl ?_
            refine bp_i0 (pc' := 132) (pt := 133) bu_98_129 rfl rfl (fun k2568 => ?_) (fun k2568 => ?_)
            · replace k2568 : ((s2560 8813)).toInt ≤ 0 := k2568
              have q0 : (py_mu K 4 (py_nu K V 0 9 (py_nu K V 0 9 (py_nu K V 0 9 (py_nu K V 0 9 (py_nu K V 0 9 (py_nm Q (py_go σ).1 (py_mu K 1 (py_go σ))))))))).2.1 = 0 := by omega
              have r2 := R2565.2.1 q0
              have r5 := r2.2.2.2.2.1
              have r9 := r2.2.2.2.2.2.2.2.1
              have hm1 := hm.1 q0
              have hp2 := hp0 (by
                by_cases u : (py_mu K 1 (py_go σ)).2.1 = 0
                · exact u
                · exact absurd q0 (by rw [py_nm_f u, py_nu_f u, py_nu_f u, py_nu_f u, py_nu_f u, py_nu_f u, py_mu_f u]; exact u))
              refine bp_ld (pc' := 134) bu_98_133 rfl rfl (fun _ _ _ => rfl) g2525 rfl ?_
              refine bn_gr (pc' := 137) (t := 96) bu_98_134 rfl rfl (fun _ _ _ => rfl) hP2563 rz_o88 rz_r88_21 ?_
              refine bp_ld (pc' := 138) bu_98_137 rfl rfl (fun _ _ _ => rfl) g2525 rfl ?_
              refine bn_gi (pc' := 141) (K := 8820) bu_98_138 rfl rfl (fun _ _ _ => rfl) hP2563 rz_o88 rz_i88_20 rfl rfl ?_
              refine bp_ld (pc' := 142) bu_98_141 rfl rfl (fun _ _ _ => rfl) g2525 rfl ?_
              refine bn_gr (pc' := 145) (t := 94) bu_98_142 rfl rfl (fun _ _ _ => rfl) hP2563 rz_o88 rz_r88_8 ?_
              refine bp_ld (pc' := 146) bu_98_145 rfl rfl (fun _ _ _ => rfl) g2527 rfl ?_
              refine bn_laF (pc' := 147) bu_98_146 rfl rfl (fun _ _ _ => rfl) hP2563 rz_l94 (fun b2569 b2570 => ?_)
              refine bn_lasF (pc' := 148) bu_98_147 rfl rfl (fun _ _ _ => rfl) hP2563 rz_l96 (fun b2573 b2574 h2571 hP2572 => ?_)
              refine bp_ld (pc' := 149) bu_98_148 rfl rfl (fun _ _ _ => rfl) g2525 rfl ?_
              refine bp_dup (pc' := 150) bu_98_149 rfl rfl ?_
              refine bn_gi (pc' := 153) (K := 8820) bu_98_150 rfl rfl (fun _ _ _ => rfl) hP2572 rz_o88 rz_i88_20 rfl rfl ?_
              refine bp_c (pc' := 154) (n := 1) bu_98_153 rfl rfl (fun _ _ _ => rfl) (by decide) (fun c2575 e2576 => ?_)
              refine bp_add (pc' := 155) bu_98_154 rfl (by omega) (by omega) (fun v2577 e2578 => ?_)
              refine bn_pf (pc' := 158) (K := 8820) bu_98_155 rfl rfl (fun _ _ _ => rfl) hP2572 rz_o88 rz_i88_20 rfl rfl (fun h2579 s2580 hP2581 e2582 f2583 => ?_)
              refine bp_ld (pc' := 159) bu_98_158 rfl rfl (fun _ _ _ => rfl) g2525 rfl ?_
              refine bn_gr (pc' := 162) (t := 97) bu_98_159 rfl rfl (fun _ _ _ => rfl) hP2581 rz_o88 rz_r88_22 ?_
              refine bp_ld (pc' := 163) bu_98_162 rfl rfl (fun _ _ _ => rfl) g2525 rfl ?_
              refine bn_gi (pc' := 166) (K := 8819) bu_98_163 rfl rfl (fun _ _ _ => rfl) hP2581 rz_o88 rz_i88_19 rfl (f2583 8819 (by decide)) ?_
              refine bp_dup2 (pc' := 167) bu_98_166 rfl rfl rfl ?_
              refine bn_iaF (pc' := 168) bu_98_167 rfl rfl (fun _ _ _ => rfl) hP2581 rz_a97 (Or.inl rfl) (fun b2584 b2585 => ?_)
              refine bp_c (pc' := 169) (n := 1) bu_98_168 rfl rfl (fun _ _ _ => rfl) (by decide) (fun c2586 e2587 => ?_)
              refine bp_add (pc' := 170) bu_98_169 rfl (by omega) (by omega) (fun v2588 e2589 => ?_)
              refine bn_iasF (pc' := 171) bu_98_170 rfl rfl (fun _ _ _ => rfl) hP2581 rz_a97 (Or.inl rfl) (fun b2592 b2593 h2590 hP2591 => ?_)
              refine bp_rv bu_98_171 ?_
              have z8820 := congrArg Int32.toInt e2582
              have e1 : (s2560 8820).toInt.toNat = ns.length := by omega
              have e2 : ((s2319 8811)).toInt.toNat = (py_go σ).1 := by omega
              have hPe := hP2591
              rw [e1, e2] at hPe
              have en : (py_man K V Q σ).2.2.2.2 = ns ++ [(py_go σ).1] := by
                rw [hm1.1]
                show (py_mu K 4 (py_nu K V 0 9 (py_nu K V 0 9 (py_nu K V 0 9 (py_nu K V 0 9 (py_nu K V 0 9 (py_nm Q (py_go σ).1 (py_mu K 1 (py_go σ))))))))).2.2.2.2 ++ [(py_go σ).1] = _
                rw [py_n_mu, py_n_nu, py_n_nu, py_n_nu, py_n_nu, py_n_nu, py_n_nm, py_n_mu, py_n_go, hns]
              have F2594 : rq_F s2560 A2561 L2562 s2580 (bh_up A2561 97 ((s2560 8819)).toInt.toNat (mm_nar 0 v2588)) (bh_upL L2562 96 ns.length (L2562 94 (py_go σ).1)) := ⟨⟨f2583 8802 (by decide), f2583 8804 (by decide), f2583 8810 (by decide), f2583 8818 (by decide), f2583 8819 (by decide)⟩, ⟨bh_up_ne (by decide), bh_up_ne (by decide), bh_up_ne (by decide), bh_up_ne (by decide), bh_up_ne (by decide)⟩, if_neg (by decide), if_neg (by decide), f2583 8865 (by decide), bh_up_ne (by decide), fun j hj => bh_up_j hj⟩
              refine kk _ _ _ _ hPe (rq_F_t F2566 F2594) ?_
              rw [en, hm1.1]
              refine rq_adn R2565 q0 hl hp2.2.2.1 hp2.2.1 (by omega) f2583 ?_
              rw [f2583 8819 (by decide), bh_up_i]
              show (v2588).toInt = _
              omega
            · replace k2568 : ¬ (((s2560 8813)).toInt ≤ 0) := k2568
              refine bp_rv bu_98_132 ?_
              have hm2 := hm.2 (by omega)
              exact kk _ _ _ _ hP2563 F2566 (rq_R_f (by omega) hm2.1 hm2.2 R2565)
          · replace k2531 : ¬ ((c2529).toInt ≤ (y2523).toInt) := k2531
            omega
theorem rr_99 (hP : bm_P rz_T E h0 h s A L) (hR : rq_R K P M σ ns 0 0 s A L) (hT : rq_T K V P M A) (hQ : ∀ i j, i < M → j < M → K i = 1 → K j = 1 → (Q i j = true ↔ L 94 i = L 94 j)) (hK0 : 0 ≤ K σ.1) (hq0 : σ.2.1 = 0) (hns : σ.2.2.2.2 = ns) (kk : ∀ (h' : mm_H) (s' : Nat → Int32) (A' : Nat → Nat → Int32) (L' : Nat → Nat → Int64), bm_P rz_T E h0 h' s' A' L' → rq_F s A L s' A' L' → rq_R K P M (py_tell K V Q σ) (py_tell K V Q σ).2.2.2.2 0 0 s' A' L' → bp_G E PO NN (mm_back (none) gs h')) : bp_G E PO NN ((99, 0, [(0, .ref (E.1 + 88))], [], 0, 0) :: gs, h, none) := by
  have q1 := hR.1
  have q2 : σ.2.1 = 0 → (s 8811).toInt = (σ.1 : Int) ∧ (A 91 (s 8811).toInt.toNat).toInt = K σ.1 ∧ (K σ.1 = 2 → (A 93 (s 8811).toInt.toNat).toInt = V σ.1) ∧ (A 92 (s 8811).toInt.toNat).toInt = P σ.1 := fun hf => by
    have a1 := hR.2.1 hf
    have ei : (s 8811).toInt.toNat = σ.1 := by omega
    have a2 := hT.2.2.1 σ.1 a1.2.1
    rw [ei]
    exact ⟨a1.1, a2.1, a2.2.2, a2.2.1⟩
  have q3 := q2 hq0
  have r2 := hR.2.1 hq0
  have hK1 := hK0
  have r5 := r2.2.2.2.2.1
  have r6 := r2.2.2.2.2.2.1
  have r9 := r2.2.2.2.2.2.2.2.1
  refine bp_ld (pc' := 1) bu_99_0 rfl rfl (fun _ _ _ => rfl) rfl rfl ?_
  refine bn_gr (pc' := 4) (t := 91) bu_99_1 rfl rfl (fun _ _ _ => rfl) hP rz_o88 rz_r88_5 ?_
  refine bp_ld (pc' := 5) bu_99_4 rfl rfl (fun _ _ _ => rfl) rfl rfl ?_
  refine bn_gi (pc' := 8) (K := 8811) bu_99_5 rfl rfl (fun _ _ _ => rfl) hP rz_o88 rz_i88_11 rfl rfl ?_
  refine bn_iaF (pc' := 9) bu_99_8 rfl rfl (fun _ _ _ => rfl) hP rz_a91 (Or.inl rfl) (fun b2595 b2596 => ?_)
  by_cases k2597 : ((A 91 ((s 8811)).toInt.toNat)).toInt = 20
  · refine bp_sw (pc' := 72) (off := 63) bu_99_9 (by rw [k2597]; rfl) rfl ?_
    refine bp_ld (pc' := 73) bu_99_72 rfl rfl (fun _ _ _ => rfl) rfl rfl ?_
    refine bn_gr (pc' := 76) (t := 97) bu_99_73 rfl rfl (fun _ _ _ => rfl) hP rz_o88 rz_r88_22 ?_
    refine bp_ld (pc' := 77) bu_99_76 rfl rfl (fun _ _ _ => rfl) rfl rfl ?_
    refine bn_gi (pc' := 80) (K := 8819) bu_99_77 rfl rfl (fun _ _ _ => rfl) hP rz_o88 rz_i88_19 rfl rfl ?_
    refine bn_iaF (pc' := 81) bu_99_80 rfl rfl (fun _ _ _ => rfl) hP rz_a97 (Or.inl rfl) (fun b2598 b2599 => ?_)
    refine bp_c (pc' := 83) (n := 6) bu_99_81 rfl rfl (fun _ _ _ => rfl) (by decide) (fun c2600 e2601 => ?_)
    refine bp_ic (pc' := 86) (pt := 91) bu_99_83 rfl rfl (fun k2602 => ?_) (fun k2602 => ?_)
    · replace k2602 : ((A 97 ((s 8819)).toInt.toNat)).toInt ≠ (c2600).toInt := k2602
      refine bp_ld (pc' := 92) bu_99_91 rfl rfl (fun _ _ _ => rfl) rfl rfl ?_
      refine bn_gi (pc' := 95) (K := 8813) bu_99_92 rfl rfl (fun _ _ _ => rfl) hP rz_o88 rz_i88_13 rfl rfl ?_
      refine bp_i0 (pc' := 98) (pt := 306) bu_99_95 rfl rfl (fun k2603 => ?_) (fun k2603 => ?_)
      · replace k2603 : ((s 8813)).toInt ≠ 0 := k2603
        refine bp_rv bu_99_306 ?_
        exfalso
        omega
      · replace k2603 : ¬ (((s 8813)).toInt ≠ 0) := k2603
        refine bp_ld (pc' := 99) bu_99_98 rfl rfl (fun _ _ _ => rfl) rfl rfl ?_
        refine bn_cvF (pc' := 102) (st := []) (args := []) bu_99_99 rfl rfl rfl (by decide) hP rz_o88 (by decide) rfl (Nat.le_of_ble_eq_true rfl) (Nat.le_of_ble_eq_true rfl) ?_
        refine rr_98 hP hR hT hQ hq0 (by omega) (by omega) hns (fun h2604 s2605 A2606 L2607 hP2608 F2609 R2610 => ?_)
        show bp_G E PO NN ((99, 102, _, [], 0, 0) :: gs, h2604, none)
        refine bp_go (pc' := 306) bu_99_102 rfl ?_
        refine bp_rv bu_99_306 ?_
        have ee : py_tell K V Q σ = (py_man K V Q σ) := by
          unfold py_tell
          rw [if_neg (not_not_intro hq0), if_pos (by omega)]
        rw [← ee] at R2610
        exact kk _ _ _ _ hP2608 F2609 R2610
    · replace k2602 : ¬ (((A 97 ((s 8819)).toInt.toNat)).toInt ≠ (c2600).toInt) := k2602
      refine bp_ld (pc' := 87) bu_99_86 rfl rfl (fun _ _ _ => rfl) rfl rfl ?_
      refine bp_c (pc' := 88) (n := 2) bu_99_87 rfl rfl (fun _ _ _ => rfl) (by decide) (fun c2611 e2612 => ?_)
      refine bn_cvF (pc' := 91) (st := []) (args := [.int c2611]) bu_99_88 rfl rfl rfl (by decide) hP rz_o88 (by decide) rfl (Nat.le_of_ble_eq_true rfl) (Nat.le_of_ble_eq_true rfl) ?_
      refine rr_27 (kn := 2) hP (by omega) (by decide) hR hT (fun h2613 s2614 A2615 L2616 hP2617 F2618 R2619 => ?_)
      have u2620 := R2619.1
      have u2621 := py_fl_f (σ := σ) (k := 2) (by decide)
      show bp_G E PO NN ((99, 91, _, [], 0, 0) :: gs, h2613, none)
      refine bp_ld (pc' := 92) bu_99_91 rfl rfl (fun _ _ _ => rfl) rfl rfl ?_
      refine bn_gi (pc' := 95) (K := 8813) bu_99_92 rfl rfl (fun _ _ _ => rfl) hP2617 rz_o88 rz_i88_13 rfl rfl ?_
      refine bp_i0 (pc' := 98) (pt := 306) bu_99_95 rfl rfl (fun k2622 => ?_) (fun k2622 => ?_)
      · replace k2622 : ((s2614 8813)).toInt ≠ 0 := k2622
        refine bp_rv bu_99_306 ?_
        have ee : py_tell K V Q σ = (py_fl 2 σ) := by
          unfold py_tell
          rw [if_neg (not_not_intro hq0), if_pos (by omega)]
          exact if_pos (by rw [hns]; omega)
        have en : (py_tell K V Q σ).2.2.2.2 = ns := by
          rw [ee, py_n_fl]
          exact hns
        exact kk _ _ _ _ hP2617 F2618 (by rw [en, ee]; exact rq_R_0 (py_fl_f (by decide)) R2619)
      · replace k2622 : ¬ (((s2614 8813)).toInt ≠ 0) := k2622
        refine bp_ld (pc' := 99) bu_99_98 rfl rfl (fun _ _ _ => rfl) rfl rfl ?_
        refine bn_cvF (pc' := 102) (st := []) (args := []) bu_99_99 rfl rfl rfl (by decide) hP2617 rz_o88 (by decide) rfl (Nat.le_of_ble_eq_true rfl) (Nat.le_of_ble_eq_true rfl) ?_
        exfalso
        omega
  by_cases k2623 : ((A 91 ((s 8811)).toInt.toNat)).toInt = 28
  · refine bp_sw (pc' := 105) (off := 96) bu_99_9 (by rw [k2623]; rfl) rfl ?_
    refine bp_ld (pc' := 106) bu_99_105 rfl rfl (fun _ _ _ => rfl) rfl rfl ?_
    refine bn_cvF (pc' := 109) (st := []) (args := []) bu_99_106 rfl rfl rfl (by decide) hP rz_o88 (by decide) rfl (Nat.le_of_ble_eq_true rfl) (Nat.le_of_ble_eq_true rfl) ?_
    refine rr_37 hP (by decide) hR hT (fun _ => by omega) (fun h2624 s2625 A2626 L2627 hP2628 F2629 R2630 => ?_)
    show bp_G E PO NN ((99, 109, _, [], 0, 0) :: gs, h2624, none)
    refine bp_ld (pc' := 110) bu_99_109 rfl rfl (fun _ _ _ => rfl) rfl rfl ?_
    refine bn_gr (pc' := 113) (t := 100) bu_99_110 rfl rfl (fun _ _ _ => rfl) hP2628 rz_o88 rz_r88_25 ?_
    refine bp_ld (pc' := 114) bu_99_113 rfl rfl (fun _ _ _ => rfl) rfl rfl ?_
    refine bn_gi (pc' := 117) (K := 8819) bu_99_114 rfl rfl (fun _ _ _ => rfl) hP2628 rz_o88 rz_i88_19 rfl rfl ?_
    refine bp_ld (pc' := 118) bu_99_117 rfl rfl (fun _ _ _ => rfl) rfl rfl ?_
    refine bp_c (pc' := 119) (n := 1) bu_99_118 rfl rfl (fun _ _ _ => rfl) (by decide) (fun c2631 e2632 => ?_)
    refine bp_c (pc' := 121) (n := 99) bu_99_119 rfl rfl (fun _ _ _ => rfl) (by decide) (fun c2633 e2634 => ?_)
    refine bn_cvF (pc' := 124) (st := [.int (s2625 8819), .ref (E.1 + 100)]) (args := [.int c2633, .int c2631]) bu_99_121 rfl rfl rfl (by decide) hP2628 rz_o88 (by decide) rfl (Nat.le_of_ble_eq_true rfl) (Nat.le_of_ble_eq_true rfl) ?_
    refine rr_10 hP2628 R2630 (rq_T_F hT F2629) (fun h2635 s2636 A2637 L2638 r2642 hP2639 F2640 R2641 v2643 => ?_)
    have F2644 := rq_F_t F2629 F2640
    rw [show (c2631 : Int32).toInt = 1 from e2632, show (c2633 : Int32).toInt = 99 from e2634] at R2641
    have u2645 := R2641.1
    show bp_G E PO NN ((99, 124, _, [.int r2642, .int (s2625 8819), .ref (E.1 + 100)], 0, 0) :: gs, h2635, none)
    refine bn_iasF (pc' := 125) bu_99_124 rfl rfl (fun _ _ _ => rfl) hP2639 rz_a100 (Or.inl rfl) (fun b2648 b2649 h2646 hP2647 => ?_)
    refine bp_ld (pc' := 126) bu_99_125 rfl rfl (fun _ _ _ => rfl) rfl rfl ?_
    refine bn_gr (pc' := 129) (t := 101) bu_99_126 rfl rfl (fun _ _ _ => rfl) hP2647 rz_o88 rz_r88_26 ?_
    refine bp_ld (pc' := 130) bu_99_129 rfl rfl (fun _ _ _ => rfl) rfl rfl ?_
    refine bn_gi (pc' := 133) (K := 8819) bu_99_130 rfl rfl (fun _ _ _ => rfl) hP2647 rz_o88 rz_i88_19 rfl rfl ?_
    refine bp_ld (pc' := 134) bu_99_133 rfl rfl (fun _ _ _ => rfl) rfl rfl ?_
    refine bp_c (pc' := 135) (n := 0) bu_99_134 rfl rfl (fun _ _ _ => rfl) (by decide) (fun c2650 e2651 => ?_)
    refine bp_c (pc' := 138) (n := 999) bu_99_135 rfl rfl (fun _ _ _ => rfl) (by decide) (fun c2652 e2653 => ?_)
    refine bn_cvF (pc' := 141) (st := [.int (s2636 8819), .ref (E.1 + 101)]) (args := [.int c2652, .int c2650]) bu_99_138 rfl rfl rfl (by decide) hP2647 rz_o88 (by decide) rfl (Nat.le_of_ble_eq_true rfl) (Nat.le_of_ble_eq_true rfl) ?_
    have R2654 : rq_R K P M (py_nu K V 1 99 (py_go σ)) ns 0 0 s2636 (bh_up A2637 100 ((s2625 8819)).toInt.toNat (mm_nar 0 r2642)) L2638 := rq_R_s R2641 rfl rfl rfl rfl rfl rfl rfl rfl (bh_up_ne (by decide))
    have F2655 : rq_F s2636 A2637 L2638 s2636 (bh_up A2637 100 ((s2625 8819)).toInt.toNat (mm_nar 0 r2642)) L2638 := ⟨⟨rfl, rfl, rfl, rfl, rfl⟩, ⟨(bh_up_ne (by decide)), (bh_up_ne (by decide)), (bh_up_ne (by decide)), (bh_up_ne (by decide)), (bh_up_ne (by decide))⟩, rfl, rfl, rfl, (bh_up_ne (by decide)), fun j _ => congrFun (bh_up_ne (by decide)) j⟩
    have F2656 := rq_F_t F2644 F2655
    refine rr_10 hP2647 R2654 (rq_T_F hT F2656) (fun h2657 s2658 A2659 L2660 r2664 hP2661 F2662 R2663 v2665 => ?_)
    have F2666 := rq_F_t F2656 F2662
    rw [show (c2650 : Int32).toInt = 0 from e2651, show (c2652 : Int32).toInt = 999 from e2653] at R2663
    have u2667 := R2663.1
    show bp_G E PO NN ((99, 141, _, [.int r2664, .int (s2636 8819), .ref (E.1 + 101)], 0, 0) :: gs, h2657, none)
    refine bn_iasF (pc' := 142) bu_99_141 rfl rfl (fun _ _ _ => rfl) hP2661 rz_a101 (Or.inl rfl) (fun b2670 b2671 h2668 hP2669 => ?_)
    refine bp_ld (pc' := 143) bu_99_142 rfl rfl (fun _ _ _ => rfl) rfl rfl ?_
    refine bn_gr (pc' := 146) (t := 102) bu_99_143 rfl rfl (fun _ _ _ => rfl) hP2669 rz_o88 rz_r88_27 ?_
    refine bp_ld (pc' := 147) bu_99_146 rfl rfl (fun _ _ _ => rfl) rfl rfl ?_
    refine bn_gi (pc' := 150) (K := 8819) bu_99_147 rfl rfl (fun _ _ _ => rfl) hP2669 rz_o88 rz_i88_19 rfl rfl ?_
    refine bp_ld (pc' := 151) bu_99_150 rfl rfl (fun _ _ _ => rfl) rfl rfl ?_
    refine bp_c (pc' := 152) (n := 0) bu_99_151 rfl rfl (fun _ _ _ => rfl) (by decide) (fun c2672 e2673 => ?_)
    refine bp_c (pc' := 154) (n := 99) bu_99_152 rfl rfl (fun _ _ _ => rfl) (by decide) (fun c2674 e2675 => ?_)
    refine bn_cvF (pc' := 157) (st := [.int (s2658 8819), .ref (E.1 + 102)]) (args := [.int c2674, .int c2672]) bu_99_154 rfl rfl rfl (by decide) hP2669 rz_o88 (by decide) rfl (Nat.le_of_ble_eq_true rfl) (Nat.le_of_ble_eq_true rfl) ?_
    have R2676 : rq_R K P M (py_nu K V 0 999 (py_nu K V 1 99 (py_go σ))) ns 0 0 s2658 (bh_up A2659 101 ((s2636 8819)).toInt.toNat (mm_nar 0 r2664)) L2660 := rq_R_s R2663 rfl rfl rfl rfl rfl rfl rfl rfl (bh_up_ne (by decide))
    have F2677 : rq_F s2658 A2659 L2660 s2658 (bh_up A2659 101 ((s2636 8819)).toInt.toNat (mm_nar 0 r2664)) L2660 := ⟨⟨rfl, rfl, rfl, rfl, rfl⟩, ⟨(bh_up_ne (by decide)), (bh_up_ne (by decide)), (bh_up_ne (by decide)), (bh_up_ne (by decide)), (bh_up_ne (by decide))⟩, rfl, rfl, rfl, (bh_up_ne (by decide)), fun j _ => congrFun (bh_up_ne (by decide)) j⟩
    have F2678 := rq_F_t F2666 F2677
    refine rr_10 hP2669 R2676 (rq_T_F hT F2678) (fun h2679 s2680 A2681 L2682 r2686 hP2683 F2684 R2685 v2687 => ?_)
    have F2688 := rq_F_t F2678 F2684
    rw [show (c2672 : Int32).toInt = 0 from e2673, show (c2674 : Int32).toInt = 99 from e2675] at R2685
    have u2689 := R2685.1
    show bp_G E PO NN ((99, 157, _, [.int r2686, .int (s2658 8819), .ref (E.1 + 102)], 0, 0) :: gs, h2679, none)
    refine bn_iasF (pc' := 158) bu_99_157 rfl rfl (fun _ _ _ => rfl) hP2683 rz_a102 (Or.inl rfl) (fun b2692 b2693 h2690 hP2691 => ?_)
    refine bp_ld (pc' := 159) bu_99_158 rfl rfl (fun _ _ _ => rfl) rfl rfl ?_
    refine bp_c (pc' := 160) (n := 4) bu_99_159 rfl rfl (fun _ _ _ => rfl) (by decide) (fun c2694 e2695 => ?_)
    refine bn_cvF (pc' := 163) (st := []) (args := [.int c2694]) bu_99_160 rfl rfl rfl (by decide) hP2691 rz_o88 (by decide) rfl (Nat.le_of_ble_eq_true rfl) (Nat.le_of_ble_eq_true rfl) ?_
    have R2696 : rq_R K P M (py_nu K V 0 99 (py_nu K V 0 999 (py_nu K V 1 99 (py_go σ)))) ns 0 0 s2680 (bh_up A2681 102 ((s2658 8819)).toInt.toNat (mm_nar 0 r2686)) L2682 := rq_R_s R2685 rfl rfl rfl rfl rfl rfl rfl rfl (bh_up_ne (by decide))
    have F2697 : rq_F s2680 A2681 L2682 s2680 (bh_up A2681 102 ((s2658 8819)).toInt.toNat (mm_nar 0 r2686)) L2682 := ⟨⟨rfl, rfl, rfl, rfl, rfl⟩, ⟨(bh_up_ne (by decide)), (bh_up_ne (by decide)), (bh_up_ne (by decide)), (bh_up_ne (by decide)), (bh_up_ne (by decide))⟩, rfl, rfl, rfl, (bh_up_ne (by decide)), fun j _ => congrFun (bh_up_ne (by decide)) j⟩
    have F2698 := rq_F_t F2688 F2697
    refine rr_67 (kc := 4) hP2691 (by omega) (by decide) (by decide) R2696 (rq_T_F hT F2698) (fun h2699 s2700 A2701 L2702 hP2703 F2704 R2705 => ?_)
    have F2706 := rq_F_t F2698 F2704
    have u2707 := R2705.1
    show bp_G E PO NN ((99, 163, _, [], 0, 0) :: gs, h2699, none)
    refine bp_go (pc' := 306) bu_99_163 rfl ?_
    refine bp_rv bu_99_306 ?_
    have ee : py_tell K V Q σ = (py_mu K 4 (py_nu K V 0 99 (py_nu K V 0 999 (py_nu K V 1 99 (py_go σ))))) := by
      unfold py_tell
      rw [if_neg (not_not_intro hq0), if_neg (by omega), if_neg (by omega), if_pos (by omega)]
    have en : (py_tell K V Q σ).2.2.2.2 = ns := by
      rw [ee, py_n_mu, py_n_nu, py_n_nu, py_n_nu, py_n_go]
      exact hns
    exact kk _ _ _ _ hP2703 F2706 (by rw [en, ee]; exact R2705)
  by_cases k2708 : ((A 91 ((s 8811)).toInt.toNat)).toInt = 29
  · refine bp_sw (pc' := 166) (off := 157) bu_99_9 (by rw [k2708]; rfl) rfl ?_
    refine bp_ld (pc' := 167) bu_99_166 rfl rfl (fun _ _ _ => rfl) rfl rfl ?_
    refine bn_cvF (pc' := 170) (st := []) (args := []) bu_99_167 rfl rfl rfl (by decide) hP rz_o88 (by decide) rfl (Nat.le_of_ble_eq_true rfl) (Nat.le_of_ble_eq_true rfl) ?_
    refine rr_37 hP (by decide) hR hT (fun _ => by omega) (fun h2709 s2710 A2711 L2712 hP2713 F2714 R2715 => ?_)
    show bp_G E PO NN ((99, 170, _, [], 0, 0) :: gs, h2709, none)
    refine bp_ld (pc' := 171) bu_99_170 rfl rfl (fun _ _ _ => rfl) rfl rfl ?_
    refine bn_gr (pc' := 174) (t := 103) bu_99_171 rfl rfl (fun _ _ _ => rfl) hP2713 rz_o88 rz_r88_28 ?_
    refine bp_ld (pc' := 175) bu_99_174 rfl rfl (fun _ _ _ => rfl) rfl rfl ?_
    refine bn_gi (pc' := 178) (K := 8819) bu_99_175 rfl rfl (fun _ _ _ => rfl) hP2713 rz_o88 rz_i88_19 rfl rfl ?_
    refine bp_ld (pc' := 179) bu_99_178 rfl rfl (fun _ _ _ => rfl) rfl rfl ?_
    refine bp_c (pc' := 180) (n := 1) bu_99_179 rfl rfl (fun _ _ _ => rfl) (by decide) (fun c2716 e2717 => ?_)
    refine bp_c (pc' := 183) (n := 999) bu_99_180 rfl rfl (fun _ _ _ => rfl) (by decide) (fun c2718 e2719 => ?_)
    refine bn_cvF (pc' := 186) (st := [.int (s2710 8819), .ref (E.1 + 103)]) (args := [.int c2718, .int c2716]) bu_99_183 rfl rfl rfl (by decide) hP2713 rz_o88 (by decide) rfl (Nat.le_of_ble_eq_true rfl) (Nat.le_of_ble_eq_true rfl) ?_
    refine rr_10 hP2713 R2715 (rq_T_F hT F2714) (fun h2720 s2721 A2722 L2723 r2727 hP2724 F2725 R2726 v2728 => ?_)
    have F2729 := rq_F_t F2714 F2725
    rw [show (c2716 : Int32).toInt = 1 from e2717, show (c2718 : Int32).toInt = 999 from e2719] at R2726
    have u2730 := R2726.1
    show bp_G E PO NN ((99, 186, _, [.int r2727, .int (s2710 8819), .ref (E.1 + 103)], 0, 0) :: gs, h2720, none)
    refine bn_iasF (pc' := 187) bu_99_186 rfl rfl (fun _ _ _ => rfl) hP2724 rz_a103 (Or.inl rfl) (fun b2733 b2734 h2731 hP2732 => ?_)
    refine bp_ld (pc' := 188) bu_99_187 rfl rfl (fun _ _ _ => rfl) rfl rfl ?_
    refine bp_c (pc' := 189) (n := 4) bu_99_188 rfl rfl (fun _ _ _ => rfl) (by decide) (fun c2735 e2736 => ?_)
    refine bn_cvF (pc' := 192) (st := []) (args := [.int c2735]) bu_99_189 rfl rfl rfl (by decide) hP2732 rz_o88 (by decide) rfl (Nat.le_of_ble_eq_true rfl) (Nat.le_of_ble_eq_true rfl) ?_
    have R2737 : rq_R K P M (py_nu K V 1 999 (py_go σ)) ns 0 0 s2721 (bh_up A2722 103 ((s2710 8819)).toInt.toNat (mm_nar 0 r2727)) L2723 := rq_R_s R2726 rfl rfl rfl rfl rfl rfl rfl rfl (bh_up_ne (by decide))
    have F2738 : rq_F s2721 A2722 L2723 s2721 (bh_up A2722 103 ((s2710 8819)).toInt.toNat (mm_nar 0 r2727)) L2723 := ⟨⟨rfl, rfl, rfl, rfl, rfl⟩, ⟨(bh_up_ne (by decide)), (bh_up_ne (by decide)), (bh_up_ne (by decide)), (bh_up_ne (by decide)), (bh_up_ne (by decide))⟩, rfl, rfl, rfl, (bh_up_ne (by decide)), fun j _ => congrFun (bh_up_ne (by decide)) j⟩
    have F2739 := rq_F_t F2729 F2738
    refine rr_67 (kc := 4) hP2732 (by omega) (by decide) (by decide) R2737 (rq_T_F hT F2739) (fun h2740 s2741 A2742 L2743 hP2744 F2745 R2746 => ?_)
    have F2747 := rq_F_t F2739 F2745
    have u2748 := R2746.1
    show bp_G E PO NN ((99, 192, _, [], 0, 0) :: gs, h2740, none)
    refine bp_go (pc' := 306) bu_99_192 rfl ?_
    refine bp_rv bu_99_306 ?_
    have ee : py_tell K V Q σ = (py_mu K 4 (py_nu K V 1 999 (py_go σ))) := by
      unfold py_tell
      rw [if_neg (not_not_intro hq0), if_neg (by omega), if_neg (by omega), if_neg (by omega), if_pos (by omega)]
    have en : (py_tell K V Q σ).2.2.2.2 = ns := by
      rw [ee, py_n_mu, py_n_nu, py_n_go]
      exact hns
    exact kk _ _ _ _ hP2744 F2747 (by rw [en, ee]; exact R2746)
  by_cases k2749 : ((A 91 ((s 8811)).toInt.toNat)).toInt = 30
  · refine bp_sw (pc' := 195) (off := 186) bu_99_9 (by rw [k2749]; rfl) rfl ?_
    refine bp_ld (pc' := 196) bu_99_195 rfl rfl (fun _ _ _ => rfl) rfl rfl ?_
    refine bn_cvF (pc' := 199) (st := []) (args := []) bu_99_196 rfl rfl rfl (by decide) hP rz_o88 (by decide) rfl (Nat.le_of_ble_eq_true rfl) (Nat.le_of_ble_eq_true rfl) ?_
    refine rr_37 hP (by decide) hR hT (fun _ => by omega) (fun h2750 s2751 A2752 L2753 hP2754 F2755 R2756 => ?_)
    show bp_G E PO NN ((99, 199, _, [], 0, 0) :: gs, h2750, none)
    refine bp_ld (pc' := 200) bu_99_199 rfl rfl (fun _ _ _ => rfl) rfl rfl ?_
    refine bn_gr (pc' := 203) (t := 104) bu_99_200 rfl rfl (fun _ _ _ => rfl) hP2754 rz_o88 rz_r88_29 ?_
    refine bp_ld (pc' := 204) bu_99_203 rfl rfl (fun _ _ _ => rfl) rfl rfl ?_
    refine bn_gi (pc' := 207) (K := 8819) bu_99_204 rfl rfl (fun _ _ _ => rfl) hP2754 rz_o88 rz_i88_19 rfl rfl ?_
    refine bp_ld (pc' := 208) bu_99_207 rfl rfl (fun _ _ _ => rfl) rfl rfl ?_
    refine bp_c (pc' := 209) (n := 0) bu_99_208 rfl rfl (fun _ _ _ => rfl) (by decide) (fun c2757 e2758 => ?_)
    refine bp_c (pc' := 212) (n := 9999) bu_99_209 rfl rfl (fun _ _ _ => rfl) (by decide) (fun c2759 e2760 => ?_)
    refine bn_cvF (pc' := 215) (st := [.int (s2751 8819), .ref (E.1 + 104)]) (args := [.int c2759, .int c2757]) bu_99_212 rfl rfl rfl (by decide) hP2754 rz_o88 (by decide) rfl (Nat.le_of_ble_eq_true rfl) (Nat.le_of_ble_eq_true rfl) ?_
    refine rr_10 hP2754 R2756 (rq_T_F hT F2755) (fun h2761 s2762 A2763 L2764 r2768 hP2765 F2766 R2767 v2769 => ?_)
    have F2770 := rq_F_t F2755 F2766
    rw [show (c2757 : Int32).toInt = 0 from e2758, show (c2759 : Int32).toInt = 9999 from e2760] at R2767
    have u2771 := R2767.1
    show bp_G E PO NN ((99, 215, _, [.int r2768, .int (s2751 8819), .ref (E.1 + 104)], 0, 0) :: gs, h2761, none)
    refine bn_iasF (pc' := 216) bu_99_215 rfl rfl (fun _ _ _ => rfl) hP2765 rz_a104 (Or.inl rfl) (fun b2774 b2775 h2772 hP2773 => ?_)
    refine bp_ld (pc' := 217) bu_99_216 rfl rfl (fun _ _ _ => rfl) rfl rfl ?_
    refine bp_c (pc' := 218) (n := 4) bu_99_217 rfl rfl (fun _ _ _ => rfl) (by decide) (fun c2776 e2777 => ?_)
    refine bn_cvF (pc' := 221) (st := []) (args := [.int c2776]) bu_99_218 rfl rfl rfl (by decide) hP2773 rz_o88 (by decide) rfl (Nat.le_of_ble_eq_true rfl) (Nat.le_of_ble_eq_true rfl) ?_
    have R2778 : rq_R K P M (py_nu K V 0 9999 (py_go σ)) ns 0 0 s2762 (bh_up A2763 104 ((s2751 8819)).toInt.toNat (mm_nar 0 r2768)) L2764 := rq_R_s R2767 rfl rfl rfl rfl rfl rfl rfl rfl (bh_up_ne (by decide))
    have F2779 : rq_F s2762 A2763 L2764 s2762 (bh_up A2763 104 ((s2751 8819)).toInt.toNat (mm_nar 0 r2768)) L2764 := ⟨⟨rfl, rfl, rfl, rfl, rfl⟩, ⟨(bh_up_ne (by decide)), (bh_up_ne (by decide)), (bh_up_ne (by decide)), (bh_up_ne (by decide)), (bh_up_ne (by decide))⟩, rfl, rfl, rfl, (bh_up_ne (by decide)), fun j _ => congrFun (bh_up_ne (by decide)) j⟩
    have F2780 := rq_F_t F2770 F2779
    refine rr_67 (kc := 4) hP2773 (by omega) (by decide) (by decide) R2778 (rq_T_F hT F2780) (fun h2781 s2782 A2783 L2784 hP2785 F2786 R2787 => ?_)
    have F2788 := rq_F_t F2780 F2786
    have u2789 := R2787.1
    show bp_G E PO NN ((99, 221, _, [], 0, 0) :: gs, h2781, none)
    refine bp_go (pc' := 306) bu_99_221 rfl ?_
    refine bp_rv bu_99_306 ?_
    have ee : py_tell K V Q σ = (py_mu K 4 (py_nu K V 0 9999 (py_go σ))) := by
      unfold py_tell
      rw [if_neg (not_not_intro hq0), if_neg (by omega), if_neg (by omega), if_neg (by omega), if_neg (by omega), if_pos (by omega)]
    have en : (py_tell K V Q σ).2.2.2.2 = ns := by
      rw [ee, py_n_mu, py_n_nu, py_n_go]
      exact hns
    exact kk _ _ _ _ hP2785 F2788 (by rw [en, ee]; exact R2787)
  by_cases k2790 : ((A 91 ((s 8811)).toInt.toNat)).toInt = 31
  · refine bp_sw (pc' := 224) (off := 215) bu_99_9 (by rw [k2790]; rfl) rfl ?_
    refine bp_ld (pc' := 225) bu_99_224 rfl rfl (fun _ _ _ => rfl) rfl rfl ?_
    refine bn_cvF (pc' := 228) (st := []) (args := []) bu_99_225 rfl rfl rfl (by decide) hP rz_o88 (by decide) rfl (Nat.le_of_ble_eq_true rfl) (Nat.le_of_ble_eq_true rfl) ?_
    refine rr_37 hP (by decide) hR hT (fun _ => by omega) (fun h2791 s2792 A2793 L2794 hP2795 F2796 R2797 => ?_)
    show bp_G E PO NN ((99, 228, _, [], 0, 0) :: gs, h2791, none)
    refine bp_ld (pc' := 229) bu_99_228 rfl rfl (fun _ _ _ => rfl) rfl rfl ?_
    refine bn_gr (pc' := 232) (t := 105) bu_99_229 rfl rfl (fun _ _ _ => rfl) hP2795 rz_o88 rz_r88_30 ?_
    refine bp_ld (pc' := 233) bu_99_232 rfl rfl (fun _ _ _ => rfl) rfl rfl ?_
    refine bn_gi (pc' := 236) (K := 8819) bu_99_233 rfl rfl (fun _ _ _ => rfl) hP2795 rz_o88 rz_i88_19 rfl rfl ?_
    refine bp_ld (pc' := 237) bu_99_236 rfl rfl (fun _ _ _ => rfl) rfl rfl ?_
    refine bp_c (pc' := 238) (n := 0) bu_99_237 rfl rfl (fun _ _ _ => rfl) (by decide) (fun c2798 e2799 => ?_)
    refine bp_c (pc' := 241) (n := 9999) bu_99_238 rfl rfl (fun _ _ _ => rfl) (by decide) (fun c2800 e2801 => ?_)
    refine bn_cvF (pc' := 244) (st := [.int (s2792 8819), .ref (E.1 + 105)]) (args := [.int c2800, .int c2798]) bu_99_241 rfl rfl rfl (by decide) hP2795 rz_o88 (by decide) rfl (Nat.le_of_ble_eq_true rfl) (Nat.le_of_ble_eq_true rfl) ?_
    refine rr_10 hP2795 R2797 (rq_T_F hT F2796) (fun h2802 s2803 A2804 L2805 r2809 hP2806 F2807 R2808 v2810 => ?_)
    have F2811 := rq_F_t F2796 F2807
    rw [show (c2798 : Int32).toInt = 0 from e2799, show (c2800 : Int32).toInt = 9999 from e2801] at R2808
    have u2812 := R2808.1
    show bp_G E PO NN ((99, 244, _, [.int r2809, .int (s2792 8819), .ref (E.1 + 105)], 0, 0) :: gs, h2802, none)
    refine bn_iasF (pc' := 245) bu_99_244 rfl rfl (fun _ _ _ => rfl) hP2806 rz_a105 (Or.inl rfl) (fun b2815 b2816 h2813 hP2814 => ?_)
    refine bp_ld (pc' := 246) bu_99_245 rfl rfl (fun _ _ _ => rfl) rfl rfl ?_
    refine bp_c (pc' := 247) (n := 4) bu_99_246 rfl rfl (fun _ _ _ => rfl) (by decide) (fun c2817 e2818 => ?_)
    refine bn_cvF (pc' := 250) (st := []) (args := [.int c2817]) bu_99_247 rfl rfl rfl (by decide) hP2814 rz_o88 (by decide) rfl (Nat.le_of_ble_eq_true rfl) (Nat.le_of_ble_eq_true rfl) ?_
    have R2819 : rq_R K P M (py_nu K V 0 9999 (py_go σ)) ns 0 0 s2803 (bh_up A2804 105 ((s2792 8819)).toInt.toNat (mm_nar 0 r2809)) L2805 := rq_R_s R2808 rfl rfl rfl rfl rfl rfl rfl rfl (bh_up_ne (by decide))
    have F2820 : rq_F s2803 A2804 L2805 s2803 (bh_up A2804 105 ((s2792 8819)).toInt.toNat (mm_nar 0 r2809)) L2805 := ⟨⟨rfl, rfl, rfl, rfl, rfl⟩, ⟨(bh_up_ne (by decide)), (bh_up_ne (by decide)), (bh_up_ne (by decide)), (bh_up_ne (by decide)), (bh_up_ne (by decide))⟩, rfl, rfl, rfl, (bh_up_ne (by decide)), fun j _ => congrFun (bh_up_ne (by decide)) j⟩
    have F2821 := rq_F_t F2811 F2820
    refine rr_67 (kc := 4) hP2814 (by omega) (by decide) (by decide) R2819 (rq_T_F hT F2821) (fun h2822 s2823 A2824 L2825 hP2826 F2827 R2828 => ?_)
    have F2829 := rq_F_t F2821 F2827
    have u2830 := R2828.1
    show bp_G E PO NN ((99, 250, _, [], 0, 0) :: gs, h2822, none)
    refine bp_go (pc' := 306) bu_99_250 rfl ?_
    refine bp_rv bu_99_306 ?_
    have ee : py_tell K V Q σ = (py_mu K 4 (py_nu K V 0 9999 (py_go σ))) := by
      unfold py_tell
      rw [if_neg (not_not_intro hq0), if_neg (by omega), if_neg (by omega), if_neg (by omega), if_neg (by omega), if_pos (by omega)]
    have en : (py_tell K V Q σ).2.2.2.2 = ns := by
      rw [ee, py_n_mu, py_n_nu, py_n_go]
      exact hns
    exact kk _ _ _ _ hP2826 F2829 (by rw [en, ee]; exact R2828)
  refine bp_sw (pc' := 253) (off := 244) bu_99_9 ?_ rfl ?_
  · by_cases hc : ((A 91 ((s 8811)).toInt.toNat)).toInt < 20 ∨ 31 < ((A 91 ((s 8811)).toInt.toNat)).toInt
    · rw [if_pos hc]
    · rw [if_neg hc]
      have hd9 : (((A 91 ((s 8811)).toInt.toNat)).toInt - 20).toNat = 1 ∨ (((A 91 ((s 8811)).toInt.toNat)).toInt - 20).toNat = 2 ∨ (((A 91 ((s 8811)).toInt.toNat)).toInt - 20).toNat = 3 ∨ (((A 91 ((s 8811)).toInt.toNat)).toInt - 20).toNat = 4 ∨ (((A 91 ((s 8811)).toInt.toNat)).toInt - 20).toNat = 5 ∨ (((A 91 ((s 8811)).toInt.toNat)).toInt - 20).toNat = 6 ∨ (((A 91 ((s 8811)).toInt.toNat)).toInt - 20).toNat = 7 := by omega
      rcases hd9 with hd9 | hd9 | hd9 | hd9 | hd9 | hd9 | hd9 <;> rw [hd9] <;> rfl
  · skip
    refine bp_ld (pc' := 254) bu_99_253 rfl rfl (fun _ _ _ => rfl) rfl rfl ?_
    refine bn_gr (pc' := 257) (t := 91) bu_99_254 rfl rfl (fun _ _ _ => rfl) hP rz_o88 rz_r88_5 ?_
    refine bp_ld (pc' := 258) bu_99_257 rfl rfl (fun _ _ _ => rfl) rfl rfl ?_
    refine bn_gi (pc' := 261) (K := 8811) bu_99_258 rfl rfl (fun _ _ _ => rfl) hP rz_o88 rz_i88_11 rfl rfl ?_
    refine bn_iaF (pc' := 262) bu_99_261 rfl rfl (fun _ _ _ => rfl) hP rz_a91 (Or.inl rfl) (fun b2831 b2832 => ?_)
    refine bp_c (pc' := 264) (n := 21) bu_99_262 rfl rfl (fun _ _ _ => rfl) (by decide) (fun c2833 e2834 => ?_)
    refine bn_subx (pc' := 265) bu_99_264 rfl (fun v2835 e2836 => ?_)
    refine bp_st (pc' := 266) bu_99_265 rfl rfl (fun _ _ _ => rfl) rfl (by decide) (by decide) (fun lv2837 F2838 g2839 => ?_)
    have g2840 := F2838 0 (.ref (E.1 + 88)) rfl (by decide) (Or.inl rfl)
    refine bp_ld (pc' := 267) bu_99_266 rfl rfl (fun _ _ _ => rfl) g2839 rfl ?_
    refine bp_i0 (pc' := 270) (pt := 284) bu_99_267 rfl rfl (fun k2841 => ?_) (fun k2841 => ?_)
    · replace k2841 : (v2835).toInt < 0 := k2841
      refine bp_ld (pc' := 285) bu_99_284 rfl rfl (fun _ _ _ => rfl) g2840 rfl ?_
      refine bp_c (pc' := 286) (n := 1) bu_99_285 rfl rfl (fun _ _ _ => rfl) (by decide) (fun c2842 e2843 => ?_)
      refine bn_cvF (pc' := 289) (st := []) (args := [.int c2842]) bu_99_286 rfl rfl rfl (by decide) hP rz_o88 (by decide) rfl (Nat.le_of_ble_eq_true rfl) (Nat.le_of_ble_eq_true rfl) ?_
      refine rr_27 (kn := 1) hP (by omega) (by decide) hR hT (fun h2844 s2845 A2846 L2847 hP2848 F2849 R2850 => ?_)
      have u2851 := R2850.1
      have u2852 := py_fl_f (σ := σ) (k := 1) (by decide)
      show bp_G E PO NN ((99, 289, lv2837, [], 0, 0) :: gs, h2844, none)
      refine bp_ld (pc' := 290) bu_99_289 rfl rfl (fun _ _ _ => rfl) g2840 rfl ?_
      refine bn_gi (pc' := 293) (K := 8813) bu_99_290 rfl rfl (fun _ _ _ => rfl) hP2848 rz_o88 rz_i88_13 rfl rfl ?_
      refine bp_i0 (pc' := 296) (pt := 297) bu_99_293 rfl rfl (fun k2853 => ?_) (fun k2853 => ?_)
      · replace k2853 : ((s2845 8813)).toInt ≤ 0 := k2853
        refine bp_ld (pc' := 298) bu_99_297 rfl rfl (fun _ _ _ => rfl) g2840 rfl ?_
        refine bn_cvF (pc' := 301) (st := []) (args := []) bu_99_298 rfl rfl rfl (by decide) hP2848 rz_o88 (by decide) rfl (Nat.le_of_ble_eq_true rfl) (Nat.le_of_ble_eq_true rfl) ?_
        refine rr_37 hP2848 (by decide) R2850 (rq_T_F hT F2849) (fun _ => by omega) (fun h2854 s2855 A2856 L2857 hP2858 F2859 R2860 => ?_)
        have F2861 := rq_F_t F2849 F2859
        show bp_G E PO NN ((99, 301, lv2837, [], 0, 0) :: gs, h2854, none)
        refine bp_ld (pc' := 302) bu_99_301 rfl rfl (fun _ _ _ => rfl) g2840 rfl ?_
        refine bp_ld (pc' := 303) bu_99_302 rfl rfl (fun _ _ _ => rfl) g2839 rfl ?_
        refine bn_cvF (pc' := 306) (st := []) (args := [.int v2835]) bu_99_303 rfl rfl rfl (by decide) hP2858 rz_o88 (by decide) rfl (Nat.le_of_ble_eq_true rfl) (Nat.le_of_ble_eq_true rfl) ?_
        refine rr_97 hP2858 R2860 (rq_T_F hT F2861) (fun h2862 s2863 A2864 L2865 hP2866 F2867 R2868 => ?_)
        have F2869 := rq_F_t F2861 F2867
        show bp_G E PO NN ((99, 306, lv2837, [], 0, 0) :: gs, h2862, none)
        refine bp_rv bu_99_306 ?_
        exfalso
        omega
      · replace k2853 : ¬ (((s2845 8813)).toInt ≤ 0) := k2853
        refine bp_rv bu_99_296 ?_
        have ee : py_tell K V Q σ = (py_fl 1 σ) := by
          unfold py_tell
          rw [if_neg (not_not_intro hq0), if_neg (by omega), if_neg (by omega), if_neg (by omega), if_neg (by omega), if_neg (by omega)]
        have en : (py_tell K V Q σ).2.2.2.2 = ns := by
          rw [ee, py_n_fl]
          exact hns
        exact kk _ _ _ _ hP2848 F2849 (by rw [en, ee]; exact rq_R_0 (py_fl_f (by decide)) R2850)
    · replace k2841 : ¬ ((v2835).toInt < 0) := k2841
      refine bp_ld (pc' := 271) bu_99_270 rfl rfl (fun _ _ _ => rfl) g2840 rfl ?_
      refine bn_gr (pc' := 274) (t := 91) bu_99_271 rfl rfl (fun _ _ _ => rfl) hP rz_o88 rz_r88_5 ?_
      refine bp_ld (pc' := 275) bu_99_274 rfl rfl (fun _ _ _ => rfl) g2840 rfl ?_
      refine bn_gi (pc' := 278) (K := 8811) bu_99_275 rfl rfl (fun _ _ _ => rfl) hP rz_o88 rz_i88_11 rfl rfl ?_
      refine bn_iaF (pc' := 279) bu_99_278 rfl rfl (fun _ _ _ => rfl) hP rz_a91 (Or.inl rfl) (fun b2870 b2871 => ?_)
      refine bp_c (pc' := 281) (n := 27) bu_99_279 rfl rfl (fun _ _ _ => rfl) (by decide) (fun c2872 e2873 => ?_)
      refine bp_ic (pc' := 284) (pt := 289) bu_99_281 rfl rfl (fun k2874 => ?_) (fun k2874 => ?_)
      · replace k2874 : ((A 91 ((s 8811)).toInt.toNat)).toInt ≤ (c2872).toInt := k2874
        refine bp_ld (pc' := 290) bu_99_289 rfl rfl (fun _ _ _ => rfl) g2840 rfl ?_
        refine bn_gi (pc' := 293) (K := 8813) bu_99_290 rfl rfl (fun _ _ _ => rfl) hP rz_o88 rz_i88_13 rfl rfl ?_
        refine bp_i0 (pc' := 296) (pt := 297) bu_99_293 rfl rfl (fun k2875 => ?_) (fun k2875 => ?_)
        · replace k2875 : ((s 8813)).toInt ≤ 0 := k2875
          refine bp_ld (pc' := 298) bu_99_297 rfl rfl (fun _ _ _ => rfl) g2840 rfl ?_
          refine bn_cvF (pc' := 301) (st := []) (args := []) bu_99_298 rfl rfl rfl (by decide) hP rz_o88 (by decide) rfl (Nat.le_of_ble_eq_true rfl) (Nat.le_of_ble_eq_true rfl) ?_
          refine rr_37 hP (by decide) hR hT (fun _ => by omega) (fun h2876 s2877 A2878 L2879 hP2880 F2881 R2882 => ?_)
          show bp_G E PO NN ((99, 301, lv2837, [], 0, 0) :: gs, h2876, none)
          refine bp_ld (pc' := 302) bu_99_301 rfl rfl (fun _ _ _ => rfl) g2840 rfl ?_
          refine bp_ld (pc' := 303) bu_99_302 rfl rfl (fun _ _ _ => rfl) g2839 rfl ?_
          refine bn_cvF (pc' := 306) (st := []) (args := [.int v2835]) bu_99_303 rfl rfl rfl (by decide) hP2880 rz_o88 (by decide) rfl (Nat.le_of_ble_eq_true rfl) (Nat.le_of_ble_eq_true rfl) ?_
          refine rr_97 hP2880 R2882 (rq_T_F hT F2881) (fun h2883 s2884 A2885 L2886 hP2887 F2888 R2889 => ?_)
          have F2890 := rq_F_t F2881 F2888
          show bp_G E PO NN ((99, 306, lv2837, [], 0, 0) :: gs, h2883, none)
          refine bp_rv bu_99_306 ?_
          have ee : py_tell K V Q σ = (py_mu K 4 (py_x K true 0 (py_ifs K 4 (py_mu K 5 (py_go σ))))) := by
            unfold py_tell
            rw [if_neg (not_not_intro hq0), if_neg (by omega), if_pos (by omega)]
            rfl
          have en : (py_tell K V Q σ).2.2.2.2 = ns := by
            rw [ee]
            exact (py_n_law (K := K) (σ := σ)).trans hns
          exact kk _ _ _ _ hP2887 F2890 (by rw [en, ee]; exact R2889)
        · replace k2875 : ¬ (((s 8813)).toInt ≤ 0) := k2875
          refine bp_rv bu_99_296 ?_
          exfalso
          omega
      · replace k2874 : ¬ (((A 91 ((s 8811)).toInt.toNat)).toInt ≤ (c2872).toInt) := k2874
        refine bp_ld (pc' := 285) bu_99_284 rfl rfl (fun _ _ _ => rfl) g2840 rfl ?_
        refine bp_c (pc' := 286) (n := 1) bu_99_285 rfl rfl (fun _ _ _ => rfl) (by decide) (fun c2891 e2892 => ?_)
        refine bn_cvF (pc' := 289) (st := []) (args := [.int c2891]) bu_99_286 rfl rfl rfl (by decide) hP rz_o88 (by decide) rfl (Nat.le_of_ble_eq_true rfl) (Nat.le_of_ble_eq_true rfl) ?_
        refine rr_27 (kn := 1) hP (by omega) (by decide) hR hT (fun h2893 s2894 A2895 L2896 hP2897 F2898 R2899 => ?_)
        have u2900 := R2899.1
        have u2901 := py_fl_f (σ := σ) (k := 1) (by decide)
        show bp_G E PO NN ((99, 289, lv2837, [], 0, 0) :: gs, h2893, none)
        refine bp_ld (pc' := 290) bu_99_289 rfl rfl (fun _ _ _ => rfl) g2840 rfl ?_
        refine bn_gi (pc' := 293) (K := 8813) bu_99_290 rfl rfl (fun _ _ _ => rfl) hP2897 rz_o88 rz_i88_13 rfl rfl ?_
        refine bp_i0 (pc' := 296) (pt := 297) bu_99_293 rfl rfl (fun k2902 => ?_) (fun k2902 => ?_)
        · replace k2902 : ((s2894 8813)).toInt ≤ 0 := k2902
          refine bp_ld (pc' := 298) bu_99_297 rfl rfl (fun _ _ _ => rfl) g2840 rfl ?_
          refine bn_cvF (pc' := 301) (st := []) (args := []) bu_99_298 rfl rfl rfl (by decide) hP2897 rz_o88 (by decide) rfl (Nat.le_of_ble_eq_true rfl) (Nat.le_of_ble_eq_true rfl) ?_
          refine rr_37 hP2897 (by decide) R2899 (rq_T_F hT F2898) (fun _ => by omega) (fun h2903 s2904 A2905 L2906 hP2907 F2908 R2909 => ?_)
          have F2910 := rq_F_t F2898 F2908
          show bp_G E PO NN ((99, 301, lv2837, [], 0, 0) :: gs, h2903, none)
          refine bp_ld (pc' := 302) bu_99_301 rfl rfl (fun _ _ _ => rfl) g2840 rfl ?_
          refine bp_ld (pc' := 303) bu_99_302 rfl rfl (fun _ _ _ => rfl) g2839 rfl ?_
          refine bn_cvF (pc' := 306) (st := []) (args := [.int v2835]) bu_99_303 rfl rfl rfl (by decide) hP2907 rz_o88 (by decide) rfl (Nat.le_of_ble_eq_true rfl) (Nat.le_of_ble_eq_true rfl) ?_
          refine rr_97 hP2907 R2909 (rq_T_F hT F2910) (fun h2911 s2912 A2913 L2914 hP2915 F2916 R2917 => ?_)
          have F2918 := rq_F_t F2910 F2916
          show bp_G E PO NN ((99, 306, lv2837, [], 0, 0) :: gs, h2911, none)
          refine bp_rv bu_99_306 ?_
          exfalso
          omega
        · replace k2902 : ¬ (((s2894 8813)).toInt ≤ 0) := k2902
          refine bp_rv bu_99_296 ?_
          have ee : py_tell K V Q σ = (py_fl 1 σ) := by
            unfold py_tell
            rw [if_neg (not_not_intro hq0), if_neg (by omega), if_neg (by omega), if_neg (by omega), if_neg (by omega), if_neg (by omega)]
          have en : (py_tell K V Q σ).2.2.2.2 = ns := by
            rw [ee, py_n_fl]
            exact hns
          exact kk _ _ _ _ hP2897 F2898 (by rw [en, ee]; exact rq_R_0 (py_fl_f (by decide)) R2899)
end RQB
