/-! BY HAND: the class's Reader, 1 (wip/p4/mkc1.py) -/
def bq_T : bm_T := ([(11, 6), (12, 1), (20, 4), (21, 7)], [(11, 0, 12), (11, 1, 17), (11, 2, 18), (11, 3, 19), (12, 0, 13), (12, 1, 14), (12, 2, 15), (12, 3, 16), (20, 0, 21), (20, 1, 11), (21, 0, 22), (21, 1, 23), (21, 2, 24), (21, 4, 1)], [(11, 4), (11, 5), (11, 6), (11, 7), (11, 8), (11, 9), (11, 10), (12, 4), (20, 2), (20, 3), (20, 5), (20, 6), (20, 7), (20, 8), (20, 9), (21, 3), (21, 5), (21, 6)], [(20, 4)], [(1, 1, 2000), (13, 0, 9), (14, 0, 432), (15, 0, 7), (16, 0, 32), (17, 0, 24), (18, 0, 6), (22, 0, 401), (23, 0, 401)], [(19, 6), (24, 401)])
theorem bq_o11 : (11, 6) ∈ bq_T.1 := by decide
theorem bq_o12 : (12, 1) ∈ bq_T.1 := by decide
theorem bq_o20 : (20, 4) ∈ bq_T.1 := by decide
theorem bq_o21 : (21, 7) ∈ bq_T.1 := by decide
theorem bq_r11_0 : (11, 0, 12) ∈ bq_T.2.1 := by decide
theorem bq_r11_1 : (11, 1, 17) ∈ bq_T.2.1 := by decide
theorem bq_r11_2 : (11, 2, 18) ∈ bq_T.2.1 := by decide
theorem bq_r11_3 : (11, 3, 19) ∈ bq_T.2.1 := by decide
theorem bq_r12_0 : (12, 0, 13) ∈ bq_T.2.1 := by decide
theorem bq_r12_1 : (12, 1, 14) ∈ bq_T.2.1 := by decide
theorem bq_r12_2 : (12, 2, 15) ∈ bq_T.2.1 := by decide
theorem bq_r12_3 : (12, 3, 16) ∈ bq_T.2.1 := by decide
theorem bq_r20_0 : (20, 0, 21) ∈ bq_T.2.1 := by decide
theorem bq_r20_1 : (20, 1, 11) ∈ bq_T.2.1 := by decide
theorem bq_r21_0 : (21, 0, 22) ∈ bq_T.2.1 := by decide
theorem bq_r21_1 : (21, 1, 23) ∈ bq_T.2.1 := by decide
theorem bq_r21_2 : (21, 2, 24) ∈ bq_T.2.1 := by decide
theorem bq_r21_4 : (21, 4, 1) ∈ bq_T.2.1 := by decide
theorem bq_i11_4 : (11, 4) ∈ bq_T.2.2.1 := by decide
theorem bq_i11_5 : (11, 5) ∈ bq_T.2.2.1 := by decide
theorem bq_i11_6 : (11, 6) ∈ bq_T.2.2.1 := by decide
theorem bq_i11_7 : (11, 7) ∈ bq_T.2.2.1 := by decide
theorem bq_i11_8 : (11, 8) ∈ bq_T.2.2.1 := by decide
theorem bq_i11_9 : (11, 9) ∈ bq_T.2.2.1 := by decide
theorem bq_i11_10 : (11, 10) ∈ bq_T.2.2.1 := by decide
theorem bq_i12_4 : (12, 4) ∈ bq_T.2.2.1 := by decide
theorem bq_i20_2 : (20, 2) ∈ bq_T.2.2.1 := by decide
theorem bq_i20_3 : (20, 3) ∈ bq_T.2.2.1 := by decide
theorem bq_i20_5 : (20, 5) ∈ bq_T.2.2.1 := by decide
theorem bq_i20_6 : (20, 6) ∈ bq_T.2.2.1 := by decide
theorem bq_i20_7 : (20, 7) ∈ bq_T.2.2.1 := by decide
theorem bq_i20_8 : (20, 8) ∈ bq_T.2.2.1 := by decide
theorem bq_i20_9 : (20, 9) ∈ bq_T.2.2.1 := by decide
theorem bq_i21_3 : (21, 3) ∈ bq_T.2.2.1 := by decide
theorem bq_i21_5 : (21, 5) ∈ bq_T.2.2.1 := by decide
theorem bq_i21_6 : (21, 6) ∈ bq_T.2.2.1 := by decide
theorem bq_f20_4 : (20, 4) ∈ bq_T.2.2.2.1 := by decide
theorem bq_a1 : (1, 1, 2000) ∈ bq_T.2.2.2.2.1 := by decide
theorem bq_a13 : (13, 0, 9) ∈ bq_T.2.2.2.2.1 := by decide
theorem bq_a14 : (14, 0, 432) ∈ bq_T.2.2.2.2.1 := by decide
theorem bq_a15 : (15, 0, 7) ∈ bq_T.2.2.2.2.1 := by decide
theorem bq_a16 : (16, 0, 32) ∈ bq_T.2.2.2.2.1 := by decide
theorem bq_a17 : (17, 0, 24) ∈ bq_T.2.2.2.2.1 := by decide
theorem bq_a18 : (18, 0, 6) ∈ bq_T.2.2.2.2.1 := by decide
theorem bq_a22 : (22, 0, 401) ∈ bq_T.2.2.2.2.1 := by decide
theorem bq_a23 : (23, 0, 401) ∈ bq_T.2.2.2.2.1 := by decide
theorem bq_l19 : (19, 6) ∈ bq_T.2.2.2.2.2 := by decide
theorem bq_l24 : (24, 401) ∈ bq_T.2.2.2.2.2 := by decide
theorem bq_W : bm_W bq_T := by unfold bm_W; decide
/-- a token of the class (kind, value) beside the reference's (K, V) -/
def rc_k (K V kind val : Int) : Prop := (K = 0 ∧ kind = 0) ∨ (K = 1 ∧ kind = 2) ∨ (K = 2 ∧ kind = 3 ∧ val = V ∧ 0 ≤ V ∧ V ≤ 9999) ∨ (K = 3 ∧ kind = 1) ∨ (K = 4 ∧ kind = 4 ∧ val = 59) ∨ (K = 5 ∧ kind = 4 ∧ val = 61) ∨ (K = 6 ∧ kind = 4 ∧ val = 40) ∨ (K = 7 ∧ kind = 4 ∧ val = 41) ∨ (K = 8 ∧ kind = 4 ∧ val = 43) ∨ (K = 9 ∧ kind = 4 ∧ val = 45) ∨ (K = 10 ∧ kind = 4 ∧ val = 42) ∨ (K = 15 ∧ kind = 4 ∧ val = 47) ∨ (K = 13 ∧ kind = 4 ∧ val = 60) ∨ (20 ≤ K ∧ K ≤ 43 ∧ kind = 5 ∧ val = K - 20)
/-- the Reader (cell 20) in the state σ -/
def rc_R (K V P : Nat → Int) (N : Nat) (σ : py_S) (s : Nat → Int32) (L : Nat → Nat → Int64) : Prop := (s 2006).toInt = (σ.2.1 : Int) ∧ (σ.2.1 = 0 → (s 2002).toInt = (σ.1 : Int) ∧ (σ.1 ≤ 400 ∧ σ.1 < N) ∧ rc_k (K σ.1) (V σ.1) (s 2003).toInt (L 20 4).toInt ∧ (s 2005).toInt = P σ.1 ∧ (s 2008).toInt = (σ.2.2.1 : Int) ∧ (s 2009).toInt = (if σ.2.2.1 ≠ 0 then P σ.2.2.2.1 else -1) ∧ (s 1104).toInt = (σ.2.2.2.2.length : Int) ∧ σ.2.2.2.2.length ≤ 6 ∧ (∀ i, i < σ.2.2.2.2.length → L 19 i = L 24 (σ.2.2.2.2.getD i 0) ∧ σ.2.2.2.2.getD i 0 < N ∧ K (σ.2.2.2.2.getD i 0) = 1) ∧ L 20 4 = L 24 σ.1) ∧ (σ.2.1 ≠ 0 → (s 2003).toInt = 1 ∧ (s 2007).toInt = P σ.1)
/-- the class's tokens: N of them -/
def rc_T (K V P : Nat → Int) (N : Nat) (s : Nat → Int32) (A : Nat → Nat → Int32) (L : Nat → Nat → Int64) : Prop := (s 2103).toInt = (N : Int) ∧ N ≤ 401 ∧ (∀ j, j < N → rc_k (K j) (V j) (A 22 j).toInt (L 24 j).toInt ∧ (A 23 j).toInt = P j) ∧ 0 < N ∧ (∀ j, j < N → j < 400 → K j ≠ 0 → K j ≠ 3 → j + 1 < N)
/-- what reading keeps -/
def rc_F (s : Nat → Int32) (A : Nat → Nat → Int32) (L : Nat → Nat → Int64) (s' : Nat → Int32) (A' : Nat → Nat → Int32) (L' : Nat → Nat → Int64) : Prop := (∀ j, 2100 ≤ j ∨ (1104 ≤ j ∧ j ≤ 1110) → s' j = s j) ∧ (∀ c, c = 1 ∨ c = 22 ∨ c = 23 ∨ c = 17 ∨ c = 18 → A' c = A c) ∧ L' 24 = L 24 ∧ (0 ≤ (s 1204).toInt ∧ (s 1204).toInt ≤ 432 ∧ 0 ≤ (s 1104).toInt ∧ (s 1104).toInt ≤ 6 → 0 ≤ (s' 1204).toInt ∧ (s' 1204).toInt ≤ 432 ∧ 0 ≤ (s' 1104).toInt ∧ (s' 1104).toInt ≤ 6)
/-- what telling keeps -/
def rc_G (s : Nat → Int32) (A : Nat → Nat → Int32) (L : Nat → Nat → Int64) (s' : Nat → Int32) (A' : Nat → Nat → Int32) (L' : Nat → Nat → Int64) : Prop := (∀ j, 2100 ≤ j → s' j = s j) ∧ (∀ c, c = 1 ∨ c = 22 ∨ c = 23 → A' c = A c) ∧ L' 24 = L 24 ∧ (0 ≤ (s 1204).toInt ∧ (s 1204).toInt ≤ 432 ∧ 0 ≤ (s 1104).toInt ∧ (s 1104).toInt ≤ 6 → 0 ≤ (s' 1204).toInt ∧ (s' 1204).toInt ≤ 432 ∧ 0 ≤ (s' 1104).toInt ∧ (s' 1104).toInt ≤ 6)
/-- what is told of MEN and of the SHIP stands in the class's fresh Text -/
def rc_O (V : Nat → Int) (ns : List Nat) (ω : Nat → Nat) (s : Nat → Int32) (A : Nat → Nat → Int32) : Prop := (∀ i, i < ns.length → (∀ p, p < 4 → (A 17 (4 * i + p)).toInt = V (ns.getD i 0 + 1 + p)) ∧ (A 18 i).toInt = V (ns.getD i 0 + 5)) ∧ (s 1105).toInt = py_v V (ω 0) 0 20 ∧ (s 1106).toInt = py_v V (ω 0) 1 99 ∧ (s 1107).toInt = py_v V (ω 0) 2 50 ∧ (s 1108).toInt = py_v V (ω 1) 0 60 ∧ (s 1109).toInt = py_v V (ω 2) 0 999 ∧ (s 1110).toInt = py_v V (ω 3) 0 0
/-- a man is told: n MEN are ahead of him, his name stands at τ -/
def rc_M (V : Nat → Int) (τ n : Nat) (s : Nat → Int32) (A : Nat → Nat → Int32) (s' : Nat → Int32) (A' : Nat → Nat → Int32) : Prop := (∀ j, 1105 ≤ j → j ≤ 1110 → s' j = s j) ∧ (∀ j, j < 4 * n → A' 17 j = A 17 j) ∧ (∀ j, j < n → A' 18 j = A 18 j) ∧ (∀ p, p < 4 → (A' 17 (4 * n + p)).toInt = V (τ + 1 + p)) ∧ (A' 18 n).toInt = V (τ + 5)
section RC
variable {K V P : Nat → Int} {σ : py_S} {N : Nat} {s s1 s2 : Nat → Int32} {A A1 A2 : Nat → Nat → Int32} {L L1 L2 : Nat → Nat → Int64}
theorem rc_F_r : rc_F s A L s A L := ⟨fun _ _ => rfl, fun _ _ => rfl, rfl, id⟩
theorem rc_F_t (a : rc_F s A L s1 A1 L1) (b : rc_F s1 A1 L1 s2 A2 L2) : rc_F s A L s2 A2 L2 := ⟨fun j h1 => (b.1 j h1).trans (a.1 j h1), fun c h => (b.2.1 c h).trans (a.2.1 c h), b.2.2.1.trans a.2.2.1, fun h => b.2.2.2 (a.2.2.2 h)⟩
theorem rc_T_F (hT : rc_T K V P N s A L) (hF : rc_F s A L s1 A1 L1) : rc_T K V P N s1 A1 L1 := by
  obtain ⟨t1, t2, t3, t4⟩ := hT
  refine ⟨by rw [hF.1 2103 (by decide)]; exact t1, t2, ?_, t4⟩
  rw [hF.2.1 22 (by decide), hF.2.1 23 (by decide), hF.2.2.1]
  exact t3
theorem rc_G_of (h : rc_F s A L s1 A1 L1) : rc_G s A L s1 A1 L1 := ⟨fun j h1 => h.1 j (Or.inl h1), fun c h1 => h.2.1 c (by omega), h.2.2.1, h.2.2.2⟩
theorem rc_G_r : rc_G s A L s A L := ⟨fun _ _ => rfl, fun _ _ => rfl, rfl, id⟩
theorem rc_G_t (a : rc_G s A L s1 A1 L1) (b : rc_G s1 A1 L1 s2 A2 L2) : rc_G s A L s2 A2 L2 := ⟨fun j h1 => (b.1 j h1).trans (a.1 j h1), fun c h => (b.2.1 c h).trans (a.2.1 c h), b.2.2.1.trans a.2.2.1, fun h => b.2.2.2 (a.2.2.2 h)⟩
theorem rc_T_G (hT : rc_T K V P N s A L) (hF : rc_G s A L s1 A1 L1) : rc_T K V P N s1 A1 L1 := by
  obtain ⟨t1, t2, t3, t4⟩ := hT
  refine ⟨by rw [hF.1 2103 (by decide)]; exact t1, t2, ?_, t4⟩
  rw [hF.2.1 22 (by decide), hF.2.1 23 (by decide), hF.2.2.1]
  exact t3
theorem rc_up_i {f : Nat → Int32} {i : Nat} {v : Int32} : upd f i v i = v := if_pos rfl
theorem rc_up_o {f : Nat → Int32} {i j : Nat} {v : Int32} (h : j ≠ i) : upd f i v j = f j := if_neg h
theorem rc_M_of {τ n : Nat} {v0 v1 v2 v3 v4 : Int32} (hg : ∀ j, 1105 ≤ j → j ≤ 1110 → s1 j = s j) (w17 : A1 17 = upd (upd (upd (upd (A 17) (4 * n) v0) (4 * n + 1) v1) (4 * n + 2) v2) (4 * n + 3) v3) (w18 : A1 18 = upd (A 18) n v4) (a0 : v0.toInt = V (τ + 1)) (a1 : v1.toInt = V (τ + 2)) (a2 : v2.toInt = V (τ + 3)) (a3 : v3.toInt = V (τ + 4)) (a4 : v4.toInt = V (τ + 5)) : rc_M V τ n s A s1 A1 := by
  refine ⟨hg, fun j hj => ?_, fun j hj => ?_, fun p hp => ?_, ?_⟩
  · rw [w17, rc_up_o (by omega), rc_up_o (by omega), rc_up_o (by omega), rc_up_o (by omega)]
  · rw [w18, rc_up_o (by omega)]
  · rw [w17]
    rcases (show p = 0 ∨ p = 1 ∨ p = 2 ∨ p = 3 by omega) with rfl | rfl | rfl | rfl
    · rw [rc_up_o (by omega), rc_up_o (by omega), rc_up_o (by omega)]
      show (upd _ (4 * n) v0 (4 * n)).toInt = V (τ + 1)
      rw [rc_up_i]
      exact a0
    · rw [rc_up_o (by omega), rc_up_o (by omega), rc_up_i]
      exact a1
    · rw [rc_up_o (by omega), rc_up_i]
      exact a2
    · rw [rc_up_i]
      exact a3
  · rw [w18, rc_up_i]
    exact a4
theorem rc_O_man {ns : List Nat} {τ : Nat} {ω : Nat → Nat} (hM : rc_M V τ ns.length s A s1 A1) (h : rc_O V ns ω s A) : rc_O V (ns ++ [τ]) ω s1 A1 := by
  obtain ⟨m1, m2, m3, m4, m5⟩ := hM
  obtain ⟨o1, o2⟩ := h
  refine ⟨fun i hi => ?_, ?_⟩
  · rw [List.length_append] at hi
    have hi : i < ns.length + 1 := hi
    by_cases ei : i = ns.length
    · have eg : (ns ++ [τ]).getD i 0 = τ := by
        rw [ei, List.getD_eq_getElem?_getD, List.getElem?_append_right (Nat.le_refl _), Nat.sub_self]
        rfl
      rw [eg, ei]
      exact ⟨m4, m5⟩
    · have eg : (ns ++ [τ]).getD i 0 = ns.getD i 0 := by
        rw [List.getD_eq_getElem?_getD, List.getD_eq_getElem?_getD, List.getElem?_append_left (by omega)]
      rw [eg]
      have g := o1 i (by omega)
      refine ⟨fun p hp => ?_, ?_⟩
      · rw [m2 _ (by omega)]
        exact g.1 p hp
      · rw [m3 _ (by omega)]
        exact g.2
  · rw [m1 1105 (by decide) (by decide), m1 1106 (by decide) (by decide), m1 1107 (by decide) (by decide), m1 1108 (by decide) (by decide), m1 1109 (by decide) (by decide), m1 1110 (by decide) (by decide)]
    exact o2
theorem rc_O_s {ns : List Nat} {ω ω' : Nat → Nat} (h : rc_O V ns ω s A) (hs : ∀ j, 1105 ≤ j → j ≤ 1110 → s1 j = s j) (h17 : A1 17 = A 17) (h18 : A1 18 = A 18) (hw : ∀ i, i < 4 → ω' i = ω i) : rc_O V ns ω' s1 A1 := by
  unfold rc_O
  rw [h17, h18, hs 1105 (by decide) (by decide), hs 1106 (by decide) (by decide), hs 1107 (by decide) (by decide), hs 1108 (by decide) (by decide), hs 1109 (by decide) (by decide), hs 1110 (by decide) (by decide), hw 0 (by decide), hw 1 (by decide), hw 2 (by decide), hw 3 (by decide)]
  exact h
/-- code is made -/
theorem rc_F_e (h1 : ∀ j, j ≠ 1204 → s1 j = s j) (h2 : ∀ c, c ≠ 14 → c ≠ 15 → A1 c = A c) (h3 : 0 ≤ (s1 1204).toInt ∧ (s1 1204).toInt ≤ 432 ∧ 0 ≤ (s1 1104).toInt ∧ (s1 1104).toInt ≤ 6) : rc_F s A L s1 A1 L := ⟨fun j h => h1 j (by omega), fun c h => h2 c (by omega) (by omega), rfl, fun _ => h3⟩
theorem rc_R_e (hR : rc_R K V P N σ s L) (h1 : ∀ j, j ≠ 1204 → s1 j = s j) : rc_R K V P N σ s1 L := by
  unfold rc_R at *
  rw [h1 2006 (by decide), h1 2002 (by decide), h1 2003 (by decide), h1 2005 (by decide), h1 2008 (by decide), h1 2009 (by decide), h1 1104 (by decide), h1 2007 (by decide)]
  exact hR
/-- a FAULT found -/
theorem rc_fl (hR : rc_R K V P N σ s L) {k : Nat} (hk : k ≠ 0) (h1 : (s1 2003).toInt = 1) (h2 : (s 2006).toInt = 0 → (s1 2006).toInt = (k : Int) ∧ s1 2007 = s 2005) (h3 : (s 2006).toInt ≠ 0 → s1 2006 = s 2006 ∧ s1 2007 = s 2007) : rc_R K V P N (py_fl k σ) s1 L1 := by
  obtain ⟨r1, r2, r3⟩ := hR
  by_cases e : σ.2.1 = 0
  · have e2 : py_fl k σ = (σ.1, k, σ.2.2) := if_pos e
    rw [e2]
    have g := h2 (by omega)
    have r2 := r2 e
    refine ⟨g.1, fun h => absurd h hk, fun _ => ⟨h1, ?_⟩⟩
    rw [g.2]
    exact r2.2.2.2.1
  · have e2 : py_fl k σ = σ := if_neg e
    rw [e2]
    have g := h3 (by omega)
    refine ⟨by rw [g.1]; exact r1, fun h => absurd h e, fun h => ⟨h1, ?_⟩⟩
    rw [g.2]
    exact (r3 h).2
/-- on to the next token -/
theorem rc_go (hR : rc_R K V P N σ s L) (hT : rc_T K V P N s A L) (hf : σ.2.1 = 0) (k0 : K σ.1 ≠ 0) (k3 : K σ.1 ≠ 3) (h8 : s1 2008 = s 2008) (h9 : s1 2009 = s 2009) (h4 : s1 1104 = s 1104) (hl : L1 19 = L 19) (hl2 : L1 24 = L 24) (h1 : σ.1 < 400 → σ.1 + 1 < N → (s1 2002).toInt = (σ.1 : Int) + 1 ∧ s1 2003 = A 22 (σ.1 + 1) ∧ L1 20 4 = L 24 (σ.1 + 1) ∧ s1 2005 = A 23 (σ.1 + 1) ∧ s1 2006 = s 2006) (h2 : 400 ≤ σ.1 → (s1 2003).toInt = 1 ∧ (s1 2006).toInt = 2 ∧ s1 2007 = s 2005) : rc_R K V P N (py_go σ) s1 L1 := by
  obtain ⟨r1, r2, r3⟩ := hR
  have r2 := r2 hf
  by_cases e : σ.1 = 400
  · rw [py_go_e hf e]
    have g := h2 (by omega)
    refine ⟨g.2.1, fun h => absurd (show (2 : Nat) = 0 from h) (by decide), fun _ => ⟨g.1, ?_⟩⟩
    rw [g.2.2]
    exact r2.2.2.2.1
  · rw [py_go_s hf e]
    have e4 : σ.1 < 400 := by omega
    have n2 := hT.2.2.2.2 σ.1 r2.2.1.2 e4 k0 k3
    have g := h1 e4 n2
    have t := hT.2.2.1 (σ.1 + 1) n2
    refine ⟨by rw [g.2.2.2.2]; exact r1, fun _ => ⟨?_, ⟨e4, n2⟩, ?_, ?_, ?_, ?_, ?_, r2.2.2.2.2.2.2.2.1, ?_, ?_⟩, fun h => absurd hf h⟩
    · have g1 := g.1
      show (s1 2002).toInt = ((σ.1 + 1 : Nat) : Int)
      omega
    · show rc_k (K (σ.1 + 1)) (V (σ.1 + 1)) _ _
      rw [g.2.1, g.2.2.1]
      exact t.1
    · show (s1 2005).toInt = P (σ.1 + 1)
      rw [g.2.2.2.1]
      exact t.2
    · rw [h8]
      exact r2.2.2.2.2.1
    · rw [h9]
      exact r2.2.2.2.2.2.1
    · rw [h4]
      exact r2.2.2.2.2.2.2.1
    · rw [hl, hl2]
      exact r2.2.2.2.2.2.2.2.2.1
    · rw [hl2]
      exact g.2.2.1
/-- a later FAULT is noted -/
theorem rc_wr (hR : rc_R K V P N σ s L) {k : Nat} (hk : k ≠ 0) (hf : σ.2.1 = 0) (ho : ∀ j, j ≠ 2008 → j ≠ 2009 → s1 j = s j) (h1 : (s 2008).toInt = 0 → (s1 2008).toInt = (k : Int) ∧ s1 2009 = s 2005) (h2 : (s 2008).toInt ≠ 0 → s1 2008 = s 2008 ∧ s1 2009 = s 2009) : rc_R K V P N (py_wr k σ.1 σ) s1 L := by
  obtain ⟨r1, r2, r3⟩ := hR
  have r2 := r2 hf
  by_cases e : σ.2.2.1 = 0
  · have e2 : py_wr k σ.1 σ = (σ.1, σ.2.1, k, σ.1, σ.2.2.2.2) := if_pos ⟨hf, e⟩
    rw [e2]
    have g := h1 (by omega)
    refine ⟨by rw [ho 2006 (by decide) (by decide)]; exact r1, fun _ => ⟨by rw [ho 2002 (by decide) (by decide)]; exact r2.1, r2.2.1, by rw [ho 2003 (by decide) (by decide)]; exact r2.2.2.1, by rw [ho 2005 (by decide) (by decide)]; exact r2.2.2.2.1, g.1, ?_, by rw [ho 1104 (by decide) (by decide)]; exact r2.2.2.2.2.2.2.1, r2.2.2.2.2.2.2.2⟩, fun h => absurd hf h⟩
    show (s1 2009).toInt = if k ≠ 0 then P σ.1 else -1
    rw [if_pos hk, g.2]
    exact r2.2.2.2.1
  · have e2 : py_wr k σ.1 σ = σ := if_neg (fun h => e h.2)
    rw [e2]
    have g := h2 (by omega)
    refine ⟨by rw [ho 2006 (by decide) (by decide)]; exact r1, fun _ => ⟨by rw [ho 2002 (by decide) (by decide)]; exact r2.1, r2.2.1, by rw [ho 2003 (by decide) (by decide)]; exact r2.2.2.1, by rw [ho 2005 (by decide) (by decide)]; exact r2.2.2.2.1, by rw [g.1]; exact r2.2.2.2.2.1, by rw [g.2]; exact r2.2.2.2.2.2.1, by rw [ho 1104 (by decide) (by decide)]; exact r2.2.2.2.2.2.2.1, r2.2.2.2.2.2.2.2⟩, fun h => absurd hf h⟩
end RC
theorem bu_132_0 : mm_at mt_P 132 0 = some ((0, 1, .iload_n 1, 0, 0, 0, 0), 2, 1, 1, 1, 0, 0, 0) := rfl
theorem bu_132_1 : mm_at mt_P 132 1 = some ((1, 3, .ifCond .lt 25, 0, 0, 0, 0), 2, 1, 1, 1, 0, 0, 0) := rfl
theorem bu_132_4 : mm_at mt_P 132 4 = some ((4, 1, .iload_n 1, 0, 0, 0, 0), 2, 1, 1, 1, 0, 0, 0) := rfl
theorem bu_132_5 : mm_at mt_P 132 5 = some ((5, 1, .aload_n 0, 0, 0, 0, 0), 2, 1, 1, 1, 0, 0, 0) := rfl
theorem bu_132_6 : mm_at mt_P 132 6 = some ((6, 3, .getfield 24, 1, 4, 0, 147), 2, 1, 1, 1, 0, 0, 0) := rfl
theorem bu_132_9 : mm_at mt_P 132 9 = some ((9, 3, .if_icmp .ge 17, 0, 0, 0, 0), 2, 1, 1, 1, 0, 0, 0) := rfl
theorem bu_132_12 : mm_at mt_P 132 12 = some ((12, 1, .aload_n 0, 0, 0, 0, 0), 2, 1, 1, 1, 0, 0, 0) := rfl
theorem bu_132_13 : mm_at mt_P 132 13 = some ((13, 3, .getfield 15, 1, 1, 0, 144), 2, 1, 1, 1, 0, 0, 0) := rfl
theorem bu_132_16 : mm_at mt_P 132 16 = some ((16, 1, .iload_n 1, 0, 0, 0, 0), 2, 1, 1, 1, 0, 0, 0) := rfl
theorem bu_132_17 : mm_at mt_P 132 17 = some ((17, 1, .aload_n 0, 0, 0, 0, 0), 2, 1, 1, 1, 0, 0, 0) := rfl
theorem bu_132_18 : mm_at mt_P 132 18 = some ((18, 3, .getfield 24, 1, 4, 0, 147), 2, 1, 1, 1, 0, 0, 0) := rfl
theorem bu_132_21 : mm_at mt_P 132 21 = some ((21, 1, .iconst 4, 0, 0, 0, 0), 2, 1, 1, 1, 0, 0, 0) := rfl
theorem bu_132_22 : mm_at mt_P 132 22 = some ((22, 1, .ishl, 0, 0, 0, 0), 2, 1, 1, 1, 0, 0, 0) := rfl
theorem bu_132_23 : mm_at mt_P 132 23 = some ((23, 1, .iconst 3, 0, 0, 0, 0), 2, 1, 1, 1, 0, 0, 0) := rfl
theorem bu_132_24 : mm_at mt_P 132 24 = some ((24, 1, .ior, 0, 0, 0, 0), 2, 1, 1, 1, 0, 0, 0) := rfl
theorem bu_132_25 : mm_at mt_P 132 25 = some ((25, 1, .iastore, 0, 0, 0, 0), 2, 1, 1, 1, 0, 0, 0) := rfl
theorem bu_132_26 : mm_at mt_P 132 26 = some ((26, 1, .return_, 0, 0, 0, 0), 2, 1, 1, 1, 0, 0, 0) := rfl
theorem bu_135_0 : mm_at mt_P 135 0 = some ((0, 1, .aload_n 0, 0, 0, 0, 0), 1, 0, 1, 1, 1, 0, 0) := rfl
theorem bu_135_1 : mm_at mt_P 135 1 = some ((1, 3, .getfield 24, 1, 4, 0, 147), 1, 0, 1, 1, 1, 0, 0) := rfl
theorem bu_135_4 : mm_at mt_P 135 4 = some ((4, 1, .ireturn, 0, 0, 0, 0), 1, 0, 1, 1, 1, 0, 0) := rfl
theorem bu_136_0 : mm_at mt_P 136 0 = some ((0, 1, .aload_n 0, 0, 0, 0, 0), 3, 2, 1, 1, 0, 0, 0) := rfl
theorem bu_136_1 : mm_at mt_P 136 1 = some ((1, 3, .getfield 24, 1, 4, 0, 147), 3, 2, 1, 1, 0, 0, 0) := rfl
theorem bu_136_4 : mm_at mt_P 136 4 = some ((4, 3, .sipush 432, 0, 0, 0, 0), 3, 2, 1, 1, 0, 0, 0) := rfl
theorem bu_136_7 : mm_at mt_P 136 7 = some ((7, 3, .if_icmp .ge 27, 0, 0, 0, 0), 3, 2, 1, 1, 0, 0, 0) := rfl
theorem bu_136_10 : mm_at mt_P 136 10 = some ((10, 1, .aload_n 0, 0, 0, 0, 0), 3, 2, 1, 1, 0, 0, 0) := rfl
theorem bu_136_11 : mm_at mt_P 136 11 = some ((11, 3, .getfield 15, 1, 1, 0, 144), 3, 2, 1, 1, 0, 0, 0) := rfl
theorem bu_136_14 : mm_at mt_P 136 14 = some ((14, 1, .aload_n 0, 0, 0, 0, 0), 3, 2, 1, 1, 0, 0, 0) := rfl
theorem bu_136_15 : mm_at mt_P 136 15 = some ((15, 3, .getfield 24, 1, 4, 0, 147), 3, 2, 1, 1, 0, 0, 0) := rfl
theorem bu_136_18 : mm_at mt_P 136 18 = some ((18, 1, .iload_n 2, 0, 0, 0, 0), 3, 2, 1, 1, 0, 0, 0) := rfl
theorem bu_136_19 : mm_at mt_P 136 19 = some ((19, 1, .iconst 4, 0, 0, 0, 0), 3, 2, 1, 1, 0, 0, 0) := rfl
theorem bu_136_20 : mm_at mt_P 136 20 = some ((20, 1, .ishl, 0, 0, 0, 0), 3, 2, 1, 1, 0, 0, 0) := rfl
theorem bu_136_21 : mm_at mt_P 136 21 = some ((21, 1, .iload_n 1, 0, 0, 0, 0), 3, 2, 1, 1, 0, 0, 0) := rfl
theorem bu_136_22 : mm_at mt_P 136 22 = some ((22, 1, .ior, 0, 0, 0, 0), 3, 2, 1, 1, 0, 0, 0) := rfl
theorem bu_136_23 : mm_at mt_P 136 23 = some ((23, 1, .iastore, 0, 0, 0, 0), 3, 2, 1, 1, 0, 0, 0) := rfl
theorem bu_136_24 : mm_at mt_P 136 24 = some ((24, 1, .aload_n 0, 0, 0, 0, 0), 3, 2, 1, 1, 0, 0, 0) := rfl
theorem bu_136_25 : mm_at mt_P 136 25 = some ((25, 1, .dup, 0, 0, 0, 0), 3, 2, 1, 1, 0, 0, 0) := rfl
theorem bu_136_26 : mm_at mt_P 136 26 = some ((26, 3, .getfield 24, 1, 4, 0, 147), 3, 2, 1, 1, 0, 0, 0) := rfl
theorem bu_136_29 : mm_at mt_P 136 29 = some ((29, 1, .iconst 1, 0, 0, 0, 0), 3, 2, 1, 1, 0, 0, 0) := rfl
theorem bu_136_30 : mm_at mt_P 136 30 = some ((30, 1, .iadd, 0, 0, 0, 0), 3, 2, 1, 1, 0, 0, 0) := rfl
theorem bu_136_31 : mm_at mt_P 136 31 = some ((31, 3, .putfield 24, 1, 4, 0, 147), 3, 2, 1, 1, 0, 0, 0) := rfl
theorem bu_136_34 : mm_at mt_P 136 34 = some ((34, 1, .return_, 0, 0, 0, 0), 3, 2, 1, 1, 0, 0, 0) := rfl
theorem bu_137_0 : mm_at mt_P 137 0 = some ((0, 1, .iload_n 1, 0, 0, 0, 0), 3, 2, 1, 1, 0, 0, 0) := rfl
theorem bu_137_1 : mm_at mt_P 137 1 = some ((1, 3, .ifCond .lt 31, 0, 0, 0, 0), 3, 2, 1, 1, 0, 0, 0) := rfl
theorem bu_137_4 : mm_at mt_P 137 4 = some ((4, 1, .iload_n 1, 0, 0, 0, 0), 3, 2, 1, 1, 0, 0, 0) := rfl
theorem bu_137_5 : mm_at mt_P 137 5 = some ((5, 2, .bipush 7, 0, 0, 0, 0), 3, 2, 1, 1, 0, 0, 0) := rfl
theorem bu_137_7 : mm_at mt_P 137 7 = some ((7, 3, .if_icmp .ge 25, 0, 0, 0, 0), 3, 2, 1, 1, 0, 0, 0) := rfl
theorem bu_137_10 : mm_at mt_P 137 10 = some ((10, 3, .getstatic 41, 0, 0, 0, 704), 3, 2, 1, 1, 0, 0, 0) := rfl
theorem bu_137_13 : mm_at mt_P 137 13 = some ((13, 1, .iload_n 1, 0, 0, 0, 0), 3, 2, 1, 1, 0, 0, 0) := rfl
theorem bu_137_14 : mm_at mt_P 137 14 = some ((14, 1, .iaload, 0, 0, 0, 0), 3, 2, 1, 1, 0, 0, 0) := rfl
theorem bu_137_15 : mm_at mt_P 137 15 = some ((15, 1, .iload_n 2, 0, 0, 0, 0), 3, 2, 1, 1, 0, 0, 0) := rfl
theorem bu_137_16 : mm_at mt_P 137 16 = some ((16, 1, .ishr, 0, 0, 0, 0), 3, 2, 1, 1, 0, 0, 0) := rfl
theorem bu_137_17 : mm_at mt_P 137 17 = some ((17, 1, .iconst 1, 0, 0, 0, 0), 3, 2, 1, 1, 0, 0, 0) := rfl
theorem bu_137_18 : mm_at mt_P 137 18 = some ((18, 1, .iand, 0, 0, 0, 0), 3, 2, 1, 1, 0, 0, 0) := rfl
theorem bu_137_19 : mm_at mt_P 137 19 = some ((19, 1, .iconst 1, 0, 0, 0, 0), 3, 2, 1, 1, 0, 0, 0) := rfl
theorem bu_137_20 : mm_at mt_P 137 20 = some ((20, 3, .if_icmp .ne 12, 0, 0, 0, 0), 3, 2, 1, 1, 0, 0, 0) := rfl
theorem bu_137_23 : mm_at mt_P 137 23 = some ((23, 1, .aload_n 0, 0, 0, 0, 0), 3, 2, 1, 1, 0, 0, 0) := rfl
theorem bu_137_24 : mm_at mt_P 137 24 = some ((24, 1, .iconst 1, 0, 0, 0, 0), 3, 2, 1, 1, 0, 0, 0) := rfl
theorem bu_137_25 : mm_at mt_P 137 25 = some ((25, 1, .iload_n 2, 0, 0, 0, 0), 3, 2, 1, 1, 0, 0, 0) := rfl
theorem bu_137_26 : mm_at mt_P 137 26 = some ((26, 3, .invokevirtual 32, 136, 0, 0, 173), 3, 2, 1, 1, 0, 0, 0) := rfl
theorem bu_137_29 : mm_at mt_P 137 29 = some ((29, 3, .goto 9, 0, 0, 0, 0), 3, 2, 1, 1, 0, 0, 0) := rfl
theorem bu_137_32 : mm_at mt_P 137 32 = some ((32, 1, .aload_n 0, 0, 0, 0, 0), 3, 2, 1, 1, 0, 0, 0) := rfl
theorem bu_137_33 : mm_at mt_P 137 33 = some ((33, 1, .iconst 0, 0, 0, 0, 0), 3, 2, 1, 1, 0, 0, 0) := rfl
theorem bu_137_34 : mm_at mt_P 137 34 = some ((34, 1, .iconst 0, 0, 0, 0, 0), 3, 2, 1, 1, 0, 0, 0) := rfl
theorem bu_137_35 : mm_at mt_P 137 35 = some ((35, 3, .invokevirtual 32, 136, 0, 0, 173), 3, 2, 1, 1, 0, 0, 0) := rfl
theorem bu_137_38 : mm_at mt_P 137 38 = some ((38, 1, .return_, 0, 0, 0, 0), 3, 2, 1, 1, 0, 0, 0) := rfl
theorem bu_144_0 : mm_at mt_P 144 0 = some ((0, 1, .iload_n 1, 0, 0, 0, 0), 3, 2, 1, 1, 0, 0, 0) := rfl
theorem bu_144_1 : mm_at mt_P 144 1 = some ((1, 3, .ifCond .lt 16, 0, 0, 0, 0), 3, 2, 1, 1, 0, 0, 0) := rfl
theorem bu_144_4 : mm_at mt_P 144 4 = some ((4, 1, .iload_n 1, 0, 0, 0, 0), 3, 2, 1, 1, 0, 0, 0) := rfl
theorem bu_144_5 : mm_at mt_P 144 5 = some ((5, 2, .bipush 7, 0, 0, 0, 0), 3, 2, 1, 1, 0, 0, 0) := rfl
theorem bu_144_7 : mm_at mt_P 144 7 = some ((7, 3, .if_icmp .ge 10, 0, 0, 0, 0), 3, 2, 1, 1, 0, 0, 0) := rfl
theorem bu_144_10 : mm_at mt_P 144 10 = some ((10, 1, .aload_n 0, 0, 0, 0, 0), 3, 2, 1, 1, 0, 0, 0) := rfl
theorem bu_144_11 : mm_at mt_P 144 11 = some ((11, 3, .getfield 18, 1, 2, 0, 145), 3, 2, 1, 1, 0, 0, 0) := rfl
theorem bu_144_14 : mm_at mt_P 144 14 = some ((14, 1, .iload_n 1, 0, 0, 0, 0), 3, 2, 1, 1, 0, 0, 0) := rfl
theorem bu_144_15 : mm_at mt_P 144 15 = some ((15, 1, .iload_n 2, 0, 0, 0, 0), 3, 2, 1, 1, 0, 0, 0) := rfl
theorem bu_144_16 : mm_at mt_P 144 16 = some ((16, 1, .iastore, 0, 0, 0, 0), 3, 2, 1, 1, 0, 0, 0) := rfl
theorem bu_144_17 : mm_at mt_P 144 17 = some ((17, 1, .return_, 0, 0, 0, 0), 3, 2, 1, 1, 0, 0, 0) := rfl
theorem bu_161_0 : mm_at mt_P 161 0 = some ((0, 1, .aload_n 0, 0, 0, 0, 0), 1, 0, 1, 4, 0, 0, 0) := rfl
theorem bu_161_1 : mm_at mt_P 161 1 = some ((1, 3, .getfield 46, 4, 2, 0, 276), 1, 0, 1, 4, 0, 0, 0) := rfl
theorem bu_161_4 : mm_at mt_P 161 4 = some ((4, 3, .sipush 400, 0, 0, 0, 0), 1, 0, 1, 4, 0, 0, 0) := rfl
theorem bu_161_7 : mm_at mt_P 161 7 = some ((7, 3, .if_icmp .lt 22, 0, 0, 0, 0), 1, 0, 1, 4, 0, 0, 0) := rfl
theorem bu_161_10 : mm_at mt_P 161 10 = some ((10, 1, .aload_n 0, 0, 0, 0, 0), 1, 0, 1, 4, 0, 0, 0) := rfl
theorem bu_161_11 : mm_at mt_P 161 11 = some ((11, 1, .iconst 2, 0, 0, 0, 0), 1, 0, 1, 4, 0, 0, 0) := rfl
theorem bu_161_12 : mm_at mt_P 161 12 = some ((12, 3, .putfield 37, 4, 6, 0, 280), 1, 0, 1, 4, 0, 0, 0) := rfl
theorem bu_161_15 : mm_at mt_P 161 15 = some ((15, 1, .aload_n 0, 0, 0, 0, 0), 1, 0, 1, 4, 0, 0, 0) := rfl
theorem bu_161_16 : mm_at mt_P 161 16 = some ((16, 1, .aload_n 0, 0, 0, 0, 0), 1, 0, 1, 4, 0, 0, 0) := rfl
theorem bu_161_17 : mm_at mt_P 161 17 = some ((17, 3, .getfield 164, 4, 5, 0, 279), 1, 0, 1, 4, 0, 0, 0) := rfl
theorem bu_161_20 : mm_at mt_P 161 20 = some ((20, 3, .putfield 24, 4, 7, 0, 281), 1, 0, 1, 4, 0, 0, 0) := rfl
theorem bu_161_23 : mm_at mt_P 161 23 = some ((23, 1, .aload_n 0, 0, 0, 0, 0), 1, 0, 1, 4, 0, 0, 0) := rfl
theorem bu_161_24 : mm_at mt_P 161 24 = some ((24, 1, .iconst 1, 0, 0, 0, 0), 1, 0, 1, 4, 0, 0, 0) := rfl
theorem bu_161_25 : mm_at mt_P 161 25 = some ((25, 3, .putfield 52, 4, 3, 0, 277), 1, 0, 1, 4, 0, 0, 0) := rfl
theorem bu_161_28 : mm_at mt_P 161 28 = some ((28, 1, .return_, 0, 0, 0, 0), 1, 0, 1, 4, 0, 0, 0) := rfl
theorem bu_161_29 : mm_at mt_P 161 29 = some ((29, 1, .aload_n 0, 0, 0, 0, 0), 1, 0, 1, 4, 0, 0, 0) := rfl
theorem bu_161_30 : mm_at mt_P 161 30 = some ((30, 1, .dup, 0, 0, 0, 0), 1, 0, 1, 4, 0, 0, 0) := rfl
theorem bu_161_31 : mm_at mt_P 161 31 = some ((31, 3, .getfield 46, 4, 2, 0, 276), 1, 0, 1, 4, 0, 0, 0) := rfl
theorem bu_161_34 : mm_at mt_P 161 34 = some ((34, 1, .iconst 1, 0, 0, 0, 0), 1, 0, 1, 4, 0, 0, 0) := rfl
theorem bu_161_35 : mm_at mt_P 161 35 = some ((35, 1, .iadd, 0, 0, 0, 0), 1, 0, 1, 4, 0, 0, 0) := rfl
theorem bu_161_36 : mm_at mt_P 161 36 = some ((36, 3, .putfield 46, 4, 2, 0, 276), 1, 0, 1, 4, 0, 0, 0) := rfl
theorem bu_161_39 : mm_at mt_P 161 39 = some ((39, 1, .aload_n 0, 0, 0, 0, 0), 1, 0, 1, 4, 0, 0, 0) := rfl
theorem bu_161_40 : mm_at mt_P 161 40 = some ((40, 3, .getfield 46, 4, 2, 0, 276), 1, 0, 1, 4, 0, 0, 0) := rfl
theorem bu_161_43 : mm_at mt_P 161 43 = some ((43, 3, .ifCond .lt 65, 0, 0, 0, 0), 1, 0, 1, 4, 0, 0, 0) := rfl
theorem bu_161_46 : mm_at mt_P 161 46 = some ((46, 1, .aload_n 0, 0, 0, 0, 0), 1, 0, 1, 4, 0, 0, 0) := rfl
theorem bu_161_47 : mm_at mt_P 161 47 = some ((47, 3, .getfield 46, 4, 2, 0, 276), 1, 0, 1, 4, 0, 0, 0) := rfl
theorem bu_161_50 : mm_at mt_P 161 50 = some ((50, 1, .aload_n 0, 0, 0, 0, 0), 1, 0, 1, 4, 0, 0, 0) := rfl
theorem bu_161_51 : mm_at mt_P 161 51 = some ((51, 3, .getfield 20, 4, 0, 0, 274), 1, 0, 1, 4, 0, 0, 0) := rfl
theorem bu_161_54 : mm_at mt_P 161 54 = some ((54, 3, .getfield 167, 7, 3, 0, 255), 1, 0, 1, 4, 0, 0, 0) := rfl
theorem bu_161_57 : mm_at mt_P 161 57 = some ((57, 3, .if_icmp .ge 51, 0, 0, 0, 0), 1, 0, 1, 4, 0, 0, 0) := rfl
theorem bu_161_60 : mm_at mt_P 161 60 = some ((60, 1, .aload_n 0, 0, 0, 0, 0), 1, 0, 1, 4, 0, 0, 0) := rfl
theorem bu_161_61 : mm_at mt_P 161 61 = some ((61, 1, .aload_n 0, 0, 0, 0, 0), 1, 0, 1, 4, 0, 0, 0) := rfl
theorem bu_161_62 : mm_at mt_P 161 62 = some ((62, 3, .getfield 20, 4, 0, 0, 274), 1, 0, 1, 4, 0, 0, 0) := rfl
theorem bu_161_65 : mm_at mt_P 161 65 = some ((65, 3, .getfield 170, 7, 0, 0, 249), 1, 0, 1, 4, 0, 0, 0) := rfl
theorem bu_161_68 : mm_at mt_P 161 68 = some ((68, 1, .aload_n 0, 0, 0, 0, 0), 1, 0, 1, 4, 0, 0, 0) := rfl
theorem bu_161_69 : mm_at mt_P 161 69 = some ((69, 3, .getfield 46, 4, 2, 0, 276), 1, 0, 1, 4, 0, 0, 0) := rfl
theorem bu_161_72 : mm_at mt_P 161 72 = some ((72, 1, .iaload, 0, 0, 0, 0), 1, 0, 1, 4, 0, 0, 0) := rfl
theorem bu_161_73 : mm_at mt_P 161 73 = some ((73, 3, .putfield 52, 4, 3, 0, 277), 1, 0, 1, 4, 0, 0, 0) := rfl
theorem bu_161_76 : mm_at mt_P 161 76 = some ((76, 1, .aload_n 0, 0, 0, 0, 0), 1, 0, 1, 4, 0, 0, 0) := rfl
theorem bu_161_77 : mm_at mt_P 161 77 = some ((77, 1, .aload_n 0, 0, 0, 0, 0), 1, 0, 1, 4, 0, 0, 0) := rfl
theorem bu_161_78 : mm_at mt_P 161 78 = some ((78, 3, .getfield 20, 4, 0, 0, 274), 1, 0, 1, 4, 0, 0, 0) := rfl
theorem bu_161_81 : mm_at mt_P 161 81 = some ((81, 3, .getfield 174, 7, 2, 0, 253), 1, 0, 1, 4, 0, 0, 0) := rfl
theorem bu_161_84 : mm_at mt_P 161 84 = some ((84, 1, .aload_n 0, 0, 0, 0, 0), 1, 0, 1, 4, 0, 0, 0) := rfl
theorem bu_161_85 : mm_at mt_P 161 85 = some ((85, 3, .getfield 46, 4, 2, 0, 276), 1, 0, 1, 4, 0, 0, 0) := rfl
theorem bu_161_88 : mm_at mt_P 161 88 = some ((88, 1, .laload, 0, 0, 0, 0), 1, 0, 1, 4, 0, 0, 0) := rfl
theorem bu_161_89 : mm_at mt_P 161 89 = some ((89, 3, .putfield 58, 4, 4, 0, 278), 1, 0, 1, 4, 0, 0, 0) := rfl
theorem bu_161_92 : mm_at mt_P 161 92 = some ((92, 1, .aload_n 0, 0, 0, 0, 0), 1, 0, 1, 4, 0, 0, 0) := rfl
theorem bu_161_93 : mm_at mt_P 161 93 = some ((93, 1, .aload_n 0, 0, 0, 0, 0), 1, 0, 1, 4, 0, 0, 0) := rfl
theorem bu_161_94 : mm_at mt_P 161 94 = some ((94, 3, .getfield 20, 4, 0, 0, 274), 1, 0, 1, 4, 0, 0, 0) := rfl
theorem bu_161_97 : mm_at mt_P 161 97 = some ((97, 3, .getfield 178, 7, 1, 0, 251), 1, 0, 1, 4, 0, 0, 0) := rfl
theorem bu_161_100 : mm_at mt_P 161 100 = some ((100, 1, .aload_n 0, 0, 0, 0, 0), 1, 0, 1, 4, 0, 0, 0) := rfl
theorem bu_161_101 : mm_at mt_P 161 101 = some ((101, 3, .getfield 46, 4, 2, 0, 276), 1, 0, 1, 4, 0, 0, 0) := rfl
theorem bu_161_104 : mm_at mt_P 161 104 = some ((104, 1, .iaload, 0, 0, 0, 0), 1, 0, 1, 4, 0, 0, 0) := rfl
theorem bu_161_105 : mm_at mt_P 161 105 = some ((105, 3, .putfield 164, 4, 5, 0, 279), 1, 0, 1, 4, 0, 0, 0) := rfl
theorem bu_161_108 : mm_at mt_P 161 108 = some ((108, 1, .return_, 0, 0, 0, 0), 1, 0, 1, 4, 0, 0, 0) := rfl
theorem bu_163_0 : mm_at mt_P 163 0 = some ((0, 1, .aload_n 0, 0, 0, 0, 0), 2, 1, 1, 4, 2, 0, 0) := rfl
theorem bu_163_1 : mm_at mt_P 163 1 = some ((1, 3, .getfield 52, 4, 3, 0, 277), 2, 1, 1, 4, 2, 0, 0) := rfl
theorem bu_163_4 : mm_at mt_P 163 4 = some ((4, 1, .iconst 4, 0, 0, 0, 0), 2, 1, 1, 4, 2, 0, 0) := rfl
theorem bu_163_5 : mm_at mt_P 163 5 = some ((5, 3, .if_icmp .ne 17, 0, 0, 0, 0), 2, 1, 1, 4, 2, 0, 0) := rfl
theorem bu_163_8 : mm_at mt_P 163 8 = some ((8, 1, .aload_n 0, 0, 0, 0, 0), 2, 1, 1, 4, 2, 0, 0) := rfl
theorem bu_163_9 : mm_at mt_P 163 9 = some ((9, 3, .getfield 58, 4, 4, 0, 278), 2, 1, 1, 4, 2, 0, 0) := rfl
theorem bu_163_12 : mm_at mt_P 163 12 = some ((12, 1, .iload_n 1, 0, 0, 0, 0), 2, 1, 1, 4, 2, 0, 0) := rfl
theorem bu_163_13 : mm_at mt_P 163 13 = some ((13, 1, .i2l, 0, 0, 0, 0), 2, 1, 1, 4, 2, 0, 0) := rfl
theorem bu_163_14 : mm_at mt_P 163 14 = some ((14, 1, .lcmp, 0, 0, 0, 0), 2, 1, 1, 4, 2, 0, 0) := rfl
theorem bu_163_15 : mm_at mt_P 163 15 = some ((15, 3, .ifCond .ne 7, 0, 0, 0, 0), 2, 1, 1, 4, 2, 0, 0) := rfl
theorem bu_163_18 : mm_at mt_P 163 18 = some ((18, 1, .iconst 1, 0, 0, 0, 0), 2, 1, 1, 4, 2, 0, 0) := rfl
theorem bu_163_19 : mm_at mt_P 163 19 = some ((19, 3, .goto 4, 0, 0, 0, 0), 2, 1, 1, 4, 2, 0, 0) := rfl
theorem bu_163_22 : mm_at mt_P 163 22 = some ((22, 1, .iconst 0, 0, 0, 0, 0), 2, 1, 1, 4, 2, 0, 0) := rfl
theorem bu_163_23 : mm_at mt_P 163 23 = some ((23, 1, .ireturn, 0, 0, 0, 0), 2, 1, 1, 4, 2, 0, 0) := rfl
theorem bu_164_0 : mm_at mt_P 164 0 = some ((0, 1, .aload_n 0, 0, 0, 0, 0), 2, 1, 1, 4, 2, 0, 0) := rfl
theorem bu_164_1 : mm_at mt_P 164 1 = some ((1, 3, .getfield 52, 4, 3, 0, 277), 2, 1, 1, 4, 2, 0, 0) := rfl
theorem bu_164_4 : mm_at mt_P 164 4 = some ((4, 1, .iconst 5, 0, 0, 0, 0), 2, 1, 1, 4, 2, 0, 0) := rfl
theorem bu_164_5 : mm_at mt_P 164 5 = some ((5, 3, .if_icmp .ne 17, 0, 0, 0, 0), 2, 1, 1, 4, 2, 0, 0) := rfl
theorem bu_164_8 : mm_at mt_P 164 8 = some ((8, 1, .aload_n 0, 0, 0, 0, 0), 2, 1, 1, 4, 2, 0, 0) := rfl
theorem bu_164_9 : mm_at mt_P 164 9 = some ((9, 3, .getfield 58, 4, 4, 0, 278), 2, 1, 1, 4, 2, 0, 0) := rfl
theorem bu_164_12 : mm_at mt_P 164 12 = some ((12, 1, .iload_n 1, 0, 0, 0, 0), 2, 1, 1, 4, 2, 0, 0) := rfl
theorem bu_164_13 : mm_at mt_P 164 13 = some ((13, 1, .i2l, 0, 0, 0, 0), 2, 1, 1, 4, 2, 0, 0) := rfl
theorem bu_164_14 : mm_at mt_P 164 14 = some ((14, 1, .lcmp, 0, 0, 0, 0), 2, 1, 1, 4, 2, 0, 0) := rfl
theorem bu_164_15 : mm_at mt_P 164 15 = some ((15, 3, .ifCond .ne 7, 0, 0, 0, 0), 2, 1, 1, 4, 2, 0, 0) := rfl
theorem bu_164_18 : mm_at mt_P 164 18 = some ((18, 1, .iconst 1, 0, 0, 0, 0), 2, 1, 1, 4, 2, 0, 0) := rfl
theorem bu_164_19 : mm_at mt_P 164 19 = some ((19, 3, .goto 4, 0, 0, 0, 0), 2, 1, 1, 4, 2, 0, 0) := rfl
theorem bu_164_22 : mm_at mt_P 164 22 = some ((22, 1, .iconst 0, 0, 0, 0, 0), 2, 1, 1, 4, 2, 0, 0) := rfl
theorem bu_164_23 : mm_at mt_P 164 23 = some ((23, 1, .ireturn, 0, 0, 0, 0), 2, 1, 1, 4, 2, 0, 0) := rfl
theorem bu_165_0 : mm_at mt_P 165 0 = some ((0, 1, .aload_n 0, 0, 0, 0, 0), 2, 1, 1, 4, 0, 0, 0) := rfl
theorem bu_165_1 : mm_at mt_P 165 1 = some ((1, 3, .getfield 40, 4, 8, 0, 282), 2, 1, 1, 4, 0, 0, 0) := rfl
theorem bu_165_4 : mm_at mt_P 165 4 = some ((4, 3, .ifCond .ne 16, 0, 0, 0, 0), 2, 1, 1, 4, 0, 0, 0) := rfl
theorem bu_165_7 : mm_at mt_P 165 7 = some ((7, 1, .aload_n 0, 0, 0, 0, 0), 2, 1, 1, 4, 0, 0, 0) := rfl
theorem bu_165_8 : mm_at mt_P 165 8 = some ((8, 1, .iload_n 1, 0, 0, 0, 0), 2, 1, 1, 4, 0, 0, 0) := rfl
theorem bu_165_9 : mm_at mt_P 165 9 = some ((9, 3, .putfield 40, 4, 8, 0, 282), 2, 1, 1, 4, 0, 0, 0) := rfl
theorem bu_165_12 : mm_at mt_P 165 12 = some ((12, 1, .aload_n 0, 0, 0, 0, 0), 2, 1, 1, 4, 0, 0, 0) := rfl
theorem bu_165_13 : mm_at mt_P 165 13 = some ((13, 1, .aload_n 0, 0, 0, 0, 0), 2, 1, 1, 4, 0, 0, 0) := rfl
theorem bu_165_14 : mm_at mt_P 165 14 = some ((14, 3, .getfield 164, 4, 5, 0, 279), 2, 1, 1, 4, 0, 0, 0) := rfl
theorem bu_165_17 : mm_at mt_P 165 17 = some ((17, 3, .putfield 43, 4, 9, 0, 283), 2, 1, 1, 4, 0, 0, 0) := rfl
theorem bu_165_20 : mm_at mt_P 165 20 = some ((20, 1, .return_, 0, 0, 0, 0), 2, 1, 1, 4, 0, 0, 0) := rfl
theorem bu_166_0 : mm_at mt_P 166 0 = some ((0, 1, .aload_n 0, 0, 0, 0, 0), 4, 2, 1, 4, 1, 0, 0) := rfl
theorem bu_166_1 : mm_at mt_P 166 1 = some ((1, 3, .getfield 52, 4, 3, 0, 277), 4, 2, 1, 4, 1, 0, 0) := rfl
theorem bu_166_4 : mm_at mt_P 166 4 = some ((4, 1, .iconst 3, 0, 0, 0, 0), 4, 2, 1, 4, 1, 0, 0) := rfl
theorem bu_166_5 : mm_at mt_P 166 5 = some ((5, 3, .if_icmp .eq 10, 0, 0, 0, 0), 4, 2, 1, 4, 1, 0, 0) := rfl
theorem bu_166_8 : mm_at mt_P 166 8 = some ((8, 1, .aload_n 0, 0, 0, 0, 0), 4, 2, 1, 4, 1, 0, 0) := rfl
theorem bu_166_9 : mm_at mt_P 166 9 = some ((9, 1, .iconst 1, 0, 0, 0, 0), 4, 2, 1, 4, 1, 0, 0) := rfl
theorem bu_166_10 : mm_at mt_P 166 10 = some ((10, 3, .invokevirtual 71, 176, 0, 0, 645), 4, 2, 1, 4, 1, 0, 0) := rfl
theorem bu_166_13 : mm_at mt_P 166 13 = some ((13, 1, .iconst 0, 0, 0, 0, 0), 4, 2, 1, 4, 1, 0, 0) := rfl
theorem bu_166_14 : mm_at mt_P 166 14 = some ((14, 1, .ireturn, 0, 0, 0, 0), 4, 2, 1, 4, 1, 0, 0) := rfl
theorem bu_166_15 : mm_at mt_P 166 15 = some ((15, 1, .aload_n 0, 0, 0, 0, 0), 4, 2, 1, 4, 1, 0, 0) := rfl
theorem bu_166_16 : mm_at mt_P 166 16 = some ((16, 3, .getfield 58, 4, 4, 0, 278), 4, 2, 1, 4, 1, 0, 0) := rfl
theorem bu_166_19 : mm_at mt_P 166 19 = some ((19, 1, .l2i, 0, 0, 0, 0), 4, 2, 1, 4, 1, 0, 0) := rfl
theorem bu_166_20 : mm_at mt_P 166 20 = some ((20, 1, .istore_n 3, 0, 0, 0, 0), 4, 2, 1, 4, 1, 0, 0) := rfl
theorem bu_166_21 : mm_at mt_P 166 21 = some ((21, 1, .iload_n 3, 0, 0, 0, 0), 4, 2, 1, 4, 1, 0, 0) := rfl
theorem bu_166_22 : mm_at mt_P 166 22 = some ((22, 1, .iload_n 1, 0, 0, 0, 0), 4, 2, 1, 4, 1, 0, 0) := rfl
theorem bu_166_23 : mm_at mt_P 166 23 = some ((23, 3, .if_icmp .lt 8, 0, 0, 0, 0), 4, 2, 1, 4, 1, 0, 0) := rfl
theorem bu_166_26 : mm_at mt_P 166 26 = some ((26, 1, .iload_n 3, 0, 0, 0, 0), 4, 2, 1, 4, 1, 0, 0) := rfl
theorem bu_166_27 : mm_at mt_P 166 27 = some ((27, 1, .iload_n 2, 0, 0, 0, 0), 4, 2, 1, 4, 1, 0, 0) := rfl
theorem bu_166_28 : mm_at mt_P 166 28 = some ((28, 3, .if_icmp .le 8, 0, 0, 0, 0), 4, 2, 1, 4, 1, 0, 0) := rfl
theorem bu_166_31 : mm_at mt_P 166 31 = some ((31, 1, .aload_n 0, 0, 0, 0, 0), 4, 2, 1, 4, 1, 0, 0) := rfl
theorem bu_166_32 : mm_at mt_P 166 32 = some ((32, 1, .iconst 5, 0, 0, 0, 0), 4, 2, 1, 4, 1, 0, 0) := rfl
theorem bu_166_33 : mm_at mt_P 166 33 = some ((33, 3, .invokevirtual 107, 165, 0, 0, 653), 4, 2, 1, 4, 1, 0, 0) := rfl
theorem bu_166_36 : mm_at mt_P 166 36 = some ((36, 1, .aload_n 0, 0, 0, 0, 0), 4, 2, 1, 4, 1, 0, 0) := rfl
theorem bu_166_37 : mm_at mt_P 166 37 = some ((37, 3, .invokevirtual 49, 161, 0, 0, 633), 4, 2, 1, 4, 1, 0, 0) := rfl
theorem bu_166_40 : mm_at mt_P 166 40 = some ((40, 1, .iload_n 3, 0, 0, 0, 0), 4, 2, 1, 4, 1, 0, 0) := rfl
theorem bu_166_41 : mm_at mt_P 166 41 = some ((41, 1, .ireturn, 0, 0, 0, 0), 4, 2, 1, 4, 1, 0, 0) := rfl
theorem bu_167_0 : mm_at mt_P 167 0 = some ((0, 1, .aload_n 0, 0, 0, 0, 0), 1, 0, 1, 4, 1, 0, 0) := rfl
theorem bu_167_1 : mm_at mt_P 167 1 = some ((1, 2, .bipush 43, 0, 0, 0, 0), 1, 0, 1, 4, 1, 0, 0) := rfl
theorem bu_167_3 : mm_at mt_P 167 3 = some ((3, 3, .invokevirtual 160, 163, 0, 0, 673), 1, 0, 1, 4, 1, 0, 0) := rfl
theorem bu_167_6 : mm_at mt_P 167 6 = some ((6, 3, .ifCond .eq 5, 0, 0, 0, 0), 1, 0, 1, 4, 1, 0, 0) := rfl
theorem bu_167_9 : mm_at mt_P 167 9 = some ((9, 1, .iconst 4, 0, 0, 0, 0), 1, 0, 1, 4, 1, 0, 0) := rfl
theorem bu_167_10 : mm_at mt_P 167 10 = some ((10, 1, .ireturn, 0, 0, 0, 0), 1, 0, 1, 4, 1, 0, 0) := rfl
theorem bu_167_11 : mm_at mt_P 167 11 = some ((11, 1, .aload_n 0, 0, 0, 0, 0), 1, 0, 1, 4, 1, 0, 0) := rfl
theorem bu_167_12 : mm_at mt_P 167 12 = some ((12, 2, .bipush 45, 0, 0, 0, 0), 1, 0, 1, 4, 1, 0, 0) := rfl
theorem bu_167_14 : mm_at mt_P 167 14 = some ((14, 3, .invokevirtual 160, 163, 0, 0, 673), 1, 0, 1, 4, 1, 0, 0) := rfl
theorem bu_167_17 : mm_at mt_P 167 17 = some ((17, 3, .ifCond .eq 5, 0, 0, 0, 0), 1, 0, 1, 4, 1, 0, 0) := rfl
theorem bu_167_20 : mm_at mt_P 167 20 = some ((20, 1, .iconst 5, 0, 0, 0, 0), 1, 0, 1, 4, 1, 0, 0) := rfl
theorem bu_167_21 : mm_at mt_P 167 21 = some ((21, 1, .ireturn, 0, 0, 0, 0), 1, 0, 1, 4, 1, 0, 0) := rfl
theorem bu_167_22 : mm_at mt_P 167 22 = some ((22, 1, .aload_n 0, 0, 0, 0, 0), 1, 0, 1, 4, 1, 0, 0) := rfl
theorem bu_167_23 : mm_at mt_P 167 23 = some ((23, 2, .bipush 42, 0, 0, 0, 0), 1, 0, 1, 4, 1, 0, 0) := rfl
theorem bu_167_25 : mm_at mt_P 167 25 = some ((25, 3, .invokevirtual 160, 163, 0, 0, 673), 1, 0, 1, 4, 1, 0, 0) := rfl
theorem bu_167_28 : mm_at mt_P 167 28 = some ((28, 3, .ifCond .eq 6, 0, 0, 0, 0), 1, 0, 1, 4, 1, 0, 0) := rfl
theorem bu_167_31 : mm_at mt_P 167 31 = some ((31, 2, .bipush 6, 0, 0, 0, 0), 1, 0, 1, 4, 1, 0, 0) := rfl
theorem bu_167_33 : mm_at mt_P 167 33 = some ((33, 1, .ireturn, 0, 0, 0, 0), 1, 0, 1, 4, 1, 0, 0) := rfl
theorem bu_167_34 : mm_at mt_P 167 34 = some ((34, 1, .aload_n 0, 0, 0, 0, 0), 1, 0, 1, 4, 1, 0, 0) := rfl
theorem bu_167_35 : mm_at mt_P 167 35 = some ((35, 2, .bipush 47, 0, 0, 0, 0), 1, 0, 1, 4, 1, 0, 0) := rfl
theorem bu_167_37 : mm_at mt_P 167 37 = some ((37, 3, .invokevirtual 160, 163, 0, 0, 673), 1, 0, 1, 4, 1, 0, 0) := rfl
theorem bu_167_40 : mm_at mt_P 167 40 = some ((40, 3, .ifCond .eq 8, 0, 0, 0, 0), 1, 0, 1, 4, 1, 0, 0) := rfl
theorem bu_167_43 : mm_at mt_P 167 43 = some ((43, 2, .bipush 7, 0, 0, 0, 0), 1, 0, 1, 4, 1, 0, 0) := rfl
theorem bu_167_45 : mm_at mt_P 167 45 = some ((45, 3, .goto 4, 0, 0, 0, 0), 1, 0, 1, 4, 1, 0, 0) := rfl
theorem bu_167_48 : mm_at mt_P 167 48 = some ((48, 1, .iconst (-1), 0, 0, 0, 0), 1, 0, 1, 4, 1, 0, 0) := rfl
theorem bu_167_49 : mm_at mt_P 167 49 = some ((49, 1, .ireturn, 0, 0, 0, 0), 1, 0, 1, 4, 1, 0, 0) := rfl
theorem bu_176_0 : mm_at mt_P 176 0 = some ((0, 1, .aload_n 0, 0, 0, 0, 0), 2, 1, 1, 4, 0, 0, 0) := rfl
theorem bu_176_1 : mm_at mt_P 176 1 = some ((1, 3, .getfield 37, 4, 6, 0, 280), 2, 1, 1, 4, 0, 0, 0) := rfl
theorem bu_176_4 : mm_at mt_P 176 4 = some ((4, 3, .ifCond .ne 16, 0, 0, 0, 0), 2, 1, 1, 4, 0, 0, 0) := rfl
theorem bu_176_7 : mm_at mt_P 176 7 = some ((7, 1, .aload_n 0, 0, 0, 0, 0), 2, 1, 1, 4, 0, 0, 0) := rfl
theorem bu_176_8 : mm_at mt_P 176 8 = some ((8, 1, .iload_n 1, 0, 0, 0, 0), 2, 1, 1, 4, 0, 0, 0) := rfl
theorem bu_176_9 : mm_at mt_P 176 9 = some ((9, 3, .putfield 37, 4, 6, 0, 280), 2, 1, 1, 4, 0, 0, 0) := rfl
theorem bu_176_12 : mm_at mt_P 176 12 = some ((12, 1, .aload_n 0, 0, 0, 0, 0), 2, 1, 1, 4, 0, 0, 0) := rfl
theorem bu_176_13 : mm_at mt_P 176 13 = some ((13, 1, .aload_n 0, 0, 0, 0, 0), 2, 1, 1, 4, 0, 0, 0) := rfl
theorem bu_176_14 : mm_at mt_P 176 14 = some ((14, 3, .getfield 164, 4, 5, 0, 279), 2, 1, 1, 4, 0, 0, 0) := rfl
theorem bu_176_17 : mm_at mt_P 176 17 = some ((17, 3, .putfield 24, 4, 7, 0, 281), 2, 1, 1, 4, 0, 0, 0) := rfl
theorem bu_176_20 : mm_at mt_P 176 20 = some ((20, 1, .aload_n 0, 0, 0, 0, 0), 2, 1, 1, 4, 0, 0, 0) := rfl
theorem bu_176_21 : mm_at mt_P 176 21 = some ((21, 1, .iconst 1, 0, 0, 0, 0), 2, 1, 1, 4, 0, 0, 0) := rfl
theorem bu_176_22 : mm_at mt_P 176 22 = some ((22, 3, .putfield 52, 4, 3, 0, 277), 2, 1, 1, 4, 0, 0, 0) := rfl
theorem bu_176_25 : mm_at mt_P 176 25 = some ((25, 1, .return_, 0, 0, 0, 0), 2, 1, 1, 4, 0, 0, 0) := rfl
theorem bu_177_0 : mm_at mt_P 177 0 = some ((0, 1, .aload_n 0, 0, 0, 0, 0), 2, 1, 1, 4, 0, 0, 0) := rfl
theorem bu_177_1 : mm_at mt_P 177 1 = some ((1, 1, .iload_n 1, 0, 0, 0, 0), 2, 1, 1, 4, 0, 0, 0) := rfl
theorem bu_177_2 : mm_at mt_P 177 2 = some ((2, 3, .invokevirtual 160, 163, 0, 0, 673), 2, 1, 1, 4, 0, 0, 0) := rfl
theorem bu_177_5 : mm_at mt_P 177 5 = some ((5, 3, .ifCond .eq 10, 0, 0, 0, 0), 2, 1, 1, 4, 0, 0, 0) := rfl
theorem bu_177_8 : mm_at mt_P 177 8 = some ((8, 1, .aload_n 0, 0, 0, 0, 0), 2, 1, 1, 4, 0, 0, 0) := rfl
theorem bu_177_9 : mm_at mt_P 177 9 = some ((9, 3, .invokevirtual 49, 161, 0, 0, 633), 2, 1, 1, 4, 0, 0, 0) := rfl
theorem bu_177_12 : mm_at mt_P 177 12 = some ((12, 3, .goto 8, 0, 0, 0, 0), 2, 1, 1, 4, 0, 0, 0) := rfl
theorem bu_177_15 : mm_at mt_P 177 15 = some ((15, 1, .aload_n 0, 0, 0, 0, 0), 2, 1, 1, 4, 0, 0, 0) := rfl
theorem bu_177_16 : mm_at mt_P 177 16 = some ((16, 1, .iconst 1, 0, 0, 0, 0), 2, 1, 1, 4, 0, 0, 0) := rfl
theorem bu_177_17 : mm_at mt_P 177 17 = some ((17, 3, .invokevirtual 71, 176, 0, 0, 645), 2, 1, 1, 4, 0, 0, 0) := rfl
theorem bu_177_20 : mm_at mt_P 177 20 = some ((20, 1, .return_, 0, 0, 0, 0), 2, 1, 1, 4, 0, 0, 0) := rfl
theorem bu_178_0 : mm_at mt_P 178 0 = some ((0, 1, .aload_n 0, 0, 0, 0, 0), 2, 1, 1, 4, 0, 0, 0) := rfl
theorem bu_178_1 : mm_at mt_P 178 1 = some ((1, 1, .iload_n 1, 0, 0, 0, 0), 2, 1, 1, 4, 0, 0, 0) := rfl
theorem bu_178_2 : mm_at mt_P 178 2 = some ((2, 3, .invokevirtual 128, 164, 0, 0, 685), 2, 1, 1, 4, 0, 0, 0) := rfl
theorem bu_178_5 : mm_at mt_P 178 5 = some ((5, 3, .ifCond .eq 10, 0, 0, 0, 0), 2, 1, 1, 4, 0, 0, 0) := rfl
theorem bu_178_8 : mm_at mt_P 178 8 = some ((8, 1, .aload_n 0, 0, 0, 0, 0), 2, 1, 1, 4, 0, 0, 0) := rfl
theorem bu_178_9 : mm_at mt_P 178 9 = some ((9, 3, .invokevirtual 49, 161, 0, 0, 633), 2, 1, 1, 4, 0, 0, 0) := rfl
theorem bu_178_12 : mm_at mt_P 178 12 = some ((12, 3, .goto 8, 0, 0, 0, 0), 2, 1, 1, 4, 0, 0, 0) := rfl
theorem bu_178_15 : mm_at mt_P 178 15 = some ((15, 1, .aload_n 0, 0, 0, 0, 0), 2, 1, 1, 4, 0, 0, 0) := rfl
theorem bu_178_16 : mm_at mt_P 178 16 = some ((16, 1, .iconst 1, 0, 0, 0, 0), 2, 1, 1, 4, 0, 0, 0) := rfl
theorem bu_178_17 : mm_at mt_P 178 17 = some ((17, 3, .invokevirtual 71, 176, 0, 0, 645), 2, 1, 1, 4, 0, 0, 0) := rfl
theorem bu_178_20 : mm_at mt_P 178 20 = some ((20, 1, .return_, 0, 0, 0, 0), 2, 1, 1, 4, 0, 0, 0) := rfl
section CR
variable {K V P : Nat → Int} {σ : py_S} {N : Nat} {E : mm_E} {PO : mm_C → Prop} {NN : Nat} {h0 h : mm_H} {s : Nat → Int32} {A : Nat → Nat → Int32} {L : Nat → Nat → Int64} {gs : List mm_F}
theorem cr_163 {c : Int32} (hP : bm_P bq_T E h0 h s A L) (kk : ∀ r : Int32, ((r.toInt = 1 ∧ (s 2003).toInt = 4 ∧ (L 20 4).toInt = c.toInt) ∨ (r.toInt = 0 ∧ ¬ ((s 2003).toInt = 4 ∧ (L 20 4).toInt = c.toInt))) → bp_G E PO NN (mm_back (some (.int r)) gs h)) : bp_G E PO NN ((163, 0, [(0, .ref (E.1 + 20)), (1, .int c)], [], 0, 0) :: gs, h, none) := by
  refine bp_ld (pc' := 1) bu_163_0 rfl rfl (fun _ _ _ => rfl) rfl rfl ?_
  refine bn_gi (pc' := 4) (K := 2003) bu_163_1 rfl rfl (fun _ _ _ => rfl) hP bq_o20 bq_i20_3 rfl rfl ?_
  refine bp_c (pc' := 5) (n := 4) bu_163_4 rfl rfl (fun _ _ _ => rfl) (by decide) (fun c1 e2 => ?_)
  refine bp_ic (pc' := 8) (pt := 22) bu_163_5 rfl rfl (fun k3 => ?_) (fun k3 => ?_)
  · replace k3 : ((s 2003)).toInt ≠ (c1).toInt := k3
    refine bp_c (pc' := 23) (n := 0) bu_163_22 rfl rfl (fun _ _ _ => rfl) (by decide) (fun c4 e5 => ?_)
    refine bp_rb bu_163_23 (by omega) ?_
    exact kk _ (by omega)
  · replace k3 : ¬ (((s 2003)).toInt ≠ (c1).toInt) := k3
    refine bp_ld (pc' := 9) bu_163_8 rfl rfl (fun _ _ _ => rfl) rfl rfl ?_
    refine bn_gl (pc' := 12) bu_163_9 rfl rfl (fun _ _ _ => rfl) hP bq_o20 bq_f20_4 ?_
    refine bp_ld (pc' := 13) bu_163_12 rfl rfl (fun _ _ _ => rfl) rfl rfl ?_
    refine bn_i2l (pc' := 14) bu_163_13 rfl (fun x6 e7 => ?_)
    refine bn_lcmp (pc' := 15) bu_163_14 rfl (fun v8 e9 => ?_)
    refine bp_i0 (pc' := 18) (pt := 22) bu_163_15 rfl rfl (fun k10 => ?_) (fun k10 => ?_)
    · replace k10 : (v8).toInt ≠ 0 := k10
      refine bp_c (pc' := 23) (n := 0) bu_163_22 rfl rfl (fun _ _ _ => rfl) (by decide) (fun c11 e12 => ?_)
      refine bp_rb bu_163_23 (by omega) ?_
      exact kk _ (by omega)
    · replace k10 : ¬ ((v8).toInt ≠ 0) := k10
      refine bp_c (pc' := 19) (n := 1) bu_163_18 rfl rfl (fun _ _ _ => rfl) (by decide) (fun c13 e14 => ?_)
      refine bp_go (pc' := 23) bu_163_19 rfl ?_
      refine bp_rb bu_163_23 (by omega) ?_
      exact kk _ (by omega)
theorem cr_164 {c : Int32} (hP : bm_P bq_T E h0 h s A L) (kk : ∀ r : Int32, ((r.toInt = 1 ∧ (s 2003).toInt = 5 ∧ (L 20 4).toInt = c.toInt) ∨ (r.toInt = 0 ∧ ¬ ((s 2003).toInt = 5 ∧ (L 20 4).toInt = c.toInt))) → bp_G E PO NN (mm_back (some (.int r)) gs h)) : bp_G E PO NN ((164, 0, [(0, .ref (E.1 + 20)), (1, .int c)], [], 0, 0) :: gs, h, none) := by
  refine bp_ld (pc' := 1) bu_164_0 rfl rfl (fun _ _ _ => rfl) rfl rfl ?_
  refine bn_gi (pc' := 4) (K := 2003) bu_164_1 rfl rfl (fun _ _ _ => rfl) hP bq_o20 bq_i20_3 rfl rfl ?_
  refine bp_c (pc' := 5) (n := 5) bu_164_4 rfl rfl (fun _ _ _ => rfl) (by decide) (fun c15 e16 => ?_)
  refine bp_ic (pc' := 8) (pt := 22) bu_164_5 rfl rfl (fun k17 => ?_) (fun k17 => ?_)
  · replace k17 : ((s 2003)).toInt ≠ (c15).toInt := k17
    refine bp_c (pc' := 23) (n := 0) bu_164_22 rfl rfl (fun _ _ _ => rfl) (by decide) (fun c18 e19 => ?_)
    refine bp_rb bu_164_23 (by omega) ?_
    exact kk _ (by omega)
  · replace k17 : ¬ (((s 2003)).toInt ≠ (c15).toInt) := k17
    refine bp_ld (pc' := 9) bu_164_8 rfl rfl (fun _ _ _ => rfl) rfl rfl ?_
    refine bn_gl (pc' := 12) bu_164_9 rfl rfl (fun _ _ _ => rfl) hP bq_o20 bq_f20_4 ?_
    refine bp_ld (pc' := 13) bu_164_12 rfl rfl (fun _ _ _ => rfl) rfl rfl ?_
    refine bn_i2l (pc' := 14) bu_164_13 rfl (fun x20 e21 => ?_)
    refine bn_lcmp (pc' := 15) bu_164_14 rfl (fun v22 e23 => ?_)
    refine bp_i0 (pc' := 18) (pt := 22) bu_164_15 rfl rfl (fun k24 => ?_) (fun k24 => ?_)
    · replace k24 : (v22).toInt ≠ 0 := k24
      refine bp_c (pc' := 23) (n := 0) bu_164_22 rfl rfl (fun _ _ _ => rfl) (by decide) (fun c25 e26 => ?_)
      refine bp_rb bu_164_23 (by omega) ?_
      exact kk _ (by omega)
    · replace k24 : ¬ ((v22).toInt ≠ 0) := k24
      refine bp_c (pc' := 19) (n := 1) bu_164_18 rfl rfl (fun _ _ _ => rfl) (by decide) (fun c27 e28 => ?_)
      refine bp_go (pc' := 23) bu_164_19 rfl ?_
      refine bp_rb bu_164_23 (by omega) ?_
      exact kk _ (by omega)
theorem cr_176 {k : Int32} {kn : Nat} (hkn : k.toInt = (kn : Int)) (hk0 : kn ≠ 0) (hP : bm_P bq_T E h0 h s A L) (hR : rc_R K V P N σ s L) (kk : ∀ (h' : mm_H) (s' : Nat → Int32) (A' : Nat → Nat → Int32) (L' : Nat → Nat → Int64), bm_P bq_T E h0 h' s' A' L' → rc_F s A L s' A' L' → rc_R K V P N (py_fl kn σ) s' L' → bp_G E PO NN (mm_back none gs h')) : bp_G E PO NN ((176, 0, [(0, .ref (E.1 + 20)), (1, .int k)], [], 0, 0) :: gs, h, none) := by
  refine bp_ld (pc' := 1) bu_176_0 rfl rfl (fun _ _ _ => rfl) rfl rfl ?_
  refine bn_gi (pc' := 4) (K := 2006) bu_176_1 rfl rfl (fun _ _ _ => rfl) hP bq_o20 bq_i20_6 rfl rfl ?_
  refine bp_i0 (pc' := 7) (pt := 20) bu_176_4 rfl rfl (fun k29 => ?_) (fun k29 => ?_)
  · replace k29 : ((s 2006)).toInt ≠ 0 := k29
    refine bp_ld (pc' := 21) bu_176_20 rfl rfl (fun _ _ _ => rfl) rfl rfl ?_
    refine bp_c (pc' := 22) (n := 1) bu_176_21 rfl rfl (fun _ _ _ => rfl) (by decide) (fun c30 e31 => ?_)
    refine bn_pf (pc' := 25) (K := 2003) bu_176_22 rfl rfl (fun _ _ _ => rfl) hP bq_o20 bq_i20_3 rfl rfl (fun h32 s33 hP34 e35 f36 => ?_)
    refine bp_rv bu_176_25 ?_
    have z2003 := congrArg Int32.toInt e35
    have z2006 := congrArg Int32.toInt (f36 2006 (by decide))
    exact kk _ _ _ _ hP34 ⟨fun j u1 => (f36 j (by omega)), fun _ _ => rfl, rfl, fun hq => by rw [(f36 1204 (by omega)), (f36 1104 (by omega))]; exact hq⟩ (rc_fl hR hk0 (by omega) (fun _ => ⟨by omega, by first | exact (f36 2007 (by decide)) | (exfalso; omega)⟩) (fun _ => by first | (exfalso; omega) | exact ⟨(f36 2006 (by omega)), (f36 2007 (by omega))⟩))
  · replace k29 : ¬ (((s 2006)).toInt ≠ 0) := k29
    refine bp_ld (pc' := 8) bu_176_7 rfl rfl (fun _ _ _ => rfl) rfl rfl ?_
    refine bp_ld (pc' := 9) bu_176_8 rfl rfl (fun _ _ _ => rfl) rfl rfl ?_
    refine bn_pf (pc' := 12) (K := 2006) bu_176_9 rfl rfl (fun _ _ _ => rfl) hP bq_o20 bq_i20_6 rfl rfl (fun h37 s38 hP39 e40 f41 => ?_)
    refine bp_ld (pc' := 13) bu_176_12 rfl rfl (fun _ _ _ => rfl) rfl rfl ?_
    refine bp_ld (pc' := 14) bu_176_13 rfl rfl (fun _ _ _ => rfl) rfl rfl ?_
    refine bn_gi (pc' := 17) (K := 2005) bu_176_14 rfl rfl (fun _ _ _ => rfl) hP39 bq_o20 bq_i20_5 rfl (f41 2005 (by decide)) ?_
    refine bn_pf (pc' := 20) (K := 2007) bu_176_17 rfl rfl (fun _ _ _ => rfl) hP39 bq_o20 bq_i20_7 rfl rfl (fun h42 s43 hP44 e45 f46 => ?_)
    refine bp_ld (pc' := 21) bu_176_20 rfl rfl (fun _ _ _ => rfl) rfl rfl ?_
    refine bp_c (pc' := 22) (n := 1) bu_176_21 rfl rfl (fun _ _ _ => rfl) (by decide) (fun c47 e48 => ?_)
    refine bn_pf (pc' := 25) (K := 2003) bu_176_22 rfl rfl (fun _ _ _ => rfl) hP44 bq_o20 bq_i20_3 rfl rfl (fun h49 s50 hP51 e52 f53 => ?_)
    refine bp_rv bu_176_25 ?_
    have z2003 := congrArg Int32.toInt e52
    have z2006 := congrArg Int32.toInt ((f53 2006 (by decide)).trans ((f46 2006 (by decide)).trans e40))
    exact kk _ _ _ _ hP51 ⟨fun j u1 => ((f53 j (by omega)).trans ((f46 j (by omega)).trans (f41 j (by omega)))), fun _ _ => rfl, rfl, fun hq => by rw [((f53 1204 (by omega)).trans ((f46 1204 (by omega)).trans (f41 1204 (by omega)))), ((f53 1104 (by omega)).trans ((f46 1104 (by omega)).trans (f41 1104 (by omega))))]; exact hq⟩ (rc_fl hR hk0 (by omega) (fun _ => ⟨by omega, by first | exact ((f53 2007 (by decide)).trans e45) | (exfalso; omega)⟩) (fun _ => by first | (exfalso; omega) | exact ⟨((f53 2006 (by omega)).trans ((f46 2006 (by omega)).trans (f41 2006 (by omega)))), ((f53 2007 (by omega)).trans ((f46 2007 (by omega)).trans (f41 2007 (by omega))))⟩))
theorem cr_165 {k : Int32} {kn : Nat} (hkn : k.toInt = (kn : Int)) (hk0 : kn ≠ 0) (hP : bm_P bq_T E h0 h s A L) (hR : rc_R K V P N σ s L) (hf : σ.2.1 = 0) (kk : ∀ (h' : mm_H) (s' : Nat → Int32) (A' : Nat → Nat → Int32) (L' : Nat → Nat → Int64), bm_P bq_T E h0 h' s' A' L' → rc_F s A L s' A' L' → rc_R K V P N (py_wr kn σ.1 σ) s' L' → bp_G E PO NN (mm_back none gs h')) : bp_G E PO NN ((165, 0, [(0, .ref (E.1 + 20)), (1, .int k)], [], 0, 0) :: gs, h, none) := by
  refine bp_ld (pc' := 1) bu_165_0 rfl rfl (fun _ _ _ => rfl) rfl rfl ?_
  refine bn_gi (pc' := 4) (K := 2008) bu_165_1 rfl rfl (fun _ _ _ => rfl) hP bq_o20 bq_i20_8 rfl rfl ?_
  refine bp_i0 (pc' := 7) (pt := 20) bu_165_4 rfl rfl (fun k54 => ?_) (fun k54 => ?_)
  · replace k54 : ((s 2008)).toInt ≠ 0 := k54
    refine bp_rv bu_165_20 ?_
    exact kk _ _ _ _ hP ⟨fun j u1 => rfl, fun _ _ => rfl, rfl, id⟩ (rc_wr hR hk0 hf (fun j u1 u2 => rfl) (fun _ => ⟨by omega, by first | exact rfl | (exfalso; omega)⟩) (fun _ => by first | (exfalso; omega) | exact ⟨rfl, rfl⟩))
  · replace k54 : ¬ (((s 2008)).toInt ≠ 0) := k54
    refine bp_ld (pc' := 8) bu_165_7 rfl rfl (fun _ _ _ => rfl) rfl rfl ?_
    refine bp_ld (pc' := 9) bu_165_8 rfl rfl (fun _ _ _ => rfl) rfl rfl ?_
    refine bn_pf (pc' := 12) (K := 2008) bu_165_9 rfl rfl (fun _ _ _ => rfl) hP bq_o20 bq_i20_8 rfl rfl (fun h55 s56 hP57 e58 f59 => ?_)
    refine bp_ld (pc' := 13) bu_165_12 rfl rfl (fun _ _ _ => rfl) rfl rfl ?_
    refine bp_ld (pc' := 14) bu_165_13 rfl rfl (fun _ _ _ => rfl) rfl rfl ?_
    refine bn_gi (pc' := 17) (K := 2005) bu_165_14 rfl rfl (fun _ _ _ => rfl) hP57 bq_o20 bq_i20_5 rfl (f59 2005 (by decide)) ?_
    refine bn_pf (pc' := 20) (K := 2009) bu_165_17 rfl rfl (fun _ _ _ => rfl) hP57 bq_o20 bq_i20_9 rfl rfl (fun h60 s61 hP62 e63 f64 => ?_)
    refine bp_rv bu_165_20 ?_
    have z2008 := congrArg Int32.toInt ((f64 2008 (by decide)).trans e58)
    exact kk _ _ _ _ hP62 ⟨fun j u1 => ((f64 j (by omega)).trans (f59 j (by omega))), fun _ _ => rfl, rfl, fun hq => by rw [((f64 1204 (by omega)).trans (f59 1204 (by omega))), ((f64 1104 (by omega)).trans (f59 1104 (by omega)))]; exact hq⟩ (rc_wr hR hk0 hf (fun j u1 u2 => ((f64 j (by omega)).trans (f59 j (by omega)))) (fun _ => ⟨by omega, by first | exact e63 | (exfalso; omega)⟩) (fun _ => by first | (exfalso; omega) | exact ⟨((f64 2008 (by omega)).trans (f59 2008 (by omega))), ((f64 2009 (by omega)).trans (f59 2009 (by omega)))⟩))
theorem cr_161 (hP : bm_P bq_T E h0 h s A L) (hR : rc_R K V P N σ s L) (hT : rc_T K V P N s A L) (hf : σ.2.1 = 0) (k0 : K σ.1 ≠ 0) (k3 : K σ.1 ≠ 3) (kk : ∀ (h' : mm_H) (s' : Nat → Int32) (A' : Nat → Nat → Int32) (L' : Nat → Nat → Int64), bm_P bq_T E h0 h' s' A' L' → rc_F s A L s' A' L' → rc_R K V P N (py_go σ) s' L' → bp_G E PO NN (mm_back none gs h')) : bp_G E PO NN ((161, 0, [(0, .ref (E.1 + 20))], [], 0, 0) :: gs, h, none) := by
  have r2 := hR.2.1 hf
  have r1 := hR.1
  have e1 := r2.1
  have e4 := r2.2.1.1
  have e5 := hT.1
  have e6 := hT.2.1
  have e7 : σ.1 < 400 → σ.1 + 1 < N := fun q => hT.2.2.2.2 σ.1 r2.2.1.2 q k0 k3
  refine bp_ld (pc' := 1) bu_161_0 rfl rfl (fun _ _ _ => rfl) rfl rfl ?_
  refine bn_gi (pc' := 4) (K := 2002) bu_161_1 rfl rfl (fun _ _ _ => rfl) hP bq_o20 bq_i20_2 rfl rfl ?_
  refine bp_c (pc' := 7) (n := 400) bu_161_4 rfl rfl (fun _ _ _ => rfl) (by decide) (fun c65 e66 => ?_)
  refine bp_ic (pc' := 10) (pt := 29) bu_161_7 rfl rfl (fun k67 => ?_) (fun k67 => ?_)
  · replace k67 : ((s 2002)).toInt < (c65).toInt := k67
    refine bp_ld (pc' := 30) bu_161_29 rfl rfl (fun _ _ _ => rfl) rfl rfl ?_
    refine bp_dup (pc' := 31) bu_161_30 rfl rfl ?_
    refine bn_gi (pc' := 34) (K := 2002) bu_161_31 rfl rfl (fun _ _ _ => rfl) hP bq_o20 bq_i20_2 rfl rfl ?_
    refine bp_c (pc' := 35) (n := 1) bu_161_34 rfl rfl (fun _ _ _ => rfl) (by decide) (fun c68 e69 => ?_)
    refine bp_add (pc' := 36) bu_161_35 rfl (by omega) (by omega) (fun v70 e71 => ?_)
    refine bn_pf (pc' := 39) (K := 2002) bu_161_36 rfl rfl (fun _ _ _ => rfl) hP bq_o20 bq_i20_2 rfl rfl (fun h72 s73 hP74 e75 f76 => ?_)
    refine bp_ld (pc' := 40) bu_161_39 rfl rfl (fun _ _ _ => rfl) rfl rfl ?_
    refine bn_gi (pc' := 43) (K := 2002) bu_161_40 rfl rfl (fun _ _ _ => rfl) hP74 bq_o20 bq_i20_2 rfl e75 ?_
    refine bp_i0 (pc' := 46) (pt := 108) bu_161_43 rfl rfl (fun k77 => ?_) (fun k77 => ?_)
    · replace k77 : (v70).toInt < 0 := k77
      refine bp_rv bu_161_108 ?_
      have z2002 := congrArg Int32.toInt e75
      have z2003 := congrArg Int32.toInt (f76 2003 (by decide))
      have z2006 := congrArg Int32.toInt (f76 2006 (by decide))
      refine kk _ _ _ _ hP74 ⟨fun j u1 => (f76 j (by omega)), fun _ _ => rfl, rfl, fun hq => by rw [(f76 1204 (by omega)), (f76 1104 (by omega))]; exact hq⟩ (rc_go hR hT hf k0 k3 ((f76 2008 (by omega))) ((f76 2009 (by omega))) ((f76 1104 (by omega))) rfl rfl (fun q1 q2 => ?_) (fun q1 => ?_))
      · first
          | (exfalso; omega)
          | (have ei : (v70).toInt.toNat = σ.1 + 1 := by omega
             refine ⟨by omega, ?_, ?_, ?_, (f76 2006 (by omega))⟩
             · rw [← ei]
               exact (f76 2003 (by decide))
             · rw [← ei]
               unfold bh_upL vp_updL
               rw [if_pos rfl, if_pos rfl]
             · rw [← ei]
               exact (f76 2005 (by decide)))
      · first
          | (exfalso; omega)
          | exact ⟨by omega, by omega, (f76 2007 (by decide))⟩
    · replace k77 : ¬ ((v70).toInt < 0) := k77
      refine bp_ld (pc' := 47) bu_161_46 rfl rfl (fun _ _ _ => rfl) rfl rfl ?_
      refine bn_gi (pc' := 50) (K := 2002) bu_161_47 rfl rfl (fun _ _ _ => rfl) hP74 bq_o20 bq_i20_2 rfl e75 ?_
      refine bp_ld (pc' := 51) bu_161_50 rfl rfl (fun _ _ _ => rfl) rfl rfl ?_
      refine bn_gr (pc' := 54) (t := 21) bu_161_51 rfl rfl (fun _ _ _ => rfl) hP74 bq_o20 bq_r20_0 ?_
      refine bn_gi (pc' := 57) (K := 2103) bu_161_54 rfl rfl (fun _ _ _ => rfl) hP74 bq_o21 bq_i21_3 rfl (f76 2103 (by decide)) ?_
      refine bp_ic (pc' := 60) (pt := 108) bu_161_57 rfl rfl (fun k78 => ?_) (fun k78 => ?_)
      · replace k78 : ((s 2103)).toInt ≤ (v70).toInt := k78
        refine bp_rv bu_161_108 ?_
        have z2002 := congrArg Int32.toInt e75
        have z2003 := congrArg Int32.toInt (f76 2003 (by decide))
        have z2006 := congrArg Int32.toInt (f76 2006 (by decide))
        refine kk _ _ _ _ hP74 ⟨fun j u1 => (f76 j (by omega)), fun _ _ => rfl, rfl, fun hq => by rw [(f76 1204 (by omega)), (f76 1104 (by omega))]; exact hq⟩ (rc_go hR hT hf k0 k3 ((f76 2008 (by omega))) ((f76 2009 (by omega))) ((f76 1104 (by omega))) rfl rfl (fun q1 q2 => ?_) (fun q1 => ?_))
        · first
            | (exfalso; omega)
            | (have ei : (v70).toInt.toNat = σ.1 + 1 := by omega
               refine ⟨by omega, ?_, ?_, ?_, (f76 2006 (by omega))⟩
               · rw [← ei]
                 exact (f76 2003 (by decide))
               · rw [← ei]
                 unfold bh_upL vp_updL
                 rw [if_pos rfl, if_pos rfl]
               · rw [← ei]
                 exact (f76 2005 (by decide)))
        · first
            | (exfalso; omega)
            | exact ⟨by omega, by omega, (f76 2007 (by decide))⟩
      · replace k78 : ¬ (((s 2103)).toInt ≤ (v70).toInt) := k78
        refine bp_ld (pc' := 61) bu_161_60 rfl rfl (fun _ _ _ => rfl) rfl rfl ?_
        refine bp_ld (pc' := 62) bu_161_61 rfl rfl (fun _ _ _ => rfl) rfl rfl ?_
        refine bn_gr (pc' := 65) (t := 21) bu_161_62 rfl rfl (fun _ _ _ => rfl) hP74 bq_o20 bq_r20_0 ?_
        refine bn_gr (pc' := 68) (t := 22) bu_161_65 rfl rfl (fun _ _ _ => rfl) hP74 bq_o21 bq_r21_0 ?_
        refine bp_ld (pc' := 69) bu_161_68 rfl rfl (fun _ _ _ => rfl) rfl rfl ?_
        refine bn_gi (pc' := 72) (K := 2002) bu_161_69 rfl rfl (fun _ _ _ => rfl) hP74 bq_o20 bq_i20_2 rfl e75 ?_
        refine bn_ia (pc' := 73) bu_161_72 rfl rfl (fun _ _ _ => rfl) hP74 bq_a22 (Or.inl rfl) (by omega) (by omega) ?_
        refine bn_pf (pc' := 76) (K := 2003) bu_161_73 rfl rfl (fun _ _ _ => rfl) hP74 bq_o20 bq_i20_3 rfl rfl (fun h79 s80 hP81 e82 f83 => ?_)
        refine bp_ld (pc' := 77) bu_161_76 rfl rfl (fun _ _ _ => rfl) rfl rfl ?_
        refine bp_ld (pc' := 78) bu_161_77 rfl rfl (fun _ _ _ => rfl) rfl rfl ?_
        refine bn_gr (pc' := 81) (t := 21) bu_161_78 rfl rfl (fun _ _ _ => rfl) hP81 bq_o20 bq_r20_0 ?_
        refine bn_gr (pc' := 84) (t := 24) bu_161_81 rfl rfl (fun _ _ _ => rfl) hP81 bq_o21 bq_r21_2 ?_
        refine bp_ld (pc' := 85) bu_161_84 rfl rfl (fun _ _ _ => rfl) rfl rfl ?_
        refine bn_gi (pc' := 88) (K := 2002) bu_161_85 rfl rfl (fun _ _ _ => rfl) hP81 bq_o20 bq_i20_2 rfl ((f83 2002 (by decide)).trans e75) ?_
        refine bn_la (pc' := 89) bu_161_88 rfl rfl (fun _ _ _ => rfl) hP81 bq_l24 (by omega) (by omega) ?_
        refine bn_pl (pc' := 92) bu_161_89 rfl rfl (fun _ _ _ => rfl) hP81 bq_o20 bq_f20_4 (fun h84 hP85 => ?_)
        refine bp_ld (pc' := 93) bu_161_92 rfl rfl (fun _ _ _ => rfl) rfl rfl ?_
        refine bp_ld (pc' := 94) bu_161_93 rfl rfl (fun _ _ _ => rfl) rfl rfl ?_
        refine bn_gr (pc' := 97) (t := 21) bu_161_94 rfl rfl (fun _ _ _ => rfl) hP85 bq_o20 bq_r20_0 ?_
        refine bn_gr (pc' := 100) (t := 23) bu_161_97 rfl rfl (fun _ _ _ => rfl) hP85 bq_o21 bq_r21_1 ?_
        refine bp_ld (pc' := 101) bu_161_100 rfl rfl (fun _ _ _ => rfl) rfl rfl ?_
        refine bn_gi (pc' := 104) (K := 2002) bu_161_101 rfl rfl (fun _ _ _ => rfl) hP85 bq_o20 bq_i20_2 rfl ((f83 2002 (by decide)).trans e75) ?_
        refine bn_ia (pc' := 105) bu_161_104 rfl rfl (fun _ _ _ => rfl) hP85 bq_a23 (Or.inl rfl) (by omega) (by omega) ?_
        refine bn_pf (pc' := 108) (K := 2005) bu_161_105 rfl rfl (fun _ _ _ => rfl) hP85 bq_o20 bq_i20_5 rfl rfl (fun h86 s87 hP88 e89 f90 => ?_)
        refine bp_rv bu_161_108 ?_
        have z2002 := congrArg Int32.toInt ((f90 2002 (by decide)).trans ((f83 2002 (by decide)).trans e75))
        have z2003 := congrArg Int32.toInt ((f90 2003 (by decide)).trans e82)
        have z2006 := congrArg Int32.toInt ((f90 2006 (by decide)).trans ((f83 2006 (by decide)).trans (f76 2006 (by decide))))
        refine kk _ _ _ _ hP88 ⟨fun j u1 => ((f90 j (by omega)).trans ((f83 j (by omega)).trans (f76 j (by omega)))), fun _ _ => rfl, (if_neg (by decide)), fun hq => by rw [((f90 1204 (by omega)).trans ((f83 1204 (by omega)).trans (f76 1204 (by omega)))), ((f90 1104 (by omega)).trans ((f83 1104 (by omega)).trans (f76 1104 (by omega))))]; exact hq⟩ (rc_go hR hT hf k0 k3 (((f90 2008 (by omega)).trans ((f83 2008 (by omega)).trans (f76 2008 (by omega))))) (((f90 2009 (by omega)).trans ((f83 2009 (by omega)).trans (f76 2009 (by omega))))) (((f90 1104 (by omega)).trans ((f83 1104 (by omega)).trans (f76 1104 (by omega))))) (if_neg (by decide)) (if_neg (by decide)) (fun q1 q2 => ?_) (fun q1 => ?_))
        · first
            | (exfalso; omega)
            | (have ei : (v70).toInt.toNat = σ.1 + 1 := by omega
               refine ⟨by omega, ?_, ?_, ?_, ((f90 2006 (by omega)).trans ((f83 2006 (by omega)).trans (f76 2006 (by omega))))⟩
               · rw [← ei]
                 exact ((f90 2003 (by decide)).trans e82)
               · rw [← ei]
                 unfold bh_upL vp_updL
                 rw [if_pos rfl, if_pos rfl]
               · rw [← ei]
                 exact e89)
        · first
            | (exfalso; omega)
            | exact ⟨by omega, by omega, ((f90 2007 (by decide)).trans ((f83 2007 (by decide)).trans (f76 2007 (by decide))))⟩
  · replace k67 : ¬ (((s 2002)).toInt < (c65).toInt) := k67
    refine bp_ld (pc' := 11) bu_161_10 rfl rfl (fun _ _ _ => rfl) rfl rfl ?_
    refine bp_c (pc' := 12) (n := 2) bu_161_11 rfl rfl (fun _ _ _ => rfl) (by decide) (fun c91 e92 => ?_)
    refine bn_pf (pc' := 15) (K := 2006) bu_161_12 rfl rfl (fun _ _ _ => rfl) hP bq_o20 bq_i20_6 rfl rfl (fun h93 s94 hP95 e96 f97 => ?_)
    refine bp_ld (pc' := 16) bu_161_15 rfl rfl (fun _ _ _ => rfl) rfl rfl ?_
    refine bp_ld (pc' := 17) bu_161_16 rfl rfl (fun _ _ _ => rfl) rfl rfl ?_
    refine bn_gi (pc' := 20) (K := 2005) bu_161_17 rfl rfl (fun _ _ _ => rfl) hP95 bq_o20 bq_i20_5 rfl (f97 2005 (by decide)) ?_
    refine bn_pf (pc' := 23) (K := 2007) bu_161_20 rfl rfl (fun _ _ _ => rfl) hP95 bq_o20 bq_i20_7 rfl rfl (fun h98 s99 hP100 e101 f102 => ?_)
    refine bp_ld (pc' := 24) bu_161_23 rfl rfl (fun _ _ _ => rfl) rfl rfl ?_
    refine bp_c (pc' := 25) (n := 1) bu_161_24 rfl rfl (fun _ _ _ => rfl) (by decide) (fun c103 e104 => ?_)
    refine bn_pf (pc' := 28) (K := 2003) bu_161_25 rfl rfl (fun _ _ _ => rfl) hP100 bq_o20 bq_i20_3 rfl rfl (fun h105 s106 hP107 e108 f109 => ?_)
    refine bp_rv bu_161_28 ?_
    have z2002 := congrArg Int32.toInt ((f109 2002 (by decide)).trans ((f102 2002 (by decide)).trans (f97 2002 (by decide))))
    have z2003 := congrArg Int32.toInt e108
    have z2006 := congrArg Int32.toInt ((f109 2006 (by decide)).trans ((f102 2006 (by decide)).trans e96))
    refine kk _ _ _ _ hP107 ⟨fun j u1 => ((f109 j (by omega)).trans ((f102 j (by omega)).trans (f97 j (by omega)))), fun _ _ => rfl, rfl, fun hq => by rw [((f109 1204 (by omega)).trans ((f102 1204 (by omega)).trans (f97 1204 (by omega)))), ((f109 1104 (by omega)).trans ((f102 1104 (by omega)).trans (f97 1104 (by omega))))]; exact hq⟩ (rc_go hR hT hf k0 k3 (((f109 2008 (by omega)).trans ((f102 2008 (by omega)).trans (f97 2008 (by omega))))) (((f109 2009 (by omega)).trans ((f102 2009 (by omega)).trans (f97 2009 (by omega))))) (((f109 1104 (by omega)).trans ((f102 1104 (by omega)).trans (f97 1104 (by omega))))) rfl rfl (fun q1 q2 => ?_) (fun q1 => ?_))
    · first
        | (exfalso; omega)
        | (have ei : ((s 2002)).toInt.toNat = σ.1 + 1 := by omega
           refine ⟨by omega, ?_, ?_, ?_, ((f109 2006 (by omega)).trans ((f102 2006 (by omega)).trans (f97 2006 (by omega))))⟩
           · rw [← ei]
             exact e108
           · rw [← ei]
             unfold bh_upL vp_updL
             rw [if_pos rfl, if_pos rfl]
           · rw [← ei]
             exact ((f109 2005 (by decide)).trans ((f102 2005 (by decide)).trans (f97 2005 (by decide)))))
    · first
        | (exfalso; omega)
        | exact ⟨by omega, by omega, ((f109 2007 (by decide)).trans e101)⟩
theorem cr_177 {c : Int32} {kc : Int} (hc : (c.toInt = 59 ∧ kc = 4) ∨ (c.toInt = 61 ∧ kc = 5) ∨ (c.toInt = 60 ∧ kc = 13) ∨ (c.toInt = 41 ∧ kc = 7)) (hP : bm_P bq_T E h0 h s A L) (hd : gs.length + 2 ≤ 999) (hR : rc_R K V P N σ s L) (hT : rc_T K V P N s A L) (kk : ∀ (h' : mm_H) (s' : Nat → Int32) (A' : Nat → Nat → Int32) (L' : Nat → Nat → Int64), bm_P bq_T E h0 h' s' A' L' → rc_F s A L s' A' L' → rc_R K V P N (py_mu K kc σ) s' L' → bp_G E PO NN (mm_back none gs h')) : bp_G E PO NN ((177, 0, [(0, .ref (E.1 + 20)), (1, .int c)], [], 0, 0) :: gs, h, none) := by
  have q1 := hR.1
  have q2 := fun e => (hR.2.1 e).2.2.1
  have q3 := fun e => (hR.2.2 e).1
  unfold rc_k at q2
  refine bp_ld (pc' := 1) bu_177_0 rfl rfl (fun _ _ _ => rfl) rfl rfl ?_
  refine bp_ld (pc' := 2) bu_177_1 rfl rfl (fun _ _ _ => rfl) rfl rfl ?_
  refine bn_cv (pc' := 5) (st := []) (args := [.int c]) bu_177_2 rfl rfl rfl (by decide) hP bq_o20 (by decide) (by omega) rfl (Nat.le_of_ble_eq_true rfl) (Nat.le_of_ble_eq_true rfl) ?_
  refine cr_163 (c := c) hP (fun r110 p111 => ?_)
  show bp_G E PO NN ((177, 5, _, [.int r110], 0, 0) :: gs, h, none)
  refine bp_i0 (pc' := 8) (pt := 15) bu_177_5 rfl rfl (fun k112 => ?_) (fun k112 => ?_)
  · replace k112 : (r110).toInt = 0 := k112
    refine bp_ld (pc' := 16) bu_177_15 rfl rfl (fun _ _ _ => rfl) rfl rfl ?_
    refine bp_c (pc' := 17) (n := 1) bu_177_16 rfl rfl (fun _ _ _ => rfl) (by decide) (fun c113 e114 => ?_)
    refine bn_cv (pc' := 20) (st := []) (args := [.int c113]) bu_177_17 rfl rfl rfl (by decide) hP bq_o20 (by decide) (by omega) rfl (Nat.le_of_ble_eq_true rfl) (Nat.le_of_ble_eq_true rfl) ?_
    refine cr_176 (σ := σ) (kn := 1) (by omega) (by decide) hP hR (fun h115 s116 A117 L118 hP119 F120 R121 => ?_)
    show bp_G E PO NN ((177, 20, _, [], 0, 0) :: gs, h115, none)
    refine bp_rv bu_177_20 ?_
    have ee : py_mu K kc σ = py_fl 1 σ := if_neg (fun hh => by
      have q2 := q2 hh.1
      have q4 := hh.2
      omega)
    rw [← ee] at R121
    exact kk _ _ _ _ hP119 F120 R121
  · replace k112 : ¬ ((r110).toInt = 0) := k112
    refine bp_ld (pc' := 9) bu_177_8 rfl rfl (fun _ _ _ => rfl) rfl rfl ?_
    refine bn_cv (pc' := 12) (st := []) (args := []) bu_177_9 rfl rfl rfl (by decide) hP bq_o20 (by decide) (by omega) rfl (Nat.le_of_ble_eq_true rfl) (Nat.le_of_ble_eq_true rfl) ?_
    have hf : σ.2.1 = 0 := by
      by_cases e : σ.2.1 = 0
      · exact e
      · have := q3 e
        omega
    have q2 := q2 hf
    have hk : K σ.1 = kc := by omega
    refine cr_161 (σ := σ) hP hR hT hf (by rw [hk]; omega) (by rw [hk]; omega) (fun h122 s123 A124 L125 hP126 F127 R128 => ?_)
    show bp_G E PO NN ((177, 12, _, [], 0, 0) :: gs, h122, none)
    refine bp_go (pc' := 20) bu_177_12 rfl ?_
    refine bp_rv bu_177_20 ?_
    have ee : py_mu K kc σ = py_go σ := if_pos ⟨hf, hk⟩
    rw [← ee] at R128
    exact kk _ _ _ _ hP126 F127 R128
theorem cr_178 {c : Int32} {kc : Int} (hc : 0 ≤ c.toInt ∧ c.toInt ≤ 23 ∧ kc = 20 + c.toInt) (hP : bm_P bq_T E h0 h s A L) (hd : gs.length + 2 ≤ 999) (hR : rc_R K V P N σ s L) (hT : rc_T K V P N s A L) (kk : ∀ (h' : mm_H) (s' : Nat → Int32) (A' : Nat → Nat → Int32) (L' : Nat → Nat → Int64), bm_P bq_T E h0 h' s' A' L' → rc_F s A L s' A' L' → rc_R K V P N (py_mu K kc σ) s' L' → bp_G E PO NN (mm_back none gs h')) : bp_G E PO NN ((178, 0, [(0, .ref (E.1 + 20)), (1, .int c)], [], 0, 0) :: gs, h, none) := by
  have q1 := hR.1
  have q2 := fun e => (hR.2.1 e).2.2.1
  have q3 := fun e => (hR.2.2 e).1
  unfold rc_k at q2
  refine bp_ld (pc' := 1) bu_178_0 rfl rfl (fun _ _ _ => rfl) rfl rfl ?_
  refine bp_ld (pc' := 2) bu_178_1 rfl rfl (fun _ _ _ => rfl) rfl rfl ?_
  refine bn_cv (pc' := 5) (st := []) (args := [.int c]) bu_178_2 rfl rfl rfl (by decide) hP bq_o20 (by decide) (by omega) rfl (Nat.le_of_ble_eq_true rfl) (Nat.le_of_ble_eq_true rfl) ?_
  refine cr_164 (c := c) hP (fun r129 p130 => ?_)
  show bp_G E PO NN ((178, 5, _, [.int r129], 0, 0) :: gs, h, none)
  refine bp_i0 (pc' := 8) (pt := 15) bu_178_5 rfl rfl (fun k131 => ?_) (fun k131 => ?_)
  · replace k131 : (r129).toInt = 0 := k131
    refine bp_ld (pc' := 16) bu_178_15 rfl rfl (fun _ _ _ => rfl) rfl rfl ?_
    refine bp_c (pc' := 17) (n := 1) bu_178_16 rfl rfl (fun _ _ _ => rfl) (by decide) (fun c132 e133 => ?_)
    refine bn_cv (pc' := 20) (st := []) (args := [.int c132]) bu_178_17 rfl rfl rfl (by decide) hP bq_o20 (by decide) (by omega) rfl (Nat.le_of_ble_eq_true rfl) (Nat.le_of_ble_eq_true rfl) ?_
    refine cr_176 (σ := σ) (kn := 1) (by omega) (by decide) hP hR (fun h134 s135 A136 L137 hP138 F139 R140 => ?_)
    show bp_G E PO NN ((178, 20, _, [], 0, 0) :: gs, h134, none)
    refine bp_rv bu_178_20 ?_
    have ee : py_mu K kc σ = py_fl 1 σ := if_neg (fun hh => by
      have q2 := q2 hh.1
      have q4 := hh.2
      omega)
    rw [← ee] at R140
    exact kk _ _ _ _ hP138 F139 R140
  · replace k131 : ¬ ((r129).toInt = 0) := k131
    refine bp_ld (pc' := 9) bu_178_8 rfl rfl (fun _ _ _ => rfl) rfl rfl ?_
    refine bn_cv (pc' := 12) (st := []) (args := []) bu_178_9 rfl rfl rfl (by decide) hP bq_o20 (by decide) (by omega) rfl (Nat.le_of_ble_eq_true rfl) (Nat.le_of_ble_eq_true rfl) ?_
    have hf : σ.2.1 = 0 := by
      by_cases e : σ.2.1 = 0
      · exact e
      · have := q3 e
        omega
    have q2 := q2 hf
    have hk : K σ.1 = kc := by omega
    refine cr_161 (σ := σ) hP hR hT hf (by rw [hk]; omega) (by rw [hk]; omega) (fun h141 s142 A143 L144 hP145 F146 R147 => ?_)
    show bp_G E PO NN ((178, 12, _, [], 0, 0) :: gs, h141, none)
    refine bp_go (pc' := 20) bu_178_12 rfl ?_
    refine bp_rv bu_178_20 ?_
    have ee : py_mu K kc σ = py_go σ := if_pos ⟨hf, hk⟩
    rw [← ee] at R147
    exact kk _ _ _ _ hP145 F146 R147
theorem cr_166 {lo hi : Int32} (hP : bm_P bq_T E h0 h s A L) (hd : gs.length + 2 ≤ 999) (hR : rc_R K V P N σ s L) (hT : rc_T K V P N s A L) (kk : ∀ (h' : mm_H) (s' : Nat → Int32) (A' : Nat → Nat → Int32) (L' : Nat → Nat → Int64) (r : Int32), bm_P bq_T E h0 h' s' A' L' → rc_F s A L s' A' L' → rc_R K V P N (py_nu K V lo.toInt hi.toInt σ) s' L' → (σ.2.1 = 0 → K σ.1 = 2 → r.toInt = V σ.1) → bp_G E PO NN (mm_back (some (.int r)) gs h')) : bp_G E PO NN ((166, 0, [(0, .ref (E.1 + 20)), (1, .int lo), (2, .int hi)], [], 0, 0) :: gs, h, none) := by
  have q1 := hR.1
  have q2 := fun e => (hR.2.1 e).2.2.1
  have q3 := fun e => (hR.2.2 e).1
  unfold rc_k at q2
  refine bp_ld (pc' := 1) bu_166_0 rfl rfl (fun _ _ _ => rfl) rfl rfl ?_
  refine bn_gi (pc' := 4) (K := 2003) bu_166_1 rfl rfl (fun _ _ _ => rfl) hP bq_o20 bq_i20_3 rfl rfl ?_
  refine bp_c (pc' := 5) (n := 3) bu_166_4 rfl rfl (fun _ _ _ => rfl) (by decide) (fun c148 e149 => ?_)
  refine bp_ic (pc' := 8) (pt := 15) bu_166_5 rfl rfl (fun k150 => ?_) (fun k150 => ?_)
  · replace k150 : ((s 2003)).toInt = (c148).toInt := k150
    have hf : σ.2.1 = 0 := by
      by_cases e : σ.2.1 = 0
      · exact e
      · have := q3 e
        omega
    have q2 := q2 hf
    have hk : K σ.1 = 2 := by omega
    have hv : (L 20 4).toInt = V σ.1 := by omega
    refine bp_ld (pc' := 16) bu_166_15 rfl rfl (fun _ _ _ => rfl) rfl rfl ?_
    refine bn_gl (pc' := 19) bu_166_16 rfl rfl (fun _ _ _ => rfl) hP bq_o20 bq_f20_4 ?_
    refine bn_l2i (pc' := 20) bu_166_19 rfl (fun x151 e152 => ?_)
    have w153 := e152 (by omega) (by omega)
    refine bp_st (pc' := 21) bu_166_20 rfl rfl (fun _ _ _ => rfl) rfl (by decide) (by decide) (fun lv154 F155 g156 => ?_)
    have g157 := F155 0 (.ref (E.1 + 20)) rfl (by decide) (Or.inl rfl)
    have g158 := F155 1 (.int lo) rfl (by decide) (Or.inl rfl)
    have g159 := F155 2 (.int hi) rfl (by decide) (Or.inl rfl)
    refine bp_ld (pc' := 22) bu_166_21 rfl rfl (fun _ _ _ => rfl) g156 rfl ?_
    refine bp_ld (pc' := 23) bu_166_22 rfl rfl (fun _ _ _ => rfl) g158 rfl ?_
    refine bp_ic (pc' := 26) (pt := 31) bu_166_23 rfl rfl (fun k160 => ?_) (fun k160 => ?_)
    · replace k160 : (x151).toInt < (lo).toInt := k160
      refine bp_ld (pc' := 32) bu_166_31 rfl rfl (fun _ _ _ => rfl) g157 rfl ?_
      refine bp_c (pc' := 33) (n := 5) bu_166_32 rfl rfl (fun _ _ _ => rfl) (by decide) (fun c161 e162 => ?_)
      refine bn_cv (pc' := 36) (st := []) (args := [.int c161]) bu_166_33 rfl rfl rfl (by decide) hP bq_o20 (by decide) (by omega) rfl (Nat.le_of_ble_eq_true rfl) (Nat.le_of_ble_eq_true rfl) ?_
      refine cr_165 (σ := σ) (kn := 5) (by omega) (by decide) hP hR hf (fun h163 s164 A165 L166 hP167 F168 R169 => ?_)
      show bp_G E PO NN ((166, 36, lv154, [], 0, 0) :: gs, h163, none)
      refine bp_ld (pc' := 37) bu_166_36 rfl rfl (fun _ _ _ => rfl) g157 rfl ?_
      refine bn_cv (pc' := 40) (st := []) (args := []) bu_166_37 rfl rfl rfl (by decide) hP167 bq_o20 (by decide) (by omega) rfl (Nat.le_of_ble_eq_true rfl) (Nat.le_of_ble_eq_true rfl) ?_
      have hs1 := (py_wr_t (σ := σ) (k := 5) (t := σ.1)).1
      have hs2 := (py_wr_t (σ := σ) (k := 5) (t := σ.1)).2.1
      refine cr_161 (σ := (py_wr 5 (σ).1 σ)) hP167 R169 (rc_T_F hT F168) (by rw [hs2]; exact hf) (by rw [hs1, hk]; decide) (by rw [hs1, hk]; decide) (fun h170 s171 A172 L173 hP174 F175 R176 => ?_)
      show bp_G E PO NN ((166, 40, lv154, [], 0, 0) :: gs, h170, none)
      refine bp_ld (pc' := 41) bu_166_40 rfl rfl (fun _ _ _ => rfl) g156 rfl ?_
      refine bp_ri bu_166_41 ?_
      have ei : (if V σ.1 < lo.toInt ∨ hi.toInt < V σ.1 then py_wr 5 σ.1 σ else σ) = py_wr 5 σ.1 σ := if_pos (by omega)
      have ee : py_nu K V lo.toInt hi.toInt σ = py_go (py_wr 5 σ.1 σ) := by
        unfold py_nu
        rw [if_pos ⟨hf, hk⟩, ei]
      rw [← ee] at R176
      exact kk _ _ _ _ _ hP174 (rc_F_t F168 F175) R176 (fun _ _ => by omega)
    · replace k160 : ¬ ((x151).toInt < (lo).toInt) := k160
      refine bp_ld (pc' := 27) bu_166_26 rfl rfl (fun _ _ _ => rfl) g156 rfl ?_
      refine bp_ld (pc' := 28) bu_166_27 rfl rfl (fun _ _ _ => rfl) g159 rfl ?_
      refine bp_ic (pc' := 31) (pt := 36) bu_166_28 rfl rfl (fun k177 => ?_) (fun k177 => ?_)
      · replace k177 : (x151).toInt ≤ (hi).toInt := k177
        refine bp_ld (pc' := 37) bu_166_36 rfl rfl (fun _ _ _ => rfl) g157 rfl ?_
        refine bn_cv (pc' := 40) (st := []) (args := []) bu_166_37 rfl rfl rfl (by decide) hP bq_o20 (by decide) (by omega) rfl (Nat.le_of_ble_eq_true rfl) (Nat.le_of_ble_eq_true rfl) ?_
        have hs1 : σ.1 = σ.1 := rfl
        have hs2 : σ.2.1 = σ.2.1 := rfl
        refine cr_161 (σ := σ) hP hR hT (by rw [hs2]; exact hf) (by rw [hs1, hk]; decide) (by rw [hs1, hk]; decide) (fun h178 s179 A180 L181 hP182 F183 R184 => ?_)
        show bp_G E PO NN ((166, 40, lv154, [], 0, 0) :: gs, h178, none)
        refine bp_ld (pc' := 41) bu_166_40 rfl rfl (fun _ _ _ => rfl) g156 rfl ?_
        refine bp_ri bu_166_41 ?_
        have ei : (if V σ.1 < lo.toInt ∨ hi.toInt < V σ.1 then py_wr 5 σ.1 σ else σ) = σ := if_neg (by omega)
        have ee : py_nu K V lo.toInt hi.toInt σ = py_go (σ) := by
          unfold py_nu
          rw [if_pos ⟨hf, hk⟩, ei]
        rw [← ee] at R184
        exact kk _ _ _ _ _ hP182 F183 R184 (fun _ _ => by omega)
      · replace k177 : ¬ ((x151).toInt ≤ (hi).toInt) := k177
        refine bp_ld (pc' := 32) bu_166_31 rfl rfl (fun _ _ _ => rfl) g157 rfl ?_
        refine bp_c (pc' := 33) (n := 5) bu_166_32 rfl rfl (fun _ _ _ => rfl) (by decide) (fun c185 e186 => ?_)
        refine bn_cv (pc' := 36) (st := []) (args := [.int c185]) bu_166_33 rfl rfl rfl (by decide) hP bq_o20 (by decide) (by omega) rfl (Nat.le_of_ble_eq_true rfl) (Nat.le_of_ble_eq_true rfl) ?_
        refine cr_165 (σ := σ) (kn := 5) (by omega) (by decide) hP hR hf (fun h187 s188 A189 L190 hP191 F192 R193 => ?_)
        show bp_G E PO NN ((166, 36, lv154, [], 0, 0) :: gs, h187, none)
        refine bp_ld (pc' := 37) bu_166_36 rfl rfl (fun _ _ _ => rfl) g157 rfl ?_
        refine bn_cv (pc' := 40) (st := []) (args := []) bu_166_37 rfl rfl rfl (by decide) hP191 bq_o20 (by decide) (by omega) rfl (Nat.le_of_ble_eq_true rfl) (Nat.le_of_ble_eq_true rfl) ?_
        have hs1 := (py_wr_t (σ := σ) (k := 5) (t := σ.1)).1
        have hs2 := (py_wr_t (σ := σ) (k := 5) (t := σ.1)).2.1
        refine cr_161 (σ := (py_wr 5 (σ).1 σ)) hP191 R193 (rc_T_F hT F192) (by rw [hs2]; exact hf) (by rw [hs1, hk]; decide) (by rw [hs1, hk]; decide) (fun h194 s195 A196 L197 hP198 F199 R200 => ?_)
        show bp_G E PO NN ((166, 40, lv154, [], 0, 0) :: gs, h194, none)
        refine bp_ld (pc' := 41) bu_166_40 rfl rfl (fun _ _ _ => rfl) g156 rfl ?_
        refine bp_ri bu_166_41 ?_
        have ei : (if V σ.1 < lo.toInt ∨ hi.toInt < V σ.1 then py_wr 5 σ.1 σ else σ) = py_wr 5 σ.1 σ := if_pos (by omega)
        have ee : py_nu K V lo.toInt hi.toInt σ = py_go (py_wr 5 σ.1 σ) := by
          unfold py_nu
          rw [if_pos ⟨hf, hk⟩, ei]
        rw [← ee] at R200
        exact kk _ _ _ _ _ hP198 (rc_F_t F192 F199) R200 (fun _ _ => by omega)
  · replace k150 : ¬ (((s 2003)).toInt = (c148).toInt) := k150
    refine bp_ld (pc' := 9) bu_166_8 rfl rfl (fun _ _ _ => rfl) rfl rfl ?_
    refine bp_c (pc' := 10) (n := 1) bu_166_9 rfl rfl (fun _ _ _ => rfl) (by decide) (fun c201 e202 => ?_)
    refine bn_cv (pc' := 13) (st := []) (args := [.int c201]) bu_166_10 rfl rfl rfl (by decide) hP bq_o20 (by decide) (by omega) rfl (Nat.le_of_ble_eq_true rfl) (Nat.le_of_ble_eq_true rfl) ?_
    refine cr_176 (σ := σ) (kn := 1) (by omega) (by decide) hP hR (fun h203 s204 A205 L206 hP207 F208 R209 => ?_)
    show bp_G E PO NN ((166, 13, _, [], 0, 0) :: gs, h203, none)
    refine bp_c (pc' := 14) (n := 0) bu_166_13 rfl rfl (fun _ _ _ => rfl) (by decide) (fun c210 e211 => ?_)
    refine bp_ri bu_166_14 ?_
    have hn : ¬ (σ.2.1 = 0 ∧ K σ.1 = 2) := fun hh => by
      have q2 := q2 hh.1
      have q4 := hh.2
      omega
    have ee : py_nu K V lo.toInt hi.toInt σ = py_fl 1 σ := if_neg hn
    rw [← ee] at R209
    exact kk _ _ _ _ _ hP207 F208 R209 (fun u1 u2 => absurd ⟨u1, u2⟩ hn)
theorem cr_167 (hP : bm_P bq_T E h0 h s A L) (hd : gs.length + 2 ≤ 999) (hR : rc_R K V P N σ s L) (kk : ∀ r : Int32, ((r.toInt = -1 ∧ ¬ (σ.2.1 = 0 ∧ (K σ.1 = 8 ∨ K σ.1 = 9 ∨ K σ.1 = 10 ∨ K σ.1 = 15))) ∨ (r.toInt ≠ -1 ∧ σ.2.1 = 0 ∧ ((K σ.1 = 8 ∧ r.toInt = 4) ∨ (K σ.1 = 9 ∧ r.toInt = 5) ∨ (K σ.1 = 10 ∧ r.toInt = 6) ∨ (K σ.1 = 15 ∧ r.toInt = 7)))) → bp_G E PO NN (mm_back (some (.int r)) gs h)) : bp_G E PO NN ((167, 0, [(0, .ref (E.1 + 20))], [], 0, 0) :: gs, h, none) := by
  have q1 := hR.1
  have q2 := fun e => (hR.2.1 e).2.2.1
  have q3 := fun e => (hR.2.2 e).1
  unfold rc_k at q2
  by_cases hf : σ.2.1 = 0
  · have q2 := q2 hf
    refine bp_ld (pc' := 1) bu_167_0 rfl rfl (fun _ _ _ => rfl) rfl rfl ?_
    refine bp_c (pc' := 3) (n := 43) bu_167_1 rfl rfl (fun _ _ _ => rfl) (by decide) (fun c212 e213 => ?_)
    refine bn_cv (pc' := 6) (st := []) (args := [.int c212]) bu_167_3 rfl rfl rfl (by decide) hP bq_o20 (by decide) (by omega) rfl (Nat.le_of_ble_eq_true rfl) (Nat.le_of_ble_eq_true rfl) ?_
    refine cr_163 (c := c212) hP (fun r214 p215 => ?_)
    show bp_G E PO NN ((167, 6, _, [.int r214], 0, 0) :: gs, h, none)
    refine bp_i0 (pc' := 9) (pt := 11) bu_167_6 rfl rfl (fun k216 => ?_) (fun k216 => ?_)
    · replace k216 : (r214).toInt = 0 := k216
      refine bp_ld (pc' := 12) bu_167_11 rfl rfl (fun _ _ _ => rfl) rfl rfl ?_
      refine bp_c (pc' := 14) (n := 45) bu_167_12 rfl rfl (fun _ _ _ => rfl) (by decide) (fun c217 e218 => ?_)
      refine bn_cv (pc' := 17) (st := []) (args := [.int c217]) bu_167_14 rfl rfl rfl (by decide) hP bq_o20 (by decide) (by omega) rfl (Nat.le_of_ble_eq_true rfl) (Nat.le_of_ble_eq_true rfl) ?_
      refine cr_163 (c := c217) hP (fun r219 p220 => ?_)
      show bp_G E PO NN ((167, 17, _, [.int r219], 0, 0) :: gs, h, none)
      refine bp_i0 (pc' := 20) (pt := 22) bu_167_17 rfl rfl (fun k221 => ?_) (fun k221 => ?_)
      · replace k221 : (r219).toInt = 0 := k221
        refine bp_ld (pc' := 23) bu_167_22 rfl rfl (fun _ _ _ => rfl) rfl rfl ?_
        refine bp_c (pc' := 25) (n := 42) bu_167_23 rfl rfl (fun _ _ _ => rfl) (by decide) (fun c222 e223 => ?_)
        refine bn_cv (pc' := 28) (st := []) (args := [.int c222]) bu_167_25 rfl rfl rfl (by decide) hP bq_o20 (by decide) (by omega) rfl (Nat.le_of_ble_eq_true rfl) (Nat.le_of_ble_eq_true rfl) ?_
        refine cr_163 (c := c222) hP (fun r224 p225 => ?_)
        show bp_G E PO NN ((167, 28, _, [.int r224], 0, 0) :: gs, h, none)
        refine bp_i0 (pc' := 31) (pt := 34) bu_167_28 rfl rfl (fun k226 => ?_) (fun k226 => ?_)
        · replace k226 : (r224).toInt = 0 := k226
          refine bp_ld (pc' := 35) bu_167_34 rfl rfl (fun _ _ _ => rfl) rfl rfl ?_
          refine bp_c (pc' := 37) (n := 47) bu_167_35 rfl rfl (fun _ _ _ => rfl) (by decide) (fun c227 e228 => ?_)
          refine bn_cv (pc' := 40) (st := []) (args := [.int c227]) bu_167_37 rfl rfl rfl (by decide) hP bq_o20 (by decide) (by omega) rfl (Nat.le_of_ble_eq_true rfl) (Nat.le_of_ble_eq_true rfl) ?_
          refine cr_163 (c := c227) hP (fun r229 p230 => ?_)
          show bp_G E PO NN ((167, 40, _, [.int r229], 0, 0) :: gs, h, none)
          refine bp_i0 (pc' := 43) (pt := 48) bu_167_40 rfl rfl (fun k231 => ?_) (fun k231 => ?_)
          · replace k231 : (r229).toInt = 0 := k231
            refine bp_c (pc' := 49) (n := -1) bu_167_48 rfl rfl (fun _ _ _ => rfl) (by decide) (fun c232 e233 => ?_)
            refine bp_ri bu_167_49 ?_
            exact kk _ (by omega)
          · replace k231 : ¬ ((r229).toInt = 0) := k231
            refine bp_c (pc' := 45) (n := 7) bu_167_43 rfl rfl (fun _ _ _ => rfl) (by decide) (fun c234 e235 => ?_)
            refine bp_go (pc' := 49) bu_167_45 rfl ?_
            refine bp_ri bu_167_49 ?_
            exact kk _ (by omega)
        · replace k226 : ¬ ((r224).toInt = 0) := k226
          refine bp_c (pc' := 33) (n := 6) bu_167_31 rfl rfl (fun _ _ _ => rfl) (by decide) (fun c236 e237 => ?_)
          refine bp_ri bu_167_33 ?_
          exact kk _ (by omega)
      · replace k221 : ¬ ((r219).toInt = 0) := k221
        refine bp_c (pc' := 21) (n := 5) bu_167_20 rfl rfl (fun _ _ _ => rfl) (by decide) (fun c238 e239 => ?_)
        refine bp_ri bu_167_21 ?_
        exact kk _ (by omega)
    · replace k216 : ¬ ((r214).toInt = 0) := k216
      refine bp_c (pc' := 10) (n := 4) bu_167_9 rfl rfl (fun _ _ _ => rfl) (by decide) (fun c240 e241 => ?_)
      refine bp_ri bu_167_10 ?_
      exact kk _ (by omega)
  · have q3 := q3 hf
    refine bp_ld (pc' := 1) bu_167_0 rfl rfl (fun _ _ _ => rfl) rfl rfl ?_
    refine bp_c (pc' := 3) (n := 43) bu_167_1 rfl rfl (fun _ _ _ => rfl) (by decide) (fun c212 e213 => ?_)
    refine bn_cv (pc' := 6) (st := []) (args := [.int c212]) bu_167_3 rfl rfl rfl (by decide) hP bq_o20 (by decide) (by omega) rfl (Nat.le_of_ble_eq_true rfl) (Nat.le_of_ble_eq_true rfl) ?_
    refine cr_163 (c := c212) hP (fun r214 p215 => ?_)
    show bp_G E PO NN ((167, 6, _, [.int r214], 0, 0) :: gs, h, none)
    refine bp_i0 (pc' := 9) (pt := 11) bu_167_6 rfl rfl (fun k216 => ?_) (fun k216 => ?_)
    · replace k216 : (r214).toInt = 0 := k216
      refine bp_ld (pc' := 12) bu_167_11 rfl rfl (fun _ _ _ => rfl) rfl rfl ?_
      refine bp_c (pc' := 14) (n := 45) bu_167_12 rfl rfl (fun _ _ _ => rfl) (by decide) (fun c217 e218 => ?_)
      refine bn_cv (pc' := 17) (st := []) (args := [.int c217]) bu_167_14 rfl rfl rfl (by decide) hP bq_o20 (by decide) (by omega) rfl (Nat.le_of_ble_eq_true rfl) (Nat.le_of_ble_eq_true rfl) ?_
      refine cr_163 (c := c217) hP (fun r219 p220 => ?_)
      show bp_G E PO NN ((167, 17, _, [.int r219], 0, 0) :: gs, h, none)
      refine bp_i0 (pc' := 20) (pt := 22) bu_167_17 rfl rfl (fun k221 => ?_) (fun k221 => ?_)
      · replace k221 : (r219).toInt = 0 := k221
        refine bp_ld (pc' := 23) bu_167_22 rfl rfl (fun _ _ _ => rfl) rfl rfl ?_
        refine bp_c (pc' := 25) (n := 42) bu_167_23 rfl rfl (fun _ _ _ => rfl) (by decide) (fun c222 e223 => ?_)
        refine bn_cv (pc' := 28) (st := []) (args := [.int c222]) bu_167_25 rfl rfl rfl (by decide) hP bq_o20 (by decide) (by omega) rfl (Nat.le_of_ble_eq_true rfl) (Nat.le_of_ble_eq_true rfl) ?_
        refine cr_163 (c := c222) hP (fun r224 p225 => ?_)
        show bp_G E PO NN ((167, 28, _, [.int r224], 0, 0) :: gs, h, none)
        refine bp_i0 (pc' := 31) (pt := 34) bu_167_28 rfl rfl (fun k226 => ?_) (fun k226 => ?_)
        · replace k226 : (r224).toInt = 0 := k226
          refine bp_ld (pc' := 35) bu_167_34 rfl rfl (fun _ _ _ => rfl) rfl rfl ?_
          refine bp_c (pc' := 37) (n := 47) bu_167_35 rfl rfl (fun _ _ _ => rfl) (by decide) (fun c227 e228 => ?_)
          refine bn_cv (pc' := 40) (st := []) (args := [.int c227]) bu_167_37 rfl rfl rfl (by decide) hP bq_o20 (by decide) (by omega) rfl (Nat.le_of_ble_eq_true rfl) (Nat.le_of_ble_eq_true rfl) ?_
          refine cr_163 (c := c227) hP (fun r229 p230 => ?_)
          show bp_G E PO NN ((167, 40, _, [.int r229], 0, 0) :: gs, h, none)
          refine bp_i0 (pc' := 43) (pt := 48) bu_167_40 rfl rfl (fun k231 => ?_) (fun k231 => ?_)
          · replace k231 : (r229).toInt = 0 := k231
            refine bp_c (pc' := 49) (n := -1) bu_167_48 rfl rfl (fun _ _ _ => rfl) (by decide) (fun c232 e233 => ?_)
            refine bp_ri bu_167_49 ?_
            exact kk _ (by omega)
          · replace k231 : ¬ ((r229).toInt = 0) := k231
            refine bp_c (pc' := 45) (n := 7) bu_167_43 rfl rfl (fun _ _ _ => rfl) (by decide) (fun c234 e235 => ?_)
            refine bp_go (pc' := 49) bu_167_45 rfl ?_
            refine bp_ri bu_167_49 ?_
            exact kk _ (by omega)
        · replace k226 : ¬ ((r224).toInt = 0) := k226
          refine bp_c (pc' := 33) (n := 6) bu_167_31 rfl rfl (fun _ _ _ => rfl) (by decide) (fun c236 e237 => ?_)
          refine bp_ri bu_167_33 ?_
          exact kk _ (by omega)
      · replace k221 : ¬ ((r219).toInt = 0) := k221
        refine bp_c (pc' := 21) (n := 5) bu_167_20 rfl rfl (fun _ _ _ => rfl) (by decide) (fun c238 e239 => ?_)
        refine bp_ri bu_167_21 ?_
        exact kk _ (by omega)
    · replace k216 : ¬ ((r214).toInt = 0) := k216
      refine bp_c (pc' := 10) (n := 4) bu_167_9 rfl rfl (fun _ _ _ => rfl) (by decide) (fun c240 e241 => ?_)
      refine bp_ri bu_167_10 ?_
      exact kk _ (by omega)
theorem cr_136 {x y : Int32} (hP : bm_P bq_T E h0 h s A L) (hc : 0 ≤ (s 1204).toInt ∧ (s 1204).toInt ≤ 432 ∧ 0 ≤ (s 1104).toInt ∧ (s 1104).toInt ≤ 6) (kk : ∀ (h' : mm_H) (s' : Nat → Int32) (A' : Nat → Nat → Int32), bm_P bq_T E h0 h' s' A' L → (∀ j, j ≠ 1204 → s' j = s j) → (∀ c, c ≠ 14 → c ≠ 15 → A' c = A c) → (0 ≤ (s' 1204).toInt ∧ (s' 1204).toInt ≤ 432 ∧ 0 ≤ (s' 1104).toInt ∧ (s' 1104).toInt ≤ 6) → bp_G E PO NN (mm_back none gs h')) : bp_G E PO NN ((136, 0, [(0, .ref (E.1 + 12)), (1, .int x), (2, .int y)], [], 0, 0) :: gs, h, none) := by
  refine bp_ld (pc' := 1) bu_136_0 rfl rfl (fun _ _ _ => rfl) rfl rfl ?_
  refine bn_gi (pc' := 4) (K := 1204) bu_136_1 rfl rfl (fun _ _ _ => rfl) hP bq_o12 bq_i12_4 rfl rfl ?_
  refine bp_c (pc' := 7) (n := 432) bu_136_4 rfl rfl (fun _ _ _ => rfl) (by decide) (fun c242 e243 => ?_)
  refine bp_ic (pc' := 10) (pt := 34) bu_136_7 rfl rfl (fun k244 => ?_) (fun k244 => ?_)
  · replace k244 : (c242).toInt ≤ ((s 1204)).toInt := k244
    refine bp_rv bu_136_34 ?_
    exact kk _ _ _ hP (fun j u => rfl) (fun c u1 u2 => rfl) ⟨by omega, by omega, by omega, by omega⟩
  · replace k244 : ¬ ((c242).toInt ≤ ((s 1204)).toInt) := k244
    refine bp_ld (pc' := 11) bu_136_10 rfl rfl (fun _ _ _ => rfl) rfl rfl ?_
    refine bn_gr (pc' := 14) (t := 14) bu_136_11 rfl rfl (fun _ _ _ => rfl) hP bq_o12 bq_r12_1 ?_
    refine bp_ld (pc' := 15) bu_136_14 rfl rfl (fun _ _ _ => rfl) rfl rfl ?_
    refine bn_gi (pc' := 18) (K := 1204) bu_136_15 rfl rfl (fun _ _ _ => rfl) hP bq_o12 bq_i12_4 rfl rfl ?_
    refine bp_ld (pc' := 19) bu_136_18 rfl rfl (fun _ _ _ => rfl) rfl rfl ?_
    refine bp_c (pc' := 20) (n := 4) bu_136_19 rfl rfl (fun _ _ _ => rfl) (by decide) (fun c245 e246 => ?_)
    refine bn_shlA (pc' := 21) bu_136_20 rfl (fun v247 => ?_)
    refine bp_ld (pc' := 22) bu_136_21 rfl rfl (fun _ _ _ => rfl) rfl rfl ?_
    refine bn_orA (pc' := 23) bu_136_22 rfl (fun v248 => ?_)
    refine bn_ias (pc' := 24) bu_136_23 rfl rfl (fun _ _ _ => rfl) hP bq_a14 (Or.inl rfl) (by omega) (by omega) (fun h249 hP250 => ?_)
    refine bp_ld (pc' := 25) bu_136_24 rfl rfl (fun _ _ _ => rfl) rfl rfl ?_
    refine bp_dup (pc' := 26) bu_136_25 rfl rfl ?_
    refine bn_gi (pc' := 29) (K := 1204) bu_136_26 rfl rfl (fun _ _ _ => rfl) hP250 bq_o12 bq_i12_4 rfl rfl ?_
    refine bp_c (pc' := 30) (n := 1) bu_136_29 rfl rfl (fun _ _ _ => rfl) (by decide) (fun c251 e252 => ?_)
    refine bp_add (pc' := 31) bu_136_30 rfl (by omega) (by omega) (fun v253 e254 => ?_)
    refine bn_pf (pc' := 34) (K := 1204) bu_136_31 rfl rfl (fun _ _ _ => rfl) hP250 bq_o12 bq_i12_4 rfl rfl (fun h255 s256 hP257 e258 f259 => ?_)
    refine bp_rv bu_136_34 ?_
    have z1204 := congrArg Int32.toInt e258
    have z1104 := congrArg Int32.toInt (f259 1104 (by decide))
    exact kk _ _ _ hP257 (fun j u => (f259 j (by omega))) (fun c u1 u2 => bh_up_ne u1) ⟨by omega, by omega, by omega, by omega⟩
theorem cr_132 {x : Int32} (hP : bm_P bq_T E h0 h s A L) (hc : 0 ≤ (s 1204).toInt ∧ (s 1204).toInt ≤ 432 ∧ 0 ≤ (s 1104).toInt ∧ (s 1104).toInt ≤ 6) (kk : ∀ (h' : mm_H) (s' : Nat → Int32) (A' : Nat → Nat → Int32), bm_P bq_T E h0 h' s' A' L → (∀ j, j ≠ 1204 → s' j = s j) → (∀ c, c ≠ 14 → c ≠ 15 → A' c = A c) → (0 ≤ (s' 1204).toInt ∧ (s' 1204).toInt ≤ 432 ∧ 0 ≤ (s' 1104).toInt ∧ (s' 1104).toInt ≤ 6) → bp_G E PO NN (mm_back none gs h')) : bp_G E PO NN ((132, 0, [(0, .ref (E.1 + 12)), (1, .int x)], [], 0, 0) :: gs, h, none) := by
  refine bp_ld (pc' := 1) bu_132_0 rfl rfl (fun _ _ _ => rfl) rfl rfl ?_
  refine bp_i0 (pc' := 4) (pt := 26) bu_132_1 rfl rfl (fun k260 => ?_) (fun k260 => ?_)
  · replace k260 : (x).toInt < 0 := k260
    refine bp_rv bu_132_26 ?_
    exact kk _ _ _ hP (fun j u => rfl) (fun c u1 u2 => rfl) ⟨by omega, by omega, by omega, by omega⟩
  · replace k260 : ¬ ((x).toInt < 0) := k260
    refine bp_ld (pc' := 5) bu_132_4 rfl rfl (fun _ _ _ => rfl) rfl rfl ?_
    refine bp_ld (pc' := 6) bu_132_5 rfl rfl (fun _ _ _ => rfl) rfl rfl ?_
    refine bn_gi (pc' := 9) (K := 1204) bu_132_6 rfl rfl (fun _ _ _ => rfl) hP bq_o12 bq_i12_4 rfl rfl ?_
    refine bp_ic (pc' := 12) (pt := 26) bu_132_9 rfl rfl (fun k261 => ?_) (fun k261 => ?_)
    · replace k261 : ((s 1204)).toInt ≤ (x).toInt := k261
      refine bp_rv bu_132_26 ?_
      exact kk _ _ _ hP (fun j u => rfl) (fun c u1 u2 => rfl) ⟨by omega, by omega, by omega, by omega⟩
    · replace k261 : ¬ (((s 1204)).toInt ≤ (x).toInt) := k261
      refine bp_ld (pc' := 13) bu_132_12 rfl rfl (fun _ _ _ => rfl) rfl rfl ?_
      refine bn_gr (pc' := 16) (t := 14) bu_132_13 rfl rfl (fun _ _ _ => rfl) hP bq_o12 bq_r12_1 ?_
      refine bp_ld (pc' := 17) bu_132_16 rfl rfl (fun _ _ _ => rfl) rfl rfl ?_
      refine bp_ld (pc' := 18) bu_132_17 rfl rfl (fun _ _ _ => rfl) rfl rfl ?_
      refine bn_gi (pc' := 21) (K := 1204) bu_132_18 rfl rfl (fun _ _ _ => rfl) hP bq_o12 bq_i12_4 rfl rfl ?_
      refine bp_c (pc' := 22) (n := 4) bu_132_21 rfl rfl (fun _ _ _ => rfl) (by decide) (fun c262 e263 => ?_)
      refine bn_shlA (pc' := 23) bu_132_22 rfl (fun v264 => ?_)
      refine bp_c (pc' := 24) (n := 3) bu_132_23 rfl rfl (fun _ _ _ => rfl) (by decide) (fun c265 e266 => ?_)
      refine bn_orA (pc' := 25) bu_132_24 rfl (fun v267 => ?_)
      refine bn_ias (pc' := 26) bu_132_25 rfl rfl (fun _ _ _ => rfl) hP bq_a14 (Or.inl rfl) (by omega) (by omega) (fun h268 hP269 => ?_)
      refine bp_rv bu_132_26 ?_
      exact kk _ _ _ hP269 (fun j u => rfl) (fun c u1 u2 => bh_up_ne u1) ⟨by omega, by omega, by omega, by omega⟩
theorem cr_144 {x y : Int32} (hP : bm_P bq_T E h0 h s A L) (hc : 0 ≤ (s 1204).toInt ∧ (s 1204).toInt ≤ 432 ∧ 0 ≤ (s 1104).toInt ∧ (s 1104).toInt ≤ 6) (kk : ∀ (h' : mm_H) (s' : Nat → Int32) (A' : Nat → Nat → Int32), bm_P bq_T E h0 h' s' A' L → (∀ j, j ≠ 1204 → s' j = s j) → (∀ c, c ≠ 14 → c ≠ 15 → A' c = A c) → (0 ≤ (s' 1204).toInt ∧ (s' 1204).toInt ≤ 432 ∧ 0 ≤ (s' 1104).toInt ∧ (s' 1104).toInt ≤ 6) → bp_G E PO NN (mm_back none gs h')) : bp_G E PO NN ((144, 0, [(0, .ref (E.1 + 12)), (1, .int x), (2, .int y)], [], 0, 0) :: gs, h, none) := by
  refine bp_ld (pc' := 1) bu_144_0 rfl rfl (fun _ _ _ => rfl) rfl rfl ?_
  refine bp_i0 (pc' := 4) (pt := 17) bu_144_1 rfl rfl (fun k270 => ?_) (fun k270 => ?_)
  · replace k270 : (x).toInt < 0 := k270
    refine bp_rv bu_144_17 ?_
    exact kk _ _ _ hP (fun j u => rfl) (fun c u1 u2 => rfl) ⟨by omega, by omega, by omega, by omega⟩
  · replace k270 : ¬ ((x).toInt < 0) := k270
    refine bp_ld (pc' := 5) bu_144_4 rfl rfl (fun _ _ _ => rfl) rfl rfl ?_
    refine bp_c (pc' := 7) (n := 7) bu_144_5 rfl rfl (fun _ _ _ => rfl) (by decide) (fun c271 e272 => ?_)
    refine bp_ic (pc' := 10) (pt := 17) bu_144_7 rfl rfl (fun k273 => ?_) (fun k273 => ?_)
    · replace k273 : (c271).toInt ≤ (x).toInt := k273
      refine bp_rv bu_144_17 ?_
      exact kk _ _ _ hP (fun j u => rfl) (fun c u1 u2 => rfl) ⟨by omega, by omega, by omega, by omega⟩
    · replace k273 : ¬ ((c271).toInt ≤ (x).toInt) := k273
      refine bp_ld (pc' := 11) bu_144_10 rfl rfl (fun _ _ _ => rfl) rfl rfl ?_
      refine bn_gr (pc' := 14) (t := 15) bu_144_11 rfl rfl (fun _ _ _ => rfl) hP bq_o12 bq_r12_2 ?_
      refine bp_ld (pc' := 15) bu_144_14 rfl rfl (fun _ _ _ => rfl) rfl rfl ?_
      refine bp_ld (pc' := 16) bu_144_15 rfl rfl (fun _ _ _ => rfl) rfl rfl ?_
      refine bn_ias (pc' := 17) bu_144_16 rfl rfl (fun _ _ _ => rfl) hP bq_a15 (Or.inl rfl) (by omega) (by omega) (fun h274 hP275 => ?_)
      refine bp_rv bu_144_17 ?_
      exact kk _ _ _ hP275 (fun j u => rfl) (fun c u1 u2 => bh_up_ne u2) ⟨by omega, by omega, by omega, by omega⟩
theorem cr_135 (hP : bm_P bq_T E h0 h s A L) (kk : bp_G E PO NN (mm_back (some (.int (s 1204))) gs h)) : bp_G E PO NN ((135, 0, [(0, .ref (E.1 + 12))], [], 0, 0) :: gs, h, none) := by
  refine bp_ld (pc' := 1) bu_135_0 rfl rfl (fun _ _ _ => rfl) rfl rfl ?_
  refine bn_gi (pc' := 4) (K := 1204) bu_135_1 rfl rfl (fun _ _ _ => rfl) hP bq_o12 bq_i12_4 rfl rfl ?_
  refine bp_ri bu_135_4 ?_
  exact kk
theorem cr_137 {x y x9 y9 : Int32} (hS : ∀ ρ, en_SA E ρ (wl_o x9 y9) mt_SB) (hP : bm_P bq_T E h0 h s A L) (hd : gs.length + 2 ≤ 999) (hc : 0 ≤ (s 1204).toInt ∧ (s 1204).toInt ≤ 432 ∧ 0 ≤ (s 1104).toInt ∧ (s 1104).toInt ≤ 6) (kk : ∀ (h' : mm_H) (s' : Nat → Int32) (A' : Nat → Nat → Int32), bm_P bq_T E h0 h' s' A' L → (∀ j, j ≠ 1204 → s' j = s j) → (∀ c, c ≠ 14 → c ≠ 15 → A' c = A c) → (0 ≤ (s' 1204).toInt ∧ (s' 1204).toInt ≤ 432 ∧ 0 ≤ (s' 1104).toInt ∧ (s' 1104).toInt ≤ 6) → bp_G E PO NN (mm_back none gs h')) : bp_G E PO NN ((137, 0, [(0, .ref (E.1 + 12)), (1, .int x), (2, .int y)], [], 0, 0) :: gs, h, none) := by
  obtain ⟨q0, q0', hq1, hq2, hq3, hq4, -⟩ := (hS (fun _ => 0)).2 0 7 _ rfl
  refine bp_ld (pc' := 1) bu_137_0 rfl rfl (fun _ _ _ => rfl) rfl rfl ?_
  refine bp_i0 (pc' := 4) (pt := 32) bu_137_1 rfl rfl (fun k276 => ?_) (fun k276 => ?_)
  · replace k276 : (x).toInt < 0 := k276
    refine bp_ld (pc' := 33) bu_137_32 rfl rfl (fun _ _ _ => rfl) rfl rfl ?_
    refine bp_c (pc' := 34) (n := 0) bu_137_33 rfl rfl (fun _ _ _ => rfl) (by decide) (fun c277 e278 => ?_)
    refine bp_c (pc' := 35) (n := 0) bu_137_34 rfl rfl (fun _ _ _ => rfl) (by decide) (fun c279 e280 => ?_)
    refine bn_cv (pc' := 38) (st := []) (args := [.int c279, .int c277]) bu_137_35 rfl rfl rfl (by decide) hP bq_o12 (by decide) (by omega) rfl (Nat.le_of_ble_eq_true rfl) (Nat.le_of_ble_eq_true rfl) ?_
    refine cr_136 hP hc (fun h281 s282 A283 hP284 f285 a286 z287 => ?_)
    show bp_G E PO NN ((137, 38, _, [], 0, 0) :: gs, h281, none)
    refine bp_rv bu_137_38 ?_
    exact kk _ _ _ hP284 f285 a286 z287
  · replace k276 : ¬ ((x).toInt < 0) := k276
    refine bp_ld (pc' := 5) bu_137_4 rfl rfl (fun _ _ _ => rfl) rfl rfl ?_
    refine bp_c (pc' := 7) (n := 7) bu_137_5 rfl rfl (fun _ _ _ => rfl) (by decide) (fun c288 e289 => ?_)
    refine bp_ic (pc' := 10) (pt := 32) bu_137_7 rfl rfl (fun k290 => ?_) (fun k290 => ?_)
    · replace k290 : (c288).toInt ≤ (x).toInt := k290
      refine bp_ld (pc' := 33) bu_137_32 rfl rfl (fun _ _ _ => rfl) rfl rfl ?_
      refine bp_c (pc' := 34) (n := 0) bu_137_33 rfl rfl (fun _ _ _ => rfl) (by decide) (fun c291 e292 => ?_)
      refine bp_c (pc' := 35) (n := 0) bu_137_34 rfl rfl (fun _ _ _ => rfl) (by decide) (fun c293 e294 => ?_)
      refine bn_cv (pc' := 38) (st := []) (args := [.int c293, .int c291]) bu_137_35 rfl rfl rfl (by decide) hP bq_o12 (by decide) (by omega) rfl (Nat.le_of_ble_eq_true rfl) (Nat.le_of_ble_eq_true rfl) ?_
      refine cr_136 hP hc (fun h295 s296 A297 hP298 f299 a300 z301 => ?_)
      show bp_G E PO NN ((137, 38, _, [], 0, 0) :: gs, h295, none)
      refine bp_rv bu_137_38 ?_
      exact kk _ _ _ hP298 f299 a300 z301
    · replace k290 : ¬ ((c288).toInt ≤ (x).toInt) := k290
      refine bn_gs (pc' := 13) bu_137_10 rfl (by decide) (by decide) hq1 ?_
      refine bp_ld (pc' := 14) bu_137_13 rfl rfl (fun _ _ _ => rfl) rfl rfl ?_
      refine bn_sia (pc' := 15) bu_137_14 rfl hq2 hq3 (by omega) (by omega) (fun v302 => ?_)
      refine bp_ld (pc' := 16) bu_137_15 rfl rfl (fun _ _ _ => rfl) rfl rfl ?_
      refine bp_ishrA (pc' := 17) bu_137_16 rfl (fun v303 => ?_)
      refine bp_c (pc' := 18) (n := 1) bu_137_17 rfl rfl (fun _ _ _ => rfl) (by decide) (fun c304 e305 => ?_)
      refine bp_andA (pc' := 19) bu_137_18 rfl (fun v306 => ?_)
      refine bp_c (pc' := 20) (n := 1) bu_137_19 rfl rfl (fun _ _ _ => rfl) (by decide) (fun c307 e308 => ?_)
      refine bp_ic (pc' := 23) (pt := 32) bu_137_20 rfl rfl (fun k309 => ?_) (fun k309 => ?_)
      · replace k309 : (v306).toInt ≠ (c307).toInt := k309
        refine bp_ld (pc' := 33) bu_137_32 rfl rfl (fun _ _ _ => rfl) rfl rfl ?_
        refine bp_c (pc' := 34) (n := 0) bu_137_33 rfl rfl (fun _ _ _ => rfl) (by decide) (fun c310 e311 => ?_)
        refine bp_c (pc' := 35) (n := 0) bu_137_34 rfl rfl (fun _ _ _ => rfl) (by decide) (fun c312 e313 => ?_)
        refine bn_cv (pc' := 38) (st := []) (args := [.int c312, .int c310]) bu_137_35 rfl rfl rfl (by decide) hP bq_o12 (by decide) (by omega) rfl (Nat.le_of_ble_eq_true rfl) (Nat.le_of_ble_eq_true rfl) ?_
        refine cr_136 hP hc (fun h314 s315 A316 hP317 f318 a319 z320 => ?_)
        show bp_G E PO NN ((137, 38, _, [], 0, 0) :: gs, h314, none)
        refine bp_rv bu_137_38 ?_
        exact kk _ _ _ hP317 f318 a319 z320
      · replace k309 : ¬ ((v306).toInt ≠ (c307).toInt) := k309
        refine bp_ld (pc' := 24) bu_137_23 rfl rfl (fun _ _ _ => rfl) rfl rfl ?_
        refine bp_c (pc' := 25) (n := 1) bu_137_24 rfl rfl (fun _ _ _ => rfl) (by decide) (fun c321 e322 => ?_)
        refine bp_ld (pc' := 26) bu_137_25 rfl rfl (fun _ _ _ => rfl) rfl rfl ?_
        refine bn_cv (pc' := 29) (st := []) (args := [.int y, .int c321]) bu_137_26 rfl rfl rfl (by decide) hP bq_o12 (by decide) (by omega) rfl (Nat.le_of_ble_eq_true rfl) (Nat.le_of_ble_eq_true rfl) ?_
        refine cr_136 hP hc (fun h323 s324 A325 hP326 f327 a328 z329 => ?_)
        show bp_G E PO NN ((137, 29, _, [], 0, 0) :: gs, h323, none)
        refine bp_go (pc' := 38) bu_137_29 rfl ?_
        refine bp_rv bu_137_38 ?_
        exact kk _ _ _ hP326 f327 a328 z329
end CR
