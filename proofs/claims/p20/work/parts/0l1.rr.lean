/-! PARTIAL: the reference's reader, exact (wip/p5/mkr1.py) -/
def rz_T : bm_T := ([(88, 9)], [(88, 1, 89), (88, 3, 90), (88, 5, 91), (88, 6, 92), (88, 7, 93), (88, 8, 94), (88, 9, 95), (88, 21, 96), (88, 22, 97), (88, 23, 98), (88, 24, 99), (88, 25, 100), (88, 26, 101), (88, 27, 102), (88, 28, 103), (88, 29, 104), (88, 30, 105), (88, 31, 106), (88, 32, 107), (88, 34, 108), (88, 35, 109), (88, 36, 110), (88, 37, 111), (88, 38, 112), (88, 40, 113), (88, 41, 114), (88, 42, 115), (88, 47, 118), (88, 48, 119), (88, 71, 131)], [(88, 2), (88, 4), (88, 10), (88, 11), (88, 12), (88, 13), (88, 14), (88, 15), (88, 16), (88, 17), (88, 18), (88, 19), (88, 20), (88, 33), (88, 39), (88, 43), (88, 49), (88, 50), (88, 54), (88, 65), (88, 67)], [], [(89, 1, 2000), (90, 1, 2000), (91, 0, 403), (92, 0, 403), (93, 0, 403), (97, 0, 2), (98, 0, 48), (99, 0, 12), (100, 0, 2), (101, 0, 2), (102, 0, 2), (103, 0, 2), (104, 0, 2), (105, 0, 2), (106, 0, 14), (107, 0, 14), (108, 2, 260), (109, 0, 260), (110, 0, 260), (111, 0, 260), (112, 0, 260), (113, 0, 840), (114, 0, 840), (115, 0, 64), (118, 0, 60), (119, 0, 60), (131, 2, 3)], [(94, 403), (95, 24), (96, 6)])
theorem rz_o88 : (88, 9) ∈ rz_T.1 := by decide
theorem rz_r88_1 : (88, 1, 89) ∈ rz_T.2.1 := by decide
theorem rz_r88_3 : (88, 3, 90) ∈ rz_T.2.1 := by decide
theorem rz_r88_5 : (88, 5, 91) ∈ rz_T.2.1 := by decide
theorem rz_r88_6 : (88, 6, 92) ∈ rz_T.2.1 := by decide
theorem rz_r88_7 : (88, 7, 93) ∈ rz_T.2.1 := by decide
theorem rz_r88_8 : (88, 8, 94) ∈ rz_T.2.1 := by decide
theorem rz_r88_9 : (88, 9, 95) ∈ rz_T.2.1 := by decide
theorem rz_r88_21 : (88, 21, 96) ∈ rz_T.2.1 := by decide
theorem rz_r88_22 : (88, 22, 97) ∈ rz_T.2.1 := by decide
theorem rz_r88_23 : (88, 23, 98) ∈ rz_T.2.1 := by decide
theorem rz_r88_24 : (88, 24, 99) ∈ rz_T.2.1 := by decide
theorem rz_r88_25 : (88, 25, 100) ∈ rz_T.2.1 := by decide
theorem rz_r88_26 : (88, 26, 101) ∈ rz_T.2.1 := by decide
theorem rz_r88_27 : (88, 27, 102) ∈ rz_T.2.1 := by decide
theorem rz_r88_28 : (88, 28, 103) ∈ rz_T.2.1 := by decide
theorem rz_r88_29 : (88, 29, 104) ∈ rz_T.2.1 := by decide
theorem rz_r88_30 : (88, 30, 105) ∈ rz_T.2.1 := by decide
theorem rz_r88_31 : (88, 31, 106) ∈ rz_T.2.1 := by decide
theorem rz_r88_32 : (88, 32, 107) ∈ rz_T.2.1 := by decide
theorem rz_r88_34 : (88, 34, 108) ∈ rz_T.2.1 := by decide
theorem rz_r88_35 : (88, 35, 109) ∈ rz_T.2.1 := by decide
theorem rz_r88_36 : (88, 36, 110) ∈ rz_T.2.1 := by decide
theorem rz_r88_37 : (88, 37, 111) ∈ rz_T.2.1 := by decide
theorem rz_r88_38 : (88, 38, 112) ∈ rz_T.2.1 := by decide
theorem rz_r88_40 : (88, 40, 113) ∈ rz_T.2.1 := by decide
theorem rz_r88_41 : (88, 41, 114) ∈ rz_T.2.1 := by decide
theorem rz_r88_42 : (88, 42, 115) ∈ rz_T.2.1 := by decide
theorem rz_r88_47 : (88, 47, 118) ∈ rz_T.2.1 := by decide
theorem rz_r88_48 : (88, 48, 119) ∈ rz_T.2.1 := by decide
theorem rz_r88_71 : (88, 71, 131) ∈ rz_T.2.1 := by decide
theorem rz_i88_2 : (88, 2) ∈ rz_T.2.2.1 := by decide
theorem rz_i88_4 : (88, 4) ∈ rz_T.2.2.1 := by decide
theorem rz_i88_10 : (88, 10) ∈ rz_T.2.2.1 := by decide
theorem rz_i88_11 : (88, 11) ∈ rz_T.2.2.1 := by decide
theorem rz_i88_12 : (88, 12) ∈ rz_T.2.2.1 := by decide
theorem rz_i88_13 : (88, 13) ∈ rz_T.2.2.1 := by decide
theorem rz_i88_14 : (88, 14) ∈ rz_T.2.2.1 := by decide
theorem rz_i88_15 : (88, 15) ∈ rz_T.2.2.1 := by decide
theorem rz_i88_16 : (88, 16) ∈ rz_T.2.2.1 := by decide
theorem rz_i88_17 : (88, 17) ∈ rz_T.2.2.1 := by decide
theorem rz_i88_18 : (88, 18) ∈ rz_T.2.2.1 := by decide
theorem rz_i88_19 : (88, 19) ∈ rz_T.2.2.1 := by decide
theorem rz_i88_20 : (88, 20) ∈ rz_T.2.2.1 := by decide
theorem rz_i88_33 : (88, 33) ∈ rz_T.2.2.1 := by decide
theorem rz_i88_39 : (88, 39) ∈ rz_T.2.2.1 := by decide
theorem rz_i88_43 : (88, 43) ∈ rz_T.2.2.1 := by decide
theorem rz_i88_49 : (88, 49) ∈ rz_T.2.2.1 := by decide
theorem rz_i88_50 : (88, 50) ∈ rz_T.2.2.1 := by decide
theorem rz_i88_54 : (88, 54) ∈ rz_T.2.2.1 := by decide
theorem rz_i88_65 : (88, 65) ∈ rz_T.2.2.1 := by decide
theorem rz_i88_67 : (88, 67) ∈ rz_T.2.2.1 := by decide
theorem rz_a89 : (89, 1, 2000) ∈ rz_T.2.2.2.2.1 := by decide
theorem rz_a90 : (90, 1, 2000) ∈ rz_T.2.2.2.2.1 := by decide
theorem rz_a91 : (91, 0, 403) ∈ rz_T.2.2.2.2.1 := by decide
theorem rz_a92 : (92, 0, 403) ∈ rz_T.2.2.2.2.1 := by decide
theorem rz_a93 : (93, 0, 403) ∈ rz_T.2.2.2.2.1 := by decide
theorem rz_a97 : (97, 0, 2) ∈ rz_T.2.2.2.2.1 := by decide
theorem rz_a98 : (98, 0, 48) ∈ rz_T.2.2.2.2.1 := by decide
theorem rz_a99 : (99, 0, 12) ∈ rz_T.2.2.2.2.1 := by decide
theorem rz_a100 : (100, 0, 2) ∈ rz_T.2.2.2.2.1 := by decide
theorem rz_a101 : (101, 0, 2) ∈ rz_T.2.2.2.2.1 := by decide
theorem rz_a102 : (102, 0, 2) ∈ rz_T.2.2.2.2.1 := by decide
theorem rz_a103 : (103, 0, 2) ∈ rz_T.2.2.2.2.1 := by decide
theorem rz_a104 : (104, 0, 2) ∈ rz_T.2.2.2.2.1 := by decide
theorem rz_a105 : (105, 0, 2) ∈ rz_T.2.2.2.2.1 := by decide
theorem rz_a106 : (106, 0, 14) ∈ rz_T.2.2.2.2.1 := by decide
theorem rz_a107 : (107, 0, 14) ∈ rz_T.2.2.2.2.1 := by decide
theorem rz_a108 : (108, 2, 260) ∈ rz_T.2.2.2.2.1 := by decide
theorem rz_a109 : (109, 0, 260) ∈ rz_T.2.2.2.2.1 := by decide
theorem rz_a110 : (110, 0, 260) ∈ rz_T.2.2.2.2.1 := by decide
theorem rz_a111 : (111, 0, 260) ∈ rz_T.2.2.2.2.1 := by decide
theorem rz_a112 : (112, 0, 260) ∈ rz_T.2.2.2.2.1 := by decide
theorem rz_a113 : (113, 0, 840) ∈ rz_T.2.2.2.2.1 := by decide
theorem rz_a114 : (114, 0, 840) ∈ rz_T.2.2.2.2.1 := by decide
theorem rz_a115 : (115, 0, 64) ∈ rz_T.2.2.2.2.1 := by decide
theorem rz_a118 : (118, 0, 60) ∈ rz_T.2.2.2.2.1 := by decide
theorem rz_a119 : (119, 0, 60) ∈ rz_T.2.2.2.2.1 := by decide
theorem rz_a131 : (131, 2, 3) ∈ rz_T.2.2.2.2.1 := by decide
theorem rz_l94 : (94, 403) ∈ rz_T.2.2.2.2.2 := by decide
theorem rz_l95 : (95, 24) ∈ rz_T.2.2.2.2.2 := by decide
theorem rz_l96 : (96, 6) ∈ rz_T.2.2.2.2.2 := by decide
theorem rz_W : bm_W rz_T := by unfold bm_W; decide
/-- the reference's tokens, M of them: kinds, places, numbers -/
def rq_T (K V P : Nat → Int) (M : Nat) (A : Nat → Nat → Int32) : Prop := M ≤ 401 ∧ 0 < M ∧ (∀ j, j < M → (A 91 j).toInt = K j ∧ (A 92 j).toInt = P j ∧ (K j = 2 → (A 93 j).toInt = V j)) ∧ (∀ j, j < M → j < 400 → K j ≠ 0 → j + 1 < M) ∧ (∀ i j, i < j → j < M → P i < P j)
/-- the reference in the state σ; ns: the names that it keeps -/
def rq_R (K P : Nat → Int) (M : Nat) (σ : py_S) (ns : List Nat) (o e : Nat) (s : Nat → Int32) (A : Nat → Nat → Int32) (L : Nat → Nat → Int64) : Prop := (s 8813).toInt = (σ.2.1 : Int) ∧ (σ.2.1 = 0 → (s 8811).toInt = (σ.1 : Int) ∧ σ.1 < M ∧ (s 8815).toInt = (σ.2.2.1 : Int) ∧ (σ.2.2.1 ≠ 0 → (s 8816).toInt = P σ.2.2.2.1 ∧ σ.2.2.2.1 < σ.1 + e) ∧ (s 8820).toInt = (ns.length : Int) ∧ ns.length ≤ 6 ∧ (∀ i, i < ns.length → L 96 i = L 94 (ns.getD i 0) ∧ ns.getD i 0 < M ∧ K (ns.getD i 0) = 1) ∧ (A 97 (s 8819).toInt.toNat).toInt = (ns.length : Int) ∧ (s 8812).toInt = (o : Int)) ∧ (σ.2.1 ≠ 0 → (s 8814).toInt = P σ.1)
/-- what reading keeps -/
def rq_F (s : Nat → Int32) (A : Nat → Nat → Int32) (L : Nat → Nat → Int64) (s' : Nat → Int32) (A' : Nat → Nat → Int32) (L' : Nat → Nat → Int64) : Prop := (s' 8802 = s 8802 ∧ s' 8804 = s 8804 ∧ s' 8810 = s 8810 ∧ s' 8818 = s 8818 ∧ s' 8819 = s 8819) ∧ (A' 91 = A 91 ∧ A' 92 = A 92 ∧ A' 93 = A 93 ∧ A' 89 = A 89 ∧ A' 90 = A 90) ∧ L' 94 = L 94 ∧ L' 95 = L 95 ∧ s' 8865 = s 8865 ∧ A' 131 = A 131 ∧ ∀ c, 97 ≤ c → c ≤ 105 → A' c = A c
/-- what one side's rows are -/
def rq_own (d c j : Nat) : Prop := (c = 98 ∧ 24 * d ≤ j ∧ j < 24 * d + 24) ∨ (c = 99 ∧ 6 * d ≤ j ∧ j < 6 * d + 6) ∨ (c ≠ 98 ∧ c ≠ 99 ∧ j = d)
def rq_D (d : Nat) (A A' : Nat → Nat → Int32) : Prop := ∀ c j, 97 ≤ c → c ≤ 105 → ¬ rq_own d c j → A' c j = A c j
/-- what telling keeps: the other side's rows -/
def rq_G (s : Nat → Int32) (A : Nat → Nat → Int32) (L : Nat → Nat → Int64) (s' : Nat → Int32) (A' : Nat → Nat → Int32) (L' : Nat → Nat → Int64) : Prop := (s' 8802 = s 8802 ∧ s' 8804 = s 8804 ∧ s' 8810 = s 8810 ∧ s' 8818 = s 8818 ∧ s' 8819 = s 8819) ∧ (A' 91 = A 91 ∧ A' 92 = A 92 ∧ A' 93 = A 93 ∧ A' 89 = A 89 ∧ A' 90 = A 90) ∧ L' 94 = L 94 ∧ L' 95 = L 95 ∧ s' 8865 = s 8865 ∧ A' 131 = A 131 ∧ rq_D (s 8819).toInt.toNat A A'
/-- what is told of MEN and of the SHIP stands in one side's rows -/
def rq_O (V : Nat → Int) (ns : List Nat) (ω : Nat → Nat) (d : Nat) (A : Nat → Nat → Int32) : Prop := (∀ i, i < ns.length → (∀ p, p < 4 → (A 98 (4 * (6 * d + i) + p)).toInt = V (ns.getD i 0 + 1 + p)) ∧ (A 99 (6 * d + i)).toInt = V (ns.getD i 0 + 5)) ∧ (A 100 d).toInt = py_v V (ω 0) 0 20 ∧ (A 101 d).toInt = py_v V (ω 0) 1 99 ∧ (A 102 d).toInt = py_v V (ω 0) 2 50 ∧ (A 103 d).toInt = py_v V (ω 1) 0 60 ∧ (A 104 d).toInt = py_v V (ω 2) 0 999 ∧ (A 105 d).toInt = py_v V (ω 3) 0 0
section RQ
variable {K V P : Nat → Int} {σ : py_S} {M : Nat} {ns : List Nat} {o e : Nat} {s s1 s2 : Nat → Int32} {A A1 A2 : Nat → Nat → Int32} {L L1 L2 : Nat → Nat → Int64}
theorem rq_F_r : rq_F s A L s A L := ⟨⟨rfl, rfl, rfl, rfl, rfl⟩, ⟨rfl, rfl, rfl, rfl, rfl⟩, rfl, rfl, rfl, rfl, fun _ _ _ => rfl⟩
theorem rq_D_r {d : Nat} : rq_D d A A := fun _ _ _ _ _ => rfl
theorem rq_D_t {d : Nat} (a : rq_D d A A1) (b : rq_D d A1 A2) : rq_D d A A2 := fun c j h1 h2 h3 => (b c j h1 h2 h3).trans (a c j h1 h2 h3)
theorem rq_D_up {d c i : Nat} {v : Int32} (a : rq_D d A A1) (h : rq_own d c i) : rq_D d A (bh_up A1 c i v) := fun c' j h1 h2 h3 => by
  by_cases e : c' = c
  · subst e
    by_cases e2 : j = i
    · subst e2
      exact absurd h h3
    · rw [bh_up_j e2]
      exact a c' j h1 h2 h3
  · rw [bh_up_ne e]
    exact a c' j h1 h2 h3
theorem rq_D_ot {d c i : Nat} {v : Int32} (a : rq_D d A A1) (h : c < 97 ∨ 105 < c) : rq_D d A (bh_up A1 c i v) := fun c' j h1 h2 h3 => by
  rw [bh_up_ne (by omega)]
  exact a c' j h1 h2 h3
theorem rq_G_of (h : rq_F s A L s1 A1 L1) : rq_G s A L s1 A1 L1 := ⟨h.1, h.2.1, h.2.2.1, h.2.2.2.1, h.2.2.2.2.1, h.2.2.2.2.2.1, fun c j h1 h2 _ => congrFun (h.2.2.2.2.2.2 c h1 h2) j⟩
theorem rq_G_r : rq_G s A L s A L := rq_G_of ⟨⟨rfl, rfl, rfl, rfl, rfl⟩, ⟨rfl, rfl, rfl, rfl, rfl⟩, rfl, rfl, rfl, rfl, fun _ _ _ => rfl⟩
theorem rq_G_t (a : rq_G s A L s1 A1 L1) (b : rq_G s1 A1 L1 s2 A2 L2) : rq_G s A L s2 A2 L2 := ⟨⟨b.1.1.trans a.1.1, b.1.2.1.trans a.1.2.1, b.1.2.2.1.trans a.1.2.2.1, b.1.2.2.2.1.trans a.1.2.2.2.1, b.1.2.2.2.2.trans a.1.2.2.2.2⟩, ⟨b.2.1.1.trans a.2.1.1, b.2.1.2.1.trans a.2.1.2.1, b.2.1.2.2.1.trans a.2.1.2.2.1, b.2.1.2.2.2.1.trans a.2.1.2.2.2.1, b.2.1.2.2.2.2.trans a.2.1.2.2.2.2⟩, b.2.2.1.trans a.2.2.1, b.2.2.2.1.trans a.2.2.2.1, b.2.2.2.2.1.trans a.2.2.2.2.1, b.2.2.2.2.2.1.trans a.2.2.2.2.2.1, rq_D_t a.2.2.2.2.2.2 (by rw [← a.1.2.2.2.2]; exact b.2.2.2.2.2.2)⟩
theorem rq_T_G (hT : rq_T K V P M A) (hF : rq_G s A L s1 A1 L1) : rq_T K V P M A1 := by
  unfold rq_T
  rw [hF.2.1.1, hF.2.1.2.1, hF.2.1.2.2.1]
  exact hT
/-- a man is told: n MEN are ahead of him, his name stands at τ -/
def rq_M (V : Nat → Int) (ok : Prop) (τ n d : Nat) (A A' : Nat → Nat → Int32) : Prop := (∀ c, 100 ≤ c → c ≤ 105 → A' c = A c) ∧ (∀ j, j < 4 * (6 * d + n) → A' 98 j = A 98 j) ∧ (∀ j, j < 6 * d + n → A' 99 j = A 99 j) ∧ (ok → (∀ p, p < 4 → (A' 98 (4 * (6 * d + n) + p)).toInt = V (τ + 1 + p)) ∧ (A' 99 (6 * d + n)).toInt = V (τ + 5))
theorem rq_up_i {f : Nat → Int32} {i : Nat} {v : Int32} : upd f i v i = v := if_pos rfl
theorem rq_up_o {f : Nat → Int32} {i j : Nat} {v : Int32} (h : j ≠ i) : upd f i v j = f j := if_neg h
theorem rq_M_of {V : Nat → Int} {ok : Prop} {τ n d : Nat} {i0 i1 i2 i3 k : Nat} {v0 v1 v2 v3 v4 : Int32} (hg : ∀ c, 100 ≤ c → c ≤ 105 → A1 c = A c) (w98 : A1 98 = upd (upd (upd (upd (A 98) i0 v0) i1 v1) i2 v2) i3 v3) (w99 : A1 99 = upd (A 99) k v4) (e0 : i0 = 4 * (6 * d + n)) (e1 : i1 = 4 * (6 * d + n) + 1) (e2 : i2 = 4 * (6 * d + n) + 2) (e3 : i3 = 4 * (6 * d + n) + 3) (ek : k = 6 * d + n) (hv : ok → v0.toInt = V (τ + 1) ∧ v1.toInt = V (τ + 2) ∧ v2.toInt = V (τ + 3) ∧ v3.toInt = V (τ + 4) ∧ v4.toInt = V (τ + 5)) : rq_M V ok τ n d A A1 := by
  subst e0
  subst e1
  subst e2
  subst e3
  subst ek
  refine ⟨hg, fun j hj => ?_, fun j hj => ?_, fun q => ⟨fun p hp => ?_, ?_⟩⟩
  · rw [w98, rq_up_o (by omega), rq_up_o (by omega), rq_up_o (by omega), rq_up_o (by omega)]
  · rw [w99, rq_up_o (by omega)]
  · obtain ⟨a0, a1, a2, a3, a4⟩ := hv q
    rw [w98]
    rcases (show p = 0 ∨ p = 1 ∨ p = 2 ∨ p = 3 by omega) with rfl | rfl | rfl | rfl
    · rw [rq_up_o (by omega), rq_up_o (by omega), rq_up_o (by omega)]
      show (upd _ (4 * (6 * d + n)) v0 (4 * (6 * d + n))).toInt = V (τ + 1)
      rw [rq_up_i]
      exact a0
    · rw [rq_up_o (by omega), rq_up_o (by omega), rq_up_i]
      exact a1
    · rw [rq_up_o (by omega), rq_up_i]
      exact a2
    · rw [rq_up_i]
      exact a3
  · rw [w99, rq_up_i]
    exact (hv q).2.2.2.2
theorem rq_O_man {V : Nat → Int} {ok : Prop} {τ d : Nat} {ω : Nat → Nat} (hM : rq_M V ok τ ns.length d A A1) (q : ok) (h : rq_O V ns ω d A) : rq_O V (ns ++ [τ]) ω d A1 := by
  obtain ⟨m1, m2, m3, m4⟩ := hM
  obtain ⟨m4, m5⟩ := m4 q
  obtain ⟨o1, o2⟩ := h
  refine ⟨fun i hi => ?_, ?_⟩
  · rw [List.length_append] at hi
    have hi : i < ns.length + 1 := hi
    by_cases ei : i = ns.length
    · have eg : (ns ++ [τ]).getD i 0 = τ := by
        rw [ei, List.getD_eq_getElem?_getD, List.getElem?_append_right (Nat.le_refl _), Nat.sub_self]
        rfl
      rw [eg, ei]
      exact ⟨m4, m5⟩
    · have eg : (ns ++ [τ]).getD i 0 = ns.getD i 0 := by
        rw [List.getD_eq_getElem?_getD, List.getD_eq_getElem?_getD, List.getElem?_append_left (by omega)]
      rw [eg]
      have g := o1 i (by omega)
      refine ⟨fun p hp => ?_, ?_⟩
      · rw [m2 _ (by omega)]
        exact g.1 p hp
      · rw [m3 _ (by omega)]
        exact g.2
  · rw [m1 100 (by decide) (by decide), m1 101 (by decide) (by decide), m1 102 (by decide) (by decide), m1 103 (by decide) (by decide), m1 104 (by decide) (by decide), m1 105 (by decide) (by decide)]
    exact o2
/-- the SHIP's numbers, one row each -/
theorem rq_O_n {V : Nat → Int} {d : Nat} {ω ω' : Nat → Nat} (h : rq_O V ns ω d A) (h8 : A1 98 = A 98) (h9 : A1 99 = A 99) (r0 : (A1 100 d).toInt = py_v V (ω' 0) 0 20) (r1 : (A1 101 d).toInt = py_v V (ω' 0) 1 99) (r2 : (A1 102 d).toInt = py_v V (ω' 0) 2 50) (r3 : (A1 103 d).toInt = py_v V (ω' 1) 0 60) (r4 : (A1 104 d).toInt = py_v V (ω' 2) 0 999) (r5 : (A1 105 d).toInt = py_v V (ω' 3) 0 0) : rq_O V ns ω' d A1 := by
  refine ⟨?_, r0, r1, r2, r3, r4, r5⟩
  rw [h8, h9]
  exact h.1
/-- rows that stay, and laws told: nothing else -/
theorem rq_O_s {V : Nat → Int} {ns : List Nat} {ω ω' : Nat → Nat} {d : Nat} (h : rq_O V ns ω d A) (hA : ∀ c, 97 ≤ c → c ≤ 105 → A1 c = A c) (hw : ∀ i, i < 4 → ω' i = ω i) : rq_O V ns ω' d A1 := by
  unfold rq_O
  rw [hA 98 (by decide) (by decide), hA 99 (by decide) (by decide), hA 100 (by decide) (by decide), hA 101 (by decide) (by decide), hA 102 (by decide) (by decide), hA 103 (by decide) (by decide), hA 104 (by decide) (by decide), hA 105 (by decide) (by decide), hw 0 (by decide), hw 1 (by decide), hw 2 (by decide), hw 3 (by decide)]
  exact h
theorem rq_F_t (a : rq_F s A L s1 A1 L1) (b : rq_F s1 A1 L1 s2 A2 L2) : rq_F s A L s2 A2 L2 := ⟨⟨b.1.1.trans a.1.1, b.1.2.1.trans a.1.2.1, b.1.2.2.1.trans a.1.2.2.1, b.1.2.2.2.1.trans a.1.2.2.2.1, b.1.2.2.2.2.trans a.1.2.2.2.2⟩, ⟨b.2.1.1.trans a.2.1.1, b.2.1.2.1.trans a.2.1.2.1, b.2.1.2.2.1.trans a.2.1.2.2.1, b.2.1.2.2.2.1.trans a.2.1.2.2.2.1, b.2.1.2.2.2.2.trans a.2.1.2.2.2.2⟩, b.2.2.1.trans a.2.2.1, b.2.2.2.1.trans a.2.2.2.1, b.2.2.2.2.1.trans a.2.2.2.2.1, b.2.2.2.2.2.1.trans a.2.2.2.2.2.1, fun c c1 c2 => (b.2.2.2.2.2.2 c c1 c2).trans (a.2.2.2.2.2.2 c c1 c2)⟩
theorem rq_T_F (hT : rq_T K V P M A) (hF : rq_F s A L s1 A1 L1) : rq_T K V P M A1 := by
  unfold rq_T
  rw [hF.2.1.1, hF.2.1.2.1, hF.2.1.2.2.1]
  exact hT
/-- other fields and rows written -/
theorem rq_R_s (hR : rq_R K P M σ ns o e s A L) (h11 : s1 8811 = s 8811) (h13 : s1 8813 = s 8813) (h14 : s1 8814 = s 8814) (h15 : s1 8815 = s 8815) (h16 : s1 8816 = s 8816) (h19 : s1 8819 = s 8819) (h20 : s1 8820 = s 8820) (h12 : s1 8812 = s 8812) (hA : A1 97 = A 97) : rq_R K P M σ ns o e s1 A1 L := by
  unfold rq_R
  rw [h11, h13, h14, h15, h16, h19, h20, h12, hA]
  exact hR
theorem rq_R_e (hR : rq_R K P M σ ns o 0 s A L) : rq_R K P M σ ns o 1 s A L := ⟨hR.1, fun h => ⟨(hR.2.1 h).1, (hR.2.1 h).2.1, (hR.2.1 h).2.2.1, fun q => ⟨((hR.2.1 h).2.2.2.1 q).1, Nat.lt_succ_of_lt ((hR.2.1 h).2.2.2.1 q).2⟩, (hR.2.1 h).2.2.2.2⟩, hR.2.2⟩
/-- another number of open brackets -/
theorem rq_R_o {o1 : Nat} (hR : rq_R K P M σ ns o e s A L) (h11 : s1 8811 = s 8811) (h13 : s1 8813 = s 8813) (h14 : s1 8814 = s 8814) (h15 : s1 8815 = s 8815) (h16 : s1 8816 = s 8816) (h19 : s1 8819 = s 8819) (h20 : s1 8820 = s 8820) (h12 : σ.2.1 = 0 → (s1 8812).toInt = (o1 : Int)) (hA : A1 97 = A 97) : rq_R K P M σ ns o1 e s1 A1 L := by
  unfold rq_R
  rw [h11, h13, h14, h15, h16, h19, h20, hA]
  exact ⟨hR.1, fun h => ⟨(hR.2.1 h).1, (hR.2.1 h).2.1, (hR.2.1 h).2.2.1, (hR.2.1 h).2.2.2.1, (hR.2.1 h).2.2.2.2.1, (hR.2.1 h).2.2.2.2.2.1, (hR.2.1 h).2.2.2.2.2.2.1, (hR.2.1 h).2.2.2.2.2.2.2.1, h12 h⟩, hR.2.2⟩
theorem rq_fl (hR : rq_R K P M σ ns o e s A L) (hT : rq_T K V P M A) {k : Nat} (hk : k ≠ 0) (h2 : (s 8813).toInt ≤ 0 → (s1 8813).toInt = (k : Int) ∧ s1 8814 = A 92 (s 8811).toInt.toNat) (h3 : 0 < (s 8813).toInt → s1 8813 = s 8813 ∧ s1 8814 = s 8814) : rq_R K P M (py_fl k σ) ns o e s1 A1 L1 := by
  obtain ⟨r1, r2, r3⟩ := hR
  by_cases e : σ.2.1 = 0
  · have e2 : py_fl k σ = (σ.1, k, σ.2.2) := if_pos e
    rw [e2]
    have g := h2 (by omega)
    have r2 := r2 e
    refine ⟨g.1, fun h => absurd h hk, fun _ => ?_⟩
    have ei : (s 8811).toInt.toNat = σ.1 := by omega
    rw [g.2, ei]
    exact (hT.2.2.1 σ.1 r2.2.1).2.1
  · have e2 : py_fl k σ = σ := if_neg e
    rw [e2]
    have g := h3 (by omega)
    refine ⟨by rw [g.1]; exact r1, fun h => absurd h e, fun h => ?_⟩
    rw [g.2]
    exact r3 h
/-- on to the next token, or a fault already -/
theorem rq_go (he : e ≤ 1) (hR : rq_R K P M σ ns o e s A L) (hT : rq_T K V P M A) (k0 : σ.2.1 = 0 → K σ.1 ≠ 0) (h15 : s1 8815 = s 8815) (h16 : s1 8816 = s 8816) (h19 : s1 8819 = s 8819) (h20 : s1 8820 = s 8820) (h12 : s1 8812 = s 8812) (h1 : (s 8811).toInt ≠ 400 → (s 8811).toInt < 400 → (s1 8811).toInt = (s 8811).toInt + 1) (h2 : (s 8811).toInt ≠ 400 → s1 8813 = s 8813 ∧ s1 8814 = s 8814) (h3 : (s 8811).toInt = 400 → ((s 8813).toInt ≤ 0 → (s1 8813).toInt = 2 ∧ s1 8814 = A 92 (s 8811).toInt.toNat) ∧ (0 < (s 8813).toInt → s1 8813 = s 8813 ∧ s1 8814 = s 8814)) : rq_R K P M (py_go σ) ns o 0 s1 A L := by
  obtain ⟨r1, r2, r3⟩ := hR
  by_cases hf : σ.2.1 = 0
  · have r2 := r2 hf
    have k0 := k0 hf
    have m1 := hT.1
    have ei : (s 8811).toInt.toNat = σ.1 := by omega
    by_cases e : σ.1 = 400
    · rw [py_go_e hf e]
      have g := (h3 (by omega)).1 (by omega)
      refine ⟨g.1, fun h => absurd (show (2 : Nat) = 0 from h) (by decide), fun _ => ?_⟩
      rw [g.2, ei]
      exact (hT.2.2.1 σ.1 r2.2.1).2.1
    · rw [py_go_s hf e]
      have g := h1 (by omega) (by omega)
      have g2 := h2 (by omega)
      have n2 := hT.2.2.2.1 σ.1 r2.2.1 (by omega) k0
      refine ⟨by rw [g2.1]; exact r1, fun _ => ⟨?_, n2, by rw [h15]; exact r2.2.2.1, fun h => ?_, by rw [h20]; exact r2.2.2.2.2.1, r2.2.2.2.2.2.1, r2.2.2.2.2.2.2.1, by rw [h19]; exact r2.2.2.2.2.2.2.2.1, by rw [h12]; exact r2.2.2.2.2.2.2.2.2⟩, fun h => absurd hf h⟩
      · show (s1 8811).toInt = ((σ.1 + 1 : Nat) : Int)
        omega
      · rw [h16]
        have q := r2.2.2.2.1 h
        refine ⟨q.1, ?_⟩
        show σ.2.2.2.1 < σ.1 + 1 + 0
        omega
  · rw [py_go_f hf]
    have hF : 0 < (s 8813).toInt := by omega
    by_cases e : (s 8811).toInt = 400
    · have g := (h3 e).2 hF
      exact ⟨by rw [g.1]; exact r1, fun h => absurd h hf, fun h => by rw [g.2]; exact r3 h⟩
    · have g := h2 e
      exact ⟨by rw [g.1]; exact r1, fun h => absurd h hf, fun h => by rw [g.2]; exact r3 h⟩
end RQ
theorem rq_R_0 {K P : Nat → Int} {σ : py_S} {M : Nat} {ns : List Nat} {o e : Nat} {s : Nat → Int32} {A : Nat → Nat → Int32} {L : Nat → Nat → Int64} {e2 o2 : Nat} (hf : σ.2.1 ≠ 0) (hR : rq_R K P M σ ns o e s A L) : rq_R K P M σ ns o2 e2 s A L := ⟨hR.1, fun h => absurd h hf, hR.2.2⟩
/-- a later fault is noted at the token τ -/
theorem rq_wr {K V P : Nat → Int} {σ : py_S} {M : Nat} {ns : List Nat} {o : Nat} {s s1 : Nat → Int32} {A : Nat → Nat → Int32} {L : Nat → Nat → Int64} {k τ : Nat} {p : Int} (hR : rq_R K P M σ ns o 0 s A L) (hT : rq_T K V P M A) (hf : σ.2.1 = 0) (hk : k ≠ 0) (hτ : τ = σ.1) (hp : p = P τ) (f : ∀ j, j ≠ 8815 → j ≠ 8816 → s1 j = s j) {pv kv : Int32} (hpv : pv.toInt = p) (hkv : kv.toInt = (k : Int)) (w : ((0 < (s 8813).toInt ∨ ((s 8815).toInt ≠ 0 ∧ ((s 8816).toInt < pv.toInt ∨ (pv.toInt = (s 8816).toInt ∧ (s 8815).toInt ≤ kv.toInt)))) ∧ s1 8815 = s 8815 ∧ s1 8816 = s 8816) ∨ (¬ (0 < (s 8813).toInt ∨ ((s 8815).toInt ≠ 0 ∧ ((s 8816).toInt < pv.toInt ∨ (pv.toInt = (s 8816).toInt ∧ (s 8815).toInt ≤ kv.toInt)))) ∧ s1 8815 = kv ∧ s1 8816 = pv)) : rq_R K P M (py_wr k τ σ) ns o 1 s1 A L := by
  obtain ⟨r1, r2, r3⟩ := hR
  have r2 := r2 hf
  have c11 := f 8811 (by decide) (by decide)
  have c13 := f 8813 (by decide) (by decide)
  have c19 := f 8819 (by decide) (by decide)
  have c20 := f 8820 (by decide) (by decide)
  have c12 := f 8812 (by decide) (by decide)
  subst hτ
  by_cases e0 : σ.2.2.1 = 0
  · have ee : py_wr k σ.1 σ = (σ.1, σ.2.1, k, σ.1, σ.2.2.2.2) := if_pos ⟨hf, e0⟩
    rw [ee]
    rcases w with w | w
    · exfalso
      have := r2.2.2.1
      omega
    · refine ⟨by rw [c13]; exact r1, fun _ => ⟨by rw [c11]; exact r2.1, r2.2.1, by rw [w.2.1]; exact hkv, fun _ => ⟨by rw [w.2.2, hpv]; exact hp, Nat.lt_succ_self _⟩, by rw [c20]; exact r2.2.2.2.2.1, r2.2.2.2.2.2.1, r2.2.2.2.2.2.2.1, by rw [c19]; exact r2.2.2.2.2.2.2.2.1, by rw [c12]; exact r2.2.2.2.2.2.2.2.2⟩, fun h => absurd hf h⟩
  · have ee : py_wr k σ.1 σ = σ := if_neg (fun h => e0 h.2)
    rw [ee]
    have q := r2.2.2.2.1 e0
    have lt := hT.2.2.2.2 σ.2.2.2.1 σ.1 q.2 r2.2.1
    rcases w with w | w
    · refine ⟨by rw [c13]; exact r1, fun _ => ⟨by rw [c11]; exact r2.1, r2.2.1, by rw [w.2.1]; exact r2.2.2.1, fun _ => ⟨by rw [w.2.2]; exact q.1, Nat.lt_succ_of_lt q.2⟩, by rw [c20]; exact r2.2.2.2.2.1, r2.2.2.2.2.2.1, r2.2.2.2.2.2.2.1, by rw [c19]; exact r2.2.2.2.2.2.2.2.1, by rw [c12]; exact r2.2.2.2.2.2.2.2.2⟩, fun h => absurd hf h⟩
    · exfalso
      have := r2.2.2.1
      omega
def py_un (K : Nat → Int) (σ : py_S) : py_S := if σ.2.1 = 0 ∧ (K σ.1 = 2 ∨ (35 ≤ K σ.1 ∧ K σ.1 ≤ 43)) then py_go σ else py_fl 1 σ
theorem py_un_x {K : Nat → Int} {σ : py_S} {o : Nat} (ht : σ.2.1 = 0 → σ.1 ≤ 400) (h6 : ¬ (σ.2.1 = 0 ∧ K σ.1 = 6)) : py_x K true o σ = py_x K false o (py_un K σ) := by
  by_cases h : σ.2.1 = 0
  · by_cases hk : K σ.1 = 2 ∨ (35 ≤ K σ.1 ∧ K σ.1 ≤ 43)
    · rw [py_x_u (ht h) h hk]
      unfold py_un
      rw [if_pos ⟨h, hk⟩]
    · rw [py_x_n (ht h) h hk (fun e => h6 ⟨h, e⟩)]
      unfold py_un
      rw [if_neg (fun e => hk e.2), py_x_f (py_fl_f (by decide))]
  · rw [py_x_f h]
    unfold py_un
    rw [if_neg (fun e => h e.1)]
    have e2 : py_fl 1 σ = σ := if_neg h
    rw [e2, py_x_f h]
theorem rq_le {K V P : Nat → Int} {σ : py_S} {M : Nat} {ns : List Nat} {o e : Nat} {s : Nat → Int32} {A A0 : Nat → Nat → Int32} {L : Nat → Nat → Int64} (hT : rq_T K V P M A0) (hR : rq_R K P M σ ns o e s A L) (h : σ.2.1 = 0) : σ.1 ≤ 400 := by
  have a := (hR.2.1 h).2.1
  have b := hT.1
  omega
theorem bu_10_0 : mm_at mt_P 10 0 = some ((0, 1, .aload_n 0, 0, 0, 0, 0), 4, 2, 1, 9, 1, 0, 0) := rfl
theorem bu_10_1 : mm_at mt_P 10 1 = some ((1, 3, .getfield 203, 9, 13, 0, 1230), 4, 2, 1, 9, 1, 0, 0) := rfl
theorem bu_10_4 : mm_at mt_P 10 4 = some ((4, 3, .ifCond .gt 11, 0, 0, 0, 0), 4, 2, 1, 9, 1, 0, 0) := rfl
theorem bu_10_7 : mm_at mt_P 10 7 = some ((7, 1, .aload_n 0, 0, 0, 0, 0), 4, 2, 1, 9, 1, 0, 0) := rfl
theorem bu_10_8 : mm_at mt_P 10 8 = some ((8, 1, .iconst 2, 0, 0, 0, 0), 4, 2, 1, 9, 1, 0, 0) := rfl
theorem bu_10_9 : mm_at mt_P 10 9 = some ((9, 3, .invokevirtual 221, 45, 0, 0, 1475), 4, 2, 1, 9, 1, 0, 0) := rfl
theorem bu_10_12 : mm_at mt_P 10 12 = some ((12, 3, .ifCond .ne 10, 0, 0, 0, 0), 4, 2, 1, 9, 1, 0, 0) := rfl
theorem bu_10_15 : mm_at mt_P 10 15 = some ((15, 1, .aload_n 0, 0, 0, 0, 0), 4, 2, 1, 9, 1, 0, 0) := rfl
theorem bu_10_16 : mm_at mt_P 10 16 = some ((16, 1, .iconst 1, 0, 0, 0, 0), 4, 2, 1, 9, 1, 0, 0) := rfl
theorem bu_10_17 : mm_at mt_P 10 17 = some ((17, 3, .invokevirtual 218, 27, 0, 0, 1483), 4, 2, 1, 9, 1, 0, 0) := rfl
theorem bu_10_20 : mm_at mt_P 10 20 = some ((20, 1, .iload_n 1, 0, 0, 0, 0), 4, 2, 1, 9, 1, 0, 0) := rfl
theorem bu_10_21 : mm_at mt_P 10 21 = some ((21, 1, .ireturn, 0, 0, 0, 0), 4, 2, 1, 9, 1, 0, 0) := rfl
theorem bu_10_22 : mm_at mt_P 10 22 = some ((22, 1, .aload_n 0, 0, 0, 0, 0), 4, 2, 1, 9, 1, 0, 0) := rfl
theorem bu_10_23 : mm_at mt_P 10 23 = some ((23, 3, .getfield 27, 9, 7, 0, 1224), 4, 2, 1, 9, 1, 0, 0) := rfl
theorem bu_10_26 : mm_at mt_P 10 26 = some ((26, 1, .aload_n 0, 0, 0, 0, 0), 4, 2, 1, 9, 1, 0, 0) := rfl
theorem bu_10_27 : mm_at mt_P 10 27 = some ((27, 3, .getfield 206, 9, 11, 0, 1228), 4, 2, 1, 9, 1, 0, 0) := rfl
theorem bu_10_30 : mm_at mt_P 10 30 = some ((30, 1, .iaload, 0, 0, 0, 0), 4, 2, 1, 9, 1, 0, 0) := rfl
theorem bu_10_31 : mm_at mt_P 10 31 = some ((31, 1, .istore_n 3, 0, 0, 0, 0), 4, 2, 1, 9, 1, 0, 0) := rfl
theorem bu_10_32 : mm_at mt_P 10 32 = some ((32, 1, .iload_n 3, 0, 0, 0, 0), 4, 2, 1, 9, 1, 0, 0) := rfl
theorem bu_10_33 : mm_at mt_P 10 33 = some ((33, 1, .iload_n 1, 0, 0, 0, 0), 4, 2, 1, 9, 1, 0, 0) := rfl
theorem bu_10_34 : mm_at mt_P 10 34 = some ((34, 3, .if_icmp .lt 8, 0, 0, 0, 0), 4, 2, 1, 9, 1, 0, 0) := rfl
theorem bu_10_37 : mm_at mt_P 10 37 = some ((37, 1, .iload_n 3, 0, 0, 0, 0), 4, 2, 1, 9, 1, 0, 0) := rfl
theorem bu_10_38 : mm_at mt_P 10 38 = some ((38, 1, .iload_n 2, 0, 0, 0, 0), 4, 2, 1, 9, 1, 0, 0) := rfl
theorem bu_10_39 : mm_at mt_P 10 39 = some ((39, 3, .if_icmp .le 12, 0, 0, 0, 0), 4, 2, 1, 9, 1, 0, 0) := rfl
theorem bu_10_42 : mm_at mt_P 10 42 = some ((42, 1, .aload_n 0, 0, 0, 0, 0), 4, 2, 1, 9, 1, 0, 0) := rfl
theorem bu_10_43 : mm_at mt_P 10 43 = some ((43, 1, .iconst 5, 0, 0, 0, 0), 4, 2, 1, 9, 1, 0, 0) := rfl
theorem bu_10_44 : mm_at mt_P 10 44 = some ((44, 1, .aload_n 0, 0, 0, 0, 0), 4, 2, 1, 9, 1, 0, 0) := rfl
theorem bu_10_45 : mm_at mt_P 10 45 = some ((45, 3, .getfield 206, 9, 11, 0, 1228), 4, 2, 1, 9, 1, 0, 0) := rfl
theorem bu_10_48 : mm_at mt_P 10 48 = some ((48, 3, .invokevirtual 273, 112, 0, 0, 1499), 4, 2, 1, 9, 1, 0, 0) := rfl
theorem bu_10_51 : mm_at mt_P 10 51 = some ((51, 1, .aload_n 0, 0, 0, 0, 0), 4, 2, 1, 9, 1, 0, 0) := rfl
theorem bu_10_52 : mm_at mt_P 10 52 = some ((52, 3, .invokevirtual 224, 37, 0, 0, 1491), 4, 2, 1, 9, 1, 0, 0) := rfl
theorem bu_10_55 : mm_at mt_P 10 55 = some ((55, 1, .iload_n 3, 0, 0, 0, 0), 4, 2, 1, 9, 1, 0, 0) := rfl
theorem bu_10_56 : mm_at mt_P 10 56 = some ((56, 1, .ireturn, 0, 0, 0, 0), 4, 2, 1, 9, 1, 0, 0) := rfl
theorem bu_15_0 : mm_at mt_P 15 0 = some ((0, 1, .aload_n 0, 0, 0, 0, 0), 3, 1, 1, 9, 0, 0, 0) := rfl
theorem bu_15_1 : mm_at mt_P 15 1 = some ((1, 3, .getfield 283, 9, 43, 0, 1260), 3, 1, 1, 9, 0, 0, 0) := rfl
theorem bu_15_4 : mm_at mt_P 15 4 = some ((4, 3, .ifCond .le 87, 0, 0, 0, 0), 3, 1, 1, 9, 0, 0, 0) := rfl
theorem bu_15_7 : mm_at mt_P 15 7 = some ((7, 1, .aload_n 0, 0, 0, 0, 0), 3, 1, 1, 9, 0, 0, 0) := rfl
theorem bu_15_8 : mm_at mt_P 15 8 = some ((8, 3, .getfield 98, 9, 42, 0, 1259), 3, 1, 1, 9, 0, 0, 0) := rfl
theorem bu_15_11 : mm_at mt_P 15 11 = some ((11, 1, .aload_n 0, 0, 0, 0, 0), 3, 1, 1, 9, 0, 0, 0) := rfl
theorem bu_15_12 : mm_at mt_P 15 12 = some ((12, 3, .getfield 283, 9, 43, 0, 1260), 3, 1, 1, 9, 0, 0, 0) := rfl
theorem bu_15_15 : mm_at mt_P 15 15 = some ((15, 1, .iconst 1, 0, 0, 0, 0), 3, 1, 1, 9, 0, 0, 0) := rfl
theorem bu_15_16 : mm_at mt_P 15 16 = some ((16, 1, .isub, 0, 0, 0, 0), 3, 1, 1, 9, 0, 0, 0) := rfl
theorem bu_15_17 : mm_at mt_P 15 17 = some ((17, 1, .iaload, 0, 0, 0, 0), 3, 1, 1, 9, 0, 0, 0) := rfl
theorem bu_15_18 : mm_at mt_P 15 18 = some ((18, 1, .istore_n 2, 0, 0, 0, 0), 3, 1, 1, 9, 0, 0, 0) := rfl
theorem bu_15_19 : mm_at mt_P 15 19 = some ((19, 1, .iload_n 2, 0, 0, 0, 0), 3, 1, 1, 9, 0, 0, 0) := rfl
theorem bu_15_20 : mm_at mt_P 15 20 = some ((20, 2, .bipush 6, 0, 0, 0, 0), 3, 1, 1, 9, 0, 0, 0) := rfl
theorem bu_15_22 : mm_at mt_P 15 22 = some ((22, 3, .if_icmp .eq 19, 0, 0, 0, 0), 3, 1, 1, 9, 0, 0, 0) := rfl
theorem bu_15_25 : mm_at mt_P 15 25 = some ((25, 1, .iload_n 1, 0, 0, 0, 0), 3, 1, 1, 9, 0, 0, 0) := rfl
theorem bu_15_26 : mm_at mt_P 15 26 = some ((26, 3, .ifCond .eq 16, 0, 0, 0, 0), 3, 1, 1, 9, 0, 0, 0) := rfl
theorem bu_15_29 : mm_at mt_P 15 29 = some ((29, 1, .iload_n 2, 0, 0, 0, 0), 3, 1, 1, 9, 0, 0, 0) := rfl
theorem bu_15_30 : mm_at mt_P 15 30 = some ((30, 2, .bipush 8, 0, 0, 0, 0), 3, 1, 1, 9, 0, 0, 0) := rfl
theorem bu_15_32 : mm_at mt_P 15 32 = some ((32, 3, .if_icmp .eq 9, 0, 0, 0, 0), 3, 1, 1, 9, 0, 0, 0) := rfl
theorem bu_15_35 : mm_at mt_P 15 35 = some ((35, 1, .iload_n 2, 0, 0, 0, 0), 3, 1, 1, 9, 0, 0, 0) := rfl
theorem bu_15_36 : mm_at mt_P 15 36 = some ((36, 2, .bipush 9, 0, 0, 0, 0), 3, 1, 1, 9, 0, 0, 0) := rfl
theorem bu_15_38 : mm_at mt_P 15 38 = some ((38, 3, .if_icmp .ne 4, 0, 0, 0, 0), 3, 1, 1, 9, 0, 0, 0) := rfl
theorem bu_15_41 : mm_at mt_P 15 41 = some ((41, 1, .return_, 0, 0, 0, 0), 3, 1, 1, 9, 0, 0, 0) := rfl
theorem bu_15_42 : mm_at mt_P 15 42 = some ((42, 1, .aload_n 0, 0, 0, 0, 0), 3, 1, 1, 9, 0, 0, 0) := rfl
theorem bu_15_43 : mm_at mt_P 15 43 = some ((43, 1, .dup, 0, 0, 0, 0), 3, 1, 1, 9, 0, 0, 0) := rfl
theorem bu_15_44 : mm_at mt_P 15 44 = some ((44, 3, .getfield 283, 9, 43, 0, 1260), 3, 1, 1, 9, 0, 0, 0) := rfl
theorem bu_15_47 : mm_at mt_P 15 47 = some ((47, 1, .iconst 1, 0, 0, 0, 0), 3, 1, 1, 9, 0, 0, 0) := rfl
theorem bu_15_48 : mm_at mt_P 15 48 = some ((48, 1, .isub, 0, 0, 0, 0), 3, 1, 1, 9, 0, 0, 0) := rfl
theorem bu_15_49 : mm_at mt_P 15 49 = some ((49, 3, .putfield 283, 9, 43, 0, 1260), 3, 1, 1, 9, 0, 0, 0) := rfl
theorem bu_15_52 : mm_at mt_P 15 52 = some ((52, 1, .aload_n 0, 0, 0, 0, 0), 3, 1, 1, 9, 0, 0, 0) := rfl
theorem bu_15_53 : mm_at mt_P 15 53 = some ((53, 1, .iload_n 2, 0, 0, 0, 0), 3, 1, 1, 9, 0, 0, 0) := rfl
theorem bu_15_54 : mm_at mt_P 15 54 = some ((54, 2, .bipush 8, 0, 0, 0, 0), 3, 1, 1, 9, 0, 0, 0) := rfl
theorem bu_15_56 : mm_at mt_P 15 56 = some ((56, 3, .if_icmp .ne 7, 0, 0, 0, 0), 3, 1, 1, 9, 0, 0, 0) := rfl
theorem bu_15_59 : mm_at mt_P 15 59 = some ((59, 1, .iconst 2, 0, 0, 0, 0), 3, 1, 1, 9, 0, 0, 0) := rfl
theorem bu_15_60 : mm_at mt_P 15 60 = some ((60, 3, .goto 24, 0, 0, 0, 0), 3, 1, 1, 9, 0, 0, 0) := rfl
theorem bu_15_63 : mm_at mt_P 15 63 = some ((63, 1, .iload_n 2, 0, 0, 0, 0), 3, 1, 1, 9, 0, 0, 0) := rfl
theorem bu_15_64 : mm_at mt_P 15 64 = some ((64, 2, .bipush 9, 0, 0, 0, 0), 3, 1, 1, 9, 0, 0, 0) := rfl
theorem bu_15_66 : mm_at mt_P 15 66 = some ((66, 3, .if_icmp .ne 7, 0, 0, 0, 0), 3, 1, 1, 9, 0, 0, 0) := rfl
theorem bu_15_69 : mm_at mt_P 15 69 = some ((69, 1, .iconst 3, 0, 0, 0, 0), 3, 1, 1, 9, 0, 0, 0) := rfl
theorem bu_15_70 : mm_at mt_P 15 70 = some ((70, 3, .goto 14, 0, 0, 0, 0), 3, 1, 1, 9, 0, 0, 0) := rfl
theorem bu_15_73 : mm_at mt_P 15 73 = some ((73, 1, .iload_n 2, 0, 0, 0, 0), 3, 1, 1, 9, 0, 0, 0) := rfl
theorem bu_15_74 : mm_at mt_P 15 74 = some ((74, 2, .bipush 10, 0, 0, 0, 0), 3, 1, 1, 9, 0, 0, 0) := rfl
theorem bu_15_76 : mm_at mt_P 15 76 = some ((76, 3, .if_icmp .ne 7, 0, 0, 0, 0), 3, 1, 1, 9, 0, 0, 0) := rfl
theorem bu_15_79 : mm_at mt_P 15 79 = some ((79, 1, .iconst 4, 0, 0, 0, 0), 3, 1, 1, 9, 0, 0, 0) := rfl
theorem bu_15_80 : mm_at mt_P 15 80 = some ((80, 3, .goto 4, 0, 0, 0, 0), 3, 1, 1, 9, 0, 0, 0) := rfl
theorem bu_15_83 : mm_at mt_P 15 83 = some ((83, 1, .iconst 5, 0, 0, 0, 0), 3, 1, 1, 9, 0, 0, 0) := rfl
theorem bu_15_84 : mm_at mt_P 15 84 = some ((84, 1, .iconst 0, 0, 0, 0, 0), 3, 1, 1, 9, 0, 0, 0) := rfl
theorem bu_15_85 : mm_at mt_P 15 85 = some ((85, 3, .invokevirtual 286, 23, 0, 0, 1519), 3, 1, 1, 9, 0, 0, 0) := rfl
theorem bu_15_88 : mm_at mt_P 15 88 = some ((88, 3, .goto (-88), 0, 0, 0, 0), 3, 1, 1, 9, 0, 0, 0) := rfl
theorem bu_15_91 : mm_at mt_P 15 91 = some ((91, 1, .return_, 0, 0, 0, 0), 3, 1, 1, 9, 0, 0, 0) := rfl
theorem bu_23_0 : mm_at mt_P 23 0 = some ((0, 1, .aload_n 0, 0, 0, 0, 0), 3, 2, 1, 9, 0, 0, 0) := rfl
theorem bu_23_1 : mm_at mt_P 23 1 = some ((1, 3, .getfield 92, 9, 40, 0, 1257), 3, 2, 1, 9, 0, 0, 0) := rfl
theorem bu_23_4 : mm_at mt_P 23 4 = some ((4, 1, .aload_n 0, 0, 0, 0, 0), 3, 2, 1, 9, 0, 0, 0) := rfl
theorem bu_23_5 : mm_at mt_P 23 5 = some ((5, 3, .getfield 245, 9, 39, 0, 1256), 3, 2, 1, 9, 0, 0, 0) := rfl
theorem bu_23_8 : mm_at mt_P 23 8 = some ((8, 1, .iload_n 1, 0, 0, 0, 0), 3, 2, 1, 9, 0, 0, 0) := rfl
theorem bu_23_9 : mm_at mt_P 23 9 = some ((9, 1, .iastore, 0, 0, 0, 0), 3, 2, 1, 9, 0, 0, 0) := rfl
theorem bu_23_10 : mm_at mt_P 23 10 = some ((10, 1, .aload_n 0, 0, 0, 0, 0), 3, 2, 1, 9, 0, 0, 0) := rfl
theorem bu_23_11 : mm_at mt_P 23 11 = some ((11, 3, .getfield 95, 9, 41, 0, 1258), 3, 2, 1, 9, 0, 0, 0) := rfl
theorem bu_23_14 : mm_at mt_P 23 14 = some ((14, 1, .aload_n 0, 0, 0, 0, 0), 3, 2, 1, 9, 0, 0, 0) := rfl
theorem bu_23_15 : mm_at mt_P 23 15 = some ((15, 3, .getfield 245, 9, 39, 0, 1256), 3, 2, 1, 9, 0, 0, 0) := rfl
theorem bu_23_18 : mm_at mt_P 23 18 = some ((18, 1, .iload_n 2, 0, 0, 0, 0), 3, 2, 1, 9, 0, 0, 0) := rfl
theorem bu_23_19 : mm_at mt_P 23 19 = some ((19, 1, .iastore, 0, 0, 0, 0), 3, 2, 1, 9, 0, 0, 0) := rfl
theorem bu_23_20 : mm_at mt_P 23 20 = some ((20, 1, .aload_n 0, 0, 0, 0, 0), 3, 2, 1, 9, 0, 0, 0) := rfl
theorem bu_23_21 : mm_at mt_P 23 21 = some ((21, 1, .dup, 0, 0, 0, 0), 3, 2, 1, 9, 0, 0, 0) := rfl
theorem bu_23_22 : mm_at mt_P 23 22 = some ((22, 3, .getfield 245, 9, 39, 0, 1256), 3, 2, 1, 9, 0, 0, 0) := rfl
theorem bu_23_25 : mm_at mt_P 23 25 = some ((25, 1, .iconst 1, 0, 0, 0, 0), 3, 2, 1, 9, 0, 0, 0) := rfl
theorem bu_23_26 : mm_at mt_P 23 26 = some ((26, 1, .iadd, 0, 0, 0, 0), 3, 2, 1, 9, 0, 0, 0) := rfl
theorem bu_23_27 : mm_at mt_P 23 27 = some ((27, 3, .putfield 245, 9, 39, 0, 1256), 3, 2, 1, 9, 0, 0, 0) := rfl
theorem bu_23_30 : mm_at mt_P 23 30 = some ((30, 1, .return_, 0, 0, 0, 0), 3, 2, 1, 9, 0, 0, 0) := rfl
theorem bu_26_0 : mm_at mt_P 26 0 = some ((0, 1, .aload_n 0, 0, 0, 0, 0), 3, 0, 1, 9, 0, 0, 0) := rfl
theorem bu_26_1 : mm_at mt_P 26 1 = some ((1, 1, .iconst 0, 0, 0, 0, 0), 3, 0, 1, 9, 0, 0, 0) := rfl
theorem bu_26_2 : mm_at mt_P 26 2 = some ((2, 3, .putfield 283, 9, 43, 0, 1260), 3, 0, 1, 9, 0, 0, 0) := rfl
theorem bu_26_5 : mm_at mt_P 26 5 = some ((5, 1, .aload_n 0, 0, 0, 0, 0), 3, 0, 1, 9, 0, 0, 0) := rfl
theorem bu_26_6 : mm_at mt_P 26 6 = some ((6, 3, .getfield 230, 9, 12, 0, 1229), 3, 0, 1, 9, 0, 0, 0) := rfl
theorem bu_26_9 : mm_at mt_P 26 9 = some ((9, 1, .istore_n 1, 0, 0, 0, 0), 3, 0, 1, 9, 0, 0, 0) := rfl
theorem bu_26_10 : mm_at mt_P 26 10 = some ((10, 1, .iconst 1, 0, 0, 0, 0), 3, 0, 1, 9, 0, 0, 0) := rfl
theorem bu_26_11 : mm_at mt_P 26 11 = some ((11, 1, .istore_n 2, 0, 0, 0, 0), 3, 0, 1, 9, 0, 0, 0) := rfl
theorem bu_26_12 : mm_at mt_P 26 12 = some ((12, 1, .iload_n 2, 0, 0, 0, 0), 3, 0, 1, 9, 0, 0, 0) := rfl
theorem bu_26_13 : mm_at mt_P 26 13 = some ((13, 3, .ifCond .eq 259, 0, 0, 0, 0), 3, 0, 1, 9, 0, 0, 0) := rfl
theorem bu_26_16 : mm_at mt_P 26 16 = some ((16, 1, .aload_n 0, 0, 0, 0, 0), 3, 0, 1, 9, 0, 0, 0) := rfl
theorem bu_26_17 : mm_at mt_P 26 17 = some ((17, 3, .getfield 203, 9, 13, 0, 1230), 3, 0, 1, 9, 0, 0, 0) := rfl
theorem bu_26_20 : mm_at mt_P 26 20 = some ((20, 3, .ifCond .ne 252, 0, 0, 0, 0), 3, 0, 1, 9, 0, 0, 0) := rfl
theorem bu_26_23 : mm_at mt_P 26 23 = some ((23, 1, .aload_n 0, 0, 0, 0, 0), 3, 0, 1, 9, 0, 0, 0) := rfl
theorem bu_26_24 : mm_at mt_P 26 24 = some ((24, 2, .bipush 6, 0, 0, 0, 0), 3, 0, 1, 9, 0, 0, 0) := rfl
theorem bu_26_26 : mm_at mt_P 26 26 = some ((26, 3, .invokevirtual 221, 45, 0, 0, 1475), 3, 0, 1, 9, 0, 0, 0) := rfl
theorem bu_26_29 : mm_at mt_P 26 29 = some ((29, 3, .ifCond .eq 55, 0, 0, 0, 0), 3, 0, 1, 9, 0, 0, 0) := rfl
theorem bu_26_32 : mm_at mt_P 26 32 = some ((32, 1, .aload_n 0, 0, 0, 0, 0), 3, 0, 1, 9, 0, 0, 0) := rfl
theorem bu_26_33 : mm_at mt_P 26 33 = some ((33, 3, .getfield 230, 9, 12, 0, 1229), 3, 0, 1, 9, 0, 0, 0) := rfl
theorem bu_26_36 : mm_at mt_P 26 36 = some ((36, 2, .bipush 6, 0, 0, 0, 0), 3, 0, 1, 9, 0, 0, 0) := rfl
theorem bu_26_38 : mm_at mt_P 26 38 = some ((38, 3, .if_icmp .ne 8, 0, 0, 0, 0), 3, 0, 1, 9, 0, 0, 0) := rfl
theorem bu_26_41 : mm_at mt_P 26 41 = some ((41, 1, .aload_n 0, 0, 0, 0, 0), 3, 0, 1, 9, 0, 0, 0) := rfl
theorem bu_26_42 : mm_at mt_P 26 42 = some ((42, 1, .iconst 2, 0, 0, 0, 0), 3, 0, 1, 9, 0, 0, 0) := rfl
theorem bu_26_43 : mm_at mt_P 26 43 = some ((43, 3, .invokevirtual 218, 27, 0, 0, 1483), 3, 0, 1, 9, 0, 0, 0) := rfl
theorem bu_26_46 : mm_at mt_P 26 46 = some ((46, 1, .aload_n 0, 0, 0, 0, 0), 3, 0, 1, 9, 0, 0, 0) := rfl
theorem bu_26_47 : mm_at mt_P 26 47 = some ((47, 1, .dup, 0, 0, 0, 0), 3, 0, 1, 9, 0, 0, 0) := rfl
theorem bu_26_48 : mm_at mt_P 26 48 = some ((48, 3, .getfield 230, 9, 12, 0, 1229), 3, 0, 1, 9, 0, 0, 0) := rfl
theorem bu_26_51 : mm_at mt_P 26 51 = some ((51, 1, .iconst 1, 0, 0, 0, 0), 3, 0, 1, 9, 0, 0, 0) := rfl
theorem bu_26_52 : mm_at mt_P 26 52 = some ((52, 1, .iadd, 0, 0, 0, 0), 3, 0, 1, 9, 0, 0, 0) := rfl
theorem bu_26_53 : mm_at mt_P 26 53 = some ((53, 3, .putfield 230, 9, 12, 0, 1229), 3, 0, 1, 9, 0, 0, 0) := rfl
theorem bu_26_56 : mm_at mt_P 26 56 = some ((56, 1, .aload_n 0, 0, 0, 0, 0), 3, 0, 1, 9, 0, 0, 0) := rfl
theorem bu_26_57 : mm_at mt_P 26 57 = some ((57, 3, .invokevirtual 224, 37, 0, 0, 1491), 3, 0, 1, 9, 0, 0, 0) := rfl
theorem bu_26_60 : mm_at mt_P 26 60 = some ((60, 1, .aload_n 0, 0, 0, 0, 0), 3, 0, 1, 9, 0, 0, 0) := rfl
theorem bu_26_61 : mm_at mt_P 26 61 = some ((61, 3, .getfield 98, 9, 42, 0, 1259), 3, 0, 1, 9, 0, 0, 0) := rfl
theorem bu_26_64 : mm_at mt_P 26 64 = some ((64, 1, .aload_n 0, 0, 0, 0, 0), 3, 0, 1, 9, 0, 0, 0) := rfl
theorem bu_26_65 : mm_at mt_P 26 65 = some ((65, 3, .getfield 283, 9, 43, 0, 1260), 3, 0, 1, 9, 0, 0, 0) := rfl
theorem bu_26_68 : mm_at mt_P 26 68 = some ((68, 2, .bipush 6, 0, 0, 0, 0), 3, 0, 1, 9, 0, 0, 0) := rfl
theorem bu_26_70 : mm_at mt_P 26 70 = some ((70, 1, .iastore, 0, 0, 0, 0), 3, 0, 1, 9, 0, 0, 0) := rfl
theorem bu_26_71 : mm_at mt_P 26 71 = some ((71, 1, .aload_n 0, 0, 0, 0, 0), 3, 0, 1, 9, 0, 0, 0) := rfl
theorem bu_26_72 : mm_at mt_P 26 72 = some ((72, 1, .dup, 0, 0, 0, 0), 3, 0, 1, 9, 0, 0, 0) := rfl
theorem bu_26_73 : mm_at mt_P 26 73 = some ((73, 3, .getfield 283, 9, 43, 0, 1260), 3, 0, 1, 9, 0, 0, 0) := rfl
theorem bu_26_76 : mm_at mt_P 26 76 = some ((76, 1, .iconst 1, 0, 0, 0, 0), 3, 0, 1, 9, 0, 0, 0) := rfl
theorem bu_26_77 : mm_at mt_P 26 77 = some ((77, 1, .iadd, 0, 0, 0, 0), 3, 0, 1, 9, 0, 0, 0) := rfl
theorem bu_26_78 : mm_at mt_P 26 78 = some ((78, 3, .putfield 283, 9, 43, 0, 1260), 3, 0, 1, 9, 0, 0, 0) := rfl
theorem bu_26_81 : mm_at mt_P 26 81 = some ((81, 3, .goto (-58), 0, 0, 0, 0), 3, 0, 1, 9, 0, 0, 0) := rfl
theorem bu_26_84 : mm_at mt_P 26 84 = some ((84, 1, .aload_n 0, 0, 0, 0, 0), 3, 0, 1, 9, 0, 0, 0) := rfl
theorem bu_26_85 : mm_at mt_P 26 85 = some ((85, 3, .invokevirtual 289, 105, 0, 0, 1515), 3, 0, 1, 9, 0, 0, 0) := rfl
theorem bu_26_88 : mm_at mt_P 26 88 = some ((88, 1, .aload_n 0, 0, 0, 0, 0), 3, 0, 1, 9, 0, 0, 0) := rfl
theorem bu_26_89 : mm_at mt_P 26 89 = some ((89, 3, .getfield 203, 9, 13, 0, 1230), 3, 0, 1, 9, 0, 0, 0) := rfl
theorem bu_26_92 : mm_at mt_P 26 92 = some ((92, 3, .ifCond .le 4, 0, 0, 0, 0), 3, 0, 1, 9, 0, 0, 0) := rfl
theorem bu_26_95 : mm_at mt_P 26 95 = some ((95, 1, .return_, 0, 0, 0, 0), 3, 0, 1, 9, 0, 0, 0) := rfl
theorem bu_26_96 : mm_at mt_P 26 96 = some ((96, 1, .aload_n 0, 0, 0, 0, 0), 3, 0, 1, 9, 0, 0, 0) := rfl
theorem bu_26_97 : mm_at mt_P 26 97 = some ((97, 2, .bipush 7, 0, 0, 0, 0), 3, 0, 1, 9, 0, 0, 0) := rfl
theorem bu_26_99 : mm_at mt_P 26 99 = some ((99, 3, .invokevirtual 221, 45, 0, 0, 1475), 3, 0, 1, 9, 0, 0, 0) := rfl
theorem bu_26_102 : mm_at mt_P 26 102 = some ((102, 3, .ifCond .eq 43, 0, 0, 0, 0), 3, 0, 1, 9, 0, 0, 0) := rfl
theorem bu_26_105 : mm_at mt_P 26 105 = some ((105, 1, .aload_n 0, 0, 0, 0, 0), 3, 0, 1, 9, 0, 0, 0) := rfl
theorem bu_26_106 : mm_at mt_P 26 106 = some ((106, 3, .getfield 230, 9, 12, 0, 1229), 3, 0, 1, 9, 0, 0, 0) := rfl
theorem bu_26_109 : mm_at mt_P 26 109 = some ((109, 1, .iload_n 1, 0, 0, 0, 0), 3, 0, 1, 9, 0, 0, 0) := rfl
theorem bu_26_110 : mm_at mt_P 26 110 = some ((110, 3, .if_icmp .le 35, 0, 0, 0, 0), 3, 0, 1, 9, 0, 0, 0) := rfl
theorem bu_26_113 : mm_at mt_P 26 113 = some ((113, 1, .aload_n 0, 0, 0, 0, 0), 3, 0, 1, 9, 0, 0, 0) := rfl
theorem bu_26_114 : mm_at mt_P 26 114 = some ((114, 1, .iconst 0, 0, 0, 0, 0), 3, 0, 1, 9, 0, 0, 0) := rfl
theorem bu_26_115 : mm_at mt_P 26 115 = some ((115, 3, .invokevirtual 292, 15, 0, 0, 1523), 3, 0, 1, 9, 0, 0, 0) := rfl
theorem bu_26_118 : mm_at mt_P 26 118 = some ((118, 1, .aload_n 0, 0, 0, 0, 0), 3, 0, 1, 9, 0, 0, 0) := rfl
theorem bu_26_119 : mm_at mt_P 26 119 = some ((119, 1, .dup, 0, 0, 0, 0), 3, 0, 1, 9, 0, 0, 0) := rfl
theorem bu_26_120 : mm_at mt_P 26 120 = some ((120, 3, .getfield 283, 9, 43, 0, 1260), 3, 0, 1, 9, 0, 0, 0) := rfl
theorem bu_26_123 : mm_at mt_P 26 123 = some ((123, 1, .iconst 1, 0, 0, 0, 0), 3, 0, 1, 9, 0, 0, 0) := rfl
theorem bu_26_124 : mm_at mt_P 26 124 = some ((124, 1, .isub, 0, 0, 0, 0), 3, 0, 1, 9, 0, 0, 0) := rfl
theorem bu_26_125 : mm_at mt_P 26 125 = some ((125, 3, .putfield 283, 9, 43, 0, 1260), 3, 0, 1, 9, 0, 0, 0) := rfl
theorem bu_26_128 : mm_at mt_P 26 128 = some ((128, 1, .aload_n 0, 0, 0, 0, 0), 3, 0, 1, 9, 0, 0, 0) := rfl
theorem bu_26_129 : mm_at mt_P 26 129 = some ((129, 1, .dup, 0, 0, 0, 0), 3, 0, 1, 9, 0, 0, 0) := rfl
theorem bu_26_130 : mm_at mt_P 26 130 = some ((130, 3, .getfield 230, 9, 12, 0, 1229), 3, 0, 1, 9, 0, 0, 0) := rfl
theorem bu_26_133 : mm_at mt_P 26 133 = some ((133, 1, .iconst 1, 0, 0, 0, 0), 3, 0, 1, 9, 0, 0, 0) := rfl
theorem bu_26_134 : mm_at mt_P 26 134 = some ((134, 1, .isub, 0, 0, 0, 0), 3, 0, 1, 9, 0, 0, 0) := rfl
theorem bu_26_135 : mm_at mt_P 26 135 = some ((135, 3, .putfield 230, 9, 12, 0, 1229), 3, 0, 1, 9, 0, 0, 0) := rfl
theorem bu_26_138 : mm_at mt_P 26 138 = some ((138, 1, .aload_n 0, 0, 0, 0, 0), 3, 0, 1, 9, 0, 0, 0) := rfl
theorem bu_26_139 : mm_at mt_P 26 139 = some ((139, 3, .invokevirtual 224, 37, 0, 0, 1491), 3, 0, 1, 9, 0, 0, 0) := rfl
theorem bu_26_142 : mm_at mt_P 26 142 = some ((142, 3, .goto (-46), 0, 0, 0, 0), 3, 0, 1, 9, 0, 0, 0) := rfl
theorem bu_26_145 : mm_at mt_P 26 145 = some ((145, 1, .aload_n 0, 0, 0, 0, 0), 3, 0, 1, 9, 0, 0, 0) := rfl
theorem bu_26_146 : mm_at mt_P 26 146 = some ((146, 2, .bipush 8, 0, 0, 0, 0), 3, 0, 1, 9, 0, 0, 0) := rfl
theorem bu_26_148 : mm_at mt_P 26 148 = some ((148, 3, .invokevirtual 221, 45, 0, 0, 1475), 3, 0, 1, 9, 0, 0, 0) := rfl
theorem bu_26_151 : mm_at mt_P 26 151 = some ((151, 3, .ifCond .ne 30, 0, 0, 0, 0), 3, 0, 1, 9, 0, 0, 0) := rfl
theorem bu_26_154 : mm_at mt_P 26 154 = some ((154, 1, .aload_n 0, 0, 0, 0, 0), 3, 0, 1, 9, 0, 0, 0) := rfl
theorem bu_26_155 : mm_at mt_P 26 155 = some ((155, 2, .bipush 9, 0, 0, 0, 0), 3, 0, 1, 9, 0, 0, 0) := rfl
theorem bu_26_157 : mm_at mt_P 26 157 = some ((157, 3, .invokevirtual 221, 45, 0, 0, 1475), 3, 0, 1, 9, 0, 0, 0) := rfl
theorem bu_26_160 : mm_at mt_P 26 160 = some ((160, 3, .ifCond .ne 21, 0, 0, 0, 0), 3, 0, 1, 9, 0, 0, 0) := rfl
theorem bu_26_163 : mm_at mt_P 26 163 = some ((163, 1, .aload_n 0, 0, 0, 0, 0), 3, 0, 1, 9, 0, 0, 0) := rfl
theorem bu_26_164 : mm_at mt_P 26 164 = some ((164, 2, .bipush 10, 0, 0, 0, 0), 3, 0, 1, 9, 0, 0, 0) := rfl
theorem bu_26_166 : mm_at mt_P 26 166 = some ((166, 3, .invokevirtual 221, 45, 0, 0, 1475), 3, 0, 1, 9, 0, 0, 0) := rfl
theorem bu_26_169 : mm_at mt_P 26 169 = some ((169, 3, .ifCond .ne 12, 0, 0, 0, 0), 3, 0, 1, 9, 0, 0, 0) := rfl
theorem bu_26_172 : mm_at mt_P 26 172 = some ((172, 1, .aload_n 0, 0, 0, 0, 0), 3, 0, 1, 9, 0, 0, 0) := rfl
theorem bu_26_173 : mm_at mt_P 26 173 = some ((173, 2, .bipush 15, 0, 0, 0, 0), 3, 0, 1, 9, 0, 0, 0) := rfl
theorem bu_26_175 : mm_at mt_P 26 175 = some ((175, 3, .invokevirtual 221, 45, 0, 0, 1475), 3, 0, 1, 9, 0, 0, 0) := rfl
theorem bu_26_178 : mm_at mt_P 26 178 = some ((178, 3, .ifCond .eq 7, 0, 0, 0, 0), 3, 0, 1, 9, 0, 0, 0) := rfl
theorem bu_26_181 : mm_at mt_P 26 181 = some ((181, 1, .iconst 1, 0, 0, 0, 0), 3, 0, 1, 9, 0, 0, 0) := rfl
theorem bu_26_182 : mm_at mt_P 26 182 = some ((182, 3, .goto 4, 0, 0, 0, 0), 3, 0, 1, 9, 0, 0, 0) := rfl
theorem bu_26_185 : mm_at mt_P 26 185 = some ((185, 1, .iconst 0, 0, 0, 0, 0), 3, 0, 1, 9, 0, 0, 0) := rfl
theorem bu_26_186 : mm_at mt_P 26 186 = some ((186, 1, .istore_n 2, 0, 0, 0, 0), 3, 0, 1, 9, 0, 0, 0) := rfl
theorem bu_26_187 : mm_at mt_P 26 187 = some ((187, 1, .iload_n 2, 0, 0, 0, 0), 3, 0, 1, 9, 0, 0, 0) := rfl
theorem bu_26_188 : mm_at mt_P 26 188 = some ((188, 3, .ifCond .ne 22, 0, 0, 0, 0), 3, 0, 1, 9, 0, 0, 0) := rfl
theorem bu_26_191 : mm_at mt_P 26 191 = some ((191, 1, .aload_n 0, 0, 0, 0, 0), 3, 0, 1, 9, 0, 0, 0) := rfl
theorem bu_26_192 : mm_at mt_P 26 192 = some ((192, 3, .getfield 230, 9, 12, 0, 1229), 3, 0, 1, 9, 0, 0, 0) := rfl
theorem bu_26_195 : mm_at mt_P 26 195 = some ((195, 1, .iload_n 1, 0, 0, 0, 0), 3, 0, 1, 9, 0, 0, 0) := rfl
theorem bu_26_196 : mm_at mt_P 26 196 = some ((196, 3, .if_icmp .le 8, 0, 0, 0, 0), 3, 0, 1, 9, 0, 0, 0) := rfl
theorem bu_26_199 : mm_at mt_P 26 199 = some ((199, 1, .aload_n 0, 0, 0, 0, 0), 3, 0, 1, 9, 0, 0, 0) := rfl
theorem bu_26_200 : mm_at mt_P 26 200 = some ((200, 1, .iconst 1, 0, 0, 0, 0), 3, 0, 1, 9, 0, 0, 0) := rfl
theorem bu_26_201 : mm_at mt_P 26 201 = some ((201, 3, .invokevirtual 218, 27, 0, 0, 1483), 3, 0, 1, 9, 0, 0, 0) := rfl
theorem bu_26_204 : mm_at mt_P 26 204 = some ((204, 1, .aload_n 0, 0, 0, 0, 0), 3, 0, 1, 9, 0, 0, 0) := rfl
theorem bu_26_205 : mm_at mt_P 26 205 = some ((205, 1, .iconst 0, 0, 0, 0, 0), 3, 0, 1, 9, 0, 0, 0) := rfl
theorem bu_26_206 : mm_at mt_P 26 206 = some ((206, 3, .invokevirtual 292, 15, 0, 0, 1523), 3, 0, 1, 9, 0, 0, 0) := rfl
theorem bu_26_209 : mm_at mt_P 26 209 = some ((209, 1, .return_, 0, 0, 0, 0), 3, 0, 1, 9, 0, 0, 0) := rfl
theorem bu_26_210 : mm_at mt_P 26 210 = some ((210, 1, .aload_n 0, 0, 0, 0, 0), 3, 0, 1, 9, 0, 0, 0) := rfl
theorem bu_26_211 : mm_at mt_P 26 211 = some ((211, 1, .aload_n 0, 0, 0, 0, 0), 3, 0, 1, 9, 0, 0, 0) := rfl
theorem bu_26_212 : mm_at mt_P 26 212 = some ((212, 2, .bipush 10, 0, 0, 0, 0), 3, 0, 1, 9, 0, 0, 0) := rfl
theorem bu_26_214 : mm_at mt_P 26 214 = some ((214, 3, .invokevirtual 221, 45, 0, 0, 1475), 3, 0, 1, 9, 0, 0, 0) := rfl
theorem bu_26_217 : mm_at mt_P 26 217 = some ((217, 3, .ifCond .ne 12, 0, 0, 0, 0), 3, 0, 1, 9, 0, 0, 0) := rfl
theorem bu_26_220 : mm_at mt_P 26 220 = some ((220, 1, .aload_n 0, 0, 0, 0, 0), 3, 0, 1, 9, 0, 0, 0) := rfl
theorem bu_26_221 : mm_at mt_P 26 221 = some ((221, 2, .bipush 15, 0, 0, 0, 0), 3, 0, 1, 9, 0, 0, 0) := rfl
theorem bu_26_223 : mm_at mt_P 26 223 = some ((223, 3, .invokevirtual 221, 45, 0, 0, 1475), 3, 0, 1, 9, 0, 0, 0) := rfl
theorem bu_26_226 : mm_at mt_P 26 226 = some ((226, 3, .ifCond .eq 7, 0, 0, 0, 0), 3, 0, 1, 9, 0, 0, 0) := rfl
theorem bu_26_229 : mm_at mt_P 26 229 = some ((229, 1, .iconst 1, 0, 0, 0, 0), 3, 0, 1, 9, 0, 0, 0) := rfl
theorem bu_26_230 : mm_at mt_P 26 230 = some ((230, 3, .goto 4, 0, 0, 0, 0), 3, 0, 1, 9, 0, 0, 0) := rfl
theorem bu_26_233 : mm_at mt_P 26 233 = some ((233, 1, .iconst 0, 0, 0, 0, 0), 3, 0, 1, 9, 0, 0, 0) := rfl
theorem bu_26_234 : mm_at mt_P 26 234 = some ((234, 3, .invokevirtual 292, 15, 0, 0, 1523), 3, 0, 1, 9, 0, 0, 0) := rfl
theorem bu_26_237 : mm_at mt_P 26 237 = some ((237, 1, .aload_n 0, 0, 0, 0, 0), 3, 0, 1, 9, 0, 0, 0) := rfl
theorem bu_26_238 : mm_at mt_P 26 238 = some ((238, 3, .getfield 98, 9, 42, 0, 1259), 3, 0, 1, 9, 0, 0, 0) := rfl
theorem bu_26_241 : mm_at mt_P 26 241 = some ((241, 1, .aload_n 0, 0, 0, 0, 0), 3, 0, 1, 9, 0, 0, 0) := rfl
theorem bu_26_242 : mm_at mt_P 26 242 = some ((242, 3, .getfield 283, 9, 43, 0, 1260), 3, 0, 1, 9, 0, 0, 0) := rfl
theorem bu_26_245 : mm_at mt_P 26 245 = some ((245, 1, .aload_n 0, 0, 0, 0, 0), 3, 0, 1, 9, 0, 0, 0) := rfl
theorem bu_26_246 : mm_at mt_P 26 246 = some ((246, 3, .getfield 20, 9, 5, 0, 1222), 3, 0, 1, 9, 0, 0, 0) := rfl
theorem bu_26_249 : mm_at mt_P 26 249 = some ((249, 1, .aload_n 0, 0, 0, 0, 0), 3, 0, 1, 9, 0, 0, 0) := rfl
theorem bu_26_250 : mm_at mt_P 26 250 = some ((250, 3, .getfield 206, 9, 11, 0, 1228), 3, 0, 1, 9, 0, 0, 0) := rfl
theorem bu_26_253 : mm_at mt_P 26 253 = some ((253, 1, .iaload, 0, 0, 0, 0), 3, 0, 1, 9, 0, 0, 0) := rfl
theorem bu_26_254 : mm_at mt_P 26 254 = some ((254, 1, .iastore, 0, 0, 0, 0), 3, 0, 1, 9, 0, 0, 0) := rfl
theorem bu_26_255 : mm_at mt_P 26 255 = some ((255, 1, .aload_n 0, 0, 0, 0, 0), 3, 0, 1, 9, 0, 0, 0) := rfl
theorem bu_26_256 : mm_at mt_P 26 256 = some ((256, 1, .dup, 0, 0, 0, 0), 3, 0, 1, 9, 0, 0, 0) := rfl
theorem bu_26_257 : mm_at mt_P 26 257 = some ((257, 3, .getfield 283, 9, 43, 0, 1260), 3, 0, 1, 9, 0, 0, 0) := rfl
theorem bu_26_260 : mm_at mt_P 26 260 = some ((260, 1, .iconst 1, 0, 0, 0, 0), 3, 0, 1, 9, 0, 0, 0) := rfl
theorem bu_26_261 : mm_at mt_P 26 261 = some ((261, 1, .iadd, 0, 0, 0, 0), 3, 0, 1, 9, 0, 0, 0) := rfl
theorem bu_26_262 : mm_at mt_P 26 262 = some ((262, 3, .putfield 283, 9, 43, 0, 1260), 3, 0, 1, 9, 0, 0, 0) := rfl
theorem bu_26_265 : mm_at mt_P 26 265 = some ((265, 1, .aload_n 0, 0, 0, 0, 0), 3, 0, 1, 9, 0, 0, 0) := rfl
theorem bu_26_266 : mm_at mt_P 26 266 = some ((266, 3, .invokevirtual 224, 37, 0, 0, 1491), 3, 0, 1, 9, 0, 0, 0) := rfl
theorem bu_26_269 : mm_at mt_P 26 269 = some ((269, 3, .goto (-257), 0, 0, 0, 0), 3, 0, 1, 9, 0, 0, 0) := rfl
theorem bu_26_272 : mm_at mt_P 26 272 = some ((272, 1, .return_, 0, 0, 0, 0), 3, 0, 1, 9, 0, 0, 0) := rfl
theorem bu_27_0 : mm_at mt_P 27 0 = some ((0, 1, .aload_n 0, 0, 0, 0, 0), 2, 1, 1, 9, 0, 0, 0) := rfl
theorem bu_27_1 : mm_at mt_P 27 1 = some ((1, 3, .getfield 203, 9, 13, 0, 1230), 2, 1, 1, 9, 0, 0, 0) := rfl
theorem bu_27_4 : mm_at mt_P 27 4 = some ((4, 3, .ifCond .le 4, 0, 0, 0, 0), 2, 1, 1, 9, 0, 0, 0) := rfl
theorem bu_27_7 : mm_at mt_P 27 7 = some ((7, 1, .return_, 0, 0, 0, 0), 2, 1, 1, 9, 0, 0, 0) := rfl
theorem bu_27_8 : mm_at mt_P 27 8 = some ((8, 1, .aload_n 0, 0, 0, 0, 0), 2, 1, 1, 9, 0, 0, 0) := rfl
theorem bu_27_9 : mm_at mt_P 27 9 = some ((9, 1, .iload_n 1, 0, 0, 0, 0), 2, 1, 1, 9, 0, 0, 0) := rfl
theorem bu_27_10 : mm_at mt_P 27 10 = some ((10, 3, .putfield 203, 9, 13, 0, 1230), 2, 1, 1, 9, 0, 0, 0) := rfl
theorem bu_27_13 : mm_at mt_P 27 13 = some ((13, 1, .aload_n 0, 0, 0, 0, 0), 2, 1, 1, 9, 0, 0, 0) := rfl
theorem bu_27_14 : mm_at mt_P 27 14 = some ((14, 1, .aload_n 0, 0, 0, 0, 0), 2, 1, 1, 9, 0, 0, 0) := rfl
theorem bu_27_15 : mm_at mt_P 27 15 = some ((15, 3, .getfield 24, 9, 6, 0, 1223), 2, 1, 1, 9, 0, 0, 0) := rfl
theorem bu_27_18 : mm_at mt_P 27 18 = some ((18, 1, .aload_n 0, 0, 0, 0, 0), 2, 1, 1, 9, 0, 0, 0) := rfl
theorem bu_27_19 : mm_at mt_P 27 19 = some ((19, 3, .getfield 206, 9, 11, 0, 1228), 2, 1, 1, 9, 0, 0, 0) := rfl
theorem bu_27_22 : mm_at mt_P 27 22 = some ((22, 1, .iaload, 0, 0, 0, 0), 2, 1, 1, 9, 0, 0, 0) := rfl
theorem bu_27_23 : mm_at mt_P 27 23 = some ((23, 3, .putfield 209, 9, 14, 0, 1231), 2, 1, 1, 9, 0, 0, 0) := rfl
theorem bu_27_26 : mm_at mt_P 27 26 = some ((26, 1, .return_, 0, 0, 0, 0), 2, 1, 1, 9, 0, 0, 0) := rfl
theorem bu_37_0 : mm_at mt_P 37 0 = some ((0, 1, .aload_n 0, 0, 0, 0, 0), 1, 0, 1, 9, 0, 0, 0) := rfl
theorem bu_37_1 : mm_at mt_P 37 1 = some ((1, 3, .getfield 206, 9, 11, 0, 1228), 1, 0, 1, 9, 0, 0, 0) := rfl
theorem bu_37_4 : mm_at mt_P 37 4 = some ((4, 3, .sipush 400, 0, 0, 0, 0), 1, 0, 1, 9, 0, 0, 0) := rfl
theorem bu_37_7 : mm_at mt_P 37 7 = some ((7, 3, .if_icmp .ne 11, 0, 0, 0, 0), 1, 0, 1, 9, 0, 0, 0) := rfl
theorem bu_37_10 : mm_at mt_P 37 10 = some ((10, 1, .aload_n 0, 0, 0, 0, 0), 1, 0, 1, 9, 0, 0, 0) := rfl
theorem bu_37_11 : mm_at mt_P 37 11 = some ((11, 1, .iconst 2, 0, 0, 0, 0), 1, 0, 1, 9, 0, 0, 0) := rfl
theorem bu_37_12 : mm_at mt_P 37 12 = some ((12, 3, .invokevirtual 218, 27, 0, 0, 1483), 1, 0, 1, 9, 0, 0, 0) := rfl
theorem bu_37_15 : mm_at mt_P 37 15 = some ((15, 3, .goto 13, 0, 0, 0, 0), 1, 0, 1, 9, 0, 0, 0) := rfl
theorem bu_37_18 : mm_at mt_P 37 18 = some ((18, 1, .aload_n 0, 0, 0, 0, 0), 1, 0, 1, 9, 0, 0, 0) := rfl
theorem bu_37_19 : mm_at mt_P 37 19 = some ((19, 1, .dup, 0, 0, 0, 0), 1, 0, 1, 9, 0, 0, 0) := rfl
theorem bu_37_20 : mm_at mt_P 37 20 = some ((20, 3, .getfield 206, 9, 11, 0, 1228), 1, 0, 1, 9, 0, 0, 0) := rfl
theorem bu_37_23 : mm_at mt_P 37 23 = some ((23, 1, .iconst 1, 0, 0, 0, 0), 1, 0, 1, 9, 0, 0, 0) := rfl
theorem bu_37_24 : mm_at mt_P 37 24 = some ((24, 1, .iadd, 0, 0, 0, 0), 1, 0, 1, 9, 0, 0, 0) := rfl
theorem bu_37_25 : mm_at mt_P 37 25 = some ((25, 3, .putfield 206, 9, 11, 0, 1228), 1, 0, 1, 9, 0, 0, 0) := rfl
theorem bu_37_28 : mm_at mt_P 37 28 = some ((28, 1, .return_, 0, 0, 0, 0), 1, 0, 1, 9, 0, 0, 0) := rfl
theorem bu_45_0 : mm_at mt_P 45 0 = some ((0, 1, .aload_n 0, 0, 0, 0, 0), 2, 1, 1, 9, 2, 0, 0) := rfl
theorem bu_45_1 : mm_at mt_P 45 1 = some ((1, 3, .getfield 203, 9, 13, 0, 1230), 2, 1, 1, 9, 2, 0, 0) := rfl
theorem bu_45_4 : mm_at mt_P 45 4 = some ((4, 3, .ifCond .ne 20, 0, 0, 0, 0), 2, 1, 1, 9, 2, 0, 0) := rfl
theorem bu_45_7 : mm_at mt_P 45 7 = some ((7, 1, .aload_n 0, 0, 0, 0, 0), 2, 1, 1, 9, 2, 0, 0) := rfl
theorem bu_45_8 : mm_at mt_P 45 8 = some ((8, 3, .getfield 20, 9, 5, 0, 1222), 2, 1, 1, 9, 2, 0, 0) := rfl
theorem bu_45_11 : mm_at mt_P 45 11 = some ((11, 1, .aload_n 0, 0, 0, 0, 0), 2, 1, 1, 9, 2, 0, 0) := rfl
theorem bu_45_12 : mm_at mt_P 45 12 = some ((12, 3, .getfield 206, 9, 11, 0, 1228), 2, 1, 1, 9, 2, 0, 0) := rfl
theorem bu_45_15 : mm_at mt_P 45 15 = some ((15, 1, .iaload, 0, 0, 0, 0), 2, 1, 1, 9, 2, 0, 0) := rfl
theorem bu_45_16 : mm_at mt_P 45 16 = some ((16, 1, .iload_n 1, 0, 0, 0, 0), 2, 1, 1, 9, 2, 0, 0) := rfl
theorem bu_45_17 : mm_at mt_P 45 17 = some ((17, 3, .if_icmp .ne 7, 0, 0, 0, 0), 2, 1, 1, 9, 2, 0, 0) := rfl
theorem bu_45_20 : mm_at mt_P 45 20 = some ((20, 1, .iconst 1, 0, 0, 0, 0), 2, 1, 1, 9, 2, 0, 0) := rfl
theorem bu_45_21 : mm_at mt_P 45 21 = some ((21, 3, .goto 4, 0, 0, 0, 0), 2, 1, 1, 9, 2, 0, 0) := rfl
theorem bu_45_24 : mm_at mt_P 45 24 = some ((24, 1, .iconst 0, 0, 0, 0, 0), 2, 1, 1, 9, 2, 0, 0) := rfl
theorem bu_45_25 : mm_at mt_P 45 25 = some ((25, 1, .ireturn, 0, 0, 0, 0), 2, 1, 1, 9, 2, 0, 0) := rfl
theorem bu_67_0 : mm_at mt_P 67 0 = some ((0, 1, .aload_n 0, 0, 0, 0, 0), 2, 1, 1, 9, 0, 0, 0) := rfl
theorem bu_67_1 : mm_at mt_P 67 1 = some ((1, 1, .iload_n 1, 0, 0, 0, 0), 2, 1, 1, 9, 0, 0, 0) := rfl
theorem bu_67_2 : mm_at mt_P 67 2 = some ((2, 3, .invokevirtual 221, 45, 0, 0, 1475), 2, 1, 1, 9, 0, 0, 0) := rfl
theorem bu_67_5 : mm_at mt_P 67 5 = some ((5, 3, .ifCond .eq 10, 0, 0, 0, 0), 2, 1, 1, 9, 0, 0, 0) := rfl
theorem bu_67_8 : mm_at mt_P 67 8 = some ((8, 1, .aload_n 0, 0, 0, 0, 0), 2, 1, 1, 9, 0, 0, 0) := rfl
theorem bu_67_9 : mm_at mt_P 67 9 = some ((9, 3, .invokevirtual 224, 37, 0, 0, 1491), 2, 1, 1, 9, 0, 0, 0) := rfl
theorem bu_67_12 : mm_at mt_P 67 12 = some ((12, 3, .goto 8, 0, 0, 0, 0), 2, 1, 1, 9, 0, 0, 0) := rfl
theorem bu_67_15 : mm_at mt_P 67 15 = some ((15, 1, .aload_n 0, 0, 0, 0, 0), 2, 1, 1, 9, 0, 0, 0) := rfl
theorem bu_67_16 : mm_at mt_P 67 16 = some ((16, 1, .iconst 1, 0, 0, 0, 0), 2, 1, 1, 9, 0, 0, 0) := rfl
theorem bu_67_17 : mm_at mt_P 67 17 = some ((17, 3, .invokevirtual 218, 27, 0, 0, 1483), 2, 1, 1, 9, 0, 0, 0) := rfl
theorem bu_67_20 : mm_at mt_P 67 20 = some ((20, 1, .return_, 0, 0, 0, 0), 2, 1, 1, 9, 0, 0, 0) := rfl
theorem bu_105_0 : mm_at mt_P 105 0 = some ((0, 1, .aload_n 0, 0, 0, 0, 0), 1, 0, 1, 9, 0, 0, 0) := rfl
theorem bu_105_1 : mm_at mt_P 105 1 = some ((1, 1, .iconst 2, 0, 0, 0, 0), 1, 0, 1, 9, 0, 0, 0) := rfl
theorem bu_105_2 : mm_at mt_P 105 2 = some ((2, 3, .invokevirtual 221, 45, 0, 0, 1475), 1, 0, 1, 9, 0, 0, 0) := rfl
theorem bu_105_5 : mm_at mt_P 105 5 = some ((5, 3, .ifCond .eq 24, 0, 0, 0, 0), 1, 0, 1, 9, 0, 0, 0) := rfl
theorem bu_105_8 : mm_at mt_P 105 8 = some ((8, 1, .aload_n 0, 0, 0, 0, 0), 1, 0, 1, 9, 0, 0, 0) := rfl
theorem bu_105_9 : mm_at mt_P 105 9 = some ((9, 1, .iconst 0, 0, 0, 0, 0), 1, 0, 1, 9, 0, 0, 0) := rfl
theorem bu_105_10 : mm_at mt_P 105 10 = some ((10, 1, .aload_n 0, 0, 0, 0, 0), 1, 0, 1, 9, 0, 0, 0) := rfl
theorem bu_105_11 : mm_at mt_P 105 11 = some ((11, 3, .getfield 27, 9, 7, 0, 1224), 1, 0, 1, 9, 0, 0, 0) := rfl
theorem bu_105_14 : mm_at mt_P 105 14 = some ((14, 1, .aload_n 0, 0, 0, 0, 0), 1, 0, 1, 9, 0, 0, 0) := rfl
theorem bu_105_15 : mm_at mt_P 105 15 = some ((15, 3, .getfield 206, 9, 11, 0, 1228), 1, 0, 1, 9, 0, 0, 0) := rfl
theorem bu_105_18 : mm_at mt_P 105 18 = some ((18, 1, .iaload, 0, 0, 0, 0), 1, 0, 1, 9, 0, 0, 0) := rfl
theorem bu_105_19 : mm_at mt_P 105 19 = some ((19, 3, .invokevirtual 286, 23, 0, 0, 1519), 1, 0, 1, 9, 0, 0, 0) := rfl
theorem bu_105_22 : mm_at mt_P 105 22 = some ((22, 1, .aload_n 0, 0, 0, 0, 0), 1, 0, 1, 9, 0, 0, 0) := rfl
theorem bu_105_23 : mm_at mt_P 105 23 = some ((23, 3, .invokevirtual 224, 37, 0, 0, 1491), 1, 0, 1, 9, 0, 0, 0) := rfl
theorem bu_105_26 : mm_at mt_P 105 26 = some ((26, 3, .goto 67, 0, 0, 0, 0), 1, 0, 1, 9, 0, 0, 0) := rfl
theorem bu_105_29 : mm_at mt_P 105 29 = some ((29, 1, .aload_n 0, 0, 0, 0, 0), 1, 0, 1, 9, 0, 0, 0) := rfl
theorem bu_105_30 : mm_at mt_P 105 30 = some ((30, 3, .getfield 203, 9, 13, 0, 1230), 1, 0, 1, 9, 0, 0, 0) := rfl
theorem bu_105_33 : mm_at mt_P 105 33 = some ((33, 3, .ifCond .ne 55, 0, 0, 0, 0), 1, 0, 1, 9, 0, 0, 0) := rfl
theorem bu_105_36 : mm_at mt_P 105 36 = some ((36, 1, .aload_n 0, 0, 0, 0, 0), 1, 0, 1, 9, 0, 0, 0) := rfl
theorem bu_105_37 : mm_at mt_P 105 37 = some ((37, 3, .getfield 20, 9, 5, 0, 1222), 1, 0, 1, 9, 0, 0, 0) := rfl
theorem bu_105_40 : mm_at mt_P 105 40 = some ((40, 1, .aload_n 0, 0, 0, 0, 0), 1, 0, 1, 9, 0, 0, 0) := rfl
theorem bu_105_41 : mm_at mt_P 105 41 = some ((41, 3, .getfield 206, 9, 11, 0, 1228), 1, 0, 1, 9, 0, 0, 0) := rfl
theorem bu_105_44 : mm_at mt_P 105 44 = some ((44, 1, .iaload, 0, 0, 0, 0), 1, 0, 1, 9, 0, 0, 0) := rfl
theorem bu_105_45 : mm_at mt_P 105 45 = some ((45, 2, .bipush 35, 0, 0, 0, 0), 1, 0, 1, 9, 0, 0, 0) := rfl
theorem bu_105_47 : mm_at mt_P 105 47 = some ((47, 3, .if_icmp .lt 41, 0, 0, 0, 0), 1, 0, 1, 9, 0, 0, 0) := rfl
theorem bu_105_50 : mm_at mt_P 105 50 = some ((50, 1, .aload_n 0, 0, 0, 0, 0), 1, 0, 1, 9, 0, 0, 0) := rfl
theorem bu_105_51 : mm_at mt_P 105 51 = some ((51, 3, .getfield 20, 9, 5, 0, 1222), 1, 0, 1, 9, 0, 0, 0) := rfl
theorem bu_105_54 : mm_at mt_P 105 54 = some ((54, 1, .aload_n 0, 0, 0, 0, 0), 1, 0, 1, 9, 0, 0, 0) := rfl
theorem bu_105_55 : mm_at mt_P 105 55 = some ((55, 3, .getfield 206, 9, 11, 0, 1228), 1, 0, 1, 9, 0, 0, 0) := rfl
theorem bu_105_58 : mm_at mt_P 105 58 = some ((58, 1, .iaload, 0, 0, 0, 0), 1, 0, 1, 9, 0, 0, 0) := rfl
theorem bu_105_59 : mm_at mt_P 105 59 = some ((59, 2, .bipush 43, 0, 0, 0, 0), 1, 0, 1, 9, 0, 0, 0) := rfl
theorem bu_105_61 : mm_at mt_P 105 61 = some ((61, 3, .if_icmp .gt 27, 0, 0, 0, 0), 1, 0, 1, 9, 0, 0, 0) := rfl
theorem bu_105_64 : mm_at mt_P 105 64 = some ((64, 1, .aload_n 0, 0, 0, 0, 0), 1, 0, 1, 9, 0, 0, 0) := rfl
theorem bu_105_65 : mm_at mt_P 105 65 = some ((65, 1, .iconst 1, 0, 0, 0, 0), 1, 0, 1, 9, 0, 0, 0) := rfl
theorem bu_105_66 : mm_at mt_P 105 66 = some ((66, 1, .aload_n 0, 0, 0, 0, 0), 1, 0, 1, 9, 0, 0, 0) := rfl
theorem bu_105_67 : mm_at mt_P 105 67 = some ((67, 3, .getfield 20, 9, 5, 0, 1222), 1, 0, 1, 9, 0, 0, 0) := rfl
theorem bu_105_70 : mm_at mt_P 105 70 = some ((70, 1, .aload_n 0, 0, 0, 0, 0), 1, 0, 1, 9, 0, 0, 0) := rfl
theorem bu_105_71 : mm_at mt_P 105 71 = some ((71, 3, .getfield 206, 9, 11, 0, 1228), 1, 0, 1, 9, 0, 0, 0) := rfl
theorem bu_105_74 : mm_at mt_P 105 74 = some ((74, 1, .iaload, 0, 0, 0, 0), 1, 0, 1, 9, 0, 0, 0) := rfl
theorem bu_105_75 : mm_at mt_P 105 75 = some ((75, 2, .bipush 35, 0, 0, 0, 0), 1, 0, 1, 9, 0, 0, 0) := rfl
theorem bu_105_77 : mm_at mt_P 105 77 = some ((77, 1, .isub, 0, 0, 0, 0), 1, 0, 1, 9, 0, 0, 0) := rfl
theorem bu_105_78 : mm_at mt_P 105 78 = some ((78, 3, .invokevirtual 286, 23, 0, 0, 1519), 1, 0, 1, 9, 0, 0, 0) := rfl
theorem bu_105_81 : mm_at mt_P 105 81 = some ((81, 1, .aload_n 0, 0, 0, 0, 0), 1, 0, 1, 9, 0, 0, 0) := rfl
theorem bu_105_82 : mm_at mt_P 105 82 = some ((82, 3, .invokevirtual 224, 37, 0, 0, 1491), 1, 0, 1, 9, 0, 0, 0) := rfl
theorem bu_105_85 : mm_at mt_P 105 85 = some ((85, 3, .goto 8, 0, 0, 0, 0), 1, 0, 1, 9, 0, 0, 0) := rfl
theorem bu_105_88 : mm_at mt_P 105 88 = some ((88, 1, .aload_n 0, 0, 0, 0, 0), 1, 0, 1, 9, 0, 0, 0) := rfl
theorem bu_105_89 : mm_at mt_P 105 89 = some ((89, 1, .iconst 1, 0, 0, 0, 0), 1, 0, 1, 9, 0, 0, 0) := rfl
theorem bu_105_90 : mm_at mt_P 105 90 = some ((90, 3, .invokevirtual 218, 27, 0, 0, 1483), 1, 0, 1, 9, 0, 0, 0) := rfl
theorem bu_105_93 : mm_at mt_P 105 93 = some ((93, 1, .return_, 0, 0, 0, 0), 1, 0, 1, 9, 0, 0, 0) := rfl
theorem bu_112_0 : mm_at mt_P 112 0 = some ((0, 1, .aload_n 0, 0, 0, 0, 0), 4, 2, 1, 9, 0, 0, 0) := rfl
theorem bu_112_1 : mm_at mt_P 112 1 = some ((1, 3, .getfield 24, 9, 6, 0, 1223), 4, 2, 1, 9, 0, 0, 0) := rfl
theorem bu_112_4 : mm_at mt_P 112 4 = some ((4, 1, .iload_n 2, 0, 0, 0, 0), 4, 2, 1, 9, 0, 0, 0) := rfl
theorem bu_112_5 : mm_at mt_P 112 5 = some ((5, 1, .iaload, 0, 0, 0, 0), 4, 2, 1, 9, 0, 0, 0) := rfl
theorem bu_112_6 : mm_at mt_P 112 6 = some ((6, 1, .istore_n 3, 0, 0, 0, 0), 4, 2, 1, 9, 0, 0, 0) := rfl
theorem bu_112_7 : mm_at mt_P 112 7 = some ((7, 1, .aload_n 0, 0, 0, 0, 0), 4, 2, 1, 9, 0, 0, 0) := rfl
theorem bu_112_8 : mm_at mt_P 112 8 = some ((8, 3, .getfield 203, 9, 13, 0, 1230), 4, 2, 1, 9, 0, 0, 0) := rfl
theorem bu_112_11 : mm_at mt_P 112 11 = some ((11, 3, .ifCond .gt 34, 0, 0, 0, 0), 4, 2, 1, 9, 0, 0, 0) := rfl
theorem bu_112_14 : mm_at mt_P 112 14 = some ((14, 1, .aload_n 0, 0, 0, 0, 0), 4, 2, 1, 9, 0, 0, 0) := rfl
theorem bu_112_15 : mm_at mt_P 112 15 = some ((15, 3, .getfield 212, 9, 15, 0, 1232), 4, 2, 1, 9, 0, 0, 0) := rfl
theorem bu_112_18 : mm_at mt_P 112 18 = some ((18, 3, .ifCond .eq 28, 0, 0, 0, 0), 4, 2, 1, 9, 0, 0, 0) := rfl
theorem bu_112_21 : mm_at mt_P 112 21 = some ((21, 1, .iload_n 3, 0, 0, 0, 0), 4, 2, 1, 9, 0, 0, 0) := rfl
theorem bu_112_22 : mm_at mt_P 112 22 = some ((22, 1, .aload_n 0, 0, 0, 0, 0), 4, 2, 1, 9, 0, 0, 0) := rfl
theorem bu_112_23 : mm_at mt_P 112 23 = some ((23, 3, .getfield 215, 9, 16, 0, 1233), 4, 2, 1, 9, 0, 0, 0) := rfl
theorem bu_112_26 : mm_at mt_P 112 26 = some ((26, 3, .if_icmp .gt 19, 0, 0, 0, 0), 4, 2, 1, 9, 0, 0, 0) := rfl
theorem bu_112_29 : mm_at mt_P 112 29 = some ((29, 1, .iload_n 3, 0, 0, 0, 0), 4, 2, 1, 9, 0, 0, 0) := rfl
theorem bu_112_30 : mm_at mt_P 112 30 = some ((30, 1, .aload_n 0, 0, 0, 0, 0), 4, 2, 1, 9, 0, 0, 0) := rfl
theorem bu_112_31 : mm_at mt_P 112 31 = some ((31, 3, .getfield 215, 9, 16, 0, 1233), 4, 2, 1, 9, 0, 0, 0) := rfl
theorem bu_112_34 : mm_at mt_P 112 34 = some ((34, 3, .if_icmp .ne 12, 0, 0, 0, 0), 4, 2, 1, 9, 0, 0, 0) := rfl
theorem bu_112_37 : mm_at mt_P 112 37 = some ((37, 1, .iload_n 1, 0, 0, 0, 0), 4, 2, 1, 9, 0, 0, 0) := rfl
theorem bu_112_38 : mm_at mt_P 112 38 = some ((38, 1, .aload_n 0, 0, 0, 0, 0), 4, 2, 1, 9, 0, 0, 0) := rfl
theorem bu_112_39 : mm_at mt_P 112 39 = some ((39, 3, .getfield 212, 9, 15, 0, 1232), 4, 2, 1, 9, 0, 0, 0) := rfl
theorem bu_112_42 : mm_at mt_P 112 42 = some ((42, 3, .if_icmp .lt 4, 0, 0, 0, 0), 4, 2, 1, 9, 0, 0, 0) := rfl
theorem bu_112_45 : mm_at mt_P 112 45 = some ((45, 1, .return_, 0, 0, 0, 0), 4, 2, 1, 9, 0, 0, 0) := rfl
theorem bu_112_46 : mm_at mt_P 112 46 = some ((46, 1, .aload_n 0, 0, 0, 0, 0), 4, 2, 1, 9, 0, 0, 0) := rfl
theorem bu_112_47 : mm_at mt_P 112 47 = some ((47, 1, .iload_n 1, 0, 0, 0, 0), 4, 2, 1, 9, 0, 0, 0) := rfl
theorem bu_112_48 : mm_at mt_P 112 48 = some ((48, 3, .putfield 212, 9, 15, 0, 1232), 4, 2, 1, 9, 0, 0, 0) := rfl
theorem bu_112_51 : mm_at mt_P 112 51 = some ((51, 1, .aload_n 0, 0, 0, 0, 0), 4, 2, 1, 9, 0, 0, 0) := rfl
theorem bu_112_52 : mm_at mt_P 112 52 = some ((52, 1, .iload_n 3, 0, 0, 0, 0), 4, 2, 1, 9, 0, 0, 0) := rfl
theorem bu_112_53 : mm_at mt_P 112 53 = some ((53, 3, .putfield 215, 9, 16, 0, 1233), 4, 2, 1, 9, 0, 0, 0) := rfl
theorem bu_112_56 : mm_at mt_P 112 56 = some ((56, 1, .return_, 0, 0, 0, 0), 4, 2, 1, 9, 0, 0, 0) := rfl
section RQB
variable {K V P : Nat → Int} {Q : Nat → Nat → Bool} {σ : py_S} {M : Nat} {ns : List Nat} {oo e : Nat} {E : mm_E} {PO : mm_C → Prop} {NN : Nat} {h0 h : mm_H} {s : Nat → Int32} {A : Nat → Nat → Int32} {L : Nat → Nat → Int64} {gs : List mm_F}
theorem rr_45 {k : Int32} (hP : bm_P rz_T E h0 h s A L) (hR : rq_R K P M σ ns oo e s A L) (hT : rq_T K V P M A) (kk : ∀ r : Int32, ((r.toInt = 1 ∧ σ.2.1 = 0 ∧ K σ.1 = k.toInt) ∨ (r.toInt = 0 ∧ ¬ (σ.2.1 = 0 ∧ K σ.1 = k.toInt))) → bp_G E PO NN (mm_back (some (.int r)) gs h)) : bp_G E PO NN ((45, 0, [(0, .ref (E.1 + 88)), (1, .int k)], [], 0, 0) :: gs, h, none) := by
  have q1 := hR.1
  have q2 : σ.2.1 = 0 → (s 8811).toInt = (σ.1 : Int) ∧ (A 91 (s 8811).toInt.toNat).toInt = K σ.1 ∧ (K σ.1 = 2 → (A 93 (s 8811).toInt.toNat).toInt = V σ.1) ∧ (A 92 (s 8811).toInt.toNat).toInt = P σ.1 := fun hf => by
    have a1 := hR.2.1 hf
    have ei : (s 8811).toInt.toNat = σ.1 := by omega
    have a2 := hT.2.2.1 σ.1 a1.2.1
    rw [ei]
    exact ⟨a1.1, a2.1, a2.2.2, a2.2.1⟩
  have q0 : σ.2.1 = 0 ∨ σ.2.1 ≠ 0 := by omega
  refine bp_ld (pc' := 1) bu_45_0 rfl rfl (fun _ _ _ => rfl) rfl rfl ?_
  refine bn_gi (pc' := 4) (K := 8813) bu_45_1 rfl rfl (fun _ _ _ => rfl) hP rz_o88 rz_i88_13 rfl rfl ?_
  refine bp_i0 (pc' := 7) (pt := 24) bu_45_4 rfl rfl (fun k1 => ?_) (fun k1 => ?_)
  · replace k1 : ((s 8813)).toInt ≠ 0 := k1
    refine bp_c (pc' := 25) (n := 0) bu_45_24 rfl rfl (fun _ _ _ => rfl) (by decide) (fun c2 e3 => ?_)
    refine bp_rbF bu_45_25 (fun rb4 => ?_)
    exact kk _ (by first | omega | (have q2 := q2 (by omega); omega))
  · replace k1 : ¬ (((s 8813)).toInt ≠ 0) := k1
    refine bp_ld (pc' := 8) bu_45_7 rfl rfl (fun _ _ _ => rfl) rfl rfl ?_
    refine bn_gr (pc' := 11) (t := 91) bu_45_8 rfl rfl (fun _ _ _ => rfl) hP rz_o88 rz_r88_5 ?_
    refine bp_ld (pc' := 12) bu_45_11 rfl rfl (fun _ _ _ => rfl) rfl rfl ?_
    refine bn_gi (pc' := 15) (K := 8811) bu_45_12 rfl rfl (fun _ _ _ => rfl) hP rz_o88 rz_i88_11 rfl rfl ?_
    refine bn_iaF (pc' := 16) bu_45_15 rfl rfl (fun _ _ _ => rfl) hP rz_a91 (Or.inl rfl) (fun b5 b6 => ?_)
    refine bp_ld (pc' := 17) bu_45_16 rfl rfl (fun _ _ _ => rfl) rfl rfl ?_
    refine bp_ic (pc' := 20) (pt := 24) bu_45_17 rfl rfl (fun k7 => ?_) (fun k7 => ?_)
    · replace k7 : ((A 91 ((s 8811)).toInt.toNat)).toInt ≠ (k).toInt := k7
      refine bp_c (pc' := 25) (n := 0) bu_45_24 rfl rfl (fun _ _ _ => rfl) (by decide) (fun c8 e9 => ?_)
      refine bp_rbF bu_45_25 (fun rb10 => ?_)
      exact kk _ (by first | omega | (have q2 := q2 (by omega); omega))
    · replace k7 : ¬ (((A 91 ((s 8811)).toInt.toNat)).toInt ≠ (k).toInt) := k7
      refine bp_c (pc' := 21) (n := 1) bu_45_20 rfl rfl (fun _ _ _ => rfl) (by decide) (fun c11 e12 => ?_)
      refine bp_go (pc' := 25) bu_45_21 rfl ?_
      refine bp_rbF bu_45_25 (fun rb13 => ?_)
      exact kk _ (by first | omega | (have q2 := q2 (by omega); omega))
theorem rr_27 {k : Int32} {kn : Nat} (hP : bm_P rz_T E h0 h s A L) (hkn : k.toInt = (kn : Int)) (hk0 : kn ≠ 0) (hR : rq_R K P M σ ns oo e s A L) (hT : rq_T K V P M A) (kk : ∀ (h' : mm_H) (s' : Nat → Int32) (A' : Nat → Nat → Int32) (L' : Nat → Nat → Int64), bm_P rz_T E h0 h' s' A' L' → rq_F s A L s' A' L' → rq_R K P M (py_fl kn σ) ns oo e s' A' L' → bp_G E PO NN (mm_back (none) gs h')) : bp_G E PO NN ((27, 0, [(0, .ref (E.1 + 88)), (1, .int k)], [], 0, 0) :: gs, h, none) := by
  refine bp_ld (pc' := 1) bu_27_0 rfl rfl (fun _ _ _ => rfl) rfl rfl ?_
  refine bn_gi (pc' := 4) (K := 8813) bu_27_1 rfl rfl (fun _ _ _ => rfl) hP rz_o88 rz_i88_13 rfl rfl ?_
  refine bp_i0 (pc' := 7) (pt := 8) bu_27_4 rfl rfl (fun k14 => ?_) (fun k14 => ?_)
  · replace k14 : ((s 8813)).toInt ≤ 0 := k14
    refine bp_ld (pc' := 9) bu_27_8 rfl rfl (fun _ _ _ => rfl) rfl rfl ?_
    refine bp_ld (pc' := 10) bu_27_9 rfl rfl (fun _ _ _ => rfl) rfl rfl ?_
    refine bn_pf (pc' := 13) (K := 8813) bu_27_10 rfl rfl (fun _ _ _ => rfl) hP rz_o88 rz_i88_13 rfl rfl (fun h15 s16 hP17 e18 f19 => ?_)
    refine bp_ld (pc' := 14) bu_27_13 rfl rfl (fun _ _ _ => rfl) rfl rfl ?_
    refine bp_ld (pc' := 15) bu_27_14 rfl rfl (fun _ _ _ => rfl) rfl rfl ?_
    refine bn_gr (pc' := 18) (t := 92) bu_27_15 rfl rfl (fun _ _ _ => rfl) hP17 rz_o88 rz_r88_6 ?_
    refine bp_ld (pc' := 19) bu_27_18 rfl rfl (fun _ _ _ => rfl) rfl rfl ?_
    refine bn_gi (pc' := 22) (K := 8811) bu_27_19 rfl rfl (fun _ _ _ => rfl) hP17 rz_o88 rz_i88_11 rfl (f19 8811 (by decide)) ?_
    refine bn_iaF (pc' := 23) bu_27_22 rfl rfl (fun _ _ _ => rfl) hP17 rz_a92 (Or.inl rfl) (fun b20 b21 => ?_)
    refine bn_pf (pc' := 26) (K := 8814) bu_27_23 rfl rfl (fun _ _ _ => rfl) hP17 rz_o88 rz_i88_14 rfl rfl (fun h22 s23 hP24 e25 f26 => ?_)
    refine bp_rv bu_27_26 ?_
    have z8813 := congrArg Int32.toInt ((f26 8813 (by decide)).trans e18)
    exact kk _ _ _ _ hP24 ⟨⟨((f26 8802 (by decide)).trans (f19 8802 (by decide))), ((f26 8804 (by decide)).trans (f19 8804 (by decide))), ((f26 8810 (by decide)).trans (f19 8810 (by decide))), ((f26 8818 (by decide)).trans (f19 8818 (by decide))), ((f26 8819 (by decide)).trans (f19 8819 (by decide)))⟩, ⟨rfl, rfl, rfl, rfl, rfl⟩, rfl, rfl, ((f26 8865 (by decide)).trans (f19 8865 (by decide))), rfl, fun c c1 c2 => rfl⟩ (rq_fl hR hT hk0 (fun _ => by first | (exfalso; omega) | exact ⟨by omega, e25⟩) (fun _ => by first | (exfalso; omega) | exact ⟨rfl, rfl⟩))
  · replace k14 : ¬ (((s 8813)).toInt ≤ 0) := k14
    refine bp_rv bu_27_7 ?_
    exact kk _ _ _ _ hP ⟨⟨rfl, rfl, rfl, rfl, rfl⟩, ⟨rfl, rfl, rfl, rfl, rfl⟩, rfl, rfl, rfl, rfl, fun c c1 c2 => rfl⟩ (rq_fl hR hT hk0 (fun _ => by first | (exfalso; omega) | exact ⟨by omega, rfl⟩) (fun _ => by first | (exfalso; omega) | exact ⟨rfl, rfl⟩))
theorem rr_27r {k : Int32} (hP : bm_P rz_T E h0 h s A L) (kk : ∀ (h' : mm_H) (s' : Nat → Int32), bm_P rz_T E h0 h' s' A L → (∀ j, j ≠ 8813 → j ≠ 8814 → s' j = s j) → ((0 < (s 8813).toInt ∧ s' 8813 = s 8813 ∧ s' 8814 = s 8814) ∨ ((s 8813).toInt ≤ 0 ∧ (s' 8813).toInt = k.toInt ∧ s' 8814 = A 92 (s 8811).toInt.toNat)) → bp_G E PO NN (mm_back none gs h')) : bp_G E PO NN ((27, 0, [(0, .ref (E.1 + 88)), (1, .int k)], [], 0, 0) :: gs, h, none) := by
  refine bp_ld (pc' := 1) bu_27_0 rfl rfl (fun _ _ _ => rfl) rfl rfl ?_
  refine bn_gi (pc' := 4) (K := 8813) bu_27_1 rfl rfl (fun _ _ _ => rfl) hP rz_o88 rz_i88_13 rfl rfl ?_
  refine bp_i0 (pc' := 7) (pt := 8) bu_27_4 rfl rfl (fun k27 => ?_) (fun k27 => ?_)
  · replace k27 : ((s 8813)).toInt ≤ 0 := k27
    refine bp_ld (pc' := 9) bu_27_8 rfl rfl (fun _ _ _ => rfl) rfl rfl ?_
    refine bp_ld (pc' := 10) bu_27_9 rfl rfl (fun _ _ _ => rfl) rfl rfl ?_
    refine bn_pf (pc' := 13) (K := 8813) bu_27_10 rfl rfl (fun _ _ _ => rfl) hP rz_o88 rz_i88_13 rfl rfl (fun h28 s29 hP30 e31 f32 => ?_)
    refine bp_ld (pc' := 14) bu_27_13 rfl rfl (fun _ _ _ => rfl) rfl rfl ?_
    refine bp_ld (pc' := 15) bu_27_14 rfl rfl (fun _ _ _ => rfl) rfl rfl ?_
    refine bn_gr (pc' := 18) (t := 92) bu_27_15 rfl rfl (fun _ _ _ => rfl) hP30 rz_o88 rz_r88_6 ?_
    refine bp_ld (pc' := 19) bu_27_18 rfl rfl (fun _ _ _ => rfl) rfl rfl ?_
    refine bn_gi (pc' := 22) (K := 8811) bu_27_19 rfl rfl (fun _ _ _ => rfl) hP30 rz_o88 rz_i88_11 rfl (f32 8811 (by decide)) ?_
    refine bn_iaF (pc' := 23) bu_27_22 rfl rfl (fun _ _ _ => rfl) hP30 rz_a92 (Or.inl rfl) (fun b33 b34 => ?_)
    refine bn_pf (pc' := 26) (K := 8814) bu_27_23 rfl rfl (fun _ _ _ => rfl) hP30 rz_o88 rz_i88_14 rfl rfl (fun h35 s36 hP37 e38 f39 => ?_)
    refine bp_rv bu_27_26 ?_
    have z8813 := congrArg Int32.toInt ((f39 8813 (by decide)).trans e31)
    exact kk _ _ hP37 (fun j u1 u2 => (f39 j u2).trans (f32 j u1)) (by first | exact Or.inl ⟨by omega, rfl, rfl⟩ | exact Or.inr ⟨by omega, by omega, e38⟩)
  · replace k27 : ¬ (((s 8813)).toInt ≤ 0) := k27
    refine bp_rv bu_27_7 ?_
    exact kk _ _ hP (fun j u1 u2 => rfl) (by first | exact Or.inl ⟨by omega, rfl, rfl⟩ | exact Or.inr ⟨by omega, by omega, rfl⟩)
theorem rr_37 (hP : bm_P rz_T E h0 h s A L) (he : e ≤ 1) (hR : rq_R K P M σ ns oo e s A L) (hT : rq_T K V P M A) (k0 : σ.2.1 = 0 → K σ.1 ≠ 0) (kk : ∀ (h' : mm_H) (s' : Nat → Int32) (A' : Nat → Nat → Int32) (L' : Nat → Nat → Int64), bm_P rz_T E h0 h' s' A' L' → rq_F s A L s' A' L' → rq_R K P M (py_go σ) ns oo 0 s' A' L' → bp_G E PO NN (mm_back (none) gs h')) : bp_G E PO NN ((37, 0, [(0, .ref (E.1 + 88))], [], 0, 0) :: gs, h, none) := by
  have lb := (s 8811).le_toInt
  have ub := (s 8811).toInt_lt
  refine bp_ld (pc' := 1) bu_37_0 rfl rfl (fun _ _ _ => rfl) rfl rfl ?_
  refine bn_gi (pc' := 4) (K := 8811) bu_37_1 rfl rfl (fun _ _ _ => rfl) hP rz_o88 rz_i88_11 rfl rfl ?_
  refine bp_c (pc' := 7) (n := 400) bu_37_4 rfl rfl (fun _ _ _ => rfl) (by decide) (fun c40 e41 => ?_)
  refine bp_ic (pc' := 10) (pt := 18) bu_37_7 rfl rfl (fun k42 => ?_) (fun k42 => ?_)
  · replace k42 : ((s 8811)).toInt ≠ (c40).toInt := k42
    refine bp_ld (pc' := 19) bu_37_18 rfl rfl (fun _ _ _ => rfl) rfl rfl ?_
    refine bp_dup (pc' := 20) bu_37_19 rfl rfl ?_
    refine bn_gi (pc' := 23) (K := 8811) bu_37_20 rfl rfl (fun _ _ _ => rfl) hP rz_o88 rz_i88_11 rfl rfl ?_
    refine bp_c (pc' := 24) (n := 1) bu_37_23 rfl rfl (fun _ _ _ => rfl) (by decide) (fun c43 e44 => ?_)
    refine bn_addx (pc' := 25) bu_37_24 rfl (fun v45 e46 => ?_)
    refine bn_pf (pc' := 28) (K := 8811) bu_37_25 rfl rfl (fun _ _ _ => rfl) hP rz_o88 rz_i88_11 rfl rfl (fun h47 s48 hP49 e50 f51 => ?_)
    refine bp_rv bu_37_28 ?_
    have z8811 := congrArg Int32.toInt e50
    exact kk _ _ _ _ hP49 ⟨⟨(f51 8802 (by decide)), (f51 8804 (by decide)), (f51 8810 (by decide)), (f51 8818 (by decide)), (f51 8819 (by decide))⟩, ⟨rfl, rfl, rfl, rfl, rfl⟩, rfl, rfl, (f51 8865 (by decide)), rfl, fun c c1 c2 => rfl⟩ (rq_go he hR hT k0 (f51 8815 (by decide)) (f51 8816 (by decide)) (f51 8819 (by decide)) (f51 8820 (by decide)) (f51 8812 (by decide)) (fun _ _ => by omega) (fun _ => ⟨(f51 8813 (by decide)), (f51 8814 (by decide))⟩) (fun u => by exfalso; omega))
  · replace k42 : ¬ (((s 8811)).toInt ≠ (c40).toInt) := k42
    refine bp_ld (pc' := 11) bu_37_10 rfl rfl (fun _ _ _ => rfl) rfl rfl ?_
    refine bp_c (pc' := 12) (n := 2) bu_37_11 rfl rfl (fun _ _ _ => rfl) (by decide) (fun c52 e53 => ?_)
    refine bn_cvF (pc' := 15) (st := []) (args := [.int c52]) bu_37_12 rfl rfl rfl (by decide) hP rz_o88 (by decide) rfl (Nat.le_of_ble_eq_true rfl) (Nat.le_of_ble_eq_true rfl) ?_
    refine rr_27r (k := c52) hP (fun h54 s55 hP56 f57 p58 => ?_)
    show bp_G E PO NN ((37, 15, _, [], 0, 0) :: gs, h54, none)
    refine bp_go (pc' := 28) bu_37_15 rfl ?_
    refine bp_rv bu_37_28 ?_
    have z8811 := congrArg Int32.toInt (f57 8811 (by decide) (by decide))
    exact kk _ _ _ _ hP56 ⟨⟨f57 8802 (by decide) (by decide), f57 8804 (by decide) (by decide), f57 8810 (by decide) (by decide), f57 8818 (by decide) (by decide), f57 8819 (by decide) (by decide)⟩, ⟨rfl, rfl, rfl, rfl, rfl⟩, rfl, rfl, f57 8865 (by decide) (by decide), rfl, fun _ _ _ => rfl⟩ (rq_go he hR hT k0 (f57 8815 (by decide) (by decide)) (f57 8816 (by decide) (by decide)) (f57 8819 (by decide) (by decide)) (f57 8820 (by decide) (by decide)) (f57 8812 (by decide) (by decide)) (fun u _ => absurd (by omega) u) (fun u => absurd (by omega) u) (fun _ => ⟨fun u => by rcases p58 with w | w; exact absurd w.1 (by omega); exact ⟨by omega, w.2.2⟩, fun u => by rcases p58 with w | w; exact w.2; exact absurd w.1 (by omega)⟩))
theorem rr_67 {k : Int32} {kc : Int} (hP : bm_P rz_T E h0 h s A L) (hkc : k.toInt = kc) (hk0 : kc ≠ 0) (he : e ≤ 1) (hR : rq_R K P M σ ns oo e s A L) (hT : rq_T K V P M A) (kk : ∀ (h' : mm_H) (s' : Nat → Int32) (A' : Nat → Nat → Int32) (L' : Nat → Nat → Int64), bm_P rz_T E h0 h' s' A' L' → rq_F s A L s' A' L' → rq_R K P M (py_mu K kc σ) ns oo 0 s' A' L' → bp_G E PO NN (mm_back (none) gs h')) : bp_G E PO NN ((67, 0, [(0, .ref (E.1 + 88)), (1, .int k)], [], 0, 0) :: gs, h, none) := by
  refine bp_ld (pc' := 1) bu_67_0 rfl rfl (fun _ _ _ => rfl) rfl rfl ?_
  refine bp_ld (pc' := 2) bu_67_1 rfl rfl (fun _ _ _ => rfl) rfl rfl ?_
  refine bn_cvF (pc' := 5) (st := []) (args := [.int k]) bu_67_2 rfl rfl rfl (by decide) hP rz_o88 (by decide) rfl (Nat.le_of_ble_eq_true rfl) (Nat.le_of_ble_eq_true rfl) ?_
  refine rr_45 (k := k) hP hR hT (fun r59 p60 => ?_)
  show bp_G E PO NN ((67, 5, _, [.int r59], 0, 0) :: gs, h, none)
  refine bp_i0 (pc' := 8) (pt := 15) bu_67_5 rfl rfl (fun k61 => ?_) (fun k61 => ?_)
  · replace k61 : (r59).toInt = 0 := k61
    refine bp_ld (pc' := 16) bu_67_15 rfl rfl (fun _ _ _ => rfl) rfl rfl ?_
    refine bp_c (pc' := 17) (n := 1) bu_67_16 rfl rfl (fun _ _ _ => rfl) (by decide) (fun c62 e63 => ?_)
    refine bn_cvF (pc' := 20) (st := []) (args := [.int c62]) bu_67_17 rfl rfl rfl (by decide) hP rz_o88 (by decide) rfl (Nat.le_of_ble_eq_true rfl) (Nat.le_of_ble_eq_true rfl) ?_
    refine rr_27 (kn := 1) hP (by omega) (by decide) hR hT (fun h64 s65 A66 L67 hP68 F69 R70 => ?_)
    show bp_G E PO NN ((67, 20, _, [], 0, 0) :: gs, h64, none)
    refine bp_rv bu_67_20 ?_
    have ee : py_mu K kc σ = py_fl 1 σ := if_neg (by omega)
    exact kk _ _ _ _ hP68 F69 (by rw [ee]; exact rq_R_0 (py_fl_f (by decide)) R70)
  · replace k61 : ¬ ((r59).toInt = 0) := k61
    refine bp_ld (pc' := 9) bu_67_8 rfl rfl (fun _ _ _ => rfl) rfl rfl ?_
    refine bn_cvF (pc' := 12) (st := []) (args := []) bu_67_9 rfl rfl rfl (by decide) hP rz_o88 (by decide) rfl (Nat.le_of_ble_eq_true rfl) (Nat.le_of_ble_eq_true rfl) ?_
    refine rr_37 hP (by omega) hR hT (fun _ => by omega) (fun h71 s72 A73 L74 hP75 F76 R77 => ?_)
    show bp_G E PO NN ((67, 12, _, [], 0, 0) :: gs, h71, none)
    refine bp_go (pc' := 20) bu_67_12 rfl ?_
    refine bp_rv bu_67_20 ?_
    have ee : py_mu K kc σ = py_go σ := if_pos ⟨by omega, by omega⟩
    rw [← ee] at R77
    exact kk _ _ _ _ hP75 F76 R77
theorem rr_112 {k t : Int32} (hP : bm_P rz_T E h0 h s A L) (kk : ∀ (h' : mm_H) (s' : Nat → Int32), bm_P rz_T E h0 h' s' A L → (∀ j, j ≠ 8815 → j ≠ 8816 → s' j = s j) → (((0 < (s 8813).toInt ∨ ((s 8815).toInt ≠ 0 ∧ ((s 8816).toInt < (A 92 t.toInt.toNat).toInt ∨ ((A 92 t.toInt.toNat).toInt = (s 8816).toInt ∧ (s 8815).toInt ≤ k.toInt)))) ∧ s' 8815 = s 8815 ∧ s' 8816 = s 8816) ∨ (¬ (0 < (s 8813).toInt ∨ ((s 8815).toInt ≠ 0 ∧ ((s 8816).toInt < (A 92 t.toInt.toNat).toInt ∨ ((A 92 t.toInt.toNat).toInt = (s 8816).toInt ∧ (s 8815).toInt ≤ k.toInt)))) ∧ s' 8815 = k ∧ s' 8816 = A 92 t.toInt.toNat)) → bp_G E PO NN (mm_back none gs h')) : bp_G E PO NN ((112, 0, [(0, .ref (E.1 + 88)), (1, .int k), (2, .int t)], [], 0, 0) :: gs, h, none) := by
  refine bp_ld (pc' := 1) bu_112_0 rfl rfl (fun _ _ _ => rfl) rfl rfl ?_
  refine bn_gr (pc' := 4) (t := 92) bu_112_1 rfl rfl (fun _ _ _ => rfl) hP rz_o88 rz_r88_6 ?_
  refine bp_ld (pc' := 5) bu_112_4 rfl rfl (fun _ _ _ => rfl) rfl rfl ?_
  refine bn_iaF (pc' := 6) bu_112_5 rfl rfl (fun _ _ _ => rfl) hP rz_a92 (Or.inl rfl) (fun b78 b79 => ?_)
  refine bp_st (pc' := 7) bu_112_6 rfl rfl (fun _ _ _ => rfl) rfl (by decide) (by decide) (fun lv80 F81 g82 => ?_)
  have g83 := F81 0 (.ref (E.1 + 88)) rfl (by decide) (Or.inl rfl)
  have g84 := F81 1 (.int k) rfl (by decide) (Or.inl rfl)
  have g85 := F81 2 (.int t) rfl (by decide) (Or.inl rfl)
  refine bp_ld (pc' := 8) bu_112_7 rfl rfl (fun _ _ _ => rfl) g83 rfl ?_
  refine bn_gi (pc' := 11) (K := 8813) bu_112_8 rfl rfl (fun _ _ _ => rfl) hP rz_o88 rz_i88_13 rfl rfl ?_
  refine bp_i0 (pc' := 14) (pt := 45) bu_112_11 rfl rfl (fun k86 => ?_) (fun k86 => ?_)
  · replace k86 : 0 < ((s 8813)).toInt := k86
    refine bp_rv bu_112_45 ?_
    exact kk _ _ hP (fun _ _ _ => rfl) (Or.inl ⟨by omega, rfl, rfl⟩)
  · replace k86 : ¬ (0 < ((s 8813)).toInt) := k86
    refine bp_ld (pc' := 15) bu_112_14 rfl rfl (fun _ _ _ => rfl) g83 rfl ?_
    refine bn_gi (pc' := 18) (K := 8815) bu_112_15 rfl rfl (fun _ _ _ => rfl) hP rz_o88 rz_i88_15 rfl rfl ?_
    refine bp_i0 (pc' := 21) (pt := 46) bu_112_18 rfl rfl (fun k87 => ?_) (fun k87 => ?_)
    · replace k87 : ((s 8815)).toInt = 0 := k87
      refine bp_ld (pc' := 47) bu_112_46 rfl rfl (fun _ _ _ => rfl) g83 rfl ?_
      refine bp_ld (pc' := 48) bu_112_47 rfl rfl (fun _ _ _ => rfl) g84 rfl ?_
      refine bn_pf (pc' := 51) (K := 8815) bu_112_48 rfl rfl (fun _ _ _ => rfl) hP rz_o88 rz_i88_15 rfl rfl (fun h88 s89 hP90 e91 f92 => ?_)
      refine bp_ld (pc' := 52) bu_112_51 rfl rfl (fun _ _ _ => rfl) g83 rfl ?_
      refine bp_ld (pc' := 53) bu_112_52 rfl rfl (fun _ _ _ => rfl) g82 rfl ?_
      refine bn_pf (pc' := 56) (K := 8816) bu_112_53 rfl rfl (fun _ _ _ => rfl) hP90 rz_o88 rz_i88_16 rfl rfl (fun h93 s94 hP95 e96 f97 => ?_)
      refine bp_rv bu_112_56 ?_
      exact kk _ _ hP95 (fun j u1 u2 => (f97 j u2).trans (f92 j u1)) (Or.inr ⟨by omega, ((f97 8815 (by decide)).trans e91), e96⟩)
    · replace k87 : ¬ (((s 8815)).toInt = 0) := k87
      refine bp_ld (pc' := 22) bu_112_21 rfl rfl (fun _ _ _ => rfl) g82 rfl ?_
      refine bp_ld (pc' := 23) bu_112_22 rfl rfl (fun _ _ _ => rfl) g83 rfl ?_
      refine bn_gi (pc' := 26) (K := 8816) bu_112_23 rfl rfl (fun _ _ _ => rfl) hP rz_o88 rz_i88_16 rfl rfl ?_
      refine bp_ic (pc' := 29) (pt := 45) bu_112_26 rfl rfl (fun k98 => ?_) (fun k98 => ?_)
      · replace k98 : ((s 8816)).toInt < ((A 92 (t).toInt.toNat)).toInt := k98
        refine bp_rv bu_112_45 ?_
        exact kk _ _ hP (fun _ _ _ => rfl) (Or.inl ⟨by omega, rfl, rfl⟩)
      · replace k98 : ¬ (((s 8816)).toInt < ((A 92 (t).toInt.toNat)).toInt) := k98
        refine bp_ld (pc' := 30) bu_112_29 rfl rfl (fun _ _ _ => rfl) g82 rfl ?_
        refine bp_ld (pc' := 31) bu_112_30 rfl rfl (fun _ _ _ => rfl) g83 rfl ?_
        refine bn_gi (pc' := 34) (K := 8816) bu_112_31 rfl rfl (fun _ _ _ => rfl) hP rz_o88 rz_i88_16 rfl rfl ?_
        refine bp_ic (pc' := 37) (pt := 46) bu_112_34 rfl rfl (fun k99 => ?_) (fun k99 => ?_)
        · replace k99 : ((A 92 (t).toInt.toNat)).toInt ≠ ((s 8816)).toInt := k99
          refine bp_ld (pc' := 47) bu_112_46 rfl rfl (fun _ _ _ => rfl) g83 rfl ?_
          refine bp_ld (pc' := 48) bu_112_47 rfl rfl (fun _ _ _ => rfl) g84 rfl ?_
          refine bn_pf (pc' := 51) (K := 8815) bu_112_48 rfl rfl (fun _ _ _ => rfl) hP rz_o88 rz_i88_15 rfl rfl (fun h100 s101 hP102 e103 f104 => ?_)
          refine bp_ld (pc' := 52) bu_112_51 rfl rfl (fun _ _ _ => rfl) g83 rfl ?_
          refine bp_ld (pc' := 53) bu_112_52 rfl rfl (fun _ _ _ => rfl) g82 rfl ?_
          refine bn_pf (pc' := 56) (K := 8816) bu_112_53 rfl rfl (fun _ _ _ => rfl) hP102 rz_o88 rz_i88_16 rfl rfl (fun h105 s106 hP107 e108 f109 => ?_)
          refine bp_rv bu_112_56 ?_
          exact kk _ _ hP107 (fun j u1 u2 => (f109 j u2).trans (f104 j u1)) (Or.inr ⟨by omega, ((f109 8815 (by decide)).trans e103), e108⟩)
        · replace k99 : ¬ (((A 92 (t).toInt.toNat)).toInt ≠ ((s 8816)).toInt) := k99
          refine bp_ld (pc' := 38) bu_112_37 rfl rfl (fun _ _ _ => rfl) g84 rfl ?_
          refine bp_ld (pc' := 39) bu_112_38 rfl rfl (fun _ _ _ => rfl) g83 rfl ?_
          refine bn_gi (pc' := 42) (K := 8815) bu_112_39 rfl rfl (fun _ _ _ => rfl) hP rz_o88 rz_i88_15 rfl rfl ?_
          refine bp_ic (pc' := 45) (pt := 46) bu_112_42 rfl rfl (fun k110 => ?_) (fun k110 => ?_)
          · replace k110 : (k).toInt < ((s 8815)).toInt := k110
            refine bp_ld (pc' := 47) bu_112_46 rfl rfl (fun _ _ _ => rfl) g83 rfl ?_
            refine bp_ld (pc' := 48) bu_112_47 rfl rfl (fun _ _ _ => rfl) g84 rfl ?_
            refine bn_pf (pc' := 51) (K := 8815) bu_112_48 rfl rfl (fun _ _ _ => rfl) hP rz_o88 rz_i88_15 rfl rfl (fun h111 s112 hP113 e114 f115 => ?_)
            refine bp_ld (pc' := 52) bu_112_51 rfl rfl (fun _ _ _ => rfl) g83 rfl ?_
            refine bp_ld (pc' := 53) bu_112_52 rfl rfl (fun _ _ _ => rfl) g82 rfl ?_
            refine bn_pf (pc' := 56) (K := 8816) bu_112_53 rfl rfl (fun _ _ _ => rfl) hP113 rz_o88 rz_i88_16 rfl rfl (fun h116 s117 hP118 e119 f120 => ?_)
            refine bp_rv bu_112_56 ?_
            exact kk _ _ hP118 (fun j u1 u2 => (f120 j u2).trans (f115 j u1)) (Or.inr ⟨by omega, ((f120 8815 (by decide)).trans e114), e119⟩)
          · replace k110 : ¬ ((k).toInt < ((s 8815)).toInt) := k110
            refine bp_rv bu_112_45 ?_
            exact kk _ _ hP (fun _ _ _ => rfl) (Or.inl ⟨by omega, rfl, rfl⟩)
theorem rr_10 {lo hi : Int32} (hP : bm_P rz_T E h0 h s A L) (hR : rq_R K P M σ ns oo 0 s A L) (hT : rq_T K V P M A) (kk : ∀ (h' : mm_H) (s' : Nat → Int32) (A' : Nat → Nat → Int32) (L' : Nat → Nat → Int64) (r : Int32), bm_P rz_T E h0 h' s' A' L' → rq_F s A L s' A' L' → rq_R K P M (py_nu K V lo.toInt hi.toInt σ) ns oo 0 s' A' L' → (σ.2.1 = 0 → K σ.1 = 2 → r.toInt = V σ.1) → bp_G E PO NN (mm_back (some (.int r)) gs h')) : bp_G E PO NN ((10, 0, [(0, .ref (E.1 + 88)), (1, .int lo), (2, .int hi)], [], 0, 0) :: gs, h, none) := by
  have q1 := hR.1
  have q2 : σ.2.1 = 0 → (s 8811).toInt = (σ.1 : Int) ∧ (A 91 (s 8811).toInt.toNat).toInt = K σ.1 ∧ (K σ.1 = 2 → (A 93 (s 8811).toInt.toNat).toInt = V σ.1) ∧ (A 92 (s 8811).toInt.toNat).toInt = P σ.1 := fun hf => by
    have a1 := hR.2.1 hf
    have ei : (s 8811).toInt.toNat = σ.1 := by omega
    have a2 := hT.2.2.1 σ.1 a1.2.1
    rw [ei]
    exact ⟨a1.1, a2.1, a2.2.2, a2.2.1⟩
  refine bp_ld (pc' := 1) bu_10_0 rfl rfl (fun _ _ _ => rfl) rfl rfl ?_
  refine bn_gi (pc' := 4) (K := 8813) bu_10_1 rfl rfl (fun _ _ _ => rfl) hP rz_o88 rz_i88_13 rfl rfl ?_
  refine bp_i0 (pc' := 7) (pt := 15) bu_10_4 rfl rfl (fun k121 => ?_) (fun k121 => ?_)
  · replace k121 : 0 < ((s 8813)).toInt := k121
    refine bp_ld (pc' := 16) bu_10_15 rfl rfl (fun _ _ _ => rfl) rfl rfl ?_
    refine bp_c (pc' := 17) (n := 1) bu_10_16 rfl rfl (fun _ _ _ => rfl) (by decide) (fun c122 e123 => ?_)
    refine bn_cvF (pc' := 20) (st := []) (args := [.int c122]) bu_10_17 rfl rfl rfl (by decide) hP rz_o88 (by decide) rfl (Nat.le_of_ble_eq_true rfl) (Nat.le_of_ble_eq_true rfl) ?_
    refine rr_27 (kn := 1) hP (by omega) (by decide) hR hT (fun h124 s125 A126 L127 hP128 F129 R130 => ?_)
    show bp_G E PO NN ((10, 20, _, [], 0, 0) :: gs, h124, none)
    refine bp_ld (pc' := 21) bu_10_20 rfl rfl (fun _ _ _ => rfl) rfl rfl ?_
    refine bp_ri bu_10_21 ?_
    have hn : ¬ (σ.2.1 = 0 ∧ K σ.1 = 2) := by omega
    have ee : py_nu K V lo.toInt hi.toInt σ = py_fl 1 σ := if_neg hn
    rw [← ee] at R130
    exact kk _ _ _ _ _ hP128 F129 R130 (fun u1 u2 => absurd ⟨u1, u2⟩ hn)
  · replace k121 : ¬ (0 < ((s 8813)).toInt) := k121
    refine bp_ld (pc' := 8) bu_10_7 rfl rfl (fun _ _ _ => rfl) rfl rfl ?_
    refine bp_c (pc' := 9) (n := 2) bu_10_8 rfl rfl (fun _ _ _ => rfl) (by decide) (fun c131 e132 => ?_)
    refine bn_cvF (pc' := 12) (st := []) (args := [.int c131]) bu_10_9 rfl rfl rfl (by decide) hP rz_o88 (by decide) rfl (Nat.le_of_ble_eq_true rfl) (Nat.le_of_ble_eq_true rfl) ?_
    refine rr_45 (k := c131) hP hR hT (fun r133 p134 => ?_)
    show bp_G E PO NN ((10, 12, _, [.int r133], 0, 0) :: gs, h, none)
    refine bp_i0 (pc' := 15) (pt := 22) bu_10_12 rfl rfl (fun k135 => ?_) (fun k135 => ?_)
    · replace k135 : (r133).toInt ≠ 0 := k135
      have q0 : σ.2.1 = 0 := by omega
      have q3 := q2 q0
      refine bp_ld (pc' := 23) bu_10_22 rfl rfl (fun _ _ _ => rfl) rfl rfl ?_
      refine bn_gr (pc' := 26) (t := 93) bu_10_23 rfl rfl (fun _ _ _ => rfl) hP rz_o88 rz_r88_7 ?_
      refine bp_ld (pc' := 27) bu_10_26 rfl rfl (fun _ _ _ => rfl) rfl rfl ?_
      refine bn_gi (pc' := 30) (K := 8811) bu_10_27 rfl rfl (fun _ _ _ => rfl) hP rz_o88 rz_i88_11 rfl rfl ?_
      refine bn_iaF (pc' := 31) bu_10_30 rfl rfl (fun _ _ _ => rfl) hP rz_a93 (Or.inl rfl) (fun b136 b137 => ?_)
      refine bp_st (pc' := 32) bu_10_31 rfl rfl (fun _ _ _ => rfl) rfl (by decide) (by decide) (fun lv138 F139 g140 => ?_)
      have g141 := F139 0 (.ref (E.1 + 88)) rfl (by decide) (Or.inl rfl)
      have g142 := F139 1 (.int lo) rfl (by decide) (Or.inl rfl)
      have g143 := F139 2 (.int hi) rfl (by decide) (Or.inl rfl)
      refine bp_ld (pc' := 33) bu_10_32 rfl rfl (fun _ _ _ => rfl) g140 rfl ?_
      refine bp_ld (pc' := 34) bu_10_33 rfl rfl (fun _ _ _ => rfl) g142 rfl ?_
      refine bp_ic (pc' := 37) (pt := 42) bu_10_34 rfl rfl (fun k144 => ?_) (fun k144 => ?_)
      · replace k144 : ((A 93 ((s 8811)).toInt.toNat)).toInt < (lo).toInt := k144
        refine bp_ld (pc' := 43) bu_10_42 rfl rfl (fun _ _ _ => rfl) g141 rfl ?_
        refine bp_c (pc' := 44) (n := 5) bu_10_43 rfl rfl (fun _ _ _ => rfl) (by decide) (fun c145 e146 => ?_)
        refine bp_ld (pc' := 45) bu_10_44 rfl rfl (fun _ _ _ => rfl) g141 rfl ?_
        refine bn_gi (pc' := 48) (K := 8811) bu_10_45 rfl rfl (fun _ _ _ => rfl) hP rz_o88 rz_i88_11 rfl rfl ?_
        refine bn_cvF (pc' := 51) (st := []) (args := [.int (s 8811), .int c145]) bu_10_48 rfl rfl rfl (by decide) hP rz_o88 (by decide) rfl (Nat.le_of_ble_eq_true rfl) (Nat.le_of_ble_eq_true rfl) ?_
        refine rr_112 (k := c145) (t := (s 8811)) hP (fun h147 s148 hP149 f150 p151 => ?_)
        have R152 : rq_R K P M (py_wr 5 σ.1 σ) ns oo 1 s148 A L := rq_wr hR hT q0 (by decide) rfl rfl f150 (q2 q0).2.2.2 (by omega) p151
        have F153 : rq_F s A L s148 A L := ⟨⟨f150 8802 (by decide) (by decide), f150 8804 (by decide) (by decide), f150 8810 (by decide) (by decide), f150 8818 (by decide) (by decide), f150 8819 (by decide) (by decide)⟩, ⟨rfl, rfl, rfl, rfl, rfl⟩, rfl, rfl, f150 8865 (by decide) (by decide), rfl, fun _ _ _ => rfl⟩
        show bp_G E PO NN ((10, 51, lv138, [], 0, 0) :: gs, h147, none)
        refine bp_ld (pc' := 52) bu_10_51 rfl rfl (fun _ _ _ => rfl) g141 rfl ?_
        refine bn_cvF (pc' := 55) (st := []) (args := []) bu_10_52 rfl rfl rfl (by decide) hP149 rz_o88 (by decide) rfl (Nat.le_of_ble_eq_true rfl) (Nat.le_of_ble_eq_true rfl) ?_
        refine rr_37 hP149 (by decide) R152 (rq_T_F hT F153) (fun _ => by rw [py_wr_t.1]; omega) (fun h154 s155 A156 L157 hP158 F159 R160 => ?_)
        have F161 := rq_F_t F153 F159
        show bp_G E PO NN ((10, 55, lv138, [], 0, 0) :: gs, h154, none)
        refine bp_ld (pc' := 56) bu_10_55 rfl rfl (fun _ _ _ => rfl) g140 rfl ?_
        refine bp_ri bu_10_56 ?_
        have ei : (if V σ.1 < lo.toInt ∨ hi.toInt < V σ.1 then py_wr 5 σ.1 σ else σ) = py_wr 5 σ.1 σ := if_pos (by omega)
        have ee : py_nu K V lo.toInt hi.toInt σ = py_go (py_wr 5 σ.1 σ) := by
          unfold py_nu
          rw [if_pos ⟨by omega, by omega⟩, ei]
        rw [← ee] at R160
        exact kk _ _ _ _ _ hP158 F161 R160 (fun _ _ => by omega)
      · replace k144 : ¬ (((A 93 ((s 8811)).toInt.toNat)).toInt < (lo).toInt) := k144
        refine bp_ld (pc' := 38) bu_10_37 rfl rfl (fun _ _ _ => rfl) g140 rfl ?_
        refine bp_ld (pc' := 39) bu_10_38 rfl rfl (fun _ _ _ => rfl) g143 rfl ?_
        refine bp_ic (pc' := 42) (pt := 51) bu_10_39 rfl rfl (fun k162 => ?_) (fun k162 => ?_)
        · replace k162 : ((A 93 ((s 8811)).toInt.toNat)).toInt ≤ (hi).toInt := k162
          refine bp_ld (pc' := 52) bu_10_51 rfl rfl (fun _ _ _ => rfl) g141 rfl ?_
          refine bn_cvF (pc' := 55) (st := []) (args := []) bu_10_52 rfl rfl rfl (by decide) hP rz_o88 (by decide) rfl (Nat.le_of_ble_eq_true rfl) (Nat.le_of_ble_eq_true rfl) ?_
          refine rr_37 hP (by decide) hR hT (fun _ => by omega) (fun h163 s164 A165 L166 hP167 F168 R169 => ?_)
          show bp_G E PO NN ((10, 55, lv138, [], 0, 0) :: gs, h163, none)
          refine bp_ld (pc' := 56) bu_10_55 rfl rfl (fun _ _ _ => rfl) g140 rfl ?_
          refine bp_ri bu_10_56 ?_
          have ei : (if V σ.1 < lo.toInt ∨ hi.toInt < V σ.1 then py_wr 5 σ.1 σ else σ) = σ := if_neg (by omega)
          have ee : py_nu K V lo.toInt hi.toInt σ = py_go (σ) := by
            unfold py_nu
            rw [if_pos ⟨by omega, by omega⟩, ei]
          rw [← ee] at R169
          exact kk _ _ _ _ _ hP167 F168 R169 (fun _ _ => by omega)
        · replace k162 : ¬ (((A 93 ((s 8811)).toInt.toNat)).toInt ≤ (hi).toInt) := k162
          refine bp_ld (pc' := 43) bu_10_42 rfl rfl (fun _ _ _ => rfl) g141 rfl ?_
          refine bp_c (pc' := 44) (n := 5) bu_10_43 rfl rfl (fun _ _ _ => rfl) (by decide) (fun c170 e171 => ?_)
          refine bp_ld (pc' := 45) bu_10_44 rfl rfl (fun _ _ _ => rfl) g141 rfl ?_
          refine bn_gi (pc' := 48) (K := 8811) bu_10_45 rfl rfl (fun _ _ _ => rfl) hP rz_o88 rz_i88_11 rfl rfl ?_
          refine bn_cvF (pc' := 51) (st := []) (args := [.int (s 8811), .int c170]) bu_10_48 rfl rfl rfl (by decide) hP rz_o88 (by decide) rfl (Nat.le_of_ble_eq_true rfl) (Nat.le_of_ble_eq_true rfl) ?_
          refine rr_112 (k := c170) (t := (s 8811)) hP (fun h172 s173 hP174 f175 p176 => ?_)
          have R177 : rq_R K P M (py_wr 5 σ.1 σ) ns oo 1 s173 A L := rq_wr hR hT q0 (by decide) rfl rfl f175 (q2 q0).2.2.2 (by omega) p176
          have F178 : rq_F s A L s173 A L := ⟨⟨f175 8802 (by decide) (by decide), f175 8804 (by decide) (by decide), f175 8810 (by decide) (by decide), f175 8818 (by decide) (by decide), f175 8819 (by decide) (by decide)⟩, ⟨rfl, rfl, rfl, rfl, rfl⟩, rfl, rfl, f175 8865 (by decide) (by decide), rfl, fun _ _ _ => rfl⟩
          show bp_G E PO NN ((10, 51, lv138, [], 0, 0) :: gs, h172, none)
          refine bp_ld (pc' := 52) bu_10_51 rfl rfl (fun _ _ _ => rfl) g141 rfl ?_
          refine bn_cvF (pc' := 55) (st := []) (args := []) bu_10_52 rfl rfl rfl (by decide) hP174 rz_o88 (by decide) rfl (Nat.le_of_ble_eq_true rfl) (Nat.le_of_ble_eq_true rfl) ?_
          refine rr_37 hP174 (by decide) R177 (rq_T_F hT F178) (fun _ => by rw [py_wr_t.1]; omega) (fun h179 s180 A181 L182 hP183 F184 R185 => ?_)
          have F186 := rq_F_t F178 F184
          show bp_G E PO NN ((10, 55, lv138, [], 0, 0) :: gs, h179, none)
          refine bp_ld (pc' := 56) bu_10_55 rfl rfl (fun _ _ _ => rfl) g140 rfl ?_
          refine bp_ri bu_10_56 ?_
          have ei : (if V σ.1 < lo.toInt ∨ hi.toInt < V σ.1 then py_wr 5 σ.1 σ else σ) = py_wr 5 σ.1 σ := if_pos (by omega)
          have ee : py_nu K V lo.toInt hi.toInt σ = py_go (py_wr 5 σ.1 σ) := by
            unfold py_nu
            rw [if_pos ⟨by omega, by omega⟩, ei]
          rw [← ee] at R185
          exact kk _ _ _ _ _ hP183 F186 R185 (fun _ _ => by omega)
    · replace k135 : ¬ ((r133).toInt ≠ 0) := k135
      refine bp_ld (pc' := 16) bu_10_15 rfl rfl (fun _ _ _ => rfl) rfl rfl ?_
      refine bp_c (pc' := 17) (n := 1) bu_10_16 rfl rfl (fun _ _ _ => rfl) (by decide) (fun c187 e188 => ?_)
      refine bn_cvF (pc' := 20) (st := []) (args := [.int c187]) bu_10_17 rfl rfl rfl (by decide) hP rz_o88 (by decide) rfl (Nat.le_of_ble_eq_true rfl) (Nat.le_of_ble_eq_true rfl) ?_
      refine rr_27 (kn := 1) hP (by omega) (by decide) hR hT (fun h189 s190 A191 L192 hP193 F194 R195 => ?_)
      show bp_G E PO NN ((10, 20, _, [], 0, 0) :: gs, h189, none)
      refine bp_ld (pc' := 21) bu_10_20 rfl rfl (fun _ _ _ => rfl) rfl rfl ?_
      refine bp_ri bu_10_21 ?_
      have hn : ¬ (σ.2.1 = 0 ∧ K σ.1 = 2) := by omega
      have ee : py_nu K V lo.toInt hi.toInt σ = py_fl 1 σ := if_neg hn
      rw [← ee] at R195
      exact kk _ _ _ _ _ hP193 F194 R195 (fun u1 u2 => absurd ⟨u1, u2⟩ hn)
theorem rr_23 {x y : Int32} (hP : bm_P rz_T E h0 h s A L) (hR : rq_R K P M σ ns oo e s A L) (hT : rq_T K V P M A) (kk : ∀ (h' : mm_H) (s' : Nat → Int32) (A' : Nat → Nat → Int32) (L' : Nat → Nat → Int64), bm_P rz_T E h0 h' s' A' L' → rq_F s A L s' A' L' → rq_R K P M (σ) ns oo e s' A' L' → bp_G E PO NN (mm_back (none) gs h')) : bp_G E PO NN ((23, 0, [(0, .ref (E.1 + 88)), (1, .int x), (2, .int y)], [], 0, 0) :: gs, h, none) := by
  refine bp_ld (pc' := 1) bu_23_0 rfl rfl (fun _ _ _ => rfl) rfl rfl ?_
  refine bn_gr (pc' := 4) (t := 113) bu_23_1 rfl rfl (fun _ _ _ => rfl) hP rz_o88 rz_r88_40 ?_
  refine bp_ld (pc' := 5) bu_23_4 rfl rfl (fun _ _ _ => rfl) rfl rfl ?_
  refine bn_gi (pc' := 8) (K := 8839) bu_23_5 rfl rfl (fun _ _ _ => rfl) hP rz_o88 rz_i88_39 rfl rfl ?_
  refine bp_ld (pc' := 9) bu_23_8 rfl rfl (fun _ _ _ => rfl) rfl rfl ?_
  refine bn_iasF (pc' := 10) bu_23_9 rfl rfl (fun _ _ _ => rfl) hP rz_a113 (Or.inl rfl) (fun b198 b199 h196 hP197 => ?_)
  refine bp_ld (pc' := 11) bu_23_10 rfl rfl (fun _ _ _ => rfl) rfl rfl ?_
  refine bn_gr (pc' := 14) (t := 114) bu_23_11 rfl rfl (fun _ _ _ => rfl) hP197 rz_o88 rz_r88_41 ?_
  refine bp_ld (pc' := 15) bu_23_14 rfl rfl (fun _ _ _ => rfl) rfl rfl ?_
  refine bn_gi (pc' := 18) (K := 8839) bu_23_15 rfl rfl (fun _ _ _ => rfl) hP197 rz_o88 rz_i88_39 rfl rfl ?_
  refine bp_ld (pc' := 19) bu_23_18 rfl rfl (fun _ _ _ => rfl) rfl rfl ?_
  refine bn_iasF (pc' := 20) bu_23_19 rfl rfl (fun _ _ _ => rfl) hP197 rz_a114 (Or.inl rfl) (fun b202 b203 h200 hP201 => ?_)
  refine bp_ld (pc' := 21) bu_23_20 rfl rfl (fun _ _ _ => rfl) rfl rfl ?_
  refine bp_dup (pc' := 22) bu_23_21 rfl rfl ?_
  refine bn_gi (pc' := 25) (K := 8839) bu_23_22 rfl rfl (fun _ _ _ => rfl) hP201 rz_o88 rz_i88_39 rfl rfl ?_
  refine bp_c (pc' := 26) (n := 1) bu_23_25 rfl rfl (fun _ _ _ => rfl) (by decide) (fun c204 e205 => ?_)
  refine bp_addA (pc' := 27) bu_23_26 rfl (fun v206 => ?_)
  refine bn_pf (pc' := 30) (K := 8839) bu_23_27 rfl rfl (fun _ _ _ => rfl) hP201 rz_o88 rz_i88_39 rfl rfl (fun h207 s208 hP209 e210 f211 => ?_)
  refine bp_rv bu_23_30 ?_
  exact kk _ _ _ _ hP209 ⟨⟨(f211 8802 (by decide)), (f211 8804 (by decide)), (f211 8810 (by decide)), (f211 8818 (by decide)), (f211 8819 (by decide))⟩, ⟨((bh_up_ne (by decide)).trans (bh_up_ne (by decide))), ((bh_up_ne (by decide)).trans (bh_up_ne (by decide))), ((bh_up_ne (by decide)).trans (bh_up_ne (by decide))), ((bh_up_ne (by decide)).trans (bh_up_ne (by decide))), ((bh_up_ne (by decide)).trans (bh_up_ne (by decide)))⟩, rfl, rfl, (f211 8865 (by decide)), ((bh_up_ne (by decide)).trans (bh_up_ne (by decide))), fun c c1 c2 => ((bh_up_ne (by omega)).trans (bh_up_ne (by omega)))⟩ (rq_R_s hR (f211 8811 (by decide)) (f211 8813 (by decide)) (f211 8814 (by decide)) (f211 8815 (by decide)) (f211 8816 (by decide)) (f211 8819 (by decide)) (f211 8820 (by decide)) (f211 8812 (by decide)) ((bh_up_ne (by decide)).trans (bh_up_ne (by decide))))
theorem rr_105 (hP : bm_P rz_T E h0 h s A L) (he : e ≤ 1) (hR : rq_R K P M σ ns oo e s A L) (hT : rq_T K V P M A) (kk : ∀ (h' : mm_H) (s' : Nat → Int32) (A' : Nat → Nat → Int32) (L' : Nat → Nat → Int64), bm_P rz_T E h0 h' s' A' L' → rq_F s A L s' A' L' → rq_R K P M (py_un K σ) ns oo 0 s' A' L' → bp_G E PO NN (mm_back (none) gs h')) : bp_G E PO NN ((105, 0, [(0, .ref (E.1 + 88))], [], 0, 0) :: gs, h, none) := by
  have q1 := hR.1
  have q2 : σ.2.1 = 0 → (s 8811).toInt = (σ.1 : Int) ∧ (A 91 (s 8811).toInt.toNat).toInt = K σ.1 ∧ (K σ.1 = 2 → (A 93 (s 8811).toInt.toNat).toInt = V σ.1) ∧ (A 92 (s 8811).toInt.toNat).toInt = P σ.1 := fun hf => by
    have a1 := hR.2.1 hf
    have ei : (s 8811).toInt.toNat = σ.1 := by omega
    have a2 := hT.2.2.1 σ.1 a1.2.1
    rw [ei]
    exact ⟨a1.1, a2.1, a2.2.2, a2.2.1⟩
  refine bp_ld (pc' := 1) bu_105_0 rfl rfl (fun _ _ _ => rfl) rfl rfl ?_
  refine bp_c (pc' := 2) (n := 2) bu_105_1 rfl rfl (fun _ _ _ => rfl) (by decide) (fun c212 e213 => ?_)
  refine bn_cvF (pc' := 5) (st := []) (args := [.int c212]) bu_105_2 rfl rfl rfl (by decide) hP rz_o88 (by decide) rfl (Nat.le_of_ble_eq_true rfl) (Nat.le_of_ble_eq_true rfl) ?_
  refine rr_45 (k := c212) hP hR hT (fun r214 p215 => ?_)
  show bp_G E PO NN ((105, 5, _, [.int r214], 0, 0) :: gs, h, none)
  refine bp_i0 (pc' := 8) (pt := 29) bu_105_5 rfl rfl (fun k216 => ?_) (fun k216 => ?_)
  · replace k216 : (r214).toInt = 0 := k216
    refine bp_ld (pc' := 30) bu_105_29 rfl rfl (fun _ _ _ => rfl) rfl rfl ?_
    refine bn_gi (pc' := 33) (K := 8813) bu_105_30 rfl rfl (fun _ _ _ => rfl) hP rz_o88 rz_i88_13 rfl rfl ?_
    refine bp_i0 (pc' := 36) (pt := 88) bu_105_33 rfl rfl (fun k217 => ?_) (fun k217 => ?_)
    · replace k217 : ((s 8813)).toInt ≠ 0 := k217
      refine bp_ld (pc' := 89) bu_105_88 rfl rfl (fun _ _ _ => rfl) rfl rfl ?_
      refine bp_c (pc' := 90) (n := 1) bu_105_89 rfl rfl (fun _ _ _ => rfl) (by decide) (fun c218 e219 => ?_)
      refine bn_cvF (pc' := 93) (st := []) (args := [.int c218]) bu_105_90 rfl rfl rfl (by decide) hP rz_o88 (by decide) rfl (Nat.le_of_ble_eq_true rfl) (Nat.le_of_ble_eq_true rfl) ?_
      refine rr_27 (kn := 1) hP (by omega) (by decide) hR hT (fun h220 s221 A222 L223 hP224 F225 R226 => ?_)
      show bp_G E PO NN ((105, 93, _, [], 0, 0) :: gs, h220, none)
      refine bp_rv bu_105_93 ?_
      have ee : py_un K σ = py_fl 1 σ := if_neg (by omega)
      exact kk _ _ _ _ hP224 F225 (by rw [ee]; exact rq_R_0 (py_fl_f (by decide)) R226)
    · replace k217 : ¬ (((s 8813)).toInt ≠ 0) := k217
      have q0 : σ.2.1 = 0 := by omega
      have q3 := q2 q0
      refine bp_ld (pc' := 37) bu_105_36 rfl rfl (fun _ _ _ => rfl) rfl rfl ?_
      refine bn_gr (pc' := 40) (t := 91) bu_105_37 rfl rfl (fun _ _ _ => rfl) hP rz_o88 rz_r88_5 ?_
      refine bp_ld (pc' := 41) bu_105_40 rfl rfl (fun _ _ _ => rfl) rfl rfl ?_
      refine bn_gi (pc' := 44) (K := 8811) bu_105_41 rfl rfl (fun _ _ _ => rfl) hP rz_o88 rz_i88_11 rfl rfl ?_
      refine bn_iaF (pc' := 45) bu_105_44 rfl rfl (fun _ _ _ => rfl) hP rz_a91 (Or.inl rfl) (fun b227 b228 => ?_)
      refine bp_c (pc' := 47) (n := 35) bu_105_45 rfl rfl (fun _ _ _ => rfl) (by decide) (fun c229 e230 => ?_)
      refine bp_ic (pc' := 50) (pt := 88) bu_105_47 rfl rfl (fun k231 => ?_) (fun k231 => ?_)
      · replace k231 : ((A 91 ((s 8811)).toInt.toNat)).toInt < (c229).toInt := k231
        refine bp_ld (pc' := 89) bu_105_88 rfl rfl (fun _ _ _ => rfl) rfl rfl ?_
        refine bp_c (pc' := 90) (n := 1) bu_105_89 rfl rfl (fun _ _ _ => rfl) (by decide) (fun c232 e233 => ?_)
        refine bn_cvF (pc' := 93) (st := []) (args := [.int c232]) bu_105_90 rfl rfl rfl (by decide) hP rz_o88 (by decide) rfl (Nat.le_of_ble_eq_true rfl) (Nat.le_of_ble_eq_true rfl) ?_
        refine rr_27 (kn := 1) hP (by omega) (by decide) hR hT (fun h234 s235 A236 L237 hP238 F239 R240 => ?_)
        show bp_G E PO NN ((105, 93, _, [], 0, 0) :: gs, h234, none)
        refine bp_rv bu_105_93 ?_
        have ee : py_un K σ = py_fl 1 σ := if_neg (by omega)
        exact kk _ _ _ _ hP238 F239 (by rw [ee]; exact rq_R_0 (py_fl_f (by decide)) R240)
      · replace k231 : ¬ (((A 91 ((s 8811)).toInt.toNat)).toInt < (c229).toInt) := k231
        refine bp_ld (pc' := 51) bu_105_50 rfl rfl (fun _ _ _ => rfl) rfl rfl ?_
        refine bn_gr (pc' := 54) (t := 91) bu_105_51 rfl rfl (fun _ _ _ => rfl) hP rz_o88 rz_r88_5 ?_
        refine bp_ld (pc' := 55) bu_105_54 rfl rfl (fun _ _ _ => rfl) rfl rfl ?_
        refine bn_gi (pc' := 58) (K := 8811) bu_105_55 rfl rfl (fun _ _ _ => rfl) hP rz_o88 rz_i88_11 rfl rfl ?_
        refine bn_iaF (pc' := 59) bu_105_58 rfl rfl (fun _ _ _ => rfl) hP rz_a91 (Or.inl rfl) (fun b241 b242 => ?_)
        refine bp_c (pc' := 61) (n := 43) bu_105_59 rfl rfl (fun _ _ _ => rfl) (by decide) (fun c243 e244 => ?_)
        refine bp_ic (pc' := 64) (pt := 88) bu_105_61 rfl rfl (fun k245 => ?_) (fun k245 => ?_)
        · replace k245 : (c243).toInt < ((A 91 ((s 8811)).toInt.toNat)).toInt := k245
          refine bp_ld (pc' := 89) bu_105_88 rfl rfl (fun _ _ _ => rfl) rfl rfl ?_
          refine bp_c (pc' := 90) (n := 1) bu_105_89 rfl rfl (fun _ _ _ => rfl) (by decide) (fun c246 e247 => ?_)
          refine bn_cvF (pc' := 93) (st := []) (args := [.int c246]) bu_105_90 rfl rfl rfl (by decide) hP rz_o88 (by decide) rfl (Nat.le_of_ble_eq_true rfl) (Nat.le_of_ble_eq_true rfl) ?_
          refine rr_27 (kn := 1) hP (by omega) (by decide) hR hT (fun h248 s249 A250 L251 hP252 F253 R254 => ?_)
          show bp_G E PO NN ((105, 93, _, [], 0, 0) :: gs, h248, none)
          refine bp_rv bu_105_93 ?_
          have ee : py_un K σ = py_fl 1 σ := if_neg (by omega)
          exact kk _ _ _ _ hP252 F253 (by rw [ee]; exact rq_R_0 (py_fl_f (by decide)) R254)
        · replace k245 : ¬ ((c243).toInt < ((A 91 ((s 8811)).toInt.toNat)).toInt) := k245
          refine bp_ld (pc' := 65) bu_105_64 rfl rfl (fun _ _ _ => rfl) rfl rfl ?_
          refine bp_c (pc' := 66) (n := 1) bu_105_65 rfl rfl (fun _ _ _ => rfl) (by decide) (fun c255 e256 => ?_)
          refine bp_ld (pc' := 67) bu_105_66 rfl rfl (fun _ _ _ => rfl) rfl rfl ?_
          refine bn_gr (pc' := 70) (t := 91) bu_105_67 rfl rfl (fun _ _ _ => rfl) hP rz_o88 rz_r88_5 ?_
          refine bp_ld (pc' := 71) bu_105_70 rfl rfl (fun _ _ _ => rfl) rfl rfl ?_
          refine bn_gi (pc' := 74) (K := 8811) bu_105_71 rfl rfl (fun _ _ _ => rfl) hP rz_o88 rz_i88_11 rfl rfl ?_
          refine bn_iaF (pc' := 75) bu_105_74 rfl rfl (fun _ _ _ => rfl) hP rz_a91 (Or.inl rfl) (fun b257 b258 => ?_)
          refine bp_c (pc' := 77) (n := 35) bu_105_75 rfl rfl (fun _ _ _ => rfl) (by decide) (fun c259 e260 => ?_)
          refine bp_subA (pc' := 78) bu_105_77 rfl (fun v261 => ?_)
          refine bn_cvF (pc' := 81) (st := []) (args := [.int v261, .int c255]) bu_105_78 rfl rfl rfl (by decide) hP rz_o88 (by decide) rfl (Nat.le_of_ble_eq_true rfl) (Nat.le_of_ble_eq_true rfl) ?_
          refine rr_23 hP hR hT (fun h262 s263 A264 L265 hP266 F267 R268 => ?_)
          show bp_G E PO NN ((105, 81, _, [], 0, 0) :: gs, h262, none)
          refine bp_ld (pc' := 82) bu_105_81 rfl rfl (fun _ _ _ => rfl) rfl rfl ?_
          refine bn_cvF (pc' := 85) (st := []) (args := []) bu_105_82 rfl rfl rfl (by decide) hP266 rz_o88 (by decide) rfl (Nat.le_of_ble_eq_true rfl) (Nat.le_of_ble_eq_true rfl) ?_
          refine rr_37 hP266 (by omega) R268 (rq_T_F hT F267) (fun _ => by omega) (fun h269 s270 A271 L272 hP273 F274 R275 => ?_)
          have F276 := rq_F_t F267 F274
          show bp_G E PO NN ((105, 85, _, [], 0, 0) :: gs, h269, none)
          refine bp_go (pc' := 93) bu_105_85 rfl ?_
          refine bp_rv bu_105_93 ?_
          have ee : py_un K σ = py_go σ := if_pos (by omega)
          rw [← ee] at R275
          exact kk _ _ _ _ hP273 F276 R275
  · replace k216 : ¬ ((r214).toInt = 0) := k216
    refine bp_ld (pc' := 9) bu_105_8 rfl rfl (fun _ _ _ => rfl) rfl rfl ?_
    refine bp_c (pc' := 10) (n := 0) bu_105_9 rfl rfl (fun _ _ _ => rfl) (by decide) (fun c277 e278 => ?_)
    refine bp_ld (pc' := 11) bu_105_10 rfl rfl (fun _ _ _ => rfl) rfl rfl ?_
    refine bn_gr (pc' := 14) (t := 93) bu_105_11 rfl rfl (fun _ _ _ => rfl) hP rz_o88 rz_r88_7 ?_
    refine bp_ld (pc' := 15) bu_105_14 rfl rfl (fun _ _ _ => rfl) rfl rfl ?_
    refine bn_gi (pc' := 18) (K := 8811) bu_105_15 rfl rfl (fun _ _ _ => rfl) hP rz_o88 rz_i88_11 rfl rfl ?_
    refine bn_iaF (pc' := 19) bu_105_18 rfl rfl (fun _ _ _ => rfl) hP rz_a93 (Or.inl rfl) (fun b279 b280 => ?_)
    refine bn_cvF (pc' := 22) (st := []) (args := [.int (A 93 ((s 8811)).toInt.toNat), .int c277]) bu_105_19 rfl rfl rfl (by decide) hP rz_o88 (by decide) rfl (Nat.le_of_ble_eq_true rfl) (Nat.le_of_ble_eq_true rfl) ?_
    refine rr_23 hP hR hT (fun h281 s282 A283 L284 hP285 F286 R287 => ?_)
    show bp_G E PO NN ((105, 22, _, [], 0, 0) :: gs, h281, none)
    refine bp_ld (pc' := 23) bu_105_22 rfl rfl (fun _ _ _ => rfl) rfl rfl ?_
    refine bn_cvF (pc' := 26) (st := []) (args := []) bu_105_23 rfl rfl rfl (by decide) hP285 rz_o88 (by decide) rfl (Nat.le_of_ble_eq_true rfl) (Nat.le_of_ble_eq_true rfl) ?_
    refine rr_37 hP285 (by omega) R287 (rq_T_F hT F286) (fun _ => by omega) (fun h288 s289 A290 L291 hP292 F293 R294 => ?_)
    have F295 := rq_F_t F286 F293
    show bp_G E PO NN ((105, 26, _, [], 0, 0) :: gs, h288, none)
    refine bp_go (pc' := 93) bu_105_26 rfl ?_
    refine bp_rv bu_105_93 ?_
    have ee : py_un K σ = py_go σ := if_pos (by omega)
    rw [← ee] at R294
    exact kk _ _ _ _ hP292 F295 R294
theorem rr_15l {b : Int32} {s0 : Nat → Int32} {A0 : Nat → Nat → Int32} {L0 : Nat → Nat → Int64} (hT : rq_T K V P M A0) : ∀ NN : Nat, (∀ (h' : mm_H) (s' : Nat → Int32) (A' : Nat → Nat → Int32) (L' : Nat → Nat → Int64), bm_P rz_T E h0 h' s' A' L' → rq_F s0 A0 L0 s' A' L' → rq_R K P M σ ns oo e s' A' L' → bp_G E PO NN (mm_back none gs h')) → ∀ (h : mm_H) (s : Nat → Int32) (A : Nat → Nat → Int32) (lv : mm_V) (o : Option Value) {L : Nat → Nat → Int64}, bm_P rz_T E h0 h s A L → rq_F s0 A0 L0 s A L → rq_R K P M σ ns oo e s A L → mm_get lv 0 = some (.ref (E.1 + 88)) → mm_get lv 1 = some (.int b) → bp_G E PO NN ((15, 0, lv, [], 0, 0) :: gs, h, o) := by
  intro NN
  induction NN with
  | zero => intro kk h s A lv o L hP hF hR g0 g1; exact bp_zero bu_15_0
  | succ NN ih =>
    intro kk h s A lv o L hP hF hR g0 g1
    refine bp_ld (pc' := 1) bu_15_0 rfl rfl (fun _ _ _ => rfl) g0 rfl ?_
    refine bn_gi (pc' := 4) (K := 8843) bu_15_1 rfl rfl (fun _ _ _ => rfl) hP rz_o88 rz_i88_43 rfl rfl ?_
    refine bp_i0 (pc' := 7) (pt := 91) bu_15_4 rfl rfl (fun k296 => ?_) (fun k296 => ?_)
    · replace k296 : ((s 8843)).toInt ≤ 0 := k296
      refine bp_rv bu_15_91 ?_
      exact kk _ _ _ _ hP hF hR
    · replace k296 : ¬ (((s 8843)).toInt ≤ 0) := k296
      refine bp_ld (pc' := 8) bu_15_7 rfl rfl (fun _ _ _ => rfl) g0 rfl ?_
      refine bn_gr (pc' := 11) (t := 115) bu_15_8 rfl rfl (fun _ _ _ => rfl) hP rz_o88 rz_r88_42 ?_
      refine bp_ld (pc' := 12) bu_15_11 rfl rfl (fun _ _ _ => rfl) g0 rfl ?_
      refine bn_gi (pc' := 15) (K := 8843) bu_15_12 rfl rfl (fun _ _ _ => rfl) hP rz_o88 rz_i88_43 rfl rfl ?_
      refine bp_c (pc' := 16) (n := 1) bu_15_15 rfl rfl (fun _ _ _ => rfl) (by decide) (fun c297 e298 => ?_)
      refine bp_subA (pc' := 17) bu_15_16 rfl (fun v299 => ?_)
      refine bn_iaF (pc' := 18) bu_15_17 rfl rfl (fun _ _ _ => rfl) hP rz_a115 (Or.inl rfl) (fun b300 b301 => ?_)
      refine bp_st (pc' := 19) bu_15_18 rfl rfl (fun _ _ _ => rfl) rfl (by decide) (by decide) (fun lv302 F303 g304 => ?_)
      have g305 := F303 0 (.ref (E.1 + 88)) g0 (by decide) (Or.inl rfl)
      have g306 := F303 1 (.int b) g1 (by decide) (Or.inl rfl)
      refine bp_ld (pc' := 20) bu_15_19 rfl rfl (fun _ _ _ => rfl) g304 rfl ?_
      refine bp_c (pc' := 22) (n := 6) bu_15_20 rfl rfl (fun _ _ _ => rfl) (by decide) (fun c307 e308 => ?_)
      refine bp_ic (pc' := 25) (pt := 41) bu_15_22 rfl rfl (fun k309 => ?_) (fun k309 => ?_)
      · replace k309 : ((A 115 (v299).toInt.toNat)).toInt = (c307).toInt := k309
        refine bp_rv bu_15_41 ?_
        exact kk _ _ _ _ hP hF hR
      · replace k309 : ¬ (((A 115 (v299).toInt.toNat)).toInt = (c307).toInt) := k309
        refine bp_ld (pc' := 26) bu_15_25 rfl rfl (fun _ _ _ => rfl) g306 rfl ?_
        refine bp_i0 (pc' := 29) (pt := 42) bu_15_26 rfl rfl (fun k310 => ?_) (fun k310 => ?_)
        · replace k310 : (b).toInt = 0 := k310
          refine bp_ld (pc' := 43) bu_15_42 rfl rfl (fun _ _ _ => rfl) g305 rfl ?_
          refine bp_dup (pc' := 44) bu_15_43 rfl rfl ?_
          refine bn_gi (pc' := 47) (K := 8843) bu_15_44 rfl rfl (fun _ _ _ => rfl) hP rz_o88 rz_i88_43 rfl rfl ?_
          refine bp_c (pc' := 48) (n := 1) bu_15_47 rfl rfl (fun _ _ _ => rfl) (by decide) (fun c311 e312 => ?_)
          refine bp_subA (pc' := 49) bu_15_48 rfl (fun v313 => ?_)
          refine bn_pf (pc' := 52) (K := 8843) bu_15_49 rfl rfl (fun _ _ _ => rfl) hP rz_o88 rz_i88_43 rfl rfl (fun h314 s315 hP316 e317 f318 => ?_)
          refine bp_ld (pc' := 53) bu_15_52 rfl rfl (fun _ _ _ => rfl) g305 rfl ?_
          refine bp_ld (pc' := 54) bu_15_53 rfl rfl (fun _ _ _ => rfl) g304 rfl ?_
          refine bp_c (pc' := 56) (n := 8) bu_15_54 rfl rfl (fun _ _ _ => rfl) (by decide) (fun c319 e320 => ?_)
          refine bp_ic (pc' := 59) (pt := 63) bu_15_56 rfl rfl (fun k321 => ?_) (fun k321 => ?_)
          · replace k321 : ((A 115 (v299).toInt.toNat)).toInt ≠ (c319).toInt := k321
            refine bp_ld (pc' := 64) bu_15_63 rfl rfl (fun _ _ _ => rfl) g304 rfl ?_
            refine bp_c (pc' := 66) (n := 9) bu_15_64 rfl rfl (fun _ _ _ => rfl) (by decide) (fun c322 e323 => ?_)
            refine bp_ic (pc' := 69) (pt := 73) bu_15_66 rfl rfl (fun k324 => ?_) (fun k324 => ?_)
            · replace k324 : ((A 115 (v299).toInt.toNat)).toInt ≠ (c322).toInt := k324
              refine bp_ld (pc' := 74) bu_15_73 rfl rfl (fun _ _ _ => rfl) g304 rfl ?_
              refine bp_c (pc' := 76) (n := 10) bu_15_74 rfl rfl (fun _ _ _ => rfl) (by decide) (fun c325 e326 => ?_)
              refine bp_ic (pc' := 79) (pt := 83) bu_15_76 rfl rfl (fun k327 => ?_) (fun k327 => ?_)
              · replace k327 : ((A 115 (v299).toInt.toNat)).toInt ≠ (c325).toInt := k327
                refine bp_c (pc' := 84) (n := 5) bu_15_83 rfl rfl (fun _ _ _ => rfl) (by decide) (fun c328 e329 => ?_)
                refine bp_c (pc' := 85) (n := 0) bu_15_84 rfl rfl (fun _ _ _ => rfl) (by decide) (fun c330 e331 => ?_)
                refine bn_cvF (pc' := 88) (st := []) (args := [.int c330, .int c328]) bu_15_85 rfl rfl rfl (by decide) hP316 rz_o88 (by decide) rfl (Nat.le_of_ble_eq_true rfl) (Nat.le_of_ble_eq_true rfl) ?_
                have R332 : rq_R K P M σ ns oo e s315 A L := rq_R_s hR (f318 8811 (by decide)) (f318 8813 (by decide)) (f318 8814 (by decide)) (f318 8815 (by decide)) (f318 8816 (by decide)) (f318 8819 (by decide)) (f318 8820 (by decide)) (f318 8812 (by decide)) rfl
                have F333 : rq_F s A L s315 A L := ⟨⟨(f318 8802 (by decide)), (f318 8804 (by decide)), (f318 8810 (by decide)), (f318 8818 (by decide)), (f318 8819 (by decide))⟩, ⟨rfl, rfl, rfl, rfl, rfl⟩, rfl, rfl, (f318 8865 (by decide)), rfl, fun c c1 c2 => rfl⟩
                have F334 := rq_F_t hF F333
                refine rr_23 hP316 R332 (rq_T_F hT F334) (fun h335 s336 A337 L338 hP339 F340 R341 => ?_)
                have F342 := rq_F_t F334 F340
                show bp_G E PO (NN + 1) ((15, 88, lv302, [], 0, 0) :: gs, h335, none)
                refine bp_goD (pc' := 0) bu_15_88 rfl ?_
                exact ih (fun h' s' A' L' hP' F' R' => bp_mono (Nat.le_succ NN) (kk h' s' A' L' hP' F' R')) _ _ _ _ _ hP339 F342 R341 g305 g306
              · replace k327 : ¬ (((A 115 (v299).toInt.toNat)).toInt ≠ (c325).toInt) := k327
                refine bp_c (pc' := 80) (n := 4) bu_15_79 rfl rfl (fun _ _ _ => rfl) (by decide) (fun c343 e344 => ?_)
                refine bp_go (pc' := 84) bu_15_80 rfl ?_
                refine bp_c (pc' := 85) (n := 0) bu_15_84 rfl rfl (fun _ _ _ => rfl) (by decide) (fun c345 e346 => ?_)
                refine bn_cvF (pc' := 88) (st := []) (args := [.int c345, .int c343]) bu_15_85 rfl rfl rfl (by decide) hP316 rz_o88 (by decide) rfl (Nat.le_of_ble_eq_true rfl) (Nat.le_of_ble_eq_true rfl) ?_
                have R347 : rq_R K P M σ ns oo e s315 A L := rq_R_s hR (f318 8811 (by decide)) (f318 8813 (by decide)) (f318 8814 (by decide)) (f318 8815 (by decide)) (f318 8816 (by decide)) (f318 8819 (by decide)) (f318 8820 (by decide)) (f318 8812 (by decide)) rfl
                have F348 : rq_F s A L s315 A L := ⟨⟨(f318 8802 (by decide)), (f318 8804 (by decide)), (f318 8810 (by decide)), (f318 8818 (by decide)), (f318 8819 (by decide))⟩, ⟨rfl, rfl, rfl, rfl, rfl⟩, rfl, rfl, (f318 8865 (by decide)), rfl, fun c c1 c2 => rfl⟩
                have F349 := rq_F_t hF F348
                refine rr_23 hP316 R347 (rq_T_F hT F349) (fun h350 s351 A352 L353 hP354 F355 R356 => ?_)
                have F357 := rq_F_t F349 F355
                show bp_G E PO (NN + 1) ((15, 88, lv302, [], 0, 0) :: gs, h350, none)
                refine bp_goD (pc' := 0) bu_15_88 rfl ?_
                exact ih (fun h' s' A' L' hP' F' R' => bp_mono (Nat.le_succ NN) (kk h' s' A' L' hP' F' R')) _ _ _ _ _ hP354 F357 R356 g305 g306
            · replace k324 : ¬ (((A 115 (v299).toInt.toNat)).toInt ≠ (c322).toInt) := k324
              refine bp_c (pc' := 70) (n := 3) bu_15_69 rfl rfl (fun _ _ _ => rfl) (by decide) (fun c358 e359 => ?_)
              refine bp_go (pc' := 84) bu_15_70 rfl ?_
              refine bp_c (pc' := 85) (n := 0) bu_15_84 rfl rfl (fun _ _ _ => rfl) (by decide) (fun c360 e361 => ?_)
              refine bn_cvF (pc' := 88) (st := []) (args := [.int c360, .int c358]) bu_15_85 rfl rfl rfl (by decide) hP316 rz_o88 (by decide) rfl (Nat.le_of_ble_eq_true rfl) (Nat.le_of_ble_eq_true rfl) ?_
              have R362 : rq_R K P M σ ns oo e s315 A L := rq_R_s hR (f318 8811 (by decide)) (f318 8813 (by decide)) (f318 8814 (by decide)) (f318 8815 (by decide)) (f318 8816 (by decide)) (f318 8819 (by decide)) (f318 8820 (by decide)) (f318 8812 (by decide)) rfl
              have F363 : rq_F s A L s315 A L := ⟨⟨(f318 8802 (by decide)), (f318 8804 (by decide)), (f318 8810 (by decide)), (f318 8818 (by decide)), (f318 8819 (by decide))⟩, ⟨rfl, rfl, rfl, rfl, rfl⟩, rfl, rfl, (f318 8865 (by decide)), rfl, fun c c1 c2 => rfl⟩
              have F364 := rq_F_t hF F363
              refine rr_23 hP316 R362 (rq_T_F hT F364) (fun h365 s366 A367 L368 hP369 F370 R371 => ?_)
              have F372 := rq_F_t F364 F370
              show bp_G E PO (NN + 1) ((15, 88, lv302, [], 0, 0) :: gs, h365, none)
              refine bp_goD (pc' := 0) bu_15_88 rfl ?_
              exact ih (fun h' s' A' L' hP' F' R' => bp_mono (Nat.le_succ NN) (kk h' s' A' L' hP' F' R')) _ _ _ _ _ hP369 F372 R371 g305 g306
          · replace k321 : ¬ (((A 115 (v299).toInt.toNat)).toInt ≠ (c319).toInt) := k321
            refine bp_c (pc' := 60) (n := 2) bu_15_59 rfl rfl (fun _ _ _ => rfl) (by decide) (fun c373 e374 => ?_)
            refine bp_go (pc' := 84) bu_15_60 rfl ?_
            refine bp_c (pc' := 85) (n := 0) bu_15_84 rfl rfl (fun _ _ _ => rfl) (by decide) (fun c375 e376 => ?_)
            refine bn_cvF (pc' := 88) (st := []) (args := [.int c375, .int c373]) bu_15_85 rfl rfl rfl (by decide) hP316 rz_o88 (by decide) rfl (Nat.le_of_ble_eq_true rfl) (Nat.le_of_ble_eq_true rfl) ?_
            have R377 : rq_R K P M σ ns oo e s315 A L := rq_R_s hR (f318 8811 (by decide)) (f318 8813 (by decide)) (f318 8814 (by decide)) (f318 8815 (by decide)) (f318 8816 (by decide)) (f318 8819 (by decide)) (f318 8820 (by decide)) (f318 8812 (by decide)) rfl
            have F378 : rq_F s A L s315 A L := ⟨⟨(f318 8802 (by decide)), (f318 8804 (by decide)), (f318 8810 (by decide)), (f318 8818 (by decide)), (f318 8819 (by decide))⟩, ⟨rfl, rfl, rfl, rfl, rfl⟩, rfl, rfl, (f318 8865 (by decide)), rfl, fun c c1 c2 => rfl⟩
            have F379 := rq_F_t hF F378
            refine rr_23 hP316 R377 (rq_T_F hT F379) (fun h380 s381 A382 L383 hP384 F385 R386 => ?_)
            have F387 := rq_F_t F379 F385
            show bp_G E PO (NN + 1) ((15, 88, lv302, [], 0, 0) :: gs, h380, none)
            refine bp_goD (pc' := 0) bu_15_88 rfl ?_
            exact ih (fun h' s' A' L' hP' F' R' => bp_mono (Nat.le_succ NN) (kk h' s' A' L' hP' F' R')) _ _ _ _ _ hP384 F387 R386 g305 g306
        · replace k310 : ¬ ((b).toInt = 0) := k310
          refine bp_ld (pc' := 30) bu_15_29 rfl rfl (fun _ _ _ => rfl) g304 rfl ?_
          refine bp_c (pc' := 32) (n := 8) bu_15_30 rfl rfl (fun _ _ _ => rfl) (by decide) (fun c388 e389 => ?_)
          refine bp_ic (pc' := 35) (pt := 41) bu_15_32 rfl rfl (fun k390 => ?_) (fun k390 => ?_)
          · replace k390 : ((A 115 (v299).toInt.toNat)).toInt = (c388).toInt := k390
            refine bp_rv bu_15_41 ?_
            exact kk _ _ _ _ hP hF hR
          · replace k390 : ¬ (((A 115 (v299).toInt.toNat)).toInt = (c388).toInt) := k390
            refine bp_ld (pc' := 36) bu_15_35 rfl rfl (fun _ _ _ => rfl) g304 rfl ?_
            refine bp_c (pc' := 38) (n := 9) bu_15_36 rfl rfl (fun _ _ _ => rfl) (by decide) (fun c391 e392 => ?_)
            refine bp_ic (pc' := 41) (pt := 42) bu_15_38 rfl rfl (fun k393 => ?_) (fun k393 => ?_)
            · replace k393 : ((A 115 (v299).toInt.toNat)).toInt ≠ (c391).toInt := k393
              refine bp_ld (pc' := 43) bu_15_42 rfl rfl (fun _ _ _ => rfl) g305 rfl ?_
              refine bp_dup (pc' := 44) bu_15_43 rfl rfl ?_
              refine bn_gi (pc' := 47) (K := 8843) bu_15_44 rfl rfl (fun _ _ _ => rfl) hP rz_o88 rz_i88_43 rfl rfl ?_
              refine bp_c (pc' := 48) (n := 1) bu_15_47 rfl rfl (fun _ _ _ => rfl) (by decide) (fun c394 e395 => ?_)
              refine bp_subA (pc' := 49) bu_15_48 rfl (fun v396 => ?_)
              refine bn_pf (pc' := 52) (K := 8843) bu_15_49 rfl rfl (fun _ _ _ => rfl) hP rz_o88 rz_i88_43 rfl rfl (fun h397 s398 hP399 e400 f401 => ?_)
              refine bp_ld (pc' := 53) bu_15_52 rfl rfl (fun _ _ _ => rfl) g305 rfl ?_
              refine bp_ld (pc' := 54) bu_15_53 rfl rfl (fun _ _ _ => rfl) g304 rfl ?_
              refine bp_c (pc' := 56) (n := 8) bu_15_54 rfl rfl (fun _ _ _ => rfl) (by decide) (fun c402 e403 => ?_)
              refine bp_ic (pc' := 59) (pt := 63) bu_15_56 rfl rfl (fun k404 => ?_) (fun k404 => ?_)
              · replace k404 : ((A 115 (v299).toInt.toNat)).toInt ≠ (c402).toInt := k404
                refine bp_ld (pc' := 64) bu_15_63 rfl rfl (fun _ _ _ => rfl) g304 rfl ?_
                refine bp_c (pc' := 66) (n := 9) bu_15_64 rfl rfl (fun _ _ _ => rfl) (by decide) (fun c405 e406 => ?_)
                refine bp_ic (pc' := 69) (pt := 73) bu_15_66 rfl rfl (fun k407 => ?_) (fun k407 => ?_)
                · replace k407 : ((A 115 (v299).toInt.toNat)).toInt ≠ (c405).toInt := k407
                  refine bp_ld (pc' := 74) bu_15_73 rfl rfl (fun _ _ _ => rfl) g304 rfl ?_
                  refine bp_c (pc' := 76) (n := 10) bu_15_74 rfl rfl (fun _ _ _ => rfl) (by decide) (fun c408 e409 => ?_)
                  refine bp_ic (pc' := 79) (pt := 83) bu_15_76 rfl rfl (fun k410 => ?_) (fun k410 => ?_)
                  · replace k410 : ((A 115 (v299).toInt.toNat)).toInt ≠ (c408).toInt := k410
                    refine bp_c (pc' := 84) (n := 5) bu_15_83 rfl rfl (fun _ _ _ => rfl) (by decide) (fun c411 e412 => ?_)
                    refine bp_c (pc' := 85) (n := 0) bu_15_84 rfl rfl (fun _ _ _ => rfl) (by decide) (fun c413 e414 => ?_)
                    refine bn_cvF (pc' := 88) (st := []) (args := [.int c413, .int c411]) bu_15_85 rfl rfl rfl (by decide) hP399 rz_o88 (by decide) rfl (Nat.le_of_ble_eq_true rfl) (Nat.le_of_ble_eq_true rfl) ?_
                    have R415 : rq_R K P M σ ns oo e s398 A L := rq_R_s hR (f401 8811 (by decide)) (f401 8813 (by decide)) (f401 8814 (by decide)) (f401 8815 (by decide)) (f401 8816 (by decide)) (f401 8819 (by decide)) (f401 8820 (by decide)) (f401 8812 (by decide)) rfl
                    have F416 : rq_F s A L s398 A L := ⟨⟨(f401 8802 (by decide)), (f401 8804 (by decide)), (f401 8810 (by decide)), (f401 8818 (by decide)), (f401 8819 (by decide))⟩, ⟨rfl, rfl, rfl, rfl, rfl⟩, rfl, rfl, (f401 8865 (by decide)), rfl, fun c c1 c2 => rfl⟩
                    have F417 := rq_F_t hF F416
                    refine rr_23 hP399 R415 (rq_T_F hT F417) (fun h418 s419 A420 L421 hP422 F423 R424 => ?_)
                    have F425 := rq_F_t F417 F423
                    show bp_G E PO (NN + 1) ((15, 88, lv302, [], 0, 0) :: gs, h418, none)
                    refine bp_goD (pc' := 0) bu_15_88 rfl ?_
                    exact ih (fun h' s' A' L' hP' F' R' => bp_mono (Nat.le_succ NN) (kk h' s' A' L' hP' F' R')) _ _ _ _ _ hP422 F425 R424 g305 g306
                  · replace k410 : ¬ (((A 115 (v299).toInt.toNat)).toInt ≠ (c408).toInt) := k410
                    refine bp_c (pc' := 80) (n := 4) bu_15_79 rfl rfl (fun _ _ _ => rfl) (by decide) (fun c426 e427 => ?_)
                    refine bp_go (pc' := 84) bu_15_80 rfl ?_
                    refine bp_c (pc' := 85) (n := 0) bu_15_84 rfl rfl (fun _ _ _ => rfl) (by decide) (fun c428 e429 => ?_)
                    refine bn_cvF (pc' := 88) (st := []) (args := [.int c428, .int c426]) bu_15_85 rfl rfl rfl (by decide) hP399 rz_o88 (by decide) rfl (Nat.le_of_ble_eq_true rfl) (Nat.le_of_ble_eq_true rfl) ?_
                    have R430 : rq_R K P M σ ns oo e s398 A L := rq_R_s hR (f401 8811 (by decide)) (f401 8813 (by decide)) (f401 8814 (by decide)) (f401 8815 (by decide)) (f401 8816 (by decide)) (f401 8819 (by decide)) (f401 8820 (by decide)) (f401 8812 (by decide)) rfl
                    have F431 : rq_F s A L s398 A L := ⟨⟨(f401 8802 (by decide)), (f401 8804 (by decide)), (f401 8810 (by decide)), (f401 8818 (by decide)), (f401 8819 (by decide))⟩, ⟨rfl, rfl, rfl, rfl, rfl⟩, rfl, rfl, (f401 8865 (by decide)), rfl, fun c c1 c2 => rfl⟩
                    have F432 := rq_F_t hF F431
                    refine rr_23 hP399 R430 (rq_T_F hT F432) (fun h433 s434 A435 L436 hP437 F438 R439 => ?_)
                    have F440 := rq_F_t F432 F438
                    show bp_G E PO (NN + 1) ((15, 88, lv302, [], 0, 0) :: gs, h433, none)
                    refine bp_goD (pc' := 0) bu_15_88 rfl ?_
                    exact ih (fun h' s' A' L' hP' F' R' => bp_mono (Nat.le_succ NN) (kk h' s' A' L' hP' F' R')) _ _ _ _ _ hP437 F440 R439 g305 g306
                · replace k407 : ¬ (((A 115 (v299).toInt.toNat)).toInt ≠ (c405).toInt) := k407
                  refine bp_c (pc' := 70) (n := 3) bu_15_69 rfl rfl (fun _ _ _ => rfl) (by decide) (fun c441 e442 => ?_)
                  refine bp_go (pc' := 84) bu_15_70 rfl ?_
                  refine bp_c (pc' := 85) (n := 0) bu_15_84 rfl rfl (fun _ _ _ => rfl) (by decide) (fun c443 e444 => ?_)
                  refine bn_cvF (pc' := 88) (st := []) (args := [.int c443, .int c441]) bu_15_85 rfl rfl rfl (by decide) hP399 rz_o88 (by decide) rfl (Nat.le_of_ble_eq_true rfl) (Nat.le_of_ble_eq_true rfl) ?_
                  have R445 : rq_R K P M σ ns oo e s398 A L := rq_R_s hR (f401 8811 (by decide)) (f401 8813 (by decide)) (f401 8814 (by decide)) (f401 8815 (by decide)) (f401 8816 (by decide)) (f401 8819 (by decide)) (f401 8820 (by decide)) (f401 8812 (by decide)) rfl
                  have F446 : rq_F s A L s398 A L := ⟨⟨(f401 8802 (by decide)), (f401 8804 (by decide)), (f401 8810 (by decide)), (f401 8818 (by decide)), (f401 8819 (by decide))⟩, ⟨rfl, rfl, rfl, rfl, rfl⟩, rfl, rfl, (f401 8865 (by decide)), rfl, fun c c1 c2 => rfl⟩
                  have F447 := rq_F_t hF F446
                  refine rr_23 hP399 R445 (rq_T_F hT F447) (fun h448 s449 A450 L451 hP452 F453 R454 => ?_)
                  have F455 := rq_F_t F447 F453
                  show bp_G E PO (NN + 1) ((15, 88, lv302, [], 0, 0) :: gs, h448, none)
                  refine bp_goD (pc' := 0) bu_15_88 rfl ?_
                  exact ih (fun h' s' A' L' hP' F' R' => bp_mono (Nat.le_succ NN) (kk h' s' A' L' hP' F' R')) _ _ _ _ _ hP452 F455 R454 g305 g306
              · replace k404 : ¬ (((A 115 (v299).toInt.toNat)).toInt ≠ (c402).toInt) := k404
                refine bp_c (pc' := 60) (n := 2) bu_15_59 rfl rfl (fun _ _ _ => rfl) (by decide) (fun c456 e457 => ?_)
                refine bp_go (pc' := 84) bu_15_60 rfl ?_
                refine bp_c (pc' := 85) (n := 0) bu_15_84 rfl rfl (fun _ _ _ => rfl) (by decide) (fun c458 e459 => ?_)
                refine bn_cvF (pc' := 88) (st := []) (args := [.int c458, .int c456]) bu_15_85 rfl rfl rfl (by decide) hP399 rz_o88 (by decide) rfl (Nat.le_of_ble_eq_true rfl) (Nat.le_of_ble_eq_true rfl) ?_
                have R460 : rq_R K P M σ ns oo e s398 A L := rq_R_s hR (f401 8811 (by decide)) (f401 8813 (by decide)) (f401 8814 (by decide)) (f401 8815 (by decide)) (f401 8816 (by decide)) (f401 8819 (by decide)) (f401 8820 (by decide)) (f401 8812 (by decide)) rfl
                have F461 : rq_F s A L s398 A L := ⟨⟨(f401 8802 (by decide)), (f401 8804 (by decide)), (f401 8810 (by decide)), (f401 8818 (by decide)), (f401 8819 (by decide))⟩, ⟨rfl, rfl, rfl, rfl, rfl⟩, rfl, rfl, (f401 8865 (by decide)), rfl, fun c c1 c2 => rfl⟩
                have F462 := rq_F_t hF F461
                refine rr_23 hP399 R460 (rq_T_F hT F462) (fun h463 s464 A465 L466 hP467 F468 R469 => ?_)
                have F470 := rq_F_t F462 F468
                show bp_G E PO (NN + 1) ((15, 88, lv302, [], 0, 0) :: gs, h463, none)
                refine bp_goD (pc' := 0) bu_15_88 rfl ?_
                exact ih (fun h' s' A' L' hP' F' R' => bp_mono (Nat.le_succ NN) (kk h' s' A' L' hP' F' R')) _ _ _ _ _ hP467 F470 R469 g305 g306
            · replace k393 : ¬ (((A 115 (v299).toInt.toNat)).toInt ≠ (c391).toInt) := k393
              refine bp_rv bu_15_41 ?_
              exact kk _ _ _ _ hP hF hR
theorem rr_15 {b : Int32} (hP : bm_P rz_T E h0 h s A L) (hR : rq_R K P M σ ns oo e s A L) (hT : rq_T K V P M A) (kk : ∀ (h' : mm_H) (s' : Nat → Int32) (A' : Nat → Nat → Int32) (L' : Nat → Nat → Int64), bm_P rz_T E h0 h' s' A' L' → rq_F s A L s' A' L' → rq_R K P M (σ) ns oo e s' A' L' → bp_G E PO NN (mm_back (none) gs h')) : bp_G E PO NN ((15, 0, [(0, .ref (E.1 + 88)), (1, .int b)], [], 0, 0) :: gs, h, none) := rr_15l hT NN kk _ _ _ _ _ hP rq_F_r hR rfl rfl
set_option maxHeartbeats 4000000 in
theorem rr_26l {b : Int32} (hb : b.toInt = 0) {τ : py_S} {s0 : Nat → Int32} {A0 : Nat → Nat → Int32} {L0 : Nat → Nat → Int64} (hT : rq_T K V P M A0) : ∀ NN : Nat, (∀ (h' : mm_H) (s' : Nat → Int32) (A' : Nat → Nat → Int32) (L' : Nat → Nat → Int64), bm_P rz_T E h0 h' s' A' L' → rq_F s0 A0 L0 s' A' L' → rq_R K P M τ ns 0 0 s' A' L' → bp_G E PO NN (mm_back none gs h')) → (∀ (h : mm_H) (s : Nat → Int32) (A : Nat → Nat → Int32) (L : Nat → Nat → Int64) (lv : mm_V) (o : Option Value) (σ : py_S) (on : Nat), bm_P rz_T E h0 h s A L → rq_F s0 A0 L0 s A L → rq_R K P M σ ns on 0 s A L → mm_get lv 0 = some (.ref (E.1 + 88)) → mm_get lv 1 = some (.int b) → on ≤ 6 → (∀ m : Int32, mm_get lv 2 = some (.int m) → m.toInt = 1 → py_x K true on σ = τ → bp_G E PO NN ((26, 12, lv, [], 0, 0) :: gs, h, o))) ∧ (∀ (h : mm_H) (s : Nat → Int32) (A : Nat → Nat → Int32) (L : Nat → Nat → Int64) (lv : mm_V) (o : Option Value) (σ : py_S) (on : Nat), bm_P rz_T E h0 h s A L → rq_F s0 A0 L0 s A L → rq_R K P M σ ns on 0 s A L → mm_get lv 0 = some (.ref (E.1 + 88)) → mm_get lv 1 = some (.int b) → on ≤ 6 → py_x K true on σ = τ → bp_G E PO NN ((26, 23, lv, [], 0, 0) :: gs, h, o)) ∧ (∀ (h : mm_H) (s : Nat → Int32) (A : Nat → Nat → Int32) (L : Nat → Nat → Int64) (lv : mm_V) (o : Option Value) (σ : py_S) (on : Nat), bm_P rz_T E h0 h s A L → rq_F s0 A0 L0 s A L → rq_R K P M σ ns on 0 s A L → mm_get lv 0 = some (.ref (E.1 + 88)) → mm_get lv 1 = some (.int b) → on ≤ 6 → py_x K false on σ = τ → bp_G E PO NN ((26, 96, lv, [], 0, 0) :: gs, h, o)) := by
  intro NN
  induction NN with
  | zero => exact fun kk => ⟨fun h s A L lv o σ on hP hF hR g0 g1 ho m g2 hm hx => bp_zero bu_26_12, fun h s A L lv o σ on hP hF hR g0 g1 ho hx => bp_zero bu_26_23, fun h s A L lv o σ on hP hF hR g0 g1 ho hx => bp_zero bu_26_96⟩
  | succ NN ih =>
    intro kk
    have h96 : ∀ (h : mm_H) (s : Nat → Int32) (A : Nat → Nat → Int32) (L : Nat → Nat → Int64) (lv : mm_V) (o : Option Value) (σ : py_S) (on : Nat), bm_P rz_T E h0 h s A L → rq_F s0 A0 L0 s A L → rq_R K P M σ ns on 0 s A L → mm_get lv 0 = some (.ref (E.1 + 88)) → mm_get lv 1 = some (.int b) → on ≤ 6 → py_x K false on σ = τ → bp_G E PO (NN + 1) ((26, 96, lv, [], 0, 0) :: gs, h, o) := by
      intro h s A L lv o σ on hP hF hR g0 g1 ho hx
      have q1 := hR.1
      have q2 : σ.2.1 = 0 → (s 8811).toInt = (σ.1 : Int) ∧ (A 91 (s 8811).toInt.toNat).toInt = K σ.1 ∧ (s 8812).toInt = (on : Int) ∧ σ.1 ≤ 400 := fun hf => by
        have a1 := hR.2.1 hf
        have ei : (s 8811).toInt.toNat = σ.1 := by omega
        have a2 := (rq_T_F hT hF).2.2.1 σ.1 a1.2.1
        rw [ei]
        exact ⟨a1.1, a2.1, a1.2.2.2.2.2.2.2.2, rq_le hT hR hf⟩
      have hb1 := hb
      refine bp_ld (pc' := 97) bu_26_96 rfl rfl (fun _ _ _ => rfl) g0 rfl ?_
      refine bp_c (pc' := 99) (n := 7) bu_26_97 rfl rfl (fun _ _ _ => rfl) (by decide) (fun c471 e472 => ?_)
      refine bn_cvF (pc' := 102) (st := []) (args := [.int c471]) bu_26_99 rfl rfl rfl (by decide) hP rz_o88 (by decide) rfl (Nat.le_of_ble_eq_true rfl) (Nat.le_of_ble_eq_true rfl) ?_
      refine rr_45 (k := c471) hP hR (rq_T_F hT hF) (fun r473 p474 => ?_)
      show bp_G E PO (NN + 1) ((26, 102, lv, [.int r473], 0, 0) :: gs, h, none)
      refine bp_i0 (pc' := 105) (pt := 145) bu_26_102 rfl rfl (fun k475 => ?_) (fun k475 => ?_)
      · replace k475 : (r473).toInt = 0 := k475
        refine bp_ld (pc' := 146) bu_26_145 rfl rfl (fun _ _ _ => rfl) g0 rfl ?_
        refine bp_c (pc' := 148) (n := 8) bu_26_146 rfl rfl (fun _ _ _ => rfl) (by decide) (fun c476 e477 => ?_)
        refine bn_cvF (pc' := 151) (st := []) (args := [.int c476]) bu_26_148 rfl rfl rfl (by decide) hP rz_o88 (by decide) rfl (Nat.le_of_ble_eq_true rfl) (Nat.le_of_ble_eq_true rfl) ?_
        refine rr_45 (k := c476) hP hR (rq_T_F hT hF) (fun r478 p479 => ?_)
        show bp_G E PO (NN + 1) ((26, 151, lv, [.int r478], 0, 0) :: gs, h, none)
        refine bp_i0 (pc' := 154) (pt := 181) bu_26_151 rfl rfl (fun k480 => ?_) (fun k480 => ?_)
        · replace k480 : (r478).toInt ≠ 0 := k480
          refine bp_c (pc' := 182) (n := 1) bu_26_181 rfl rfl (fun _ _ _ => rfl) (by decide) (fun c481 e482 => ?_)
          refine bp_go (pc' := 186) bu_26_182 rfl ?_
          refine bp_st (pc' := 187) bu_26_186 rfl rfl (fun _ _ _ => rfl) rfl (by decide) (by decide) (fun lv483 F484 g485 => ?_)
          have g486 := F484 0 (.ref (E.1 + 88)) g0 (by decide) (Or.inl rfl)
          have g487 := F484 1 (.int b) g1 (by decide) (Or.inl rfl)
          refine bp_ld (pc' := 188) bu_26_187 rfl rfl (fun _ _ _ => rfl) g485 rfl ?_
          refine bp_i0 (pc' := 191) (pt := 210) bu_26_188 rfl rfl (fun k488 => ?_) (fun k488 => ?_)
          · replace k488 : (c481).toInt ≠ 0 := k488
            refine bp_ld (pc' := 211) bu_26_210 rfl rfl (fun _ _ _ => rfl) g486 rfl ?_
            refine bp_ld (pc' := 212) bu_26_211 rfl rfl (fun _ _ _ => rfl) g486 rfl ?_
            refine bp_c (pc' := 214) (n := 10) bu_26_212 rfl rfl (fun _ _ _ => rfl) (by decide) (fun c489 e490 => ?_)
            refine bn_cvF (pc' := 217) (st := [.ref (E.1 + 88)]) (args := [.int c489]) bu_26_214 rfl rfl rfl (by decide) hP rz_o88 (by decide) rfl (Nat.le_of_ble_eq_true rfl) (Nat.le_of_ble_eq_true rfl) ?_
            refine rr_45 (k := c489) hP hR (rq_T_F hT hF) (fun r491 p492 => ?_)
            show bp_G E PO (NN + 1) ((26, 217, lv483, [.int r491, .ref (E.1 + 88)], 0, 0) :: gs, h, none)
            refine bp_i0 (pc' := 220) (pt := 229) bu_26_217 rfl rfl (fun k493 => ?_) (fun k493 => ?_)
            · replace k493 : (r491).toInt ≠ 0 := k493
              refine bp_c (pc' := 230) (n := 1) bu_26_229 rfl rfl (fun _ _ _ => rfl) (by decide) (fun c494 e495 => ?_)
              refine bp_go (pc' := 234) bu_26_230 rfl ?_
              refine bn_cvF (pc' := 237) (st := []) (args := [.int c494]) bu_26_234 rfl rfl rfl (by decide) hP rz_o88 (by decide) rfl (Nat.le_of_ble_eq_true rfl) (Nat.le_of_ble_eq_true rfl) ?_
              refine rr_15 hP hR (rq_T_F hT hF) (fun h496 s497 A498 L499 hP500 F501 R502 => ?_)
              have F503 := rq_F_t hF F501
              have e504 := fun q : σ.2.1 = 0 => (R502.2.1 q).2.2.2.2.2.2.2.2
              have e505 := (s497 8812).toInt_lt
              show bp_G E PO (NN + 1) ((26, 237, lv483, [], 0, 0) :: gs, h496, none)
              refine bp_ld (pc' := 238) bu_26_237 rfl rfl (fun _ _ _ => rfl) g486 rfl ?_
              refine bn_gr (pc' := 241) (t := 115) bu_26_238 rfl rfl (fun _ _ _ => rfl) hP500 rz_o88 rz_r88_42 ?_
              refine bp_ld (pc' := 242) bu_26_241 rfl rfl (fun _ _ _ => rfl) g486 rfl ?_
              refine bn_gi (pc' := 245) (K := 8843) bu_26_242 rfl rfl (fun _ _ _ => rfl) hP500 rz_o88 rz_i88_43 rfl rfl ?_
              refine bp_ld (pc' := 246) bu_26_245 rfl rfl (fun _ _ _ => rfl) g486 rfl ?_
              refine bn_gr (pc' := 249) (t := 91) bu_26_246 rfl rfl (fun _ _ _ => rfl) hP500 rz_o88 rz_r88_5 ?_
              refine bp_ld (pc' := 250) bu_26_249 rfl rfl (fun _ _ _ => rfl) g486 rfl ?_
              refine bn_gi (pc' := 253) (K := 8811) bu_26_250 rfl rfl (fun _ _ _ => rfl) hP500 rz_o88 rz_i88_11 rfl rfl ?_
              refine bn_iaF (pc' := 254) bu_26_253 rfl rfl (fun _ _ _ => rfl) hP500 rz_a91 (Or.inl rfl) (fun b506 b507 => ?_)
              refine bn_iasF (pc' := 255) bu_26_254 rfl rfl (fun _ _ _ => rfl) hP500 rz_a115 (Or.inl rfl) (fun b510 b511 h508 hP509 => ?_)
              refine bp_ld (pc' := 256) bu_26_255 rfl rfl (fun _ _ _ => rfl) g486 rfl ?_
              refine bp_dup (pc' := 257) bu_26_256 rfl rfl ?_
              refine bn_gi (pc' := 260) (K := 8843) bu_26_257 rfl rfl (fun _ _ _ => rfl) hP509 rz_o88 rz_i88_43 rfl rfl ?_
              refine bp_c (pc' := 261) (n := 1) bu_26_260 rfl rfl (fun _ _ _ => rfl) (by decide) (fun c512 e513 => ?_)
              refine bp_add (pc' := 262) bu_26_261 rfl (by omega) (by omega) (fun v514 e515 => ?_)
              refine bn_pf (pc' := 265) (K := 8843) bu_26_262 rfl rfl (fun _ _ _ => rfl) hP509 rz_o88 rz_i88_43 rfl rfl (fun h516 s517 hP518 e519 f520 => ?_)
              refine bp_ld (pc' := 266) bu_26_265 rfl rfl (fun _ _ _ => rfl) g486 rfl ?_
              refine bn_cvF (pc' := 269) (st := []) (args := []) bu_26_266 rfl rfl rfl (by decide) hP518 rz_o88 (by decide) rfl (Nat.le_of_ble_eq_true rfl) (Nat.le_of_ble_eq_true rfl) ?_
              have R521 : rq_R K P M σ ns on 0 s517 (bh_up A498 115 ((s497 8843)).toInt.toNat (mm_nar 0 (A498 91 ((s497 8811)).toInt.toNat))) L499 := rq_R_s R502 (f520 8811 (by decide)) (f520 8813 (by decide)) (f520 8814 (by decide)) (f520 8815 (by decide)) (f520 8816 (by decide)) (f520 8819 (by decide)) (f520 8820 (by decide)) (f520 8812 (by decide)) (bh_up_ne (by decide))
              have F522 : rq_F s497 A498 L499 s517 (bh_up A498 115 ((s497 8843)).toInt.toNat (mm_nar 0 (A498 91 ((s497 8811)).toInt.toNat))) L499 := ⟨⟨(f520 8802 (by decide)), (f520 8804 (by decide)), (f520 8810 (by decide)), (f520 8818 (by decide)), (f520 8819 (by decide))⟩, ⟨(bh_up_ne (by decide)), (bh_up_ne (by decide)), (bh_up_ne (by decide)), (bh_up_ne (by decide)), (bh_up_ne (by decide))⟩, rfl, rfl, (f520 8865 (by decide)), (bh_up_ne (by decide)), fun c c1 c2 => (bh_up_ne (by omega))⟩
              have F523 := rq_F_t F503 F522
              refine rr_37 hP518 (by decide) R521 (rq_T_F hT F523) (fun _ => by omega) (fun h524 s525 A526 L527 hP528 F529 R530 => ?_)
              have F531 := rq_F_t F523 F529
              show bp_G E PO (NN + 1) ((26, 269, lv483, [], 0, 0) :: gs, h524, none)
              refine bp_goD (pc' := 12) bu_26_269 rfl ?_
              have q0 : σ.2.1 = 0 := by omega
              have q3 := q2 q0
              exact (ih (fun h' s' A' L' hP' F' R' => bp_mono (Nat.le_succ NN) (kk h' s' A' L' hP' F' R'))).1 _ _ _ _ _ _ _ _ hP528 F531 R530 g486 g487 ho _ g485 (by omega) ((py_x_p q3.2.2.2 q0 (by omega)).symm.trans hx)
            · replace k493 : ¬ ((r491).toInt ≠ 0) := k493
              refine bp_ld (pc' := 221) bu_26_220 rfl rfl (fun _ _ _ => rfl) g486 rfl ?_
              refine bp_c (pc' := 223) (n := 15) bu_26_221 rfl rfl (fun _ _ _ => rfl) (by decide) (fun c532 e533 => ?_)
              refine bn_cvF (pc' := 226) (st := [.ref (E.1 + 88)]) (args := [.int c532]) bu_26_223 rfl rfl rfl (by decide) hP rz_o88 (by decide) rfl (Nat.le_of_ble_eq_true rfl) (Nat.le_of_ble_eq_true rfl) ?_
              refine rr_45 (k := c532) hP hR (rq_T_F hT hF) (fun r534 p535 => ?_)
              show bp_G E PO (NN + 1) ((26, 226, lv483, [.int r534, .ref (E.1 + 88)], 0, 0) :: gs, h, none)
              refine bp_i0 (pc' := 229) (pt := 233) bu_26_226 rfl rfl (fun k536 => ?_) (fun k536 => ?_)
              · replace k536 : (r534).toInt = 0 := k536
                refine bp_c (pc' := 234) (n := 0) bu_26_233 rfl rfl (fun _ _ _ => rfl) (by decide) (fun c537 e538 => ?_)
                refine bn_cvF (pc' := 237) (st := []) (args := [.int c537]) bu_26_234 rfl rfl rfl (by decide) hP rz_o88 (by decide) rfl (Nat.le_of_ble_eq_true rfl) (Nat.le_of_ble_eq_true rfl) ?_
                refine rr_15 hP hR (rq_T_F hT hF) (fun h539 s540 A541 L542 hP543 F544 R545 => ?_)
                have F546 := rq_F_t hF F544
                have e547 := fun q : σ.2.1 = 0 => (R545.2.1 q).2.2.2.2.2.2.2.2
                have e548 := (s540 8812).toInt_lt
                show bp_G E PO (NN + 1) ((26, 237, lv483, [], 0, 0) :: gs, h539, none)
                refine bp_ld (pc' := 238) bu_26_237 rfl rfl (fun _ _ _ => rfl) g486 rfl ?_
                refine bn_gr (pc' := 241) (t := 115) bu_26_238 rfl rfl (fun _ _ _ => rfl) hP543 rz_o88 rz_r88_42 ?_
                refine bp_ld (pc' := 242) bu_26_241 rfl rfl (fun _ _ _ => rfl) g486 rfl ?_
                refine bn_gi (pc' := 245) (K := 8843) bu_26_242 rfl rfl (fun _ _ _ => rfl) hP543 rz_o88 rz_i88_43 rfl rfl ?_
                refine bp_ld (pc' := 246) bu_26_245 rfl rfl (fun _ _ _ => rfl) g486 rfl ?_
                refine bn_gr (pc' := 249) (t := 91) bu_26_246 rfl rfl (fun _ _ _ => rfl) hP543 rz_o88 rz_r88_5 ?_
                refine bp_ld (pc' := 250) bu_26_249 rfl rfl (fun _ _ _ => rfl) g486 rfl ?_
                refine bn_gi (pc' := 253) (K := 8811) bu_26_250 rfl rfl (fun _ _ _ => rfl) hP543 rz_o88 rz_i88_11 rfl rfl ?_
                refine bn_iaF (pc' := 254) bu_26_253 rfl rfl (fun _ _ _ => rfl) hP543 rz_a91 (Or.inl rfl) (fun b549 b550 => ?_)
                refine bn_iasF (pc' := 255) bu_26_254 rfl rfl (fun _ _ _ => rfl) hP543 rz_a115 (Or.inl rfl) (fun b553 b554 h551 hP552 => ?_)
                refine bp_ld (pc' := 256) bu_26_255 rfl rfl (fun _ _ _ => rfl) g486 rfl ?_
                refine bp_dup (pc' := 257) bu_26_256 rfl rfl ?_
                refine bn_gi (pc' := 260) (K := 8843) bu_26_257 rfl rfl (fun _ _ _ => rfl) hP552 rz_o88 rz_i88_43 rfl rfl ?_
                refine bp_c (pc' := 261) (n := 1) bu_26_260 rfl rfl (fun _ _ _ => rfl) (by decide) (fun c555 e556 => ?_)
                refine bp_add (pc' := 262) bu_26_261 rfl (by omega) (by omega) (fun v557 e558 => ?_)
                refine bn_pf (pc' := 265) (K := 8843) bu_26_262 rfl rfl (fun _ _ _ => rfl) hP552 rz_o88 rz_i88_43 rfl rfl (fun h559 s560 hP561 e562 f563 => ?_)
                refine bp_ld (pc' := 266) bu_26_265 rfl rfl (fun _ _ _ => rfl) g486 rfl ?_
                refine bn_cvF (pc' := 269) (st := []) (args := []) bu_26_266 rfl rfl rfl (by decide) hP561 rz_o88 (by decide) rfl (Nat.le_of_ble_eq_true rfl) (Nat.le_of_ble_eq_true rfl) ?_
                have R564 : rq_R K P M σ ns on 0 s560 (bh_up A541 115 ((s540 8843)).toInt.toNat (mm_nar 0 (A541 91 ((s540 8811)).toInt.toNat))) L542 := rq_R_s R545 (f563 8811 (by decide)) (f563 8813 (by decide)) (f563 8814 (by decide)) (f563 8815 (by decide)) (f563 8816 (by decide)) (f563 8819 (by decide)) (f563 8820 (by decide)) (f563 8812 (by decide)) (bh_up_ne (by decide))
                have F565 : rq_F s540 A541 L542 s560 (bh_up A541 115 ((s540 8843)).toInt.toNat (mm_nar 0 (A541 91 ((s540 8811)).toInt.toNat))) L542 := ⟨⟨(f563 8802 (by decide)), (f563 8804 (by decide)), (f563 8810 (by decide)), (f563 8818 (by decide)), (f563 8819 (by decide))⟩, ⟨(bh_up_ne (by decide)), (bh_up_ne (by decide)), (bh_up_ne (by decide)), (bh_up_ne (by decide)), (bh_up_ne (by decide))⟩, rfl, rfl, (f563 8865 (by decide)), (bh_up_ne (by decide)), fun c c1 c2 => (bh_up_ne (by omega))⟩
                have F566 := rq_F_t F546 F565
                refine rr_37 hP561 (by decide) R564 (rq_T_F hT F566) (fun _ => by omega) (fun h567 s568 A569 L570 hP571 F572 R573 => ?_)
                have F574 := rq_F_t F566 F572
                show bp_G E PO (NN + 1) ((26, 269, lv483, [], 0, 0) :: gs, h567, none)
                refine bp_goD (pc' := 12) bu_26_269 rfl ?_
                have q0 : σ.2.1 = 0 := by omega
                have q3 := q2 q0
                exact (ih (fun h' s' A' L' hP' F' R' => bp_mono (Nat.le_succ NN) (kk h' s' A' L' hP' F' R'))).1 _ _ _ _ _ _ _ _ hP571 F574 R573 g486 g487 ho _ g485 (by omega) ((py_x_p q3.2.2.2 q0 (by omega)).symm.trans hx)
              · replace k536 : ¬ ((r534).toInt = 0) := k536
                refine bp_c (pc' := 230) (n := 1) bu_26_229 rfl rfl (fun _ _ _ => rfl) (by decide) (fun c575 e576 => ?_)
                refine bp_go (pc' := 234) bu_26_230 rfl ?_
                refine bn_cvF (pc' := 237) (st := []) (args := [.int c575]) bu_26_234 rfl rfl rfl (by decide) hP rz_o88 (by decide) rfl (Nat.le_of_ble_eq_true rfl) (Nat.le_of_ble_eq_true rfl) ?_
                refine rr_15 hP hR (rq_T_F hT hF) (fun h577 s578 A579 L580 hP581 F582 R583 => ?_)
                have F584 := rq_F_t hF F582
                have e585 := fun q : σ.2.1 = 0 => (R583.2.1 q).2.2.2.2.2.2.2.2
                have e586 := (s578 8812).toInt_lt
                show bp_G E PO (NN + 1) ((26, 237, lv483, [], 0, 0) :: gs, h577, none)
                refine bp_ld (pc' := 238) bu_26_237 rfl rfl (fun _ _ _ => rfl) g486 rfl ?_
                refine bn_gr (pc' := 241) (t := 115) bu_26_238 rfl rfl (fun _ _ _ => rfl) hP581 rz_o88 rz_r88_42 ?_
                refine bp_ld (pc' := 242) bu_26_241 rfl rfl (fun _ _ _ => rfl) g486 rfl ?_
                refine bn_gi (pc' := 245) (K := 8843) bu_26_242 rfl rfl (fun _ _ _ => rfl) hP581 rz_o88 rz_i88_43 rfl rfl ?_
                refine bp_ld (pc' := 246) bu_26_245 rfl rfl (fun _ _ _ => rfl) g486 rfl ?_
                refine bn_gr (pc' := 249) (t := 91) bu_26_246 rfl rfl (fun _ _ _ => rfl) hP581 rz_o88 rz_r88_5 ?_
                refine bp_ld (pc' := 250) bu_26_249 rfl rfl (fun _ _ _ => rfl) g486 rfl ?_
                refine bn_gi (pc' := 253) (K := 8811) bu_26_250 rfl rfl (fun _ _ _ => rfl) hP581 rz_o88 rz_i88_11 rfl rfl ?_
                refine bn_iaF (pc' := 254) bu_26_253 rfl rfl (fun _ _ _ => rfl) hP581 rz_a91 (Or.inl rfl) (fun b587 b588 => ?_)
                refine bn_iasF (pc' := 255) bu_26_254 rfl rfl (fun _ _ _ => rfl) hP581 rz_a115 (Or.inl rfl) (fun b591 b592 h589 hP590 => ?_)
                refine bp_ld (pc' := 256) bu_26_255 rfl rfl (fun _ _ _ => rfl) g486 rfl ?_
                refine bp_dup (pc' := 257) bu_26_256 rfl rfl ?_
                refine bn_gi (pc' := 260) (K := 8843) bu_26_257 rfl rfl (fun _ _ _ => rfl) hP590 rz_o88 rz_i88_43 rfl rfl ?_
                refine bp_c (pc' := 261) (n := 1) bu_26_260 rfl rfl (fun _ _ _ => rfl) (by decide) (fun c593 e594 => ?_)
                refine bp_add (pc' := 262) bu_26_261 rfl (by omega) (by omega) (fun v595 e596 => ?_)
                refine bn_pf (pc' := 265) (K := 8843) bu_26_262 rfl rfl (fun _ _ _ => rfl) hP590 rz_o88 rz_i88_43 rfl rfl (fun h597 s598 hP599 e600 f601 => ?_)
                refine bp_ld (pc' := 266) bu_26_265 rfl rfl (fun _ _ _ => rfl) g486 rfl ?_
                refine bn_cvF (pc' := 269) (st := []) (args := []) bu_26_266 rfl rfl rfl (by decide) hP599 rz_o88 (by decide) rfl (Nat.le_of_ble_eq_true rfl) (Nat.le_of_ble_eq_true rfl) ?_
                have R602 : rq_R K P M σ ns on 0 s598 (bh_up A579 115 ((s578 8843)).toInt.toNat (mm_nar 0 (A579 91 ((s578 8811)).toInt.toNat))) L580 := rq_R_s R583 (f601 8811 (by decide)) (f601 8813 (by decide)) (f601 8814 (by decide)) (f601 8815 (by decide)) (f601 8816 (by decide)) (f601 8819 (by decide)) (f601 8820 (by decide)) (f601 8812 (by decide)) (bh_up_ne (by decide))
                have F603 : rq_F s578 A579 L580 s598 (bh_up A579 115 ((s578 8843)).toInt.toNat (mm_nar 0 (A579 91 ((s578 8811)).toInt.toNat))) L580 := ⟨⟨(f601 8802 (by decide)), (f601 8804 (by decide)), (f601 8810 (by decide)), (f601 8818 (by decide)), (f601 8819 (by decide))⟩, ⟨(bh_up_ne (by decide)), (bh_up_ne (by decide)), (bh_up_ne (by decide)), (bh_up_ne (by decide)), (bh_up_ne (by decide))⟩, rfl, rfl, (f601 8865 (by decide)), (bh_up_ne (by decide)), fun c c1 c2 => (bh_up_ne (by omega))⟩
                have F604 := rq_F_t F584 F603
                refine rr_37 hP599 (by decide) R602 (rq_T_F hT F604) (fun _ => by omega) (fun h605 s606 A607 L608 hP609 F610 R611 => ?_)
                have F612 := rq_F_t F604 F610
                show bp_G E PO (NN + 1) ((26, 269, lv483, [], 0, 0) :: gs, h605, none)
                refine bp_goD (pc' := 12) bu_26_269 rfl ?_
                have q0 : σ.2.1 = 0 := by omega
                have q3 := q2 q0
                exact (ih (fun h' s' A' L' hP' F' R' => bp_mono (Nat.le_succ NN) (kk h' s' A' L' hP' F' R'))).1 _ _ _ _ _ _ _ _ hP609 F612 R611 g486 g487 ho _ g485 (by omega) ((py_x_p q3.2.2.2 q0 (by omega)).symm.trans hx)
          · replace k488 : ¬ ((c481).toInt ≠ 0) := k488
            omega
        · replace k480 : ¬ ((r478).toInt ≠ 0) := k480
          refine bp_ld (pc' := 155) bu_26_154 rfl rfl (fun _ _ _ => rfl) g0 rfl ?_
          refine bp_c (pc' := 157) (n := 9) bu_26_155 rfl rfl (fun _ _ _ => rfl) (by decide) (fun c613 e614 => ?_)
          refine bn_cvF (pc' := 160) (st := []) (args := [.int c613]) bu_26_157 rfl rfl rfl (by decide) hP rz_o88 (by decide) rfl (Nat.le_of_ble_eq_true rfl) (Nat.le_of_ble_eq_true rfl) ?_
          refine rr_45 (k := c613) hP hR (rq_T_F hT hF) (fun r615 p616 => ?_)
          show bp_G E PO (NN + 1) ((26, 160, lv, [.int r615], 0, 0) :: gs, h, none)
          refine bp_i0 (pc' := 163) (pt := 181) bu_26_160 rfl rfl (fun k617 => ?_) (fun k617 => ?_)
          · replace k617 : (r615).toInt ≠ 0 := k617
            refine bp_c (pc' := 182) (n := 1) bu_26_181 rfl rfl (fun _ _ _ => rfl) (by decide) (fun c618 e619 => ?_)
            refine bp_go (pc' := 186) bu_26_182 rfl ?_
            refine bp_st (pc' := 187) bu_26_186 rfl rfl (fun _ _ _ => rfl) rfl (by decide) (by decide) (fun lv620 F621 g622 => ?_)
            have g623 := F621 0 (.ref (E.1 + 88)) g0 (by decide) (Or.inl rfl)
            have g624 := F621 1 (.int b) g1 (by decide) (Or.inl rfl)
            refine bp_ld (pc' := 188) bu_26_187 rfl rfl (fun _ _ _ => rfl) g622 rfl ?_
            refine bp_i0 (pc' := 191) (pt := 210) bu_26_188 rfl rfl (fun k625 => ?_) (fun k625 => ?_)
            · replace k625 : (c618).toInt ≠ 0 := k625
              refine bp_ld (pc' := 211) bu_26_210 rfl rfl (fun _ _ _ => rfl) g623 rfl ?_
              refine bp_ld (pc' := 212) bu_26_211 rfl rfl (fun _ _ _ => rfl) g623 rfl ?_
              refine bp_c (pc' := 214) (n := 10) bu_26_212 rfl rfl (fun _ _ _ => rfl) (by decide) (fun c626 e627 => ?_)
              refine bn_cvF (pc' := 217) (st := [.ref (E.1 + 88)]) (args := [.int c626]) bu_26_214 rfl rfl rfl (by decide) hP rz_o88 (by decide) rfl (Nat.le_of_ble_eq_true rfl) (Nat.le_of_ble_eq_true rfl) ?_
              refine rr_45 (k := c626) hP hR (rq_T_F hT hF) (fun r628 p629 => ?_)
              show bp_G E PO (NN + 1) ((26, 217, lv620, [.int r628, .ref (E.1 + 88)], 0, 0) :: gs, h, none)
              refine bp_i0 (pc' := 220) (pt := 229) bu_26_217 rfl rfl (fun k630 => ?_) (fun k630 => ?_)
              · replace k630 : (r628).toInt ≠ 0 := k630
                refine bp_c (pc' := 230) (n := 1) bu_26_229 rfl rfl (fun _ _ _ => rfl) (by decide) (fun c631 e632 => ?_)
                refine bp_go (pc' := 234) bu_26_230 rfl ?_
                refine bn_cvF (pc' := 237) (st := []) (args := [.int c631]) bu_26_234 rfl rfl rfl (by decide) hP rz_o88 (by decide) rfl (Nat.le_of_ble_eq_true rfl) (Nat.le_of_ble_eq_true rfl) ?_
                refine rr_15 hP hR (rq_T_F hT hF) (fun h633 s634 A635 L636 hP637 F638 R639 => ?_)
                have F640 := rq_F_t hF F638
                have e641 := fun q : σ.2.1 = 0 => (R639.2.1 q).2.2.2.2.2.2.2.2
                have e642 := (s634 8812).toInt_lt
                show bp_G E PO (NN + 1) ((26, 237, lv620, [], 0, 0) :: gs, h633, none)
                refine bp_ld (pc' := 238) bu_26_237 rfl rfl (fun _ _ _ => rfl) g623 rfl ?_
                refine bn_gr (pc' := 241) (t := 115) bu_26_238 rfl rfl (fun _ _ _ => rfl) hP637 rz_o88 rz_r88_42 ?_
                refine bp_ld (pc' := 242) bu_26_241 rfl rfl (fun _ _ _ => rfl) g623 rfl ?_
                refine bn_gi (pc' := 245) (K := 8843) bu_26_242 rfl rfl (fun _ _ _ => rfl) hP637 rz_o88 rz_i88_43 rfl rfl ?_
                refine bp_ld (pc' := 246) bu_26_245 rfl rfl (fun _ _ _ => rfl) g623 rfl ?_
                refine bn_gr (pc' := 249) (t := 91) bu_26_246 rfl rfl (fun _ _ _ => rfl) hP637 rz_o88 rz_r88_5 ?_
                refine bp_ld (pc' := 250) bu_26_249 rfl rfl (fun _ _ _ => rfl) g623 rfl ?_
                refine bn_gi (pc' := 253) (K := 8811) bu_26_250 rfl rfl (fun _ _ _ => rfl) hP637 rz_o88 rz_i88_11 rfl rfl ?_
                refine bn_iaF (pc' := 254) bu_26_253 rfl rfl (fun _ _ _ => rfl) hP637 rz_a91 (Or.inl rfl) (fun b643 b644 => ?_)
                refine bn_iasF (pc' := 255) bu_26_254 rfl rfl (fun _ _ _ => rfl) hP637 rz_a115 (Or.inl rfl) (fun b647 b648 h645 hP646 => ?_)
                refine bp_ld (pc' := 256) bu_26_255 rfl rfl (fun _ _ _ => rfl) g623 rfl ?_
                refine bp_dup (pc' := 257) bu_26_256 rfl rfl ?_
                refine bn_gi (pc' := 260) (K := 8843) bu_26_257 rfl rfl (fun _ _ _ => rfl) hP646 rz_o88 rz_i88_43 rfl rfl ?_
                refine bp_c (pc' := 261) (n := 1) bu_26_260 rfl rfl (fun _ _ _ => rfl) (by decide) (fun c649 e650 => ?_)
                refine bp_add (pc' := 262) bu_26_261 rfl (by omega) (by omega) (fun v651 e652 => ?_)
                refine bn_pf (pc' := 265) (K := 8843) bu_26_262 rfl rfl (fun _ _ _ => rfl) hP646 rz_o88 rz_i88_43 rfl rfl (fun h653 s654 hP655 e656 f657 => ?_)
                refine bp_ld (pc' := 266) bu_26_265 rfl rfl (fun _ _ _ => rfl) g623 rfl ?_
                refine bn_cvF (pc' := 269) (st := []) (args := []) bu_26_266 rfl rfl rfl (by decide) hP655 rz_o88 (by decide) rfl (Nat.le_of_ble_eq_true rfl) (Nat.le_of_ble_eq_true rfl) ?_
                have R658 : rq_R K P M σ ns on 0 s654 (bh_up A635 115 ((s634 8843)).toInt.toNat (mm_nar 0 (A635 91 ((s634 8811)).toInt.toNat))) L636 := rq_R_s R639 (f657 8811 (by decide)) (f657 8813 (by decide)) (f657 8814 (by decide)) (f657 8815 (by decide)) (f657 8816 (by decide)) (f657 8819 (by decide)) (f657 8820 (by decide)) (f657 8812 (by decide)) (bh_up_ne (by decide))
                have F659 : rq_F s634 A635 L636 s654 (bh_up A635 115 ((s634 8843)).toInt.toNat (mm_nar 0 (A635 91 ((s634 8811)).toInt.toNat))) L636 := ⟨⟨(f657 8802 (by decide)), (f657 8804 (by decide)), (f657 8810 (by decide)), (f657 8818 (by decide)), (f657 8819 (by decide))⟩, ⟨(bh_up_ne (by decide)), (bh_up_ne (by decide)), (bh_up_ne (by decide)), (bh_up_ne (by decide)), (bh_up_ne (by decide))⟩, rfl, rfl, (f657 8865 (by decide)), (bh_up_ne (by decide)), fun c c1 c2 => (bh_up_ne (by omega))⟩
                have F660 := rq_F_t F640 F659
                refine rr_37 hP655 (by decide) R658 (rq_T_F hT F660) (fun _ => by omega) (fun h661 s662 A663 L664 hP665 F666 R667 => ?_)
                have F668 := rq_F_t F660 F666
                show bp_G E PO (NN + 1) ((26, 269, lv620, [], 0, 0) :: gs, h661, none)
                refine bp_goD (pc' := 12) bu_26_269 rfl ?_
                have q0 : σ.2.1 = 0 := by omega
                have q3 := q2 q0
                exact (ih (fun h' s' A' L' hP' F' R' => bp_mono (Nat.le_succ NN) (kk h' s' A' L' hP' F' R'))).1 _ _ _ _ _ _ _ _ hP665 F668 R667 g623 g624 ho _ g622 (by omega) ((py_x_p q3.2.2.2 q0 (by omega)).symm.trans hx)
              · replace k630 : ¬ ((r628).toInt ≠ 0) := k630
                refine bp_ld (pc' := 221) bu_26_220 rfl rfl (fun _ _ _ => rfl) g623 rfl ?_
                refine bp_c (pc' := 223) (n := 15) bu_26_221 rfl rfl (fun _ _ _ => rfl) (by decide) (fun c669 e670 => ?_)
                refine bn_cvF (pc' := 226) (st := [.ref (E.1 + 88)]) (args := [.int c669]) bu_26_223 rfl rfl rfl (by decide) hP rz_o88 (by decide) rfl (Nat.le_of_ble_eq_true rfl) (Nat.le_of_ble_eq_true rfl) ?_
                refine rr_45 (k := c669) hP hR (rq_T_F hT hF) (fun r671 p672 => ?_)
                show bp_G E PO (NN + 1) ((26, 226, lv620, [.int r671, .ref (E.1 + 88)], 0, 0) :: gs, h, none)
                refine bp_i0 (pc' := 229) (pt := 233) bu_26_226 rfl rfl (fun k673 => ?_) (fun k673 => ?_)
                · replace k673 : (r671).toInt = 0 := k673
                  refine bp_c (pc' := 234) (n := 0) bu_26_233 rfl rfl (fun _ _ _ => rfl) (by decide) (fun c674 e675 => ?_)
                  refine bn_cvF (pc' := 237) (st := []) (args := [.int c674]) bu_26_234 rfl rfl rfl (by decide) hP rz_o88 (by decide) rfl (Nat.le_of_ble_eq_true rfl) (Nat.le_of_ble_eq_true rfl) ?_
                  refine rr_15 hP hR (rq_T_F hT hF) (fun h676 s677 A678 L679 hP680 F681 R682 => ?_)
                  have F683 := rq_F_t hF F681
                  have e684 := fun q : σ.2.1 = 0 => (R682.2.1 q).2.2.2.2.2.2.2.2
                  have e685 := (s677 8812).toInt_lt
                  show bp_G E PO (NN + 1) ((26, 237, lv620, [], 0, 0) :: gs, h676, none)
                  refine bp_ld (pc' := 238) bu_26_237 rfl rfl (fun _ _ _ => rfl) g623 rfl ?_
                  refine bn_gr (pc' := 241) (t := 115) bu_26_238 rfl rfl (fun _ _ _ => rfl) hP680 rz_o88 rz_r88_42 ?_
                  refine bp_ld (pc' := 242) bu_26_241 rfl rfl (fun _ _ _ => rfl) g623 rfl ?_
                  refine bn_gi (pc' := 245) (K := 8843) bu_26_242 rfl rfl (fun _ _ _ => rfl) hP680 rz_o88 rz_i88_43 rfl rfl ?_
                  refine bp_ld (pc' := 246) bu_26_245 rfl rfl (fun _ _ _ => rfl) g623 rfl ?_
                  refine bn_gr (pc' := 249) (t := 91) bu_26_246 rfl rfl (fun _ _ _ => rfl) hP680 rz_o88 rz_r88_5 ?_
                  refine bp_ld (pc' := 250) bu_26_249 rfl rfl (fun _ _ _ => rfl) g623 rfl ?_
                  refine bn_gi (pc' := 253) (K := 8811) bu_26_250 rfl rfl (fun _ _ _ => rfl) hP680 rz_o88 rz_i88_11 rfl rfl ?_
                  refine bn_iaF (pc' := 254) bu_26_253 rfl rfl (fun _ _ _ => rfl) hP680 rz_a91 (Or.inl rfl) (fun b686 b687 => ?_)
                  refine bn_iasF (pc' := 255) bu_26_254 rfl rfl (fun _ _ _ => rfl) hP680 rz_a115 (Or.inl rfl) (fun b690 b691 h688 hP689 => ?_)
                  refine bp_ld (pc' := 256) bu_26_255 rfl rfl (fun _ _ _ => rfl) g623 rfl ?_
                  refine bp_dup (pc' := 257) bu_26_256 rfl rfl ?_
                  refine bn_gi (pc' := 260) (K := 8843) bu_26_257 rfl rfl (fun _ _ _ => rfl) hP689 rz_o88 rz_i88_43 rfl rfl ?_
                  refine bp_c (pc' := 261) (n := 1) bu_26_260 rfl rfl (fun _ _ _ => rfl) (by decide) (fun c692 e693 => ?_)
                  refine bp_add (pc' := 262) bu_26_261 rfl (by omega) (by omega) (fun v694 e695 => ?_)
                  refine bn_pf (pc' := 265) (K := 8843) bu_26_262 rfl rfl (fun _ _ _ => rfl) hP689 rz_o88 rz_i88_43 rfl rfl (fun h696 s697 hP698 e699 f700 => ?_)
                  refine bp_ld (pc' := 266) bu_26_265 rfl rfl (fun _ _ _ => rfl) g623 rfl ?_
                  refine bn_cvF (pc' := 269) (st := []) (args := []) bu_26_266 rfl rfl rfl (by decide) hP698 rz_o88 (by decide) rfl (Nat.le_of_ble_eq_true rfl) (Nat.le_of_ble_eq_true rfl) ?_
                  have R701 : rq_R K P M σ ns on 0 s697 (bh_up A678 115 ((s677 8843)).toInt.toNat (mm_nar 0 (A678 91 ((s677 8811)).toInt.toNat))) L679 := rq_R_s R682 (f700 8811 (by decide)) (f700 8813 (by decide)) (f700 8814 (by decide)) (f700 8815 (by decide)) (f700 8816 (by decide)) (f700 8819 (by decide)) (f700 8820 (by decide)) (f700 8812 (by decide)) (bh_up_ne (by decide))
                  have F702 : rq_F s677 A678 L679 s697 (bh_up A678 115 ((s677 8843)).toInt.toNat (mm_nar 0 (A678 91 ((s677 8811)).toInt.toNat))) L679 := ⟨⟨(f700 8802 (by decide)), (f700 8804 (by decide)), (f700 8810 (by decide)), (f700 8818 (by decide)), (f700 8819 (by decide))⟩, ⟨(bh_up_ne (by decide)), (bh_up_ne (by decide)), (bh_up_ne (by decide)), (bh_up_ne (by decide)), (bh_up_ne (by decide))⟩, rfl, rfl, (f700 8865 (by decide)), (bh_up_ne (by decide)), fun c c1 c2 => (bh_up_ne (by omega))⟩
                  have F703 := rq_F_t F683 F702
                  refine rr_37 hP698 (by decide) R701 (rq_T_F hT F703) (fun _ => by omega) (fun h704 s705 A706 L707 hP708 F709 R710 => ?_)
                  have F711 := rq_F_t F703 F709
                  show bp_G E PO (NN + 1) ((26, 269, lv620, [], 0, 0) :: gs, h704, none)
                  refine bp_goD (pc' := 12) bu_26_269 rfl ?_
                  have q0 : σ.2.1 = 0 := by omega
                  have q3 := q2 q0
                  exact (ih (fun h' s' A' L' hP' F' R' => bp_mono (Nat.le_succ NN) (kk h' s' A' L' hP' F' R'))).1 _ _ _ _ _ _ _ _ hP708 F711 R710 g623 g624 ho _ g622 (by omega) ((py_x_p q3.2.2.2 q0 (by omega)).symm.trans hx)
                · replace k673 : ¬ ((r671).toInt = 0) := k673
                  refine bp_c (pc' := 230) (n := 1) bu_26_229 rfl rfl (fun _ _ _ => rfl) (by decide) (fun c712 e713 => ?_)
                  refine bp_go (pc' := 234) bu_26_230 rfl ?_
                  refine bn_cvF (pc' := 237) (st := []) (args := [.int c712]) bu_26_234 rfl rfl rfl (by decide) hP rz_o88 (by decide) rfl (Nat.le_of_ble_eq_true rfl) (Nat.le_of_ble_eq_true rfl) ?_
                  refine rr_15 hP hR (rq_T_F hT hF) (fun h714 s715 A716 L717 hP718 F719 R720 => ?_)
                  have F721 := rq_F_t hF F719
                  have e722 := fun q : σ.2.1 = 0 => (R720.2.1 q).2.2.2.2.2.2.2.2
                  have e723 := (s715 8812).toInt_lt
                  show bp_G E PO (NN + 1) ((26, 237, lv620, [], 0, 0) :: gs, h714, none)
                  refine bp_ld (pc' := 238) bu_26_237 rfl rfl (fun _ _ _ => rfl) g623 rfl ?_
                  refine bn_gr (pc' := 241) (t := 115) bu_26_238 rfl rfl (fun _ _ _ => rfl) hP718 rz_o88 rz_r88_42 ?_
                  refine bp_ld (pc' := 242) bu_26_241 rfl rfl (fun _ _ _ => rfl) g623 rfl ?_
                  refine bn_gi (pc' := 245) (K := 8843) bu_26_242 rfl rfl (fun _ _ _ => rfl) hP718 rz_o88 rz_i88_43 rfl rfl ?_
                  refine bp_ld (pc' := 246) bu_26_245 rfl rfl (fun _ _ _ => rfl) g623 rfl ?_
                  refine bn_gr (pc' := 249) (t := 91) bu_26_246 rfl rfl (fun _ _ _ => rfl) hP718 rz_o88 rz_r88_5 ?_
                  refine bp_ld (pc' := 250) bu_26_249 rfl rfl (fun _ _ _ => rfl) g623 rfl ?_
                  refine bn_gi (pc' := 253) (K := 8811) bu_26_250 rfl rfl (fun _ _ _ => rfl) hP718 rz_o88 rz_i88_11 rfl rfl ?_
                  refine bn_iaF (pc' := 254) bu_26_253 rfl rfl (fun _ _ _ => rfl) hP718 rz_a91 (Or.inl rfl) (fun b724 b725 => ?_)
                  refine bn_iasF (pc' := 255) bu_26_254 rfl rfl (fun _ _ _ => rfl) hP718 rz_a115 (Or.inl rfl) (fun b728 b729 h726 hP727 => ?_)
                  refine bp_ld (pc' := 256) bu_26_255 rfl rfl (fun _ _ _ => rfl) g623 rfl ?_
                  refine bp_dup (pc' := 257) bu_26_256 rfl rfl ?_
                  refine bn_gi (pc' := 260) (K := 8843) bu_26_257 rfl rfl (fun _ _ _ => rfl) hP727 rz_o88 rz_i88_43 rfl rfl ?_
                  refine bp_c (pc' := 261) (n := 1) bu_26_260 rfl rfl (fun _ _ _ => rfl) (by decide) (fun c730 e731 => ?_)
                  refine bp_add (pc' := 262) bu_26_261 rfl (by omega) (by omega) (fun v732 e733 => ?_)
                  refine bn_pf (pc' := 265) (K := 8843) bu_26_262 rfl rfl (fun _ _ _ => rfl) hP727 rz_o88 rz_i88_43 rfl rfl (fun h734 s735 hP736 e737 f738 => ?_)
                  refine bp_ld (pc' := 266) bu_26_265 rfl rfl (fun _ _ _ => rfl) g623 rfl ?_
                  refine bn_cvF (pc' := 269) (st := []) (args := []) bu_26_266 rfl rfl rfl (by decide) hP736 rz_o88 (by decide) rfl (Nat.le_of_ble_eq_true rfl) (Nat.le_of_ble_eq_true rfl) ?_
                  have R739 : rq_R K P M σ ns on 0 s735 (bh_up A716 115 ((s715 8843)).toInt.toNat (mm_nar 0 (A716 91 ((s715 8811)).toInt.toNat))) L717 := rq_R_s R720 (f738 8811 (by decide)) (f738 8813 (by decide)) (f738 8814 (by decide)) (f738 8815 (by decide)) (f738 8816 (by decide)) (f738 8819 (by decide)) (f738 8820 (by decide)) (f738 8812 (by decide)) (bh_up_ne (by decide))
                  have F740 : rq_F s715 A716 L717 s735 (bh_up A716 115 ((s715 8843)).toInt.toNat (mm_nar 0 (A716 91 ((s715 8811)).toInt.toNat))) L717 := ⟨⟨(f738 8802 (by decide)), (f738 8804 (by decide)), (f738 8810 (by decide)), (f738 8818 (by decide)), (f738 8819 (by decide))⟩, ⟨(bh_up_ne (by decide)), (bh_up_ne (by decide)), (bh_up_ne (by decide)), (bh_up_ne (by decide)), (bh_up_ne (by decide))⟩, rfl, rfl, (f738 8865 (by decide)), (bh_up_ne (by decide)), fun c c1 c2 => (bh_up_ne (by omega))⟩
                  have F741 := rq_F_t F721 F740
                  refine rr_37 hP736 (by decide) R739 (rq_T_F hT F741) (fun _ => by omega) (fun h742 s743 A744 L745 hP746 F747 R748 => ?_)
                  have F749 := rq_F_t F741 F747
                  show bp_G E PO (NN + 1) ((26, 269, lv620, [], 0, 0) :: gs, h742, none)
                  refine bp_goD (pc' := 12) bu_26_269 rfl ?_
                  have q0 : σ.2.1 = 0 := by omega
                  have q3 := q2 q0
                  exact (ih (fun h' s' A' L' hP' F' R' => bp_mono (Nat.le_succ NN) (kk h' s' A' L' hP' F' R'))).1 _ _ _ _ _ _ _ _ hP746 F749 R748 g623 g624 ho _ g622 (by omega) ((py_x_p q3.2.2.2 q0 (by omega)).symm.trans hx)
            · replace k625 : ¬ ((c618).toInt ≠ 0) := k625
              omega
          · replace k617 : ¬ ((r615).toInt ≠ 0) := k617
            refine bp_ld (pc' := 164) bu_26_163 rfl rfl (fun _ _ _ => rfl) g0 rfl ?_
            refine bp_c (pc' := 166) (n := 10) bu_26_164 rfl rfl (fun _ _ _ => rfl) (by decide) (fun c750 e751 => ?_)
            refine bn_cvF (pc' := 169) (st := []) (args := [.int c750]) bu_26_166 rfl rfl rfl (by decide) hP rz_o88 (by decide) rfl (Nat.le_of_ble_eq_true rfl) (Nat.le_of_ble_eq_true rfl) ?_
            refine rr_45 (k := c750) hP hR (rq_T_F hT hF) (fun r752 p753 => ?_)
            show bp_G E PO (NN + 1) ((26, 169, lv, [.int r752], 0, 0) :: gs, h, none)
            refine bp_i0 (pc' := 172) (pt := 181) bu_26_169 rfl rfl (fun k754 => ?_) (fun k754 => ?_)
            · replace k754 : (r752).toInt ≠ 0 := k754
              refine bp_c (pc' := 182) (n := 1) bu_26_181 rfl rfl (fun _ _ _ => rfl) (by decide) (fun c755 e756 => ?_)
              refine bp_go (pc' := 186) bu_26_182 rfl ?_
              refine bp_st (pc' := 187) bu_26_186 rfl rfl (fun _ _ _ => rfl) rfl (by decide) (by decide) (fun lv757 F758 g759 => ?_)
              have g760 := F758 0 (.ref (E.1 + 88)) g0 (by decide) (Or.inl rfl)
              have g761 := F758 1 (.int b) g1 (by decide) (Or.inl rfl)
              refine bp_ld (pc' := 188) bu_26_187 rfl rfl (fun _ _ _ => rfl) g759 rfl ?_
              refine bp_i0 (pc' := 191) (pt := 210) bu_26_188 rfl rfl (fun k762 => ?_) (fun k762 => ?_)
              · replace k762 : (c755).toInt ≠ 0 := k762
                refine bp_ld (pc' := 211) bu_26_210 rfl rfl (fun _ _ _ => rfl) g760 rfl ?_
                refine bp_ld (pc' := 212) bu_26_211 rfl rfl (fun _ _ _ => rfl) g760 rfl ?_
                refine bp_c (pc' := 214) (n := 10) bu_26_212 rfl rfl (fun _ _ _ => rfl) (by decide) (fun c763 e764 => ?_)
                refine bn_cvF (pc' := 217) (st := [.ref (E.1 + 88)]) (args := [.int c763]) bu_26_214 rfl rfl rfl (by decide) hP rz_o88 (by decide) rfl (Nat.le_of_ble_eq_true rfl) (Nat.le_of_ble_eq_true rfl) ?_
                refine rr_45 (k := c763) hP hR (rq_T_F hT hF) (fun r765 p766 => ?_)
                show bp_G E PO (NN + 1) ((26, 217, lv757, [.int r765, .ref (E.1 + 88)], 0, 0) :: gs, h, none)
                refine bp_i0 (pc' := 220) (pt := 229) bu_26_217 rfl rfl (fun k767 => ?_) (fun k767 => ?_)
                · replace k767 : (r765).toInt ≠ 0 := k767
                  refine bp_c (pc' := 230) (n := 1) bu_26_229 rfl rfl (fun _ _ _ => rfl) (by decide) (fun c768 e769 => ?_)
                  refine bp_go (pc' := 234) bu_26_230 rfl ?_
                  refine bn_cvF (pc' := 237) (st := []) (args := [.int c768]) bu_26_234 rfl rfl rfl (by decide) hP rz_o88 (by decide) rfl (Nat.le_of_ble_eq_true rfl) (Nat.le_of_ble_eq_true rfl) ?_
                  refine rr_15 hP hR (rq_T_F hT hF) (fun h770 s771 A772 L773 hP774 F775 R776 => ?_)
                  have F777 := rq_F_t hF F775
                  have e778 := fun q : σ.2.1 = 0 => (R776.2.1 q).2.2.2.2.2.2.2.2
                  have e779 := (s771 8812).toInt_lt
                  show bp_G E PO (NN + 1) ((26, 237, lv757, [], 0, 0) :: gs, h770, none)
                  refine bp_ld (pc' := 238) bu_26_237 rfl rfl (fun _ _ _ => rfl) g760 rfl ?_
                  refine bn_gr (pc' := 241) (t := 115) bu_26_238 rfl rfl (fun _ _ _ => rfl) hP774 rz_o88 rz_r88_42 ?_
                  refine bp_ld (pc' := 242) bu_26_241 rfl rfl (fun _ _ _ => rfl) g760 rfl ?_
                  refine bn_gi (pc' := 245) (K := 8843) bu_26_242 rfl rfl (fun _ _ _ => rfl) hP774 rz_o88 rz_i88_43 rfl rfl ?_
                  refine bp_ld (pc' := 246) bu_26_245 rfl rfl (fun _ _ _ => rfl) g760 rfl ?_
                  refine bn_gr (pc' := 249) (t := 91) bu_26_246 rfl rfl (fun _ _ _ => rfl) hP774 rz_o88 rz_r88_5 ?_
                  refine bp_ld (pc' := 250) bu_26_249 rfl rfl (fun _ _ _ => rfl) g760 rfl ?_
                  refine bn_gi (pc' := 253) (K := 8811) bu_26_250 rfl rfl (fun _ _ _ => rfl) hP774 rz_o88 rz_i88_11 rfl rfl ?_
                  refine bn_iaF (pc' := 254) bu_26_253 rfl rfl (fun _ _ _ => rfl) hP774 rz_a91 (Or.inl rfl) (fun b780 b781 => ?_)
                  refine bn_iasF (pc' := 255) bu_26_254 rfl rfl (fun _ _ _ => rfl) hP774 rz_a115 (Or.inl rfl) (fun b784 b785 h782 hP783 => ?_)
                  refine bp_ld (pc' := 256) bu_26_255 rfl rfl (fun _ _ _ => rfl) g760 rfl ?_
                  refine bp_dup (pc' := 257) bu_26_256 rfl rfl ?_
                  refine bn_gi (pc' := 260) (K := 8843) bu_26_257 rfl rfl (fun _ _ _ => rfl) hP783 rz_o88 rz_i88_43 rfl rfl ?_
                  refine bp_c (pc' := 261) (n := 1) bu_26_260 rfl rfl (fun _ _ _ => rfl) (by decide) (fun c786 e787 => ?_)
                  refine bp_add (pc' := 262) bu_26_261 rfl (by omega) (by omega) (fun v788 e789 => ?_)
                  refine bn_pf (pc' := 265) (K := 8843) bu_26_262 rfl rfl (fun _ _ _ => rfl) hP783 rz_o88 rz_i88_43 rfl rfl (fun h790 s791 hP792 e793 f794 => ?_)
                  refine bp_ld (pc' := 266) bu_26_265 rfl rfl (fun _ _ _ => rfl) g760 rfl ?_
                  refine bn_cvF (pc' := 269) (st := []) (args := []) bu_26_266 rfl rfl rfl (by decide) hP792 rz_o88 (by decide) rfl (Nat.le_of_ble_eq_true rfl) (Nat.le_of_ble_eq_true rfl) ?_
                  have R795 : rq_R K P M σ ns on 0 s791 (bh_up A772 115 ((s771 8843)).toInt.toNat (mm_nar 0 (A772 91 ((s771 8811)).toInt.toNat))) L773 := rq_R_s R776 (f794 8811 (by decide)) (f794 8813 (by decide)) (f794 8814 (by decide)) (f794 8815 (by decide)) (f794 8816 (by decide)) (f794 8819 (by decide)) (f794 8820 (by decide)) (f794 8812 (by decide)) (bh_up_ne (by decide))
                  have F796 : rq_F s771 A772 L773 s791 (bh_up A772 115 ((s771 8843)).toInt.toNat (mm_nar 0 (A772 91 ((s771 8811)).toInt.toNat))) L773 := ⟨⟨(f794 8802 (by decide)), (f794 8804 (by decide)), (f794 8810 (by decide)), (f794 8818 (by decide)), (f794 8819 (by decide))⟩, ⟨(bh_up_ne (by decide)), (bh_up_ne (by decide)), (bh_up_ne (by decide)), (bh_up_ne (by decide)), (bh_up_ne (by decide))⟩, rfl, rfl, (f794 8865 (by decide)), (bh_up_ne (by decide)), fun c c1 c2 => (bh_up_ne (by omega))⟩
                  have F797 := rq_F_t F777 F796
                  refine rr_37 hP792 (by decide) R795 (rq_T_F hT F797) (fun _ => by omega) (fun h798 s799 A800 L801 hP802 F803 R804 => ?_)
                  have F805 := rq_F_t F797 F803
                  show bp_G E PO (NN + 1) ((26, 269, lv757, [], 0, 0) :: gs, h798, none)
                  refine bp_goD (pc' := 12) bu_26_269 rfl ?_
                  have q0 : σ.2.1 = 0 := by omega
                  have q3 := q2 q0
                  exact (ih (fun h' s' A' L' hP' F' R' => bp_mono (Nat.le_succ NN) (kk h' s' A' L' hP' F' R'))).1 _ _ _ _ _ _ _ _ hP802 F805 R804 g760 g761 ho _ g759 (by omega) ((py_x_p q3.2.2.2 q0 (by omega)).symm.trans hx)
                · replace k767 : ¬ ((r765).toInt ≠ 0) := k767
                  refine bp_ld (pc' := 221) bu_26_220 rfl rfl (fun _ _ _ => rfl) g760 rfl ?_
                  refine bp_c (pc' := 223) (n := 15) bu_26_221 rfl rfl (fun _ _ _ => rfl) (by decide) (fun c806 e807 => ?_)
                  refine bn_cvF (pc' := 226) (st := [.ref (E.1 + 88)]) (args := [.int c806]) bu_26_223 rfl rfl rfl (by decide) hP rz_o88 (by decide) rfl (Nat.le_of_ble_eq_true rfl) (Nat.le_of_ble_eq_true rfl) ?_
                  refine rr_45 (k := c806) hP hR (rq_T_F hT hF) (fun r808 p809 => ?_)
                  show bp_G E PO (NN + 1) ((26, 226, lv757, [.int r808, .ref (E.1 + 88)], 0, 0) :: gs, h, none)
                  refine bp_i0 (pc' := 229) (pt := 233) bu_26_226 rfl rfl (fun k810 => ?_) (fun k810 => ?_)
                  · replace k810 : (r808).toInt = 0 := k810
                    refine bp_c (pc' := 234) (n := 0) bu_26_233 rfl rfl (fun _ _ _ => rfl) (by decide) (fun c811 e812 => ?_)
                    refine bn_cvF (pc' := 237) (st := []) (args := [.int c811]) bu_26_234 rfl rfl rfl (by decide) hP rz_o88 (by decide) rfl (Nat.le_of_ble_eq_true rfl) (Nat.le_of_ble_eq_true rfl) ?_
                    refine rr_15 hP hR (rq_T_F hT hF) (fun h813 s814 A815 L816 hP817 F818 R819 => ?_)
                    have F820 := rq_F_t hF F818
                    have e821 := fun q : σ.2.1 = 0 => (R819.2.1 q).2.2.2.2.2.2.2.2
                    have e822 := (s814 8812).toInt_lt
                    show bp_G E PO (NN + 1) ((26, 237, lv757, [], 0, 0) :: gs, h813, none)
                    refine bp_ld (pc' := 238) bu_26_237 rfl rfl (fun _ _ _ => rfl) g760 rfl ?_
                    refine bn_gr (pc' := 241) (t := 115) bu_26_238 rfl rfl (fun _ _ _ => rfl) hP817 rz_o88 rz_r88_42 ?_
                    refine bp_ld (pc' := 242) bu_26_241 rfl rfl (fun _ _ _ => rfl) g760 rfl ?_
                    refine bn_gi (pc' := 245) (K := 8843) bu_26_242 rfl rfl (fun _ _ _ => rfl) hP817 rz_o88 rz_i88_43 rfl rfl ?_
                    refine bp_ld (pc' := 246) bu_26_245 rfl rfl (fun _ _ _ => rfl) g760 rfl ?_
                    refine bn_gr (pc' := 249) (t := 91) bu_26_246 rfl rfl (fun _ _ _ => rfl) hP817 rz_o88 rz_r88_5 ?_
                    refine bp_ld (pc' := 250) bu_26_249 rfl rfl (fun _ _ _ => rfl) g760 rfl ?_
                    refine bn_gi (pc' := 253) (K := 8811) bu_26_250 rfl rfl (fun _ _ _ => rfl) hP817 rz_o88 rz_i88_11 rfl rfl ?_
                    refine bn_iaF (pc' := 254) bu_26_253 rfl rfl (fun _ _ _ => rfl) hP817 rz_a91 (Or.inl rfl) (fun b823 b824 => ?_)
                    refine bn_iasF (pc' := 255) bu_26_254 rfl rfl (fun _ _ _ => rfl) hP817 rz_a115 (Or.inl rfl) (fun b827 b828 h825 hP826 => ?_)
                    refine bp_ld (pc' := 256) bu_26_255 rfl rfl (fun _ _ _ => rfl) g760 rfl ?_
                    refine bp_dup (pc' := 257) bu_26_256 rfl rfl ?_
                    refine bn_gi (pc' := 260) (K := 8843) bu_26_257 rfl rfl (fun _ _ _ => rfl) hP826 rz_o88 rz_i88_43 rfl rfl ?_
                    refine bp_c (pc' := 261) (n := 1) bu_26_260 rfl rfl (fun _ _ _ => rfl) (by decide) (fun c829 e830 => ?_)
                    refine bp_add (pc' := 262) bu_26_261 rfl (by omega) (by omega) (fun v831 e832 => ?_)
                    refine bn_pf (pc' := 265) (K := 8843) bu_26_262 rfl rfl (fun _ _ _ => rfl) hP826 rz_o88 rz_i88_43 rfl rfl (fun h833 s834 hP835 e836 f837 => ?_)
                    refine bp_ld (pc' := 266) bu_26_265 rfl rfl (fun _ _ _ => rfl) g760 rfl ?_
                    refine bn_cvF (pc' := 269) (st := []) (args := []) bu_26_266 rfl rfl rfl (by decide) hP835 rz_o88 (by decide) rfl (Nat.le_of_ble_eq_true rfl) (Nat.le_of_ble_eq_true rfl) ?_
                    have R838 : rq_R K P M σ ns on 0 s834 (bh_up A815 115 ((s814 8843)).toInt.toNat (mm_nar 0 (A815 91 ((s814 8811)).toInt.toNat))) L816 := rq_R_s R819 (f837 8811 (by decide)) (f837 8813 (by decide)) (f837 8814 (by decide)) (f837 8815 (by decide)) (f837 8816 (by decide)) (f837 8819 (by decide)) (f837 8820 (by decide)) (f837 8812 (by decide)) (bh_up_ne (by decide))
                    have F839 : rq_F s814 A815 L816 s834 (bh_up A815 115 ((s814 8843)).toInt.toNat (mm_nar 0 (A815 91 ((s814 8811)).toInt.toNat))) L816 := ⟨⟨(f837 8802 (by decide)), (f837 8804 (by decide)), (f837 8810 (by decide)), (f837 8818 (by decide)), (f837 8819 (by decide))⟩, ⟨(bh_up_ne (by decide)), (bh_up_ne (by decide)), (bh_up_ne (by decide)), (bh_up_ne (by decide)), (bh_up_ne (by decide))⟩, rfl, rfl, (f837 8865 (by decide)), (bh_up_ne (by decide)), fun c c1 c2 => (bh_up_ne (by omega))⟩
                    have F840 := rq_F_t F820 F839
                    refine rr_37 hP835 (by decide) R838 (rq_T_F hT F840) (fun _ => by omega) (fun h841 s842 A843 L844 hP845 F846 R847 => ?_)
                    have F848 := rq_F_t F840 F846
                    show bp_G E PO (NN + 1) ((26, 269, lv757, [], 0, 0) :: gs, h841, none)
                    refine bp_goD (pc' := 12) bu_26_269 rfl ?_
                    have q0 : σ.2.1 = 0 := by omega
                    have q3 := q2 q0
                    exact (ih (fun h' s' A' L' hP' F' R' => bp_mono (Nat.le_succ NN) (kk h' s' A' L' hP' F' R'))).1 _ _ _ _ _ _ _ _ hP845 F848 R847 g760 g761 ho _ g759 (by omega) ((py_x_p q3.2.2.2 q0 (by omega)).symm.trans hx)
                  · replace k810 : ¬ ((r808).toInt = 0) := k810
                    refine bp_c (pc' := 230) (n := 1) bu_26_229 rfl rfl (fun _ _ _ => rfl) (by decide) (fun c849 e850 => ?_)
                    refine bp_go (pc' := 234) bu_26_230 rfl ?_
                    refine bn_cvF (pc' := 237) (st := []) (args := [.int c849]) bu_26_234 rfl rfl rfl (by decide) hP rz_o88 (by decide) rfl (Nat.le_of_ble_eq_true rfl) (Nat.le_of_ble_eq_true rfl) ?_
                    refine rr_15 hP hR (rq_T_F hT hF) (fun h851 s852 A853 L854 hP855 F856 R857 => ?_)
                    have F858 := rq_F_t hF F856
                    have e859 := fun q : σ.2.1 = 0 => (R857.2.1 q).2.2.2.2.2.2.2.2
                    have e860 := (s852 8812).toInt_lt
                    show bp_G E PO (NN + 1) ((26, 237, lv757, [], 0, 0) :: gs, h851, none)
                    refine bp_ld (pc' := 238) bu_26_237 rfl rfl (fun _ _ _ => rfl) g760 rfl ?_
                    refine bn_gr (pc' := 241) (t := 115) bu_26_238 rfl rfl (fun _ _ _ => rfl) hP855 rz_o88 rz_r88_42 ?_
                    refine bp_ld (pc' := 242) bu_26_241 rfl rfl (fun _ _ _ => rfl) g760 rfl ?_
                    refine bn_gi (pc' := 245) (K := 8843) bu_26_242 rfl rfl (fun _ _ _ => rfl) hP855 rz_o88 rz_i88_43 rfl rfl ?_
                    refine bp_ld (pc' := 246) bu_26_245 rfl rfl (fun _ _ _ => rfl) g760 rfl ?_
                    refine bn_gr (pc' := 249) (t := 91) bu_26_246 rfl rfl (fun _ _ _ => rfl) hP855 rz_o88 rz_r88_5 ?_
                    refine bp_ld (pc' := 250) bu_26_249 rfl rfl (fun _ _ _ => rfl) g760 rfl ?_
                    refine bn_gi (pc' := 253) (K := 8811) bu_26_250 rfl rfl (fun _ _ _ => rfl) hP855 rz_o88 rz_i88_11 rfl rfl ?_
                    refine bn_iaF (pc' := 254) bu_26_253 rfl rfl (fun _ _ _ => rfl) hP855 rz_a91 (Or.inl rfl) (fun b861 b862 => ?_)
                    refine bn_iasF (pc' := 255) bu_26_254 rfl rfl (fun _ _ _ => rfl) hP855 rz_a115 (Or.inl rfl) (fun b865 b866 h863 hP864 => ?_)
                    refine bp_ld (pc' := 256) bu_26_255 rfl rfl (fun _ _ _ => rfl) g760 rfl ?_
                    refine bp_dup (pc' := 257) bu_26_256 rfl rfl ?_
                    refine bn_gi (pc' := 260) (K := 8843) bu_26_257 rfl rfl (fun _ _ _ => rfl) hP864 rz_o88 rz_i88_43 rfl rfl ?_
                    refine bp_c (pc' := 261) (n := 1) bu_26_260 rfl rfl (fun _ _ _ => rfl) (by decide) (fun c867 e868 => ?_)
                    refine bp_add (pc' := 262) bu_26_261 rfl (by omega) (by omega) (fun v869 e870 => ?_)
                    refine bn_pf (pc' := 265) (K := 8843) bu_26_262 rfl rfl (fun _ _ _ => rfl) hP864 rz_o88 rz_i88_43 rfl rfl (fun h871 s872 hP873 e874 f875 => ?_)
                    refine bp_ld (pc' := 266) bu_26_265 rfl rfl (fun _ _ _ => rfl) g760 rfl ?_
                    refine bn_cvF (pc' := 269) (st := []) (args := []) bu_26_266 rfl rfl rfl (by decide) hP873 rz_o88 (by decide) rfl (Nat.le_of_ble_eq_true rfl) (Nat.le_of_ble_eq_true rfl) ?_
                    have R876 : rq_R K P M σ ns on 0 s872 (bh_up A853 115 ((s852 8843)).toInt.toNat (mm_nar 0 (A853 91 ((s852 8811)).toInt.toNat))) L854 := rq_R_s R857 (f875 8811 (by decide)) (f875 8813 (by decide)) (f875 8814 (by decide)) (f875 8815 (by decide)) (f875 8816 (by decide)) (f875 8819 (by decide)) (f875 8820 (by decide)) (f875 8812 (by decide)) (bh_up_ne (by decide))
                    have F877 : rq_F s852 A853 L854 s872 (bh_up A853 115 ((s852 8843)).toInt.toNat (mm_nar 0 (A853 91 ((s852 8811)).toInt.toNat))) L854 := ⟨⟨(f875 8802 (by decide)), (f875 8804 (by decide)), (f875 8810 (by decide)), (f875 8818 (by decide)), (f875 8819 (by decide))⟩, ⟨(bh_up_ne (by decide)), (bh_up_ne (by decide)), (bh_up_ne (by decide)), (bh_up_ne (by decide)), (bh_up_ne (by decide))⟩, rfl, rfl, (f875 8865 (by decide)), (bh_up_ne (by decide)), fun c c1 c2 => (bh_up_ne (by omega))⟩
                    have F878 := rq_F_t F858 F877
                    refine rr_37 hP873 (by decide) R876 (rq_T_F hT F878) (fun _ => by omega) (fun h879 s880 A881 L882 hP883 F884 R885 => ?_)
                    have F886 := rq_F_t F878 F884
                    show bp_G E PO (NN + 1) ((26, 269, lv757, [], 0, 0) :: gs, h879, none)
                    refine bp_goD (pc' := 12) bu_26_269 rfl ?_
                    have q0 : σ.2.1 = 0 := by omega
                    have q3 := q2 q0
                    exact (ih (fun h' s' A' L' hP' F' R' => bp_mono (Nat.le_succ NN) (kk h' s' A' L' hP' F' R'))).1 _ _ _ _ _ _ _ _ hP883 F886 R885 g760 g761 ho _ g759 (by omega) ((py_x_p q3.2.2.2 q0 (by omega)).symm.trans hx)
              · replace k762 : ¬ ((c755).toInt ≠ 0) := k762
                omega
            · replace k754 : ¬ ((r752).toInt ≠ 0) := k754
              refine bp_ld (pc' := 173) bu_26_172 rfl rfl (fun _ _ _ => rfl) g0 rfl ?_
              refine bp_c (pc' := 175) (n := 15) bu_26_173 rfl rfl (fun _ _ _ => rfl) (by decide) (fun c887 e888 => ?_)
              refine bn_cvF (pc' := 178) (st := []) (args := [.int c887]) bu_26_175 rfl rfl rfl (by decide) hP rz_o88 (by decide) rfl (Nat.le_of_ble_eq_true rfl) (Nat.le_of_ble_eq_true rfl) ?_
              refine rr_45 (k := c887) hP hR (rq_T_F hT hF) (fun r889 p890 => ?_)
              show bp_G E PO (NN + 1) ((26, 178, lv, [.int r889], 0, 0) :: gs, h, none)
              refine bp_i0 (pc' := 181) (pt := 185) bu_26_178 rfl rfl (fun k891 => ?_) (fun k891 => ?_)
              · replace k891 : (r889).toInt = 0 := k891
                refine bp_c (pc' := 186) (n := 0) bu_26_185 rfl rfl (fun _ _ _ => rfl) (by decide) (fun c892 e893 => ?_)
                refine bp_st (pc' := 187) bu_26_186 rfl rfl (fun _ _ _ => rfl) rfl (by decide) (by decide) (fun lv894 F895 g896 => ?_)
                have g897 := F895 0 (.ref (E.1 + 88)) g0 (by decide) (Or.inl rfl)
                have g898 := F895 1 (.int b) g1 (by decide) (Or.inl rfl)
                refine bp_ld (pc' := 188) bu_26_187 rfl rfl (fun _ _ _ => rfl) g896 rfl ?_
                refine bp_i0 (pc' := 191) (pt := 210) bu_26_188 rfl rfl (fun k899 => ?_) (fun k899 => ?_)
                · replace k899 : (c892).toInt ≠ 0 := k899
                  omega
                · replace k899 : ¬ ((c892).toInt ≠ 0) := k899
                  refine bp_ld (pc' := 192) bu_26_191 rfl rfl (fun _ _ _ => rfl) g897 rfl ?_
                  refine bn_gi (pc' := 195) (K := 8812) bu_26_192 rfl rfl (fun _ _ _ => rfl) hP rz_o88 rz_i88_12 rfl rfl ?_
                  refine bp_ld (pc' := 196) bu_26_195 rfl rfl (fun _ _ _ => rfl) g898 rfl ?_
                  refine bp_ic (pc' := 199) (pt := 204) bu_26_196 rfl rfl (fun k900 => ?_) (fun k900 => ?_)
                  · replace k900 : ((s 8812)).toInt ≤ (b).toInt := k900
                    refine bp_ld (pc' := 205) bu_26_204 rfl rfl (fun _ _ _ => rfl) g897 rfl ?_
                    refine bp_c (pc' := 206) (n := 0) bu_26_205 rfl rfl (fun _ _ _ => rfl) (by decide) (fun c901 e902 => ?_)
                    refine bn_cvF (pc' := 209) (st := []) (args := [.int c901]) bu_26_206 rfl rfl rfl (by decide) hP rz_o88 (by decide) rfl (Nat.le_of_ble_eq_true rfl) (Nat.le_of_ble_eq_true rfl) ?_
                    refine rr_15 hP hR (rq_T_F hT hF) (fun h903 s904 A905 L906 hP907 F908 R909 => ?_)
                    have F910 := rq_F_t hF F908
                    have e911 := fun q : σ.2.1 = 0 => (R909.2.1 q).2.2.2.2.2.2.2.2
                    have e912 := (s904 8812).toInt_lt
                    show bp_G E PO (NN + 1) ((26, 209, lv894, [], 0, 0) :: gs, h903, none)
                    refine bp_rv bu_26_209 ?_
                    by_cases q0 : σ.2.1 = 0
                    · have q3 := q2 q0
                      have eo : on = 0 := by omega
                      subst eo
                      have ee : py_x K false 0 σ = σ := (py_x_d q3.2.2.2 q0 (by omega) (by omega)).trans (if_neg (by omega))
                      exact kk _ _ _ _ hP907 F910 (by rw [← hx, ee]; exact R909)
                    · have ee : py_x K false on σ = σ := py_x_f q0
                      exact kk _ _ _ _ hP907 F910 (by rw [← hx, ee]; exact rq_R_0 q0 R909)
                  · replace k900 : ¬ (((s 8812)).toInt ≤ (b).toInt) := k900
                    refine bp_ld (pc' := 200) bu_26_199 rfl rfl (fun _ _ _ => rfl) g897 rfl ?_
                    refine bp_c (pc' := 201) (n := 1) bu_26_200 rfl rfl (fun _ _ _ => rfl) (by decide) (fun c913 e914 => ?_)
                    refine bn_cvF (pc' := 204) (st := []) (args := [.int c913]) bu_26_201 rfl rfl rfl (by decide) hP rz_o88 (by decide) rfl (Nat.le_of_ble_eq_true rfl) (Nat.le_of_ble_eq_true rfl) ?_
                    refine rr_27 (kn := 1) hP (by omega) (by decide) hR (rq_T_F hT hF) (fun h915 s916 A917 L918 hP919 F920 R921 => ?_)
                    have F922 := rq_F_t hF F920
                    show bp_G E PO (NN + 1) ((26, 204, lv894, [], 0, 0) :: gs, h915, none)
                    refine bp_ld (pc' := 205) bu_26_204 rfl rfl (fun _ _ _ => rfl) g897 rfl ?_
                    refine bp_c (pc' := 206) (n := 0) bu_26_205 rfl rfl (fun _ _ _ => rfl) (by decide) (fun c923 e924 => ?_)
                    refine bn_cvF (pc' := 209) (st := []) (args := [.int c923]) bu_26_206 rfl rfl rfl (by decide) hP919 rz_o88 (by decide) rfl (Nat.le_of_ble_eq_true rfl) (Nat.le_of_ble_eq_true rfl) ?_
                    refine rr_15 hP919 R921 (rq_T_F hT F922) (fun h925 s926 A927 L928 hP929 F930 R931 => ?_)
                    have F932 := rq_F_t F922 F930
                    show bp_G E PO (NN + 1) ((26, 209, lv894, [], 0, 0) :: gs, h925, none)
                    refine bp_rv bu_26_209 ?_
                    by_cases q0 : σ.2.1 = 0
                    · have q3 := q2 q0
                      have ee : py_x K false on σ = py_fl 1 σ := (py_x_d q3.2.2.2 q0 (by omega) (by omega)).trans (if_pos (by omega))
                      exact kk _ _ _ _ hP929 F932 (by rw [← hx, ee]; exact rq_R_0 (py_fl_f (by decide)) R931)
                    · have ee : py_x K false on σ = σ := py_x_f q0
                      have e9 : py_fl 1 σ = σ := if_neg q0
                      have R9 := R931
                      rw [e9] at R9
                      exact kk _ _ _ _ hP929 F932 (by rw [← hx, ee]; exact rq_R_0 q0 R9)
              · replace k891 : ¬ ((r889).toInt = 0) := k891
                refine bp_c (pc' := 182) (n := 1) bu_26_181 rfl rfl (fun _ _ _ => rfl) (by decide) (fun c933 e934 => ?_)
                refine bp_go (pc' := 186) bu_26_182 rfl ?_
                refine bp_st (pc' := 187) bu_26_186 rfl rfl (fun _ _ _ => rfl) rfl (by decide) (by decide) (fun lv935 F936 g937 => ?_)
                have g938 := F936 0 (.ref (E.1 + 88)) g0 (by decide) (Or.inl rfl)
                have g939 := F936 1 (.int b) g1 (by decide) (Or.inl rfl)
                refine bp_ld (pc' := 188) bu_26_187 rfl rfl (fun _ _ _ => rfl) g937 rfl ?_
                refine bp_i0 (pc' := 191) (pt := 210) bu_26_188 rfl rfl (fun k940 => ?_) (fun k940 => ?_)
                · replace k940 : (c933).toInt ≠ 0 := k940
                  refine bp_ld (pc' := 211) bu_26_210 rfl rfl (fun _ _ _ => rfl) g938 rfl ?_
                  refine bp_ld (pc' := 212) bu_26_211 rfl rfl (fun _ _ _ => rfl) g938 rfl ?_
                  refine bp_c (pc' := 214) (n := 10) bu_26_212 rfl rfl (fun _ _ _ => rfl) (by decide) (fun c941 e942 => ?_)
                  refine bn_cvF (pc' := 217) (st := [.ref (E.1 + 88)]) (args := [.int c941]) bu_26_214 rfl rfl rfl (by decide) hP rz_o88 (by decide) rfl (Nat.le_of_ble_eq_true rfl) (Nat.le_of_ble_eq_true rfl) ?_
                  refine rr_45 (k := c941) hP hR (rq_T_F hT hF) (fun r943 p944 => ?_)
                  show bp_G E PO (NN + 1) ((26, 217, lv935, [.int r943, .ref (E.1 + 88)], 0, 0) :: gs, h, none)
                  refine bp_i0 (pc' := 220) (pt := 229) bu_26_217 rfl rfl (fun k945 => ?_) (fun k945 => ?_)
                  · replace k945 : (r943).toInt ≠ 0 := k945
                    refine bp_c (pc' := 230) (n := 1) bu_26_229 rfl rfl (fun _ _ _ => rfl) (by decide) (fun c946 e947 => ?_)
                    refine bp_go (pc' := 234) bu_26_230 rfl ?_
                    refine bn_cvF (pc' := 237) (st := []) (args := [.int c946]) bu_26_234 rfl rfl rfl (by decide) hP rz_o88 (by decide) rfl (Nat.le_of_ble_eq_true rfl) (Nat.le_of_ble_eq_true rfl) ?_
                    refine rr_15 hP hR (rq_T_F hT hF) (fun h948 s949 A950 L951 hP952 F953 R954 => ?_)
                    have F955 := rq_F_t hF F953
                    have e956 := fun q : σ.2.1 = 0 => (R954.2.1 q).2.2.2.2.2.2.2.2
                    have e957 := (s949 8812).toInt_lt
                    show bp_G E PO (NN + 1) ((26, 237, lv935, [], 0, 0) :: gs, h948, none)
                    refine bp_ld (pc' := 238) bu_26_237 rfl rfl (fun _ _ _ => rfl) g938 rfl ?_
                    refine bn_gr (pc' := 241) (t := 115) bu_26_238 rfl rfl (fun _ _ _ => rfl) hP952 rz_o88 rz_r88_42 ?_
                    refine bp_ld (pc' := 242) bu_26_241 rfl rfl (fun _ _ _ => rfl) g938 rfl ?_
                    refine bn_gi (pc' := 245) (K := 8843) bu_26_242 rfl rfl (fun _ _ _ => rfl) hP952 rz_o88 rz_i88_43 rfl rfl ?_
                    refine bp_ld (pc' := 246) bu_26_245 rfl rfl (fun _ _ _ => rfl) g938 rfl ?_
                    refine bn_gr (pc' := 249) (t := 91) bu_26_246 rfl rfl (fun _ _ _ => rfl) hP952 rz_o88 rz_r88_5 ?_
                    refine bp_ld (pc' := 250) bu_26_249 rfl rfl (fun _ _ _ => rfl) g938 rfl ?_
                    refine bn_gi (pc' := 253) (K := 8811) bu_26_250 rfl rfl (fun _ _ _ => rfl) hP952 rz_o88 rz_i88_11 rfl rfl ?_
                    refine bn_iaF (pc' := 254) bu_26_253 rfl rfl (fun _ _ _ => rfl) hP952 rz_a91 (Or.inl rfl) (fun b958 b959 => ?_)
                    refine bn_iasF (pc' := 255) bu_26_254 rfl rfl (fun _ _ _ => rfl) hP952 rz_a115 (Or.inl rfl) (fun b962 b963 h960 hP961 => ?_)
                    refine bp_ld (pc' := 256) bu_26_255 rfl rfl (fun _ _ _ => rfl) g938 rfl ?_
                    refine bp_dup (pc' := 257) bu_26_256 rfl rfl ?_
                    refine bn_gi (pc' := 260) (K := 8843) bu_26_257 rfl rfl (fun _ _ _ => rfl) hP961 rz_o88 rz_i88_43 rfl rfl ?_
                    refine bp_c (pc' := 261) (n := 1) bu_26_260 rfl rfl (fun _ _ _ => rfl) (by decide) (fun c964 e965 => ?_)
                    refine bp_add (pc' := 262) bu_26_261 rfl (by omega) (by omega) (fun v966 e967 => ?_)
                    refine bn_pf (pc' := 265) (K := 8843) bu_26_262 rfl rfl (fun _ _ _ => rfl) hP961 rz_o88 rz_i88_43 rfl rfl (fun h968 s969 hP970 e971 f972 => ?_)
                    refine bp_ld (pc' := 266) bu_26_265 rfl rfl (fun _ _ _ => rfl) g938 rfl ?_
                    refine bn_cvF (pc' := 269) (st := []) (args := []) bu_26_266 rfl rfl rfl (by decide) hP970 rz_o88 (by decide) rfl (Nat.le_of_ble_eq_true rfl) (Nat.le_of_ble_eq_true rfl) ?_
                    have R973 : rq_R K P M σ ns on 0 s969 (bh_up A950 115 ((s949 8843)).toInt.toNat (mm_nar 0 (A950 91 ((s949 8811)).toInt.toNat))) L951 := rq_R_s R954 (f972 8811 (by decide)) (f972 8813 (by decide)) (f972 8814 (by decide)) (f972 8815 (by decide)) (f972 8816 (by decide)) (f972 8819 (by decide)) (f972 8820 (by decide)) (f972 8812 (by decide)) (bh_up_ne (by decide))
                    have F974 : rq_F s949 A950 L951 s969 (bh_up A950 115 ((s949 8843)).toInt.toNat (mm_nar 0 (A950 91 ((s949 8811)).toInt.toNat))) L951 := ⟨⟨(f972 8802 (by decide)), (f972 8804 (by decide)), (f972 8810 (by decide)), (f972 8818 (by decide)), (f972 8819 (by decide))⟩, ⟨(bh_up_ne (by decide)), (bh_up_ne (by decide)), (bh_up_ne (by decide)), (bh_up_ne (by decide)), (bh_up_ne (by decide))⟩, rfl, rfl, (f972 8865 (by decide)), (bh_up_ne (by decide)), fun c c1 c2 => (bh_up_ne (by omega))⟩
                    have F975 := rq_F_t F955 F974
                    refine rr_37 hP970 (by decide) R973 (rq_T_F hT F975) (fun _ => by omega) (fun h976 s977 A978 L979 hP980 F981 R982 => ?_)
                    have F983 := rq_F_t F975 F981
                    show bp_G E PO (NN + 1) ((26, 269, lv935, [], 0, 0) :: gs, h976, none)
                    refine bp_goD (pc' := 12) bu_26_269 rfl ?_
                    have q0 : σ.2.1 = 0 := by omega
                    have q3 := q2 q0
                    exact (ih (fun h' s' A' L' hP' F' R' => bp_mono (Nat.le_succ NN) (kk h' s' A' L' hP' F' R'))).1 _ _ _ _ _ _ _ _ hP980 F983 R982 g938 g939 ho _ g937 (by omega) ((py_x_p q3.2.2.2 q0 (by omega)).symm.trans hx)
                  · replace k945 : ¬ ((r943).toInt ≠ 0) := k945
                    refine bp_ld (pc' := 221) bu_26_220 rfl rfl (fun _ _ _ => rfl) g938 rfl ?_
                    refine bp_c (pc' := 223) (n := 15) bu_26_221 rfl rfl (fun _ _ _ => rfl) (by decide) (fun c984 e985 => ?_)
                    refine bn_cvF (pc' := 226) (st := [.ref (E.1 + 88)]) (args := [.int c984]) bu_26_223 rfl rfl rfl (by decide) hP rz_o88 (by decide) rfl (Nat.le_of_ble_eq_true rfl) (Nat.le_of_ble_eq_true rfl) ?_
                    refine rr_45 (k := c984) hP hR (rq_T_F hT hF) (fun r986 p987 => ?_)
                    show bp_G E PO (NN + 1) ((26, 226, lv935, [.int r986, .ref (E.1 + 88)], 0, 0) :: gs, h, none)
                    refine bp_i0 (pc' := 229) (pt := 233) bu_26_226 rfl rfl (fun k988 => ?_) (fun k988 => ?_)
                    · replace k988 : (r986).toInt = 0 := k988
                      refine bp_c (pc' := 234) (n := 0) bu_26_233 rfl rfl (fun _ _ _ => rfl) (by decide) (fun c989 e990 => ?_)
                      refine bn_cvF (pc' := 237) (st := []) (args := [.int c989]) bu_26_234 rfl rfl rfl (by decide) hP rz_o88 (by decide) rfl (Nat.le_of_ble_eq_true rfl) (Nat.le_of_ble_eq_true rfl) ?_
                      refine rr_15 hP hR (rq_T_F hT hF) (fun h991 s992 A993 L994 hP995 F996 R997 => ?_)
                      have F998 := rq_F_t hF F996
                      have e999 := fun q : σ.2.1 = 0 => (R997.2.1 q).2.2.2.2.2.2.2.2
                      have e1000 := (s992 8812).toInt_lt
                      show bp_G E PO (NN + 1) ((26, 237, lv935, [], 0, 0) :: gs, h991, none)
                      refine bp_ld (pc' := 238) bu_26_237 rfl rfl (fun _ _ _ => rfl) g938 rfl ?_
                      refine bn_gr (pc' := 241) (t := 115) bu_26_238 rfl rfl (fun _ _ _ => rfl) hP995 rz_o88 rz_r88_42 ?_
                      refine bp_ld (pc' := 242) bu_26_241 rfl rfl (fun _ _ _ => rfl) g938 rfl ?_
                      refine bn_gi (pc' := 245) (K := 8843) bu_26_242 rfl rfl (fun _ _ _ => rfl) hP995 rz_o88 rz_i88_43 rfl rfl ?_
                      refine bp_ld (pc' := 246) bu_26_245 rfl rfl (fun _ _ _ => rfl) g938 rfl ?_
                      refine bn_gr (pc' := 249) (t := 91) bu_26_246 rfl rfl (fun _ _ _ => rfl) hP995 rz_o88 rz_r88_5 ?_
                      refine bp_ld (pc' := 250) bu_26_249 rfl rfl (fun _ _ _ => rfl) g938 rfl ?_
                      refine bn_gi (pc' := 253) (K := 8811) bu_26_250 rfl rfl (fun _ _ _ => rfl) hP995 rz_o88 rz_i88_11 rfl rfl ?_
                      refine bn_iaF (pc' := 254) bu_26_253 rfl rfl (fun _ _ _ => rfl) hP995 rz_a91 (Or.inl rfl) (fun b1001 b1002 => ?_)
                      refine bn_iasF (pc' := 255) bu_26_254 rfl rfl (fun _ _ _ => rfl) hP995 rz_a115 (Or.inl rfl) (fun b1005 b1006 h1003 hP1004 => ?_)
                      refine bp_ld (pc' := 256) bu_26_255 rfl rfl (fun _ _ _ => rfl) g938 rfl ?_
                      refine bp_dup (pc' := 257) bu_26_256 rfl rfl ?_
                      refine bn_gi (pc' := 260) (K := 8843) bu_26_257 rfl rfl (fun _ _ _ => rfl) hP1004 rz_o88 rz_i88_43 rfl rfl ?_
                      refine bp_c (pc' := 261) (n := 1) bu_26_260 rfl rfl (fun _ _ _ => rfl) (by decide) (fun c1007 e1008 => ?_)
                      refine bp_add (pc' := 262) bu_26_261 rfl (by omega) (by omega) (fun v1009 e1010 => ?_)
                      refine bn_pf (pc' := 265) (K := 8843) bu_26_262 rfl rfl (fun _ _ _ => rfl) hP1004 rz_o88 rz_i88_43 rfl rfl (fun h1011 s1012 hP1013 e1014 f1015 => ?_)
                      refine bp_ld (pc' := 266) bu_26_265 rfl rfl (fun _ _ _ => rfl) g938 rfl ?_
                      refine bn_cvF (pc' := 269) (st := []) (args := []) bu_26_266 rfl rfl rfl (by decide) hP1013 rz_o88 (by decide) rfl (Nat.le_of_ble_eq_true rfl) (Nat.le_of_ble_eq_true rfl) ?_
                      have R1016 : rq_R K P M σ ns on 0 s1012 (bh_up A993 115 ((s992 8843)).toInt.toNat (mm_nar 0 (A993 91 ((s992 8811)).toInt.toNat))) L994 := rq_R_s R997 (f1015 8811 (by decide)) (f1015 8813 (by decide)) (f1015 8814 (by decide)) (f1015 8815 (by decide)) (f1015 8816 (by decide)) (f1015 8819 (by decide)) (f1015 8820 (by decide)) (f1015 8812 (by decide)) (bh_up_ne (by decide))
                      have F1017 : rq_F s992 A993 L994 s1012 (bh_up A993 115 ((s992 8843)).toInt.toNat (mm_nar 0 (A993 91 ((s992 8811)).toInt.toNat))) L994 := ⟨⟨(f1015 8802 (by decide)), (f1015 8804 (by decide)), (f1015 8810 (by decide)), (f1015 8818 (by decide)), (f1015 8819 (by decide))⟩, ⟨(bh_up_ne (by decide)), (bh_up_ne (by decide)), (bh_up_ne (by decide)), (bh_up_ne (by decide)), (bh_up_ne (by decide))⟩, rfl, rfl, (f1015 8865 (by decide)), (bh_up_ne (by decide)), fun c c1 c2 => (bh_up_ne (by omega))⟩
                      have F1018 := rq_F_t F998 F1017
                      refine rr_37 hP1013 (by decide) R1016 (rq_T_F hT F1018) (fun _ => by omega) (fun h1019 s1020 A1021 L1022 hP1023 F1024 R1025 => ?_)
                      have F1026 := rq_F_t F1018 F1024
                      show bp_G E PO (NN + 1) ((26, 269, lv935, [], 0, 0) :: gs, h1019, none)
                      refine bp_goD (pc' := 12) bu_26_269 rfl ?_
                      have q0 : σ.2.1 = 0 := by omega
                      have q3 := q2 q0
                      exact (ih (fun h' s' A' L' hP' F' R' => bp_mono (Nat.le_succ NN) (kk h' s' A' L' hP' F' R'))).1 _ _ _ _ _ _ _ _ hP1023 F1026 R1025 g938 g939 ho _ g937 (by omega) ((py_x_p q3.2.2.2 q0 (by omega)).symm.trans hx)
                    · replace k988 : ¬ ((r986).toInt = 0) := k988
                      refine bp_c (pc' := 230) (n := 1) bu_26_229 rfl rfl (fun _ _ _ => rfl) (by decide) (fun c1027 e1028 => ?_)
                      refine bp_go (pc' := 234) bu_26_230 rfl ?_
                      refine bn_cvF (pc' := 237) (st := []) (args := [.int c1027]) bu_26_234 rfl rfl rfl (by decide) hP rz_o88 (by decide) rfl (Nat.le_of_ble_eq_true rfl) (Nat.le_of_ble_eq_true rfl) ?_
                      refine rr_15 hP hR (rq_T_F hT hF) (fun h1029 s1030 A1031 L1032 hP1033 F1034 R1035 => ?_)
                      have F1036 := rq_F_t hF F1034
                      have e1037 := fun q : σ.2.1 = 0 => (R1035.2.1 q).2.2.2.2.2.2.2.2
                      have e1038 := (s1030 8812).toInt_lt
                      show bp_G E PO (NN + 1) ((26, 237, lv935, [], 0, 0) :: gs, h1029, none)
                      refine bp_ld (pc' := 238) bu_26_237 rfl rfl (fun _ _ _ => rfl) g938 rfl ?_
                      refine bn_gr (pc' := 241) (t := 115) bu_26_238 rfl rfl (fun _ _ _ => rfl) hP1033 rz_o88 rz_r88_42 ?_
                      refine bp_ld (pc' := 242) bu_26_241 rfl rfl (fun _ _ _ => rfl) g938 rfl ?_
                      refine bn_gi (pc' := 245) (K := 8843) bu_26_242 rfl rfl (fun _ _ _ => rfl) hP1033 rz_o88 rz_i88_43 rfl rfl ?_
                      refine bp_ld (pc' := 246) bu_26_245 rfl rfl (fun _ _ _ => rfl) g938 rfl ?_
                      refine bn_gr (pc' := 249) (t := 91) bu_26_246 rfl rfl (fun _ _ _ => rfl) hP1033 rz_o88 rz_r88_5 ?_
                      refine bp_ld (pc' := 250) bu_26_249 rfl rfl (fun _ _ _ => rfl) g938 rfl ?_
                      refine bn_gi (pc' := 253) (K := 8811) bu_26_250 rfl rfl (fun _ _ _ => rfl) hP1033 rz_o88 rz_i88_11 rfl rfl ?_
                      refine bn_iaF (pc' := 254) bu_26_253 rfl rfl (fun _ _ _ => rfl) hP1033 rz_a91 (Or.inl rfl) (fun b1039 b1040 => ?_)
                      refine bn_iasF (pc' := 255) bu_26_254 rfl rfl (fun _ _ _ => rfl) hP1033 rz_a115 (Or.inl rfl) (fun b1043 b1044 h1041 hP1042 => ?_)
                      refine bp_ld (pc' := 256) bu_26_255 rfl rfl (fun _ _ _ => rfl) g938 rfl ?_
                      refine bp_dup (pc' := 257) bu_26_256 rfl rfl ?_
                      refine bn_gi (pc' := 260) (K := 8843) bu_26_257 rfl rfl (fun _ _ _ => rfl) hP1042 rz_o88 rz_i88_43 rfl rfl ?_
                      refine bp_c (pc' := 261) (n := 1) bu_26_260 rfl rfl (fun _ _ _ => rfl) (by decide) (fun c1045 e1046 => ?_)
                      refine bp_add (pc' := 262) bu_26_261 rfl (by omega) (by omega) (fun v1047 e1048 => ?_)
                      refine bn_pf (pc' := 265) (K := 8843) bu_26_262 rfl rfl (fun _ _ _ => rfl) hP1042 rz_o88 rz_i88_43 rfl rfl (fun h1049 s1050 hP1051 e1052 f1053 => ?_)
                      refine bp_ld (pc' := 266) bu_26_265 rfl rfl (fun _ _ _ => rfl) g938 rfl ?_
                      refine bn_cvF (pc' := 269) (st := []) (args := []) bu_26_266 rfl rfl rfl (by decide) hP1051 rz_o88 (by decide) rfl (Nat.le_of_ble_eq_true rfl) (Nat.le_of_ble_eq_true rfl) ?_
                      have R1054 : rq_R K P M σ ns on 0 s1050 (bh_up A1031 115 ((s1030 8843)).toInt.toNat (mm_nar 0 (A1031 91 ((s1030 8811)).toInt.toNat))) L1032 := rq_R_s R1035 (f1053 8811 (by decide)) (f1053 8813 (by decide)) (f1053 8814 (by decide)) (f1053 8815 (by decide)) (f1053 8816 (by decide)) (f1053 8819 (by decide)) (f1053 8820 (by decide)) (f1053 8812 (by decide)) (bh_up_ne (by decide))
                      have F1055 : rq_F s1030 A1031 L1032 s1050 (bh_up A1031 115 ((s1030 8843)).toInt.toNat (mm_nar 0 (A1031 91 ((s1030 8811)).toInt.toNat))) L1032 := ⟨⟨(f1053 8802 (by decide)), (f1053 8804 (by decide)), (f1053 8810 (by decide)), (f1053 8818 (by decide)), (f1053 8819 (by decide))⟩, ⟨(bh_up_ne (by decide)), (bh_up_ne (by decide)), (bh_up_ne (by decide)), (bh_up_ne (by decide)), (bh_up_ne (by decide))⟩, rfl, rfl, (f1053 8865 (by decide)), (bh_up_ne (by decide)), fun c c1 c2 => (bh_up_ne (by omega))⟩
                      have F1056 := rq_F_t F1036 F1055
                      refine rr_37 hP1051 (by decide) R1054 (rq_T_F hT F1056) (fun _ => by omega) (fun h1057 s1058 A1059 L1060 hP1061 F1062 R1063 => ?_)
                      have F1064 := rq_F_t F1056 F1062
                      show bp_G E PO (NN + 1) ((26, 269, lv935, [], 0, 0) :: gs, h1057, none)
                      refine bp_goD (pc' := 12) bu_26_269 rfl ?_
                      have q0 : σ.2.1 = 0 := by omega
                      have q3 := q2 q0
                      exact (ih (fun h' s' A' L' hP' F' R' => bp_mono (Nat.le_succ NN) (kk h' s' A' L' hP' F' R'))).1 _ _ _ _ _ _ _ _ hP1061 F1064 R1063 g938 g939 ho _ g937 (by omega) ((py_x_p q3.2.2.2 q0 (by omega)).symm.trans hx)
                · replace k940 : ¬ ((c933).toInt ≠ 0) := k940
                  omega
      · replace k475 : ¬ ((r473).toInt = 0) := k475
        have q0 : σ.2.1 = 0 := by omega
        have q3 := q2 q0
        refine bp_ld (pc' := 106) bu_26_105 rfl rfl (fun _ _ _ => rfl) g0 rfl ?_
        refine bn_gi (pc' := 109) (K := 8812) bu_26_106 rfl rfl (fun _ _ _ => rfl) hP rz_o88 rz_i88_12 rfl rfl ?_
        refine bp_ld (pc' := 110) bu_26_109 rfl rfl (fun _ _ _ => rfl) g1 rfl ?_
        refine bp_ic (pc' := 113) (pt := 145) bu_26_110 rfl rfl (fun k1065 => ?_) (fun k1065 => ?_)
        · replace k1065 : ((s 8812)).toInt ≤ (b).toInt := k1065
          refine bp_ld (pc' := 146) bu_26_145 rfl rfl (fun _ _ _ => rfl) g0 rfl ?_
          refine bp_c (pc' := 148) (n := 8) bu_26_146 rfl rfl (fun _ _ _ => rfl) (by decide) (fun c1066 e1067 => ?_)
          refine bn_cvF (pc' := 151) (st := []) (args := [.int c1066]) bu_26_148 rfl rfl rfl (by decide) hP rz_o88 (by decide) rfl (Nat.le_of_ble_eq_true rfl) (Nat.le_of_ble_eq_true rfl) ?_
          refine rr_45 (k := c1066) hP hR (rq_T_F hT hF) (fun r1068 p1069 => ?_)
          show bp_G E PO (NN + 1) ((26, 151, lv, [.int r1068], 0, 0) :: gs, h, none)
          refine bp_i0 (pc' := 154) (pt := 181) bu_26_151 rfl rfl (fun k1070 => ?_) (fun k1070 => ?_)
          · replace k1070 : (r1068).toInt ≠ 0 := k1070
            refine bp_c (pc' := 182) (n := 1) bu_26_181 rfl rfl (fun _ _ _ => rfl) (by decide) (fun c1071 e1072 => ?_)
            refine bp_go (pc' := 186) bu_26_182 rfl ?_
            refine bp_st (pc' := 187) bu_26_186 rfl rfl (fun _ _ _ => rfl) rfl (by decide) (by decide) (fun lv1073 F1074 g1075 => ?_)
            have g1076 := F1074 0 (.ref (E.1 + 88)) g0 (by decide) (Or.inl rfl)
            have g1077 := F1074 1 (.int b) g1 (by decide) (Or.inl rfl)
            refine bp_ld (pc' := 188) bu_26_187 rfl rfl (fun _ _ _ => rfl) g1075 rfl ?_
            refine bp_i0 (pc' := 191) (pt := 210) bu_26_188 rfl rfl (fun k1078 => ?_) (fun k1078 => ?_)
            · replace k1078 : (c1071).toInt ≠ 0 := k1078
              refine bp_ld (pc' := 211) bu_26_210 rfl rfl (fun _ _ _ => rfl) g1076 rfl ?_
              refine bp_ld (pc' := 212) bu_26_211 rfl rfl (fun _ _ _ => rfl) g1076 rfl ?_
              refine bp_c (pc' := 214) (n := 10) bu_26_212 rfl rfl (fun _ _ _ => rfl) (by decide) (fun c1079 e1080 => ?_)
              refine bn_cvF (pc' := 217) (st := [.ref (E.1 + 88)]) (args := [.int c1079]) bu_26_214 rfl rfl rfl (by decide) hP rz_o88 (by decide) rfl (Nat.le_of_ble_eq_true rfl) (Nat.le_of_ble_eq_true rfl) ?_
              refine rr_45 (k := c1079) hP hR (rq_T_F hT hF) (fun r1081 p1082 => ?_)
              show bp_G E PO (NN + 1) ((26, 217, lv1073, [.int r1081, .ref (E.1 + 88)], 0, 0) :: gs, h, none)
              refine bp_i0 (pc' := 220) (pt := 229) bu_26_217 rfl rfl (fun k1083 => ?_) (fun k1083 => ?_)
              · replace k1083 : (r1081).toInt ≠ 0 := k1083
                refine bp_c (pc' := 230) (n := 1) bu_26_229 rfl rfl (fun _ _ _ => rfl) (by decide) (fun c1084 e1085 => ?_)
                refine bp_go (pc' := 234) bu_26_230 rfl ?_
                refine bn_cvF (pc' := 237) (st := []) (args := [.int c1084]) bu_26_234 rfl rfl rfl (by decide) hP rz_o88 (by decide) rfl (Nat.le_of_ble_eq_true rfl) (Nat.le_of_ble_eq_true rfl) ?_
                refine rr_15 hP hR (rq_T_F hT hF) (fun h1086 s1087 A1088 L1089 hP1090 F1091 R1092 => ?_)
                have F1093 := rq_F_t hF F1091
                have e1094 := fun q : σ.2.1 = 0 => (R1092.2.1 q).2.2.2.2.2.2.2.2
                have e1095 := (s1087 8812).toInt_lt
                show bp_G E PO (NN + 1) ((26, 237, lv1073, [], 0, 0) :: gs, h1086, none)
                refine bp_ld (pc' := 238) bu_26_237 rfl rfl (fun _ _ _ => rfl) g1076 rfl ?_
                refine bn_gr (pc' := 241) (t := 115) bu_26_238 rfl rfl (fun _ _ _ => rfl) hP1090 rz_o88 rz_r88_42 ?_
                refine bp_ld (pc' := 242) bu_26_241 rfl rfl (fun _ _ _ => rfl) g1076 rfl ?_
                refine bn_gi (pc' := 245) (K := 8843) bu_26_242 rfl rfl (fun _ _ _ => rfl) hP1090 rz_o88 rz_i88_43 rfl rfl ?_
                refine bp_ld (pc' := 246) bu_26_245 rfl rfl (fun _ _ _ => rfl) g1076 rfl ?_
                refine bn_gr (pc' := 249) (t := 91) bu_26_246 rfl rfl (fun _ _ _ => rfl) hP1090 rz_o88 rz_r88_5 ?_
                refine bp_ld (pc' := 250) bu_26_249 rfl rfl (fun _ _ _ => rfl) g1076 rfl ?_
                refine bn_gi (pc' := 253) (K := 8811) bu_26_250 rfl rfl (fun _ _ _ => rfl) hP1090 rz_o88 rz_i88_11 rfl rfl ?_
                refine bn_iaF (pc' := 254) bu_26_253 rfl rfl (fun _ _ _ => rfl) hP1090 rz_a91 (Or.inl rfl) (fun b1096 b1097 => ?_)
                refine bn_iasF (pc' := 255) bu_26_254 rfl rfl (fun _ _ _ => rfl) hP1090 rz_a115 (Or.inl rfl) (fun b1100 b1101 h1098 hP1099 => ?_)
                refine bp_ld (pc' := 256) bu_26_255 rfl rfl (fun _ _ _ => rfl) g1076 rfl ?_
                refine bp_dup (pc' := 257) bu_26_256 rfl rfl ?_
                refine bn_gi (pc' := 260) (K := 8843) bu_26_257 rfl rfl (fun _ _ _ => rfl) hP1099 rz_o88 rz_i88_43 rfl rfl ?_
                refine bp_c (pc' := 261) (n := 1) bu_26_260 rfl rfl (fun _ _ _ => rfl) (by decide) (fun c1102 e1103 => ?_)
                refine bp_add (pc' := 262) bu_26_261 rfl (by omega) (by omega) (fun v1104 e1105 => ?_)
                refine bn_pf (pc' := 265) (K := 8843) bu_26_262 rfl rfl (fun _ _ _ => rfl) hP1099 rz_o88 rz_i88_43 rfl rfl (fun h1106 s1107 hP1108 e1109 f1110 => ?_)
                refine bp_ld (pc' := 266) bu_26_265 rfl rfl (fun _ _ _ => rfl) g1076 rfl ?_
                refine bn_cvF (pc' := 269) (st := []) (args := []) bu_26_266 rfl rfl rfl (by decide) hP1108 rz_o88 (by decide) rfl (Nat.le_of_ble_eq_true rfl) (Nat.le_of_ble_eq_true rfl) ?_
                have R1111 : rq_R K P M σ ns on 0 s1107 (bh_up A1088 115 ((s1087 8843)).toInt.toNat (mm_nar 0 (A1088 91 ((s1087 8811)).toInt.toNat))) L1089 := rq_R_s R1092 (f1110 8811 (by decide)) (f1110 8813 (by decide)) (f1110 8814 (by decide)) (f1110 8815 (by decide)) (f1110 8816 (by decide)) (f1110 8819 (by decide)) (f1110 8820 (by decide)) (f1110 8812 (by decide)) (bh_up_ne (by decide))
                have F1112 : rq_F s1087 A1088 L1089 s1107 (bh_up A1088 115 ((s1087 8843)).toInt.toNat (mm_nar 0 (A1088 91 ((s1087 8811)).toInt.toNat))) L1089 := ⟨⟨(f1110 8802 (by decide)), (f1110 8804 (by decide)), (f1110 8810 (by decide)), (f1110 8818 (by decide)), (f1110 8819 (by decide))⟩, ⟨(bh_up_ne (by decide)), (bh_up_ne (by decide)), (bh_up_ne (by decide)), (bh_up_ne (by decide)), (bh_up_ne (by decide))⟩, rfl, rfl, (f1110 8865 (by decide)), (bh_up_ne (by decide)), fun c c1 c2 => (bh_up_ne (by omega))⟩
                have F1113 := rq_F_t F1093 F1112
                refine rr_37 hP1108 (by decide) R1111 (rq_T_F hT F1113) (fun _ => by omega) (fun h1114 s1115 A1116 L1117 hP1118 F1119 R1120 => ?_)
                have F1121 := rq_F_t F1113 F1119
                show bp_G E PO (NN + 1) ((26, 269, lv1073, [], 0, 0) :: gs, h1114, none)
                refine bp_goD (pc' := 12) bu_26_269 rfl ?_
                have q0 : σ.2.1 = 0 := by omega
                have q3 := q2 q0
                exact (ih (fun h' s' A' L' hP' F' R' => bp_mono (Nat.le_succ NN) (kk h' s' A' L' hP' F' R'))).1 _ _ _ _ _ _ _ _ hP1118 F1121 R1120 g1076 g1077 ho _ g1075 (by omega) ((py_x_p q3.2.2.2 q0 (by omega)).symm.trans hx)
              · replace k1083 : ¬ ((r1081).toInt ≠ 0) := k1083
                refine bp_ld (pc' := 221) bu_26_220 rfl rfl (fun _ _ _ => rfl) g1076 rfl ?_
                refine bp_c (pc' := 223) (n := 15) bu_26_221 rfl rfl (fun _ _ _ => rfl) (by decide) (fun c1122 e1123 => ?_)
                refine bn_cvF (pc' := 226) (st := [.ref (E.1 + 88)]) (args := [.int c1122]) bu_26_223 rfl rfl rfl (by decide) hP rz_o88 (by decide) rfl (Nat.le_of_ble_eq_true rfl) (Nat.le_of_ble_eq_true rfl) ?_
                refine rr_45 (k := c1122) hP hR (rq_T_F hT hF) (fun r1124 p1125 => ?_)
                show bp_G E PO (NN + 1) ((26, 226, lv1073, [.int r1124, .ref (E.1 + 88)], 0, 0) :: gs, h, none)
                refine bp_i0 (pc' := 229) (pt := 233) bu_26_226 rfl rfl (fun k1126 => ?_) (fun k1126 => ?_)
                · replace k1126 : (r1124).toInt = 0 := k1126
                  refine bp_c (pc' := 234) (n := 0) bu_26_233 rfl rfl (fun _ _ _ => rfl) (by decide) (fun c1127 e1128 => ?_)
                  refine bn_cvF (pc' := 237) (st := []) (args := [.int c1127]) bu_26_234 rfl rfl rfl (by decide) hP rz_o88 (by decide) rfl (Nat.le_of_ble_eq_true rfl) (Nat.le_of_ble_eq_true rfl) ?_
                  refine rr_15 hP hR (rq_T_F hT hF) (fun h1129 s1130 A1131 L1132 hP1133 F1134 R1135 => ?_)
                  have F1136 := rq_F_t hF F1134
                  have e1137 := fun q : σ.2.1 = 0 => (R1135.2.1 q).2.2.2.2.2.2.2.2
                  have e1138 := (s1130 8812).toInt_lt
                  show bp_G E PO (NN + 1) ((26, 237, lv1073, [], 0, 0) :: gs, h1129, none)
                  refine bp_ld (pc' := 238) bu_26_237 rfl rfl (fun _ _ _ => rfl) g1076 rfl ?_
                  refine bn_gr (pc' := 241) (t := 115) bu_26_238 rfl rfl (fun _ _ _ => rfl) hP1133 rz_o88 rz_r88_42 ?_
                  refine bp_ld (pc' := 242) bu_26_241 rfl rfl (fun _ _ _ => rfl) g1076 rfl ?_
                  refine bn_gi (pc' := 245) (K := 8843) bu_26_242 rfl rfl (fun _ _ _ => rfl) hP1133 rz_o88 rz_i88_43 rfl rfl ?_
                  refine bp_ld (pc' := 246) bu_26_245 rfl rfl (fun _ _ _ => rfl) g1076 rfl ?_
                  refine bn_gr (pc' := 249) (t := 91) bu_26_246 rfl rfl (fun _ _ _ => rfl) hP1133 rz_o88 rz_r88_5 ?_
                  refine bp_ld (pc' := 250) bu_26_249 rfl rfl (fun _ _ _ => rfl) g1076 rfl ?_
                  refine bn_gi (pc' := 253) (K := 8811) bu_26_250 rfl rfl (fun _ _ _ => rfl) hP1133 rz_o88 rz_i88_11 rfl rfl ?_
                  refine bn_iaF (pc' := 254) bu_26_253 rfl rfl (fun _ _ _ => rfl) hP1133 rz_a91 (Or.inl rfl) (fun b1139 b1140 => ?_)
                  refine bn_iasF (pc' := 255) bu_26_254 rfl rfl (fun _ _ _ => rfl) hP1133 rz_a115 (Or.inl rfl) (fun b1143 b1144 h1141 hP1142 => ?_)
                  refine bp_ld (pc' := 256) bu_26_255 rfl rfl (fun _ _ _ => rfl) g1076 rfl ?_
                  refine bp_dup (pc' := 257) bu_26_256 rfl rfl ?_
                  refine bn_gi (pc' := 260) (K := 8843) bu_26_257 rfl rfl (fun _ _ _ => rfl) hP1142 rz_o88 rz_i88_43 rfl rfl ?_
                  refine bp_c (pc' := 261) (n := 1) bu_26_260 rfl rfl (fun _ _ _ => rfl) (by decide) (fun c1145 e1146 => ?_)
                  refine bp_add (pc' := 262) bu_26_261 rfl (by omega) (by omega) (fun v1147 e1148 => ?_)
                  refine bn_pf (pc' := 265) (K := 8843) bu_26_262 rfl rfl (fun _ _ _ => rfl) hP1142 rz_o88 rz_i88_43 rfl rfl (fun h1149 s1150 hP1151 e1152 f1153 => ?_)
                  refine bp_ld (pc' := 266) bu_26_265 rfl rfl (fun _ _ _ => rfl) g1076 rfl ?_
                  refine bn_cvF (pc' := 269) (st := []) (args := []) bu_26_266 rfl rfl rfl (by decide) hP1151 rz_o88 (by decide) rfl (Nat.le_of_ble_eq_true rfl) (Nat.le_of_ble_eq_true rfl) ?_
                  have R1154 : rq_R K P M σ ns on 0 s1150 (bh_up A1131 115 ((s1130 8843)).toInt.toNat (mm_nar 0 (A1131 91 ((s1130 8811)).toInt.toNat))) L1132 := rq_R_s R1135 (f1153 8811 (by decide)) (f1153 8813 (by decide)) (f1153 8814 (by decide)) (f1153 8815 (by decide)) (f1153 8816 (by decide)) (f1153 8819 (by decide)) (f1153 8820 (by decide)) (f1153 8812 (by decide)) (bh_up_ne (by decide))
                  have F1155 : rq_F s1130 A1131 L1132 s1150 (bh_up A1131 115 ((s1130 8843)).toInt.toNat (mm_nar 0 (A1131 91 ((s1130 8811)).toInt.toNat))) L1132 := ⟨⟨(f1153 8802 (by decide)), (f1153 8804 (by decide)), (f1153 8810 (by decide)), (f1153 8818 (by decide)), (f1153 8819 (by decide))⟩, ⟨(bh_up_ne (by decide)), (bh_up_ne (by decide)), (bh_up_ne (by decide)), (bh_up_ne (by decide)), (bh_up_ne (by decide))⟩, rfl, rfl, (f1153 8865 (by decide)), (bh_up_ne (by decide)), fun c c1 c2 => (bh_up_ne (by omega))⟩
                  have F1156 := rq_F_t F1136 F1155
                  refine rr_37 hP1151 (by decide) R1154 (rq_T_F hT F1156) (fun _ => by omega) (fun h1157 s1158 A1159 L1160 hP1161 F1162 R1163 => ?_)
                  have F1164 := rq_F_t F1156 F1162
                  show bp_G E PO (NN + 1) ((26, 269, lv1073, [], 0, 0) :: gs, h1157, none)
                  refine bp_goD (pc' := 12) bu_26_269 rfl ?_
                  have q0 : σ.2.1 = 0 := by omega
                  have q3 := q2 q0
                  exact (ih (fun h' s' A' L' hP' F' R' => bp_mono (Nat.le_succ NN) (kk h' s' A' L' hP' F' R'))).1 _ _ _ _ _ _ _ _ hP1161 F1164 R1163 g1076 g1077 ho _ g1075 (by omega) ((py_x_p q3.2.2.2 q0 (by omega)).symm.trans hx)
                · replace k1126 : ¬ ((r1124).toInt = 0) := k1126
                  refine bp_c (pc' := 230) (n := 1) bu_26_229 rfl rfl (fun _ _ _ => rfl) (by decide) (fun c1165 e1166 => ?_)
                  refine bp_go (pc' := 234) bu_26_230 rfl ?_
                  refine bn_cvF (pc' := 237) (st := []) (args := [.int c1165]) bu_26_234 rfl rfl rfl (by decide) hP rz_o88 (by decide) rfl (Nat.le_of_ble_eq_true rfl) (Nat.le_of_ble_eq_true rfl) ?_
                  refine rr_15 hP hR (rq_T_F hT hF) (fun h1167 s1168 A1169 L1170 hP1171 F1172 R1173 => ?_)
                  have F1174 := rq_F_t hF F1172
                  have e1175 := fun q : σ.2.1 = 0 => (R1173.2.1 q).2.2.2.2.2.2.2.2
                  have e1176 := (s1168 8812).toInt_lt
                  show bp_G E PO (NN + 1) ((26, 237, lv1073, [], 0, 0) :: gs, h1167, none)
                  refine bp_ld (pc' := 238) bu_26_237 rfl rfl (fun _ _ _ => rfl) g1076 rfl ?_
                  refine bn_gr (pc' := 241) (t := 115) bu_26_238 rfl rfl (fun _ _ _ => rfl) hP1171 rz_o88 rz_r88_42 ?_
                  refine bp_ld (pc' := 242) bu_26_241 rfl rfl (fun _ _ _ => rfl) g1076 rfl ?_
                  refine bn_gi (pc' := 245) (K := 8843) bu_26_242 rfl rfl (fun _ _ _ => rfl) hP1171 rz_o88 rz_i88_43 rfl rfl ?_
                  refine bp_ld (pc' := 246) bu_26_245 rfl rfl (fun _ _ _ => rfl) g1076 rfl ?_
                  refine bn_gr (pc' := 249) (t := 91) bu_26_246 rfl rfl (fun _ _ _ => rfl) hP1171 rz_o88 rz_r88_5 ?_
                  refine bp_ld (pc' := 250) bu_26_249 rfl rfl (fun _ _ _ => rfl) g1076 rfl ?_
                  refine bn_gi (pc' := 253) (K := 8811) bu_26_250 rfl rfl (fun _ _ _ => rfl) hP1171 rz_o88 rz_i88_11 rfl rfl ?_
                  refine bn_iaF (pc' := 254) bu_26_253 rfl rfl (fun _ _ _ => rfl) hP1171 rz_a91 (Or.inl rfl) (fun b1177 b1178 => ?_)
                  refine bn_iasF (pc' := 255) bu_26_254 rfl rfl (fun _ _ _ => rfl) hP1171 rz_a115 (Or.inl rfl) (fun b1181 b1182 h1179 hP1180 => ?_)
                  refine bp_ld (pc' := 256) bu_26_255 rfl rfl (fun _ _ _ => rfl) g1076 rfl ?_
                  refine bp_dup (pc' := 257) bu_26_256 rfl rfl ?_
                  refine bn_gi (pc' := 260) (K := 8843) bu_26_257 rfl rfl (fun _ _ _ => rfl) hP1180 rz_o88 rz_i88_43 rfl rfl ?_
                  refine bp_c (pc' := 261) (n := 1) bu_26_260 rfl rfl (fun _ _ _ => rfl) (by decide) (fun c1183 e1184 => ?_)
                  refine bp_add (pc' := 262) bu_26_261 rfl (by omega) (by omega) (fun v1185 e1186 => ?_)
                  refine bn_pf (pc' := 265) (K := 8843) bu_26_262 rfl rfl (fun _ _ _ => rfl) hP1180 rz_o88 rz_i88_43 rfl rfl (fun h1187 s1188 hP1189 e1190 f1191 => ?_)
                  refine bp_ld (pc' := 266) bu_26_265 rfl rfl (fun _ _ _ => rfl) g1076 rfl ?_
                  refine bn_cvF (pc' := 269) (st := []) (args := []) bu_26_266 rfl rfl rfl (by decide) hP1189 rz_o88 (by decide) rfl (Nat.le_of_ble_eq_true rfl) (Nat.le_of_ble_eq_true rfl) ?_
                  have R1192 : rq_R K P M σ ns on 0 s1188 (bh_up A1169 115 ((s1168 8843)).toInt.toNat (mm_nar 0 (A1169 91 ((s1168 8811)).toInt.toNat))) L1170 := rq_R_s R1173 (f1191 8811 (by decide)) (f1191 8813 (by decide)) (f1191 8814 (by decide)) (f1191 8815 (by decide)) (f1191 8816 (by decide)) (f1191 8819 (by decide)) (f1191 8820 (by decide)) (f1191 8812 (by decide)) (bh_up_ne (by decide))
                  have F1193 : rq_F s1168 A1169 L1170 s1188 (bh_up A1169 115 ((s1168 8843)).toInt.toNat (mm_nar 0 (A1169 91 ((s1168 8811)).toInt.toNat))) L1170 := ⟨⟨(f1191 8802 (by decide)), (f1191 8804 (by decide)), (f1191 8810 (by decide)), (f1191 8818 (by decide)), (f1191 8819 (by decide))⟩, ⟨(bh_up_ne (by decide)), (bh_up_ne (by decide)), (bh_up_ne (by decide)), (bh_up_ne (by decide)), (bh_up_ne (by decide))⟩, rfl, rfl, (f1191 8865 (by decide)), (bh_up_ne (by decide)), fun c c1 c2 => (bh_up_ne (by omega))⟩
                  have F1194 := rq_F_t F1174 F1193
                  refine rr_37 hP1189 (by decide) R1192 (rq_T_F hT F1194) (fun _ => by omega) (fun h1195 s1196 A1197 L1198 hP1199 F1200 R1201 => ?_)
                  have F1202 := rq_F_t F1194 F1200
                  show bp_G E PO (NN + 1) ((26, 269, lv1073, [], 0, 0) :: gs, h1195, none)
                  refine bp_goD (pc' := 12) bu_26_269 rfl ?_
                  have q0 : σ.2.1 = 0 := by omega
                  have q3 := q2 q0
                  exact (ih (fun h' s' A' L' hP' F' R' => bp_mono (Nat.le_succ NN) (kk h' s' A' L' hP' F' R'))).1 _ _ _ _ _ _ _ _ hP1199 F1202 R1201 g1076 g1077 ho _ g1075 (by omega) ((py_x_p q3.2.2.2 q0 (by omega)).symm.trans hx)
            · replace k1078 : ¬ ((c1071).toInt ≠ 0) := k1078
              omega
          · replace k1070 : ¬ ((r1068).toInt ≠ 0) := k1070
            refine bp_ld (pc' := 155) bu_26_154 rfl rfl (fun _ _ _ => rfl) g0 rfl ?_
            refine bp_c (pc' := 157) (n := 9) bu_26_155 rfl rfl (fun _ _ _ => rfl) (by decide) (fun c1203 e1204 => ?_)
            refine bn_cvF (pc' := 160) (st := []) (args := [.int c1203]) bu_26_157 rfl rfl rfl (by decide) hP rz_o88 (by decide) rfl (Nat.le_of_ble_eq_true rfl) (Nat.le_of_ble_eq_true rfl) ?_
            refine rr_45 (k := c1203) hP hR (rq_T_F hT hF) (fun r1205 p1206 => ?_)
            show bp_G E PO (NN + 1) ((26, 160, lv, [.int r1205], 0, 0) :: gs, h, none)
            refine bp_i0 (pc' := 163) (pt := 181) bu_26_160 rfl rfl (fun k1207 => ?_) (fun k1207 => ?_)
            · replace k1207 : (r1205).toInt ≠ 0 := k1207
              refine bp_c (pc' := 182) (n := 1) bu_26_181 rfl rfl (fun _ _ _ => rfl) (by decide) (fun c1208 e1209 => ?_)
              refine bp_go (pc' := 186) bu_26_182 rfl ?_
              refine bp_st (pc' := 187) bu_26_186 rfl rfl (fun _ _ _ => rfl) rfl (by decide) (by decide) (fun lv1210 F1211 g1212 => ?_)
              have g1213 := F1211 0 (.ref (E.1 + 88)) g0 (by decide) (Or.inl rfl)
              have g1214 := F1211 1 (.int b) g1 (by decide) (Or.inl rfl)
              refine bp_ld (pc' := 188) bu_26_187 rfl rfl (fun _ _ _ => rfl) g1212 rfl ?_
              refine bp_i0 (pc' := 191) (pt := 210) bu_26_188 rfl rfl (fun k1215 => ?_) (fun k1215 => ?_)
              · replace k1215 : (c1208).toInt ≠ 0 := k1215
                refine bp_ld (pc' := 211) bu_26_210 rfl rfl (fun _ _ _ => rfl) g1213 rfl ?_
                refine bp_ld (pc' := 212) bu_26_211 rfl rfl (fun _ _ _ => rfl) g1213 rfl ?_
                refine bp_c (pc' := 214) (n := 10) bu_26_212 rfl rfl (fun _ _ _ => rfl) (by decide) (fun c1216 e1217 => ?_)
                refine bn_cvF (pc' := 217) (st := [.ref (E.1 + 88)]) (args := [.int c1216]) bu_26_214 rfl rfl rfl (by decide) hP rz_o88 (by decide) rfl (Nat.le_of_ble_eq_true rfl) (Nat.le_of_ble_eq_true rfl) ?_
                refine rr_45 (k := c1216) hP hR (rq_T_F hT hF) (fun r1218 p1219 => ?_)
                show bp_G E PO (NN + 1) ((26, 217, lv1210, [.int r1218, .ref (E.1 + 88)], 0, 0) :: gs, h, none)
                refine bp_i0 (pc' := 220) (pt := 229) bu_26_217 rfl rfl (fun k1220 => ?_) (fun k1220 => ?_)
                · replace k1220 : (r1218).toInt ≠ 0 := k1220
                  refine bp_c (pc' := 230) (n := 1) bu_26_229 rfl rfl (fun _ _ _ => rfl) (by decide) (fun c1221 e1222 => ?_)
                  refine bp_go (pc' := 234) bu_26_230 rfl ?_
                  refine bn_cvF (pc' := 237) (st := []) (args := [.int c1221]) bu_26_234 rfl rfl rfl (by decide) hP rz_o88 (by decide) rfl (Nat.le_of_ble_eq_true rfl) (Nat.le_of_ble_eq_true rfl) ?_
                  refine rr_15 hP hR (rq_T_F hT hF) (fun h1223 s1224 A1225 L1226 hP1227 F1228 R1229 => ?_)
                  have F1230 := rq_F_t hF F1228
                  have e1231 := fun q : σ.2.1 = 0 => (R1229.2.1 q).2.2.2.2.2.2.2.2
                  have e1232 := (s1224 8812).toInt_lt
                  show bp_G E PO (NN + 1) ((26, 237, lv1210, [], 0, 0) :: gs, h1223, none)
                  refine bp_ld (pc' := 238) bu_26_237 rfl rfl (fun _ _ _ => rfl) g1213 rfl ?_
                  refine bn_gr (pc' := 241) (t := 115) bu_26_238 rfl rfl (fun _ _ _ => rfl) hP1227 rz_o88 rz_r88_42 ?_
                  refine bp_ld (pc' := 242) bu_26_241 rfl rfl (fun _ _ _ => rfl) g1213 rfl ?_
                  refine bn_gi (pc' := 245) (K := 8843) bu_26_242 rfl rfl (fun _ _ _ => rfl) hP1227 rz_o88 rz_i88_43 rfl rfl ?_
                  refine bp_ld (pc' := 246) bu_26_245 rfl rfl (fun _ _ _ => rfl) g1213 rfl ?_
                  refine bn_gr (pc' := 249) (t := 91) bu_26_246 rfl rfl (fun _ _ _ => rfl) hP1227 rz_o88 rz_r88_5 ?_
                  refine bp_ld (pc' := 250) bu_26_249 rfl rfl (fun _ _ _ => rfl) g1213 rfl ?_
                  refine bn_gi (pc' := 253) (K := 8811) bu_26_250 rfl rfl (fun _ _ _ => rfl) hP1227 rz_o88 rz_i88_11 rfl rfl ?_
                  refine bn_iaF (pc' := 254) bu_26_253 rfl rfl (fun _ _ _ => rfl) hP1227 rz_a91 (Or.inl rfl) (fun b1233 b1234 => ?_)
                  refine bn_iasF (pc' := 255) bu_26_254 rfl rfl (fun _ _ _ => rfl) hP1227 rz_a115 (Or.inl rfl) (fun b1237 b1238 h1235 hP1236 => ?_)
                  refine bp_ld (pc' := 256) bu_26_255 rfl rfl (fun _ _ _ => rfl) g1213 rfl ?_
                  refine bp_dup (pc' := 257) bu_26_256 rfl rfl ?_
                  refine bn_gi (pc' := 260) (K := 8843) bu_26_257 rfl rfl (fun _ _ _ => rfl) hP1236 rz_o88 rz_i88_43 rfl rfl ?_
                  refine bp_c (pc' := 261) (n := 1) bu_26_260 rfl rfl (fun _ _ _ => rfl) (by decide) (fun c1239 e1240 => ?_)
                  refine bp_add (pc' := 262) bu_26_261 rfl (by omega) (by omega) (fun v1241 e1242 => ?_)
                  refine bn_pf (pc' := 265) (K := 8843) bu_26_262 rfl rfl (fun _ _ _ => rfl) hP1236 rz_o88 rz_i88_43 rfl rfl (fun h1243 s1244 hP1245 e1246 f1247 => ?_)
                  refine bp_ld (pc' := 266) bu_26_265 rfl rfl (fun _ _ _ => rfl) g1213 rfl ?_
                  refine bn_cvF (pc' := 269) (st := []) (args := []) bu_26_266 rfl rfl rfl (by decide) hP1245 rz_o88 (by decide) rfl (Nat.le_of_ble_eq_true rfl) (Nat.le_of_ble_eq_true rfl) ?_
                  have R1248 : rq_R K P M σ ns on 0 s1244 (bh_up A1225 115 ((s1224 8843)).toInt.toNat (mm_nar 0 (A1225 91 ((s1224 8811)).toInt.toNat))) L1226 := rq_R_s R1229 (f1247 8811 (by decide)) (f1247 8813 (by decide)) (f1247 8814 (by decide)) (f1247 8815 (by decide)) (f1247 8816 (by decide)) (f1247 8819 (by decide)) (f1247 8820 (by decide)) (f1247 8812 (by decide)) (bh_up_ne (by decide))
                  have F1249 : rq_F s1224 A1225 L1226 s1244 (bh_up A1225 115 ((s1224 8843)).toInt.toNat (mm_nar 0 (A1225 91 ((s1224 8811)).toInt.toNat))) L1226 := ⟨⟨(f1247 8802 (by decide)), (f1247 8804 (by decide)), (f1247 8810 (by decide)), (f1247 8818 (by decide)), (f1247 8819 (by decide))⟩, ⟨(bh_up_ne (by decide)), (bh_up_ne (by decide)), (bh_up_ne (by decide)), (bh_up_ne (by decide)), (bh_up_ne (by decide))⟩, rfl, rfl, (f1247 8865 (by decide)), (bh_up_ne (by decide)), fun c c1 c2 => (bh_up_ne (by omega))⟩
                  have F1250 := rq_F_t F1230 F1249
                  refine rr_37 hP1245 (by decide) R1248 (rq_T_F hT F1250) (fun _ => by omega) (fun h1251 s1252 A1253 L1254 hP1255 F1256 R1257 => ?_)
                  have F1258 := rq_F_t F1250 F1256
                  show bp_G E PO (NN + 1) ((26, 269, lv1210, [], 0, 0) :: gs, h1251, none)
                  refine bp_goD (pc' := 12) bu_26_269 rfl ?_
                  have q0 : σ.2.1 = 0 := by omega
                  have q3 := q2 q0
                  exact (ih (fun h' s' A' L' hP' F' R' => bp_mono (Nat.le_succ NN) (kk h' s' A' L' hP' F' R'))).1 _ _ _ _ _ _ _ _ hP1255 F1258 R1257 g1213 g1214 ho _ g1212 (by omega) ((py_x_p q3.2.2.2 q0 (by omega)).symm.trans hx)
                · replace k1220 : ¬ ((r1218).toInt ≠ 0) := k1220
                  refine bp_ld (pc' := 221) bu_26_220 rfl rfl (fun _ _ _ => rfl) g1213 rfl ?_
                  refine bp_c (pc' := 223) (n := 15) bu_26_221 rfl rfl (fun _ _ _ => rfl) (by decide) (fun c1259 e1260 => ?_)
                  refine bn_cvF (pc' := 226) (st := [.ref (E.1 + 88)]) (args := [.int c1259]) bu_26_223 rfl rfl rfl (by decide) hP rz_o88 (by decide) rfl (Nat.le_of_ble_eq_true rfl) (Nat.le_of_ble_eq_true rfl) ?_
                  refine rr_45 (k := c1259) hP hR (rq_T_F hT hF) (fun r1261 p1262 => ?_)
                  show bp_G E PO (NN + 1) ((26, 226, lv1210, [.int r1261, .ref (E.1 + 88)], 0, 0) :: gs, h, none)
                  refine bp_i0 (pc' := 229) (pt := 233) bu_26_226 rfl rfl (fun k1263 => ?_) (fun k1263 => ?_)
                  · replace k1263 : (r1261).toInt = 0 := k1263
                    refine bp_c (pc' := 234) (n := 0) bu_26_233 rfl rfl (fun _ _ _ => rfl) (by decide) (fun c1264 e1265 => ?_)
                    refine bn_cvF (pc' := 237) (st := []) (args := [.int c1264]) bu_26_234 rfl rfl rfl (by decide) hP rz_o88 (by decide) rfl (Nat.le_of_ble_eq_true rfl) (Nat.le_of_ble_eq_true rfl) ?_
                    refine rr_15 hP hR (rq_T_F hT hF) (fun h1266 s1267 A1268 L1269 hP1270 F1271 R1272 => ?_)
                    have F1273 := rq_F_t hF F1271
                    have e1274 := fun q : σ.2.1 = 0 => (R1272.2.1 q).2.2.2.2.2.2.2.2
                    have e1275 := (s1267 8812).toInt_lt
                    show bp_G E PO (NN + 1) ((26, 237, lv1210, [], 0, 0) :: gs, h1266, none)
                    refine bp_ld (pc' := 238) bu_26_237 rfl rfl (fun _ _ _ => rfl) g1213 rfl ?_
                    refine bn_gr (pc' := 241) (t := 115) bu_26_238 rfl rfl (fun _ _ _ => rfl) hP1270 rz_o88 rz_r88_42 ?_
                    refine bp_ld (pc' := 242) bu_26_241 rfl rfl (fun _ _ _ => rfl) g1213 rfl ?_
                    refine bn_gi (pc' := 245) (K := 8843) bu_26_242 rfl rfl (fun _ _ _ => rfl) hP1270 rz_o88 rz_i88_43 rfl rfl ?_
                    refine bp_ld (pc' := 246) bu_26_245 rfl rfl (fun _ _ _ => rfl) g1213 rfl ?_
                    refine bn_gr (pc' := 249) (t := 91) bu_26_246 rfl rfl (fun _ _ _ => rfl) hP1270 rz_o88 rz_r88_5 ?_
                    refine bp_ld (pc' := 250) bu_26_249 rfl rfl (fun _ _ _ => rfl) g1213 rfl ?_
                    refine bn_gi (pc' := 253) (K := 8811) bu_26_250 rfl rfl (fun _ _ _ => rfl) hP1270 rz_o88 rz_i88_11 rfl rfl ?_
                    refine bn_iaF (pc' := 254) bu_26_253 rfl rfl (fun _ _ _ => rfl) hP1270 rz_a91 (Or.inl rfl) (fun b1276 b1277 => ?_)
                    refine bn_iasF (pc' := 255) bu_26_254 rfl rfl (fun _ _ _ => rfl) hP1270 rz_a115 (Or.inl rfl) (fun b1280 b1281 h1278 hP1279 => ?_)
                    refine bp_ld (pc' := 256) bu_26_255 rfl rfl (fun _ _ _ => rfl) g1213 rfl ?_
                    refine bp_dup (pc' := 257) bu_26_256 rfl rfl ?_
                    refine bn_gi (pc' := 260) (K := 8843) bu_26_257 rfl rfl (fun _ _ _ => rfl) hP1279 rz_o88 rz_i88_43 rfl rfl ?_
                    refine bp_c (pc' := 261) (n := 1) bu_26_260 rfl rfl (fun _ _ _ => rfl) (by decide) (fun c1282 e1283 => ?_)
                    refine bp_add (pc' := 262) bu_26_261 rfl (by omega) (by omega) (fun v1284 e1285 => ?_)
                    refine bn_pf (pc' := 265) (K := 8843) bu_26_262 rfl rfl (fun _ _ _ => rfl) hP1279 rz_o88 rz_i88_43 rfl rfl (fun h1286 s1287 hP1288 e1289 f1290 => ?_)
                    refine bp_ld (pc' := 266) bu_26_265 rfl rfl (fun _ _ _ => rfl) g1213 rfl ?_
                    refine bn_cvF (pc' := 269) (st := []) (args := []) bu_26_266 rfl rfl rfl (by decide) hP1288 rz_o88 (by decide) rfl (Nat.le_of_ble_eq_true rfl) (Nat.le_of_ble_eq_true rfl) ?_
                    have R1291 : rq_R K P M σ ns on 0 s1287 (bh_up A1268 115 ((s1267 8843)).toInt.toNat (mm_nar 0 (A1268 91 ((s1267 8811)).toInt.toNat))) L1269 := rq_R_s R1272 (f1290 8811 (by decide)) (f1290 8813 (by decide)) (f1290 8814 (by decide)) (f1290 8815 (by decide)) (f1290 8816 (by decide)) (f1290 8819 (by decide)) (f1290 8820 (by decide)) (f1290 8812 (by decide)) (bh_up_ne (by decide))
                    have F1292 : rq_F s1267 A1268 L1269 s1287 (bh_up A1268 115 ((s1267 8843)).toInt.toNat (mm_nar 0 (A1268 91 ((s1267 8811)).toInt.toNat))) L1269 := ⟨⟨(f1290 8802 (by decide)), (f1290 8804 (by decide)), (f1290 8810 (by decide)), (f1290 8818 (by decide)), (f1290 8819 (by decide))⟩, ⟨(bh_up_ne (by decide)), (bh_up_ne (by decide)), (bh_up_ne (by decide)), (bh_up_ne (by decide)), (bh_up_ne (by decide))⟩, rfl, rfl, (f1290 8865 (by decide)), (bh_up_ne (by decide)), fun c c1 c2 => (bh_up_ne (by omega))⟩
                    have F1293 := rq_F_t F1273 F1292
                    refine rr_37 hP1288 (by decide) R1291 (rq_T_F hT F1293) (fun _ => by omega) (fun h1294 s1295 A1296 L1297 hP1298 F1299 R1300 => ?_)
                    have F1301 := rq_F_t F1293 F1299
                    show bp_G E PO (NN + 1) ((26, 269, lv1210, [], 0, 0) :: gs, h1294, none)
                    refine bp_goD (pc' := 12) bu_26_269 rfl ?_
                    have q0 : σ.2.1 = 0 := by omega
                    have q3 := q2 q0
                    exact (ih (fun h' s' A' L' hP' F' R' => bp_mono (Nat.le_succ NN) (kk h' s' A' L' hP' F' R'))).1 _ _ _ _ _ _ _ _ hP1298 F1301 R1300 g1213 g1214 ho _ g1212 (by omega) ((py_x_p q3.2.2.2 q0 (by omega)).symm.trans hx)
                  · replace k1263 : ¬ ((r1261).toInt = 0) := k1263
                    refine bp_c (pc' := 230) (n := 1) bu_26_229 rfl rfl (fun _ _ _ => rfl) (by decide) (fun c1302 e1303 => ?_)
                    refine bp_go (pc' := 234) bu_26_230 rfl ?_
                    refine bn_cvF (pc' := 237) (st := []) (args := [.int c1302]) bu_26_234 rfl rfl rfl (by decide) hP rz_o88 (by decide) rfl (Nat.le_of_ble_eq_true rfl) (Nat.le_of_ble_eq_true rfl) ?_
                    refine rr_15 hP hR (rq_T_F hT hF) (fun h1304 s1305 A1306 L1307 hP1308 F1309 R1310 => ?_)
                    have F1311 := rq_F_t hF F1309
                    have e1312 := fun q : σ.2.1 = 0 => (R1310.2.1 q).2.2.2.2.2.2.2.2
                    have e1313 := (s1305 8812).toInt_lt
                    show bp_G E PO (NN + 1) ((26, 237, lv1210, [], 0, 0) :: gs, h1304, none)
                    refine bp_ld (pc' := 238) bu_26_237 rfl rfl (fun _ _ _ => rfl) g1213 rfl ?_
                    refine bn_gr (pc' := 241) (t := 115) bu_26_238 rfl rfl (fun _ _ _ => rfl) hP1308 rz_o88 rz_r88_42 ?_
                    refine bp_ld (pc' := 242) bu_26_241 rfl rfl (fun _ _ _ => rfl) g1213 rfl ?_
                    refine bn_gi (pc' := 245) (K := 8843) bu_26_242 rfl rfl (fun _ _ _ => rfl) hP1308 rz_o88 rz_i88_43 rfl rfl ?_
                    refine bp_ld (pc' := 246) bu_26_245 rfl rfl (fun _ _ _ => rfl) g1213 rfl ?_
                    refine bn_gr (pc' := 249) (t := 91) bu_26_246 rfl rfl (fun _ _ _ => rfl) hP1308 rz_o88 rz_r88_5 ?_
                    refine bp_ld (pc' := 250) bu_26_249 rfl rfl (fun _ _ _ => rfl) g1213 rfl ?_
                    refine bn_gi (pc' := 253) (K := 8811) bu_26_250 rfl rfl (fun _ _ _ => rfl) hP1308 rz_o88 rz_i88_11 rfl rfl ?_
                    refine bn_iaF (pc' := 254) bu_26_253 rfl rfl (fun _ _ _ => rfl) hP1308 rz_a91 (Or.inl rfl) (fun b1314 b1315 => ?_)
                    refine bn_iasF (pc' := 255) bu_26_254 rfl rfl (fun _ _ _ => rfl) hP1308 rz_a115 (Or.inl rfl) (fun b1318 b1319 h1316 hP1317 => ?_)
                    refine bp_ld (pc' := 256) bu_26_255 rfl rfl (fun _ _ _ => rfl) g1213 rfl ?_
                    refine bp_dup (pc' := 257) bu_26_256 rfl rfl ?_
                    refine bn_gi (pc' := 260) (K := 8843) bu_26_257 rfl rfl (fun _ _ _ => rfl) hP1317 rz_o88 rz_i88_43 rfl rfl ?_
                    refine bp_c (pc' := 261) (n := 1) bu_26_260 rfl rfl (fun _ _ _ => rfl) (by decide) (fun c1320 e1321 => ?_)
                    refine bp_add (pc' := 262) bu_26_261 rfl (by omega) (by omega) (fun v1322 e1323 => ?_)
                    refine bn_pf (pc' := 265) (K := 8843) bu_26_262 rfl rfl (fun _ _ _ => rfl) hP1317 rz_o88 rz_i88_43 rfl rfl (fun h1324 s1325 hP1326 e1327 f1328 => ?_)
                    refine bp_ld (pc' := 266) bu_26_265 rfl rfl (fun _ _ _ => rfl) g1213 rfl ?_
                    refine bn_cvF (pc' := 269) (st := []) (args := []) bu_26_266 rfl rfl rfl (by decide) hP1326 rz_o88 (by decide) rfl (Nat.le_of_ble_eq_true rfl) (Nat.le_of_ble_eq_true rfl) ?_
                    have R1329 : rq_R K P M σ ns on 0 s1325 (bh_up A1306 115 ((s1305 8843)).toInt.toNat (mm_nar 0 (A1306 91 ((s1305 8811)).toInt.toNat))) L1307 := rq_R_s R1310 (f1328 8811 (by decide)) (f1328 8813 (by decide)) (f1328 8814 (by decide)) (f1328 8815 (by decide)) (f1328 8816 (by decide)) (f1328 8819 (by decide)) (f1328 8820 (by decide)) (f1328 8812 (by decide)) (bh_up_ne (by decide))
                    have F1330 : rq_F s1305 A1306 L1307 s1325 (bh_up A1306 115 ((s1305 8843)).toInt.toNat (mm_nar 0 (A1306 91 ((s1305 8811)).toInt.toNat))) L1307 := ⟨⟨(f1328 8802 (by decide)), (f1328 8804 (by decide)), (f1328 8810 (by decide)), (f1328 8818 (by decide)), (f1328 8819 (by decide))⟩, ⟨(bh_up_ne (by decide)), (bh_up_ne (by decide)), (bh_up_ne (by decide)), (bh_up_ne (by decide)), (bh_up_ne (by decide))⟩, rfl, rfl, (f1328 8865 (by decide)), (bh_up_ne (by decide)), fun c c1 c2 => (bh_up_ne (by omega))⟩
                    have F1331 := rq_F_t F1311 F1330
                    refine rr_37 hP1326 (by decide) R1329 (rq_T_F hT F1331) (fun _ => by omega) (fun h1332 s1333 A1334 L1335 hP1336 F1337 R1338 => ?_)
                    have F1339 := rq_F_t F1331 F1337
                    show bp_G E PO (NN + 1) ((26, 269, lv1210, [], 0, 0) :: gs, h1332, none)
                    refine bp_goD (pc' := 12) bu_26_269 rfl ?_
                    have q0 : σ.2.1 = 0 := by omega
                    have q3 := q2 q0
                    exact (ih (fun h' s' A' L' hP' F' R' => bp_mono (Nat.le_succ NN) (kk h' s' A' L' hP' F' R'))).1 _ _ _ _ _ _ _ _ hP1336 F1339 R1338 g1213 g1214 ho _ g1212 (by omega) ((py_x_p q3.2.2.2 q0 (by omega)).symm.trans hx)
              · replace k1215 : ¬ ((c1208).toInt ≠ 0) := k1215
                omega
            · replace k1207 : ¬ ((r1205).toInt ≠ 0) := k1207
              refine bp_ld (pc' := 164) bu_26_163 rfl rfl (fun _ _ _ => rfl) g0 rfl ?_
              refine bp_c (pc' := 166) (n := 10) bu_26_164 rfl rfl (fun _ _ _ => rfl) (by decide) (fun c1340 e1341 => ?_)
              refine bn_cvF (pc' := 169) (st := []) (args := [.int c1340]) bu_26_166 rfl rfl rfl (by decide) hP rz_o88 (by decide) rfl (Nat.le_of_ble_eq_true rfl) (Nat.le_of_ble_eq_true rfl) ?_
              refine rr_45 (k := c1340) hP hR (rq_T_F hT hF) (fun r1342 p1343 => ?_)
              show bp_G E PO (NN + 1) ((26, 169, lv, [.int r1342], 0, 0) :: gs, h, none)
              refine bp_i0 (pc' := 172) (pt := 181) bu_26_169 rfl rfl (fun k1344 => ?_) (fun k1344 => ?_)
              · replace k1344 : (r1342).toInt ≠ 0 := k1344
                refine bp_c (pc' := 182) (n := 1) bu_26_181 rfl rfl (fun _ _ _ => rfl) (by decide) (fun c1345 e1346 => ?_)
                refine bp_go (pc' := 186) bu_26_182 rfl ?_
                refine bp_st (pc' := 187) bu_26_186 rfl rfl (fun _ _ _ => rfl) rfl (by decide) (by decide) (fun lv1347 F1348 g1349 => ?_)
                have g1350 := F1348 0 (.ref (E.1 + 88)) g0 (by decide) (Or.inl rfl)
                have g1351 := F1348 1 (.int b) g1 (by decide) (Or.inl rfl)
                refine bp_ld (pc' := 188) bu_26_187 rfl rfl (fun _ _ _ => rfl) g1349 rfl ?_
                refine bp_i0 (pc' := 191) (pt := 210) bu_26_188 rfl rfl (fun k1352 => ?_) (fun k1352 => ?_)
                · replace k1352 : (c1345).toInt ≠ 0 := k1352
                  refine bp_ld (pc' := 211) bu_26_210 rfl rfl (fun _ _ _ => rfl) g1350 rfl ?_
                  refine bp_ld (pc' := 212) bu_26_211 rfl rfl (fun _ _ _ => rfl) g1350 rfl ?_
                  refine bp_c (pc' := 214) (n := 10) bu_26_212 rfl rfl (fun _ _ _ => rfl) (by decide) (fun c1353 e1354 => ?_)
                  refine bn_cvF (pc' := 217) (st := [.ref (E.1 + 88)]) (args := [.int c1353]) bu_26_214 rfl rfl rfl (by decide) hP rz_o88 (by decide) rfl (Nat.le_of_ble_eq_true rfl) (Nat.le_of_ble_eq_true rfl) ?_
                  refine rr_45 (k := c1353) hP hR (rq_T_F hT hF) (fun r1355 p1356 => ?_)
                  show bp_G E PO (NN + 1) ((26, 217, lv1347, [.int r1355, .ref (E.1 + 88)], 0, 0) :: gs, h, none)
                  refine bp_i0 (pc' := 220) (pt := 229) bu_26_217 rfl rfl (fun k1357 => ?_) (fun k1357 => ?_)
                  · replace k1357 : (r1355).toInt ≠ 0 := k1357
                    refine bp_c (pc' := 230) (n := 1) bu_26_229 rfl rfl (fun _ _ _ => rfl) (by decide) (fun c1358 e1359 => ?_)
                    refine bp_go (pc' := 234) bu_26_230 rfl ?_
                    refine bn_cvF (pc' := 237) (st := []) (args := [.int c1358]) bu_26_234 rfl rfl rfl (by decide) hP rz_o88 (by decide) rfl (Nat.le_of_ble_eq_true rfl) (Nat.le_of_ble_eq_true rfl) ?_
                    refine rr_15 hP hR (rq_T_F hT hF) (fun h1360 s1361 A1362 L1363 hP1364 F1365 R1366 => ?_)
                    have F1367 := rq_F_t hF F1365
                    have e1368 := fun q : σ.2.1 = 0 => (R1366.2.1 q).2.2.2.2.2.2.2.2
                    have e1369 := (s1361 8812).toInt_lt
                    show bp_G E PO (NN + 1) ((26, 237, lv1347, [], 0, 0) :: gs, h1360, none)
                    refine bp_ld (pc' := 238) bu_26_237 rfl rfl (fun _ _ _ => rfl) g1350 rfl ?_
                    refine bn_gr (pc' := 241) (t := 115) bu_26_238 rfl rfl (fun _ _ _ => rfl) hP1364 rz_o88 rz_r88_42 ?_
                    refine bp_ld (pc' := 242) bu_26_241 rfl rfl (fun _ _ _ => rfl) g1350 rfl ?_
                    refine bn_gi (pc' := 245) (K := 8843) bu_26_242 rfl rfl (fun _ _ _ => rfl) hP1364 rz_o88 rz_i88_43 rfl rfl ?_
                    refine bp_ld (pc' := 246) bu_26_245 rfl rfl (fun _ _ _ => rfl) g1350 rfl ?_
                    refine bn_gr (pc' := 249) (t := 91) bu_26_246 rfl rfl (fun _ _ _ => rfl) hP1364 rz_o88 rz_r88_5 ?_
                    refine bp_ld (pc' := 250) bu_26_249 rfl rfl (fun _ _ _ => rfl) g1350 rfl ?_
                    refine bn_gi (pc' := 253) (K := 8811) bu_26_250 rfl rfl (fun _ _ _ => rfl) hP1364 rz_o88 rz_i88_11 rfl rfl ?_
                    refine bn_iaF (pc' := 254) bu_26_253 rfl rfl (fun _ _ _ => rfl) hP1364 rz_a91 (Or.inl rfl) (fun b1370 b1371 => ?_)
                    refine bn_iasF (pc' := 255) bu_26_254 rfl rfl (fun _ _ _ => rfl) hP1364 rz_a115 (Or.inl rfl) (fun b1374 b1375 h1372 hP1373 => ?_)
                    refine bp_ld (pc' := 256) bu_26_255 rfl rfl (fun _ _ _ => rfl) g1350 rfl ?_
                    refine bp_dup (pc' := 257) bu_26_256 rfl rfl ?_
                    refine bn_gi (pc' := 260) (K := 8843) bu_26_257 rfl rfl (fun _ _ _ => rfl) hP1373 rz_o88 rz_i88_43 rfl rfl ?_
                    refine bp_c (pc' := 261) (n := 1) bu_26_260 rfl rfl (fun _ _ _ => rfl) (by decide) (fun c1376 e1377 => ?_)
                    refine bp_add (pc' := 262) bu_26_261 rfl (by omega) (by omega) (fun v1378 e1379 => ?_)
                    refine bn_pf (pc' := 265) (K := 8843) bu_26_262 rfl rfl (fun _ _ _ => rfl) hP1373 rz_o88 rz_i88_43 rfl rfl (fun h1380 s1381 hP1382 e1383 f1384 => ?_)
                    refine bp_ld (pc' := 266) bu_26_265 rfl rfl (fun _ _ _ => rfl) g1350 rfl ?_
                    refine bn_cvF (pc' := 269) (st := []) (args := []) bu_26_266 rfl rfl rfl (by decide) hP1382 rz_o88 (by decide) rfl (Nat.le_of_ble_eq_true rfl) (Nat.le_of_ble_eq_true rfl) ?_
                    have R1385 : rq_R K P M σ ns on 0 s1381 (bh_up A1362 115 ((s1361 8843)).toInt.toNat (mm_nar 0 (A1362 91 ((s1361 8811)).toInt.toNat))) L1363 := rq_R_s R1366 (f1384 8811 (by decide)) (f1384 8813 (by decide)) (f1384 8814 (by decide)) (f1384 8815 (by decide)) (f1384 8816 (by decide)) (f1384 8819 (by decide)) (f1384 8820 (by decide)) (f1384 8812 (by decide)) (bh_up_ne (by decide))
                    have F1386 : rq_F s1361 A1362 L1363 s1381 (bh_up A1362 115 ((s1361 8843)).toInt.toNat (mm_nar 0 (A1362 91 ((s1361 8811)).toInt.toNat))) L1363 := ⟨⟨(f1384 8802 (by decide)), (f1384 8804 (by decide)), (f1384 8810 (by decide)), (f1384 8818 (by decide)), (f1384 8819 (by decide))⟩, ⟨(bh_up_ne (by decide)), (bh_up_ne (by decide)), (bh_up_ne (by decide)), (bh_up_ne (by decide)), (bh_up_ne (by decide))⟩, rfl, rfl, (f1384 8865 (by decide)), (bh_up_ne (by decide)), fun c c1 c2 => (bh_up_ne (by omega))⟩
                    have F1387 := rq_F_t F1367 F1386
                    refine rr_37 hP1382 (by decide) R1385 (rq_T_F hT F1387) (fun _ => by omega) (fun h1388 s1389 A1390 L1391 hP1392 F1393 R1394 => ?_)
                    have F1395 := rq_F_t F1387 F1393
                    show bp_G E PO (NN + 1) ((26, 269, lv1347, [], 0, 0) :: gs, h1388, none)
                    refine bp_goD (pc' := 12) bu_26_269 rfl ?_
                    have q0 : σ.2.1 = 0 := by omega
                    have q3 := q2 q0
                    exact (ih (fun h' s' A' L' hP' F' R' => bp_mono (Nat.le_succ NN) (kk h' s' A' L' hP' F' R'))).1 _ _ _ _ _ _ _ _ hP1392 F1395 R1394 g1350 g1351 ho _ g1349 (by omega) ((py_x_p q3.2.2.2 q0 (by omega)).symm.trans hx)
                  · replace k1357 : ¬ ((r1355).toInt ≠ 0) := k1357
                    refine bp_ld (pc' := 221) bu_26_220 rfl rfl (fun _ _ _ => rfl) g1350 rfl ?_
                    refine bp_c (pc' := 223) (n := 15) bu_26_221 rfl rfl (fun _ _ _ => rfl) (by decide) (fun c1396 e1397 => ?_)
                    refine bn_cvF (pc' := 226) (st := [.ref (E.1 + 88)]) (args := [.int c1396]) bu_26_223 rfl rfl rfl (by decide) hP rz_o88 (by decide) rfl (Nat.le_of_ble_eq_true rfl) (Nat.le_of_ble_eq_true rfl) ?_
                    refine rr_45 (k := c1396) hP hR (rq_T_F hT hF) (fun r1398 p1399 => ?_)
                    show bp_G E PO (NN + 1) ((26, 226, lv1347, [.int r1398, .ref (E.1 + 88)], 0, 0) :: gs, h, none)
                    refine bp_i0 (pc' := 229) (pt := 233) bu_26_226 rfl rfl (fun k1400 => ?_) (fun k1400 => ?_)
                    · replace k1400 : (r1398).toInt = 0 := k1400
                      refine bp_c (pc' := 234) (n := 0) bu_26_233 rfl rfl (fun _ _ _ => rfl) (by decide) (fun c1401 e1402 => ?_)
                      refine bn_cvF (pc' := 237) (st := []) (args := [.int c1401]) bu_26_234 rfl rfl rfl (by decide) hP rz_o88 (by decide) rfl (Nat.le_of_ble_eq_true rfl) (Nat.le_of_ble_eq_true rfl) ?_
                      refine rr_15 hP hR (rq_T_F hT hF) (fun h1403 s1404 A1405 L1406 hP1407 F1408 R1409 => ?_)
                      have F1410 := rq_F_t hF F1408
                      have e1411 := fun q : σ.2.1 = 0 => (R1409.2.1 q).2.2.2.2.2.2.2.2
                      have e1412 := (s1404 8812).toInt_lt
                      show bp_G E PO (NN + 1) ((26, 237, lv1347, [], 0, 0) :: gs, h1403, none)
                      refine bp_ld (pc' := 238) bu_26_237 rfl rfl (fun _ _ _ => rfl) g1350 rfl ?_
                      refine bn_gr (pc' := 241) (t := 115) bu_26_238 rfl rfl (fun _ _ _ => rfl) hP1407 rz_o88 rz_r88_42 ?_
                      refine bp_ld (pc' := 242) bu_26_241 rfl rfl (fun _ _ _ => rfl) g1350 rfl ?_
                      refine bn_gi (pc' := 245) (K := 8843) bu_26_242 rfl rfl (fun _ _ _ => rfl) hP1407 rz_o88 rz_i88_43 rfl rfl ?_
                      refine bp_ld (pc' := 246) bu_26_245 rfl rfl (fun _ _ _ => rfl) g1350 rfl ?_
                      refine bn_gr (pc' := 249) (t := 91) bu_26_246 rfl rfl (fun _ _ _ => rfl) hP1407 rz_o88 rz_r88_5 ?_
                      refine bp_ld (pc' := 250) bu_26_249 rfl rfl (fun _ _ _ => rfl) g1350 rfl ?_
                      refine bn_gi (pc' := 253) (K := 8811) bu_26_250 rfl rfl (fun _ _ _ => rfl) hP1407 rz_o88 rz_i88_11 rfl rfl ?_
                      refine bn_iaF (pc' := 254) bu_26_253 rfl rfl (fun _ _ _ => rfl) hP1407 rz_a91 (Or.inl rfl) (fun b1413 b1414 => ?_)
                      refine bn_iasF (pc' := 255) bu_26_254 rfl rfl (fun _ _ _ => rfl) hP1407 rz_a115 (Or.inl rfl) (fun b1417 b1418 h1415 hP1416 => ?_)
                      refine bp_ld (pc' := 256) bu_26_255 rfl rfl (fun _ _ _ => rfl) g1350 rfl ?_
                      refine bp_dup (pc' := 257) bu_26_256 rfl rfl ?_
                      refine bn_gi (pc' := 260) (K := 8843) bu_26_257 rfl rfl (fun _ _ _ => rfl) hP1416 rz_o88 rz_i88_43 rfl rfl ?_
                      refine bp_c (pc' := 261) (n := 1) bu_26_260 rfl rfl (fun _ _ _ => rfl) (by decide) (fun c1419 e1420 => ?_)
                      refine bp_add (pc' := 262) bu_26_261 rfl (by omega) (by omega) (fun v1421 e1422 => ?_)
                      refine bn_pf (pc' := 265) (K := 8843) bu_26_262 rfl rfl (fun _ _ _ => rfl) hP1416 rz_o88 rz_i88_43 rfl rfl (fun h1423 s1424 hP1425 e1426 f1427 => ?_)
                      refine bp_ld (pc' := 266) bu_26_265 rfl rfl (fun _ _ _ => rfl) g1350 rfl ?_
                      refine bn_cvF (pc' := 269) (st := []) (args := []) bu_26_266 rfl rfl rfl (by decide) hP1425 rz_o88 (by decide) rfl (Nat.le_of_ble_eq_true rfl) (Nat.le_of_ble_eq_true rfl) ?_
                      have R1428 : rq_R K P M σ ns on 0 s1424 (bh_up A1405 115 ((s1404 8843)).toInt.toNat (mm_nar 0 (A1405 91 ((s1404 8811)).toInt.toNat))) L1406 := rq_R_s R1409 (f1427 8811 (by decide)) (f1427 8813 (by decide)) (f1427 8814 (by decide)) (f1427 8815 (by decide)) (f1427 8816 (by decide)) (f1427 8819 (by decide)) (f1427 8820 (by decide)) (f1427 8812 (by decide)) (bh_up_ne (by decide))
                      have F1429 : rq_F s1404 A1405 L1406 s1424 (bh_up A1405 115 ((s1404 8843)).toInt.toNat (mm_nar 0 (A1405 91 ((s1404 8811)).toInt.toNat))) L1406 := ⟨⟨(f1427 8802 (by decide)), (f1427 8804 (by decide)), (f1427 8810 (by decide)), (f1427 8818 (by decide)), (f1427 8819 (by decide))⟩, ⟨(bh_up_ne (by decide)), (bh_up_ne (by decide)), (bh_up_ne (by decide)), (bh_up_ne (by decide)), (bh_up_ne (by decide))⟩, rfl, rfl, (f1427 8865 (by decide)), (bh_up_ne (by decide)), fun c c1 c2 => (bh_up_ne (by omega))⟩
                      have F1430 := rq_F_t F1410 F1429
                      refine rr_37 hP1425 (by decide) R1428 (rq_T_F hT F1430) (fun _ => by omega) (fun h1431 s1432 A1433 L1434 hP1435 F1436 R1437 => ?_)
                      have F1438 := rq_F_t F1430 F1436
                      show bp_G E PO (NN + 1) ((26, 269, lv1347, [], 0, 0) :: gs, h1431, none)
                      refine bp_goD (pc' := 12) bu_26_269 rfl ?_
                      have q0 : σ.2.1 = 0 := by omega
                      have q3 := q2 q0
                      exact (ih (fun h' s' A' L' hP' F' R' => bp_mono (Nat.le_succ NN) (kk h' s' A' L' hP' F' R'))).1 _ _ _ _ _ _ _ _ hP1435 F1438 R1437 g1350 g1351 ho _ g1349 (by omega) ((py_x_p q3.2.2.2 q0 (by omega)).symm.trans hx)
                    · replace k1400 : ¬ ((r1398).toInt = 0) := k1400
                      refine bp_c (pc' := 230) (n := 1) bu_26_229 rfl rfl (fun _ _ _ => rfl) (by decide) (fun c1439 e1440 => ?_)
                      refine bp_go (pc' := 234) bu_26_230 rfl ?_
                      refine bn_cvF (pc' := 237) (st := []) (args := [.int c1439]) bu_26_234 rfl rfl rfl (by decide) hP rz_o88 (by decide) rfl (Nat.le_of_ble_eq_true rfl) (Nat.le_of_ble_eq_true rfl) ?_
                      refine rr_15 hP hR (rq_T_F hT hF) (fun h1441 s1442 A1443 L1444 hP1445 F1446 R1447 => ?_)
                      have F1448 := rq_F_t hF F1446
                      have e1449 := fun q : σ.2.1 = 0 => (R1447.2.1 q).2.2.2.2.2.2.2.2
                      have e1450 := (s1442 8812).toInt_lt
                      show bp_G E PO (NN + 1) ((26, 237, lv1347, [], 0, 0) :: gs, h1441, none)
                      refine bp_ld (pc' := 238) bu_26_237 rfl rfl (fun _ _ _ => rfl) g1350 rfl ?_
                      refine bn_gr (pc' := 241) (t := 115) bu_26_238 rfl rfl (fun _ _ _ => rfl) hP1445 rz_o88 rz_r88_42 ?_
                      refine bp_ld (pc' := 242) bu_26_241 rfl rfl (fun _ _ _ => rfl) g1350 rfl ?_
                      refine bn_gi (pc' := 245) (K := 8843) bu_26_242 rfl rfl (fun _ _ _ => rfl) hP1445 rz_o88 rz_i88_43 rfl rfl ?_
                      refine bp_ld (pc' := 246) bu_26_245 rfl rfl (fun _ _ _ => rfl) g1350 rfl ?_
                      refine bn_gr (pc' := 249) (t := 91) bu_26_246 rfl rfl (fun _ _ _ => rfl) hP1445 rz_o88 rz_r88_5 ?_
                      refine bp_ld (pc' := 250) bu_26_249 rfl rfl (fun _ _ _ => rfl) g1350 rfl ?_
                      refine bn_gi (pc' := 253) (K := 8811) bu_26_250 rfl rfl (fun _ _ _ => rfl) hP1445 rz_o88 rz_i88_11 rfl rfl ?_
                      refine bn_iaF (pc' := 254) bu_26_253 rfl rfl (fun _ _ _ => rfl) hP1445 rz_a91 (Or.inl rfl) (fun b1451 b1452 => ?_)
                      refine bn_iasF (pc' := 255) bu_26_254 rfl rfl (fun _ _ _ => rfl) hP1445 rz_a115 (Or.inl rfl) (fun b1455 b1456 h1453 hP1454 => ?_)
                      refine bp_ld (pc' := 256) bu_26_255 rfl rfl (fun _ _ _ => rfl) g1350 rfl ?_
                      refine bp_dup (pc' := 257) bu_26_256 rfl rfl ?_
                      refine bn_gi (pc' := 260) (K := 8843) bu_26_257 rfl rfl (fun _ _ _ => rfl) hP1454 rz_o88 rz_i88_43 rfl rfl ?_
                      refine bp_c (pc' := 261) (n := 1) bu_26_260 rfl rfl (fun _ _ _ => rfl) (by decide) (fun c1457 e1458 => ?_)
                      refine bp_add (pc' := 262) bu_26_261 rfl (by omega) (by omega) (fun v1459 e1460 => ?_)
                      refine bn_pf (pc' := 265) (K := 8843) bu_26_262 rfl rfl (fun _ _ _ => rfl) hP1454 rz_o88 rz_i88_43 rfl rfl (fun h1461 s1462 hP1463 e1464 f1465 => ?_)
                      refine bp_ld (pc' := 266) bu_26_265 rfl rfl (fun _ _ _ => rfl) g1350 rfl ?_
                      refine bn_cvF (pc' := 269) (st := []) (args := []) bu_26_266 rfl rfl rfl (by decide) hP1463 rz_o88 (by decide) rfl (Nat.le_of_ble_eq_true rfl) (Nat.le_of_ble_eq_true rfl) ?_
                      have R1466 : rq_R K P M σ ns on 0 s1462 (bh_up A1443 115 ((s1442 8843)).toInt.toNat (mm_nar 0 (A1443 91 ((s1442 8811)).toInt.toNat))) L1444 := rq_R_s R1447 (f1465 8811 (by decide)) (f1465 8813 (by decide)) (f1465 8814 (by decide)) (f1465 8815 (by decide)) (f1465 8816 (by decide)) (f1465 8819 (by decide)) (f1465 8820 (by decide)) (f1465 8812 (by decide)) (bh_up_ne (by decide))
                      have F1467 : rq_F s1442 A1443 L1444 s1462 (bh_up A1443 115 ((s1442 8843)).toInt.toNat (mm_nar 0 (A1443 91 ((s1442 8811)).toInt.toNat))) L1444 := ⟨⟨(f1465 8802 (by decide)), (f1465 8804 (by decide)), (f1465 8810 (by decide)), (f1465 8818 (by decide)), (f1465 8819 (by decide))⟩, ⟨(bh_up_ne (by decide)), (bh_up_ne (by decide)), (bh_up_ne (by decide)), (bh_up_ne (by decide)), (bh_up_ne (by decide))⟩, rfl, rfl, (f1465 8865 (by decide)), (bh_up_ne (by decide)), fun c c1 c2 => (bh_up_ne (by omega))⟩
                      have F1468 := rq_F_t F1448 F1467
                      refine rr_37 hP1463 (by decide) R1466 (rq_T_F hT F1468) (fun _ => by omega) (fun h1469 s1470 A1471 L1472 hP1473 F1474 R1475 => ?_)
                      have F1476 := rq_F_t F1468 F1474
                      show bp_G E PO (NN + 1) ((26, 269, lv1347, [], 0, 0) :: gs, h1469, none)
                      refine bp_goD (pc' := 12) bu_26_269 rfl ?_
                      have q0 : σ.2.1 = 0 := by omega
                      have q3 := q2 q0
                      exact (ih (fun h' s' A' L' hP' F' R' => bp_mono (Nat.le_succ NN) (kk h' s' A' L' hP' F' R'))).1 _ _ _ _ _ _ _ _ hP1473 F1476 R1475 g1350 g1351 ho _ g1349 (by omega) ((py_x_p q3.2.2.2 q0 (by omega)).symm.trans hx)
                · replace k1352 : ¬ ((c1345).toInt ≠ 0) := k1352
                  omega
              · replace k1344 : ¬ ((r1342).toInt ≠ 0) := k1344
                refine bp_ld (pc' := 173) bu_26_172 rfl rfl (fun _ _ _ => rfl) g0 rfl ?_
                refine bp_c (pc' := 175) (n := 15) bu_26_173 rfl rfl (fun _ _ _ => rfl) (by decide) (fun c1477 e1478 => ?_)
                refine bn_cvF (pc' := 178) (st := []) (args := [.int c1477]) bu_26_175 rfl rfl rfl (by decide) hP rz_o88 (by decide) rfl (Nat.le_of_ble_eq_true rfl) (Nat.le_of_ble_eq_true rfl) ?_
                refine rr_45 (k := c1477) hP hR (rq_T_F hT hF) (fun r1479 p1480 => ?_)
                show bp_G E PO (NN + 1) ((26, 178, lv, [.int r1479], 0, 0) :: gs, h, none)
                refine bp_i0 (pc' := 181) (pt := 185) bu_26_178 rfl rfl (fun k1481 => ?_) (fun k1481 => ?_)
                · replace k1481 : (r1479).toInt = 0 := k1481
                  refine bp_c (pc' := 186) (n := 0) bu_26_185 rfl rfl (fun _ _ _ => rfl) (by decide) (fun c1482 e1483 => ?_)
                  refine bp_st (pc' := 187) bu_26_186 rfl rfl (fun _ _ _ => rfl) rfl (by decide) (by decide) (fun lv1484 F1485 g1486 => ?_)
                  have g1487 := F1485 0 (.ref (E.1 + 88)) g0 (by decide) (Or.inl rfl)
                  have g1488 := F1485 1 (.int b) g1 (by decide) (Or.inl rfl)
                  refine bp_ld (pc' := 188) bu_26_187 rfl rfl (fun _ _ _ => rfl) g1486 rfl ?_
                  refine bp_i0 (pc' := 191) (pt := 210) bu_26_188 rfl rfl (fun k1489 => ?_) (fun k1489 => ?_)
                  · replace k1489 : (c1482).toInt ≠ 0 := k1489
                    omega
                  · replace k1489 : ¬ ((c1482).toInt ≠ 0) := k1489
                    refine bp_ld (pc' := 192) bu_26_191 rfl rfl (fun _ _ _ => rfl) g1487 rfl ?_
                    refine bn_gi (pc' := 195) (K := 8812) bu_26_192 rfl rfl (fun _ _ _ => rfl) hP rz_o88 rz_i88_12 rfl rfl ?_
                    refine bp_ld (pc' := 196) bu_26_195 rfl rfl (fun _ _ _ => rfl) g1488 rfl ?_
                    refine bp_ic (pc' := 199) (pt := 204) bu_26_196 rfl rfl (fun k1490 => ?_) (fun k1490 => ?_)
                    · replace k1490 : ((s 8812)).toInt ≤ (b).toInt := k1490
                      refine bp_ld (pc' := 205) bu_26_204 rfl rfl (fun _ _ _ => rfl) g1487 rfl ?_
                      refine bp_c (pc' := 206) (n := 0) bu_26_205 rfl rfl (fun _ _ _ => rfl) (by decide) (fun c1491 e1492 => ?_)
                      refine bn_cvF (pc' := 209) (st := []) (args := [.int c1491]) bu_26_206 rfl rfl rfl (by decide) hP rz_o88 (by decide) rfl (Nat.le_of_ble_eq_true rfl) (Nat.le_of_ble_eq_true rfl) ?_
                      refine rr_15 hP hR (rq_T_F hT hF) (fun h1493 s1494 A1495 L1496 hP1497 F1498 R1499 => ?_)
                      have F1500 := rq_F_t hF F1498
                      have e1501 := fun q : σ.2.1 = 0 => (R1499.2.1 q).2.2.2.2.2.2.2.2
                      have e1502 := (s1494 8812).toInt_lt
                      show bp_G E PO (NN + 1) ((26, 209, lv1484, [], 0, 0) :: gs, h1493, none)
                      refine bp_rv bu_26_209 ?_
                      by_cases q0 : σ.2.1 = 0
                      · have q3 := q2 q0
                        have eo : on = 0 := by omega
                        subst eo
                        have ee : py_x K false 0 σ = σ := (py_x_d q3.2.2.2 q0 (by omega) (by omega)).trans (if_neg (by omega))
                        exact kk _ _ _ _ hP1497 F1500 (by rw [← hx, ee]; exact R1499)
                      · have ee : py_x K false on σ = σ := py_x_f q0
                        exact kk _ _ _ _ hP1497 F1500 (by rw [← hx, ee]; exact rq_R_0 q0 R1499)
                    · replace k1490 : ¬ (((s 8812)).toInt ≤ (b).toInt) := k1490
                      refine bp_ld (pc' := 200) bu_26_199 rfl rfl (fun _ _ _ => rfl) g1487 rfl ?_
                      refine bp_c (pc' := 201) (n := 1) bu_26_200 rfl rfl (fun _ _ _ => rfl) (by decide) (fun c1503 e1504 => ?_)
                      refine bn_cvF (pc' := 204) (st := []) (args := [.int c1503]) bu_26_201 rfl rfl rfl (by decide) hP rz_o88 (by decide) rfl (Nat.le_of_ble_eq_true rfl) (Nat.le_of_ble_eq_true rfl) ?_
                      refine rr_27 (kn := 1) hP (by omega) (by decide) hR (rq_T_F hT hF) (fun h1505 s1506 A1507 L1508 hP1509 F1510 R1511 => ?_)
                      have F1512 := rq_F_t hF F1510
                      show bp_G E PO (NN + 1) ((26, 204, lv1484, [], 0, 0) :: gs, h1505, none)
                      refine bp_ld (pc' := 205) bu_26_204 rfl rfl (fun _ _ _ => rfl) g1487 rfl ?_
                      refine bp_c (pc' := 206) (n := 0) bu_26_205 rfl rfl (fun _ _ _ => rfl) (by decide) (fun c1513 e1514 => ?_)
                      refine bn_cvF (pc' := 209) (st := []) (args := [.int c1513]) bu_26_206 rfl rfl rfl (by decide) hP1509 rz_o88 (by decide) rfl (Nat.le_of_ble_eq_true rfl) (Nat.le_of_ble_eq_true rfl) ?_
                      refine rr_15 hP1509 R1511 (rq_T_F hT F1512) (fun h1515 s1516 A1517 L1518 hP1519 F1520 R1521 => ?_)
                      have F1522 := rq_F_t F1512 F1520
                      show bp_G E PO (NN + 1) ((26, 209, lv1484, [], 0, 0) :: gs, h1515, none)
                      refine bp_rv bu_26_209 ?_
                      by_cases q0 : σ.2.1 = 0
                      · have q3 := q2 q0
                        have ee : py_x K false on σ = py_fl 1 σ := (py_x_d q3.2.2.2 q0 (by omega) (by omega)).trans (if_pos (by omega))
                        exact kk _ _ _ _ hP1519 F1522 (by rw [← hx, ee]; exact rq_R_0 (py_fl_f (by decide)) R1521)
                      · have ee : py_x K false on σ = σ := py_x_f q0
                        have e9 : py_fl 1 σ = σ := if_neg q0
                        have R9 := R1521
                        rw [e9] at R9
                        exact kk _ _ _ _ hP1519 F1522 (by rw [← hx, ee]; exact rq_R_0 q0 R9)
                · replace k1481 : ¬ ((r1479).toInt = 0) := k1481
                  refine bp_c (pc' := 182) (n := 1) bu_26_181 rfl rfl (fun _ _ _ => rfl) (by decide) (fun c1523 e1524 => ?_)
                  refine bp_go (pc' := 186) bu_26_182 rfl ?_
                  refine bp_st (pc' := 187) bu_26_186 rfl rfl (fun _ _ _ => rfl) rfl (by decide) (by decide) (fun lv1525 F1526 g1527 => ?_)
                  have g1528 := F1526 0 (.ref (E.1 + 88)) g0 (by decide) (Or.inl rfl)
                  have g1529 := F1526 1 (.int b) g1 (by decide) (Or.inl rfl)
                  refine bp_ld (pc' := 188) bu_26_187 rfl rfl (fun _ _ _ => rfl) g1527 rfl ?_
                  refine bp_i0 (pc' := 191) (pt := 210) bu_26_188 rfl rfl (fun k1530 => ?_) (fun k1530 => ?_)
                  · replace k1530 : (c1523).toInt ≠ 0 := k1530
                    refine bp_ld (pc' := 211) bu_26_210 rfl rfl (fun _ _ _ => rfl) g1528 rfl ?_
                    refine bp_ld (pc' := 212) bu_26_211 rfl rfl (fun _ _ _ => rfl) g1528 rfl ?_
                    refine bp_c (pc' := 214) (n := 10) bu_26_212 rfl rfl (fun _ _ _ => rfl) (by decide) (fun c1531 e1532 => ?_)
                    refine bn_cvF (pc' := 217) (st := [.ref (E.1 + 88)]) (args := [.int c1531]) bu_26_214 rfl rfl rfl (by decide) hP rz_o88 (by decide) rfl (Nat.le_of_ble_eq_true rfl) (Nat.le_of_ble_eq_true rfl) ?_
                    refine rr_45 (k := c1531) hP hR (rq_T_F hT hF) (fun r1533 p1534 => ?_)
                    show bp_G E PO (NN + 1) ((26, 217, lv1525, [.int r1533, .ref (E.1 + 88)], 0, 0) :: gs, h, none)
                    refine bp_i0 (pc' := 220) (pt := 229) bu_26_217 rfl rfl (fun k1535 => ?_) (fun k1535 => ?_)
                    · replace k1535 : (r1533).toInt ≠ 0 := k1535
                      refine bp_c (pc' := 230) (n := 1) bu_26_229 rfl rfl (fun _ _ _ => rfl) (by decide) (fun c1536 e1537 => ?_)
                      refine bp_go (pc' := 234) bu_26_230 rfl ?_
                      refine bn_cvF (pc' := 237) (st := []) (args := [.int c1536]) bu_26_234 rfl rfl rfl (by decide) hP rz_o88 (by decide) rfl (Nat.le_of_ble_eq_true rfl) (Nat.le_of_ble_eq_true rfl) ?_
                      refine rr_15 hP hR (rq_T_F hT hF) (fun h1538 s1539 A1540 L1541 hP1542 F1543 R1544 => ?_)
                      have F1545 := rq_F_t hF F1543
                      have e1546 := fun q : σ.2.1 = 0 => (R1544.2.1 q).2.2.2.2.2.2.2.2
                      have e1547 := (s1539 8812).toInt_lt
                      show bp_G E PO (NN + 1) ((26, 237, lv1525, [], 0, 0) :: gs, h1538, none)
                      refine bp_ld (pc' := 238) bu_26_237 rfl rfl (fun _ _ _ => rfl) g1528 rfl ?_
                      refine bn_gr (pc' := 241) (t := 115) bu_26_238 rfl rfl (fun _ _ _ => rfl) hP1542 rz_o88 rz_r88_42 ?_
                      refine bp_ld (pc' := 242) bu_26_241 rfl rfl (fun _ _ _ => rfl) g1528 rfl ?_
                      refine bn_gi (pc' := 245) (K := 8843) bu_26_242 rfl rfl (fun _ _ _ => rfl) hP1542 rz_o88 rz_i88_43 rfl rfl ?_
                      refine bp_ld (pc' := 246) bu_26_245 rfl rfl (fun _ _ _ => rfl) g1528 rfl ?_
                      refine bn_gr (pc' := 249) (t := 91) bu_26_246 rfl rfl (fun _ _ _ => rfl) hP1542 rz_o88 rz_r88_5 ?_
                      refine bp_ld (pc' := 250) bu_26_249 rfl rfl (fun _ _ _ => rfl) g1528 rfl ?_
                      refine bn_gi (pc' := 253) (K := 8811) bu_26_250 rfl rfl (fun _ _ _ => rfl) hP1542 rz_o88 rz_i88_11 rfl rfl ?_
                      refine bn_iaF (pc' := 254) bu_26_253 rfl rfl (fun _ _ _ => rfl) hP1542 rz_a91 (Or.inl rfl) (fun b1548 b1549 => ?_)
                      refine bn_iasF (pc' := 255) bu_26_254 rfl rfl (fun _ _ _ => rfl) hP1542 rz_a115 (Or.inl rfl) (fun b1552 b1553 h1550 hP1551 => ?_)
                      refine bp_ld (pc' := 256) bu_26_255 rfl rfl (fun _ _ _ => rfl) g1528 rfl ?_
                      refine bp_dup (pc' := 257) bu_26_256 rfl rfl ?_
                      refine bn_gi (pc' := 260) (K := 8843) bu_26_257 rfl rfl (fun _ _ _ => rfl) hP1551 rz_o88 rz_i88_43 rfl rfl ?_
                      refine bp_c (pc' := 261) (n := 1) bu_26_260 rfl rfl (fun _ _ _ => rfl) (by decide) (fun c1554 e1555 => ?_)
                      refine bp_add (pc' := 262) bu_26_261 rfl (by omega) (by omega) (fun v1556 e1557 => ?_)
                      refine bn_pf (pc' := 265) (K := 8843) bu_26_262 rfl rfl (fun _ _ _ => rfl) hP1551 rz_o88 rz_i88_43 rfl rfl (fun h1558 s1559 hP1560 e1561 f1562 => ?_)
                      refine bp_ld (pc' := 266) bu_26_265 rfl rfl (fun _ _ _ => rfl) g1528 rfl ?_
                      refine bn_cvF (pc' := 269) (st := []) (args := []) bu_26_266 rfl rfl rfl (by decide) hP1560 rz_o88 (by decide) rfl (Nat.le_of_ble_eq_true rfl) (Nat.le_of_ble_eq_true rfl) ?_
                      have R1563 : rq_R K P M σ ns on 0 s1559 (bh_up A1540 115 ((s1539 8843)).toInt.toNat (mm_nar 0 (A1540 91 ((s1539 8811)).toInt.toNat))) L1541 := rq_R_s R1544 (f1562 8811 (by decide)) (f1562 8813 (by decide)) (f1562 8814 (by decide)) (f1562 8815 (by decide)) (f1562 8816 (by decide)) (f1562 8819 (by decide)) (f1562 8820 (by decide)) (f1562 8812 (by decide)) (bh_up_ne (by decide))
                      have F1564 : rq_F s1539 A1540 L1541 s1559 (bh_up A1540 115 ((s1539 8843)).toInt.toNat (mm_nar 0 (A1540 91 ((s1539 8811)).toInt.toNat))) L1541 := ⟨⟨(f1562 8802 (by decide)), (f1562 8804 (by decide)), (f1562 8810 (by decide)), (f1562 8818 (by decide)), (f1562 8819 (by decide))⟩, ⟨(bh_up_ne (by decide)), (bh_up_ne (by decide)), (bh_up_ne (by decide)), (bh_up_ne (by decide)), (bh_up_ne (by decide))⟩, rfl, rfl, (f1562 8865 (by decide)), (bh_up_ne (by decide)), fun c c1 c2 => (bh_up_ne (by omega))⟩
                      have F1565 := rq_F_t F1545 F1564
                      refine rr_37 hP1560 (by decide) R1563 (rq_T_F hT F1565) (fun _ => by omega) (fun h1566 s1567 A1568 L1569 hP1570 F1571 R1572 => ?_)
                      have F1573 := rq_F_t F1565 F1571
                      show bp_G E PO (NN + 1) ((26, 269, lv1525, [], 0, 0) :: gs, h1566, none)
                      refine bp_goD (pc' := 12) bu_26_269 rfl ?_
                      have q0 : σ.2.1 = 0 := by omega
                      have q3 := q2 q0
                      exact (ih (fun h' s' A' L' hP' F' R' => bp_mono (Nat.le_succ NN) (kk h' s' A' L' hP' F' R'))).1 _ _ _ _ _ _ _ _ hP1570 F1573 R1572 g1528 g1529 ho _ g1527 (by omega) ((py_x_p q3.2.2.2 q0 (by omega)).symm.trans hx)
                    · replace k1535 : ¬ ((r1533).toInt ≠ 0) := k1535
                      refine bp_ld (pc' := 221) bu_26_220 rfl rfl (fun _ _ _ => rfl) g1528 rfl ?_
                      refine bp_c (pc' := 223) (n := 15) bu_26_221 rfl rfl (fun _ _ _ => rfl) (by decide) (fun c1574 e1575 => ?_)
                      refine bn_cvF (pc' := 226) (st := [.ref (E.1 + 88)]) (args := [.int c1574]) bu_26_223 rfl rfl rfl (by decide) hP rz_o88 (by decide) rfl (Nat.le_of_ble_eq_true rfl) (Nat.le_of_ble_eq_true rfl) ?_
                      refine rr_45 (k := c1574) hP hR (rq_T_F hT hF) (fun r1576 p1577 => ?_)
                      show bp_G E PO (NN + 1) ((26, 226, lv1525, [.int r1576, .ref (E.1 + 88)], 0, 0) :: gs, h, none)
                      refine bp_i0 (pc' := 229) (pt := 233) bu_26_226 rfl rfl (fun k1578 => ?_) (fun k1578 => ?_)
                      · replace k1578 : (r1576).toInt = 0 := k1578
                        refine bp_c (pc' := 234) (n := 0) bu_26_233 rfl rfl (fun _ _ _ => rfl) (by decide) (fun c1579 e1580 => ?_)
                        refine bn_cvF (pc' := 237) (st := []) (args := [.int c1579]) bu_26_234 rfl rfl rfl (by decide) hP rz_o88 (by decide) rfl (Nat.le_of_ble_eq_true rfl) (Nat.le_of_ble_eq_true rfl) ?_
                        refine rr_15 hP hR (rq_T_F hT hF) (fun h1581 s1582 A1583 L1584 hP1585 F1586 R1587 => ?_)
                        have F1588 := rq_F_t hF F1586
                        have e1589 := fun q : σ.2.1 = 0 => (R1587.2.1 q).2.2.2.2.2.2.2.2
                        have e1590 := (s1582 8812).toInt_lt
                        show bp_G E PO (NN + 1) ((26, 237, lv1525, [], 0, 0) :: gs, h1581, none)
                        refine bp_ld (pc' := 238) bu_26_237 rfl rfl (fun _ _ _ => rfl) g1528 rfl ?_
                        refine bn_gr (pc' := 241) (t := 115) bu_26_238 rfl rfl (fun _ _ _ => rfl) hP1585 rz_o88 rz_r88_42 ?_
                        refine bp_ld (pc' := 242) bu_26_241 rfl rfl (fun _ _ _ => rfl) g1528 rfl ?_
                        refine bn_gi (pc' := 245) (K := 8843) bu_26_242 rfl rfl (fun _ _ _ => rfl) hP1585 rz_o88 rz_i88_43 rfl rfl ?_
                        refine bp_ld (pc' := 246) bu_26_245 rfl rfl (fun _ _ _ => rfl) g1528 rfl ?_
                        refine bn_gr (pc' := 249) (t := 91) bu_26_246 rfl rfl (fun _ _ _ => rfl) hP1585 rz_o88 rz_r88_5 ?_
                        refine bp_ld (pc' := 250) bu_26_249 rfl rfl (fun _ _ _ => rfl) g1528 rfl ?_
                        refine bn_gi (pc' := 253) (K := 8811) bu_26_250 rfl rfl (fun _ _ _ => rfl) hP1585 rz_o88 rz_i88_11 rfl rfl ?_
                        refine bn_iaF (pc' := 254) bu_26_253 rfl rfl (fun _ _ _ => rfl) hP1585 rz_a91 (Or.inl rfl) (fun b1591 b1592 => ?_)
                        refine bn_iasF (pc' := 255) bu_26_254 rfl rfl (fun _ _ _ => rfl) hP1585 rz_a115 (Or.inl rfl) (fun b1595 b1596 h1593 hP1594 => ?_)
                        refine bp_ld (pc' := 256) bu_26_255 rfl rfl (fun _ _ _ => rfl) g1528 rfl ?_
                        refine bp_dup (pc' := 257) bu_26_256 rfl rfl ?_
                        refine bn_gi (pc' := 260) (K := 8843) bu_26_257 rfl rfl (fun _ _ _ => rfl) hP1594 rz_o88 rz_i88_43 rfl rfl ?_
                        refine bp_c (pc' := 261) (n := 1) bu_26_260 rfl rfl (fun _ _ _ => rfl) (by decide) (fun c1597 e1598 => ?_)
                        refine bp_add (pc' := 262) bu_26_261 rfl (by omega) (by omega) (fun v1599 e1600 => ?_)
                        refine bn_pf (pc' := 265) (K := 8843) bu_26_262 rfl rfl (fun _ _ _ => rfl) hP1594 rz_o88 rz_i88_43 rfl rfl (fun h1601 s1602 hP1603 e1604 f1605 => ?_)
                        refine bp_ld (pc' := 266) bu_26_265 rfl rfl (fun _ _ _ => rfl) g1528 rfl ?_
                        refine bn_cvF (pc' := 269) (st := []) (args := []) bu_26_266 rfl rfl rfl (by decide) hP1603 rz_o88 (by decide) rfl (Nat.le_of_ble_eq_true rfl) (Nat.le_of_ble_eq_true rfl) ?_
                        have R1606 : rq_R K P M σ ns on 0 s1602 (bh_up A1583 115 ((s1582 8843)).toInt.toNat (mm_nar 0 (A1583 91 ((s1582 8811)).toInt.toNat))) L1584 := rq_R_s R1587 (f1605 8811 (by decide)) (f1605 8813 (by decide)) (f1605 8814 (by decide)) (f1605 8815 (by decide)) (f1605 8816 (by decide)) (f1605 8819 (by decide)) (f1605 8820 (by decide)) (f1605 8812 (by decide)) (bh_up_ne (by decide))
                        have F1607 : rq_F s1582 A1583 L1584 s1602 (bh_up A1583 115 ((s1582 8843)).toInt.toNat (mm_nar 0 (A1583 91 ((s1582 8811)).toInt.toNat))) L1584 := ⟨⟨(f1605 8802 (by decide)), (f1605 8804 (by decide)), (f1605 8810 (by decide)), (f1605 8818 (by decide)), (f1605 8819 (by decide))⟩, ⟨(bh_up_ne (by decide)), (bh_up_ne (by decide)), (bh_up_ne (by decide)), (bh_up_ne (by decide)), (bh_up_ne (by decide))⟩, rfl, rfl, (f1605 8865 (by decide)), (bh_up_ne (by decide)), fun c c1 c2 => (bh_up_ne (by omega))⟩
                        have F1608 := rq_F_t F1588 F1607
                        refine rr_37 hP1603 (by decide) R1606 (rq_T_F hT F1608) (fun _ => by omega) (fun h1609 s1610 A1611 L1612 hP1613 F1614 R1615 => ?_)
                        have F1616 := rq_F_t F1608 F1614
                        show bp_G E PO (NN + 1) ((26, 269, lv1525, [], 0, 0) :: gs, h1609, none)
                        refine bp_goD (pc' := 12) bu_26_269 rfl ?_
                        have q0 : σ.2.1 = 0 := by omega
                        have q3 := q2 q0
                        exact (ih (fun h' s' A' L' hP' F' R' => bp_mono (Nat.le_succ NN) (kk h' s' A' L' hP' F' R'))).1 _ _ _ _ _ _ _ _ hP1613 F1616 R1615 g1528 g1529 ho _ g1527 (by omega) ((py_x_p q3.2.2.2 q0 (by omega)).symm.trans hx)
                      · replace k1578 : ¬ ((r1576).toInt = 0) := k1578
                        refine bp_c (pc' := 230) (n := 1) bu_26_229 rfl rfl (fun _ _ _ => rfl) (by decide) (fun c1617 e1618 => ?_)
                        refine bp_go (pc' := 234) bu_26_230 rfl ?_
                        refine bn_cvF (pc' := 237) (st := []) (args := [.int c1617]) bu_26_234 rfl rfl rfl (by decide) hP rz_o88 (by decide) rfl (Nat.le_of_ble_eq_true rfl) (Nat.le_of_ble_eq_true rfl) ?_
                        refine rr_15 hP hR (rq_T_F hT hF) (fun h1619 s1620 A1621 L1622 hP1623 F1624 R1625 => ?_)
                        have F1626 := rq_F_t hF F1624
                        have e1627 := fun q : σ.2.1 = 0 => (R1625.2.1 q).2.2.2.2.2.2.2.2
                        have e1628 := (s1620 8812).toInt_lt
                        show bp_G E PO (NN + 1) ((26, 237, lv1525, [], 0, 0) :: gs, h1619, none)
                        refine bp_ld (pc' := 238) bu_26_237 rfl rfl (fun _ _ _ => rfl) g1528 rfl ?_
                        refine bn_gr (pc' := 241) (t := 115) bu_26_238 rfl rfl (fun _ _ _ => rfl) hP1623 rz_o88 rz_r88_42 ?_
                        refine bp_ld (pc' := 242) bu_26_241 rfl rfl (fun _ _ _ => rfl) g1528 rfl ?_
                        refine bn_gi (pc' := 245) (K := 8843) bu_26_242 rfl rfl (fun _ _ _ => rfl) hP1623 rz_o88 rz_i88_43 rfl rfl ?_
                        refine bp_ld (pc' := 246) bu_26_245 rfl rfl (fun _ _ _ => rfl) g1528 rfl ?_
                        refine bn_gr (pc' := 249) (t := 91) bu_26_246 rfl rfl (fun _ _ _ => rfl) hP1623 rz_o88 rz_r88_5 ?_
                        refine bp_ld (pc' := 250) bu_26_249 rfl rfl (fun _ _ _ => rfl) g1528 rfl ?_
                        refine bn_gi (pc' := 253) (K := 8811) bu_26_250 rfl rfl (fun _ _ _ => rfl) hP1623 rz_o88 rz_i88_11 rfl rfl ?_
                        refine bn_iaF (pc' := 254) bu_26_253 rfl rfl (fun _ _ _ => rfl) hP1623 rz_a91 (Or.inl rfl) (fun b1629 b1630 => ?_)
                        refine bn_iasF (pc' := 255) bu_26_254 rfl rfl (fun _ _ _ => rfl) hP1623 rz_a115 (Or.inl rfl) (fun b1633 b1634 h1631 hP1632 => ?_)
                        refine bp_ld (pc' := 256) bu_26_255 rfl rfl (fun _ _ _ => rfl) g1528 rfl ?_
                        refine bp_dup (pc' := 257) bu_26_256 rfl rfl ?_
                        refine bn_gi (pc' := 260) (K := 8843) bu_26_257 rfl rfl (fun _ _ _ => rfl) hP1632 rz_o88 rz_i88_43 rfl rfl ?_
                        refine bp_c (pc' := 261) (n := 1) bu_26_260 rfl rfl (fun _ _ _ => rfl) (by decide) (fun c1635 e1636 => ?_)
                        refine bp_add (pc' := 262) bu_26_261 rfl (by omega) (by omega) (fun v1637 e1638 => ?_)
                        refine bn_pf (pc' := 265) (K := 8843) bu_26_262 rfl rfl (fun _ _ _ => rfl) hP1632 rz_o88 rz_i88_43 rfl rfl (fun h1639 s1640 hP1641 e1642 f1643 => ?_)
                        refine bp_ld (pc' := 266) bu_26_265 rfl rfl (fun _ _ _ => rfl) g1528 rfl ?_
                        refine bn_cvF (pc' := 269) (st := []) (args := []) bu_26_266 rfl rfl rfl (by decide) hP1641 rz_o88 (by decide) rfl (Nat.le_of_ble_eq_true rfl) (Nat.le_of_ble_eq_true rfl) ?_
                        have R1644 : rq_R K P M σ ns on 0 s1640 (bh_up A1621 115 ((s1620 8843)).toInt.toNat (mm_nar 0 (A1621 91 ((s1620 8811)).toInt.toNat))) L1622 := rq_R_s R1625 (f1643 8811 (by decide)) (f1643 8813 (by decide)) (f1643 8814 (by decide)) (f1643 8815 (by decide)) (f1643 8816 (by decide)) (f1643 8819 (by decide)) (f1643 8820 (by decide)) (f1643 8812 (by decide)) (bh_up_ne (by decide))
                        have F1645 : rq_F s1620 A1621 L1622 s1640 (bh_up A1621 115 ((s1620 8843)).toInt.toNat (mm_nar 0 (A1621 91 ((s1620 8811)).toInt.toNat))) L1622 := ⟨⟨(f1643 8802 (by decide)), (f1643 8804 (by decide)), (f1643 8810 (by decide)), (f1643 8818 (by decide)), (f1643 8819 (by decide))⟩, ⟨(bh_up_ne (by decide)), (bh_up_ne (by decide)), (bh_up_ne (by decide)), (bh_up_ne (by decide)), (bh_up_ne (by decide))⟩, rfl, rfl, (f1643 8865 (by decide)), (bh_up_ne (by decide)), fun c c1 c2 => (bh_up_ne (by omega))⟩
                        have F1646 := rq_F_t F1626 F1645
                        refine rr_37 hP1641 (by decide) R1644 (rq_T_F hT F1646) (fun _ => by omega) (fun h1647 s1648 A1649 L1650 hP1651 F1652 R1653 => ?_)
                        have F1654 := rq_F_t F1646 F1652
                        show bp_G E PO (NN + 1) ((26, 269, lv1525, [], 0, 0) :: gs, h1647, none)
                        refine bp_goD (pc' := 12) bu_26_269 rfl ?_
                        have q0 : σ.2.1 = 0 := by omega
                        have q3 := q2 q0
                        exact (ih (fun h' s' A' L' hP' F' R' => bp_mono (Nat.le_succ NN) (kk h' s' A' L' hP' F' R'))).1 _ _ _ _ _ _ _ _ hP1651 F1654 R1653 g1528 g1529 ho _ g1527 (by omega) ((py_x_p q3.2.2.2 q0 (by omega)).symm.trans hx)
                  · replace k1530 : ¬ ((c1523).toInt ≠ 0) := k1530
                    omega
        · replace k1065 : ¬ (((s 8812)).toInt ≤ (b).toInt) := k1065
          refine bp_ld (pc' := 114) bu_26_113 rfl rfl (fun _ _ _ => rfl) g0 rfl ?_
          refine bp_c (pc' := 115) (n := 0) bu_26_114 rfl rfl (fun _ _ _ => rfl) (by decide) (fun c1655 e1656 => ?_)
          refine bn_cvF (pc' := 118) (st := []) (args := [.int c1655]) bu_26_115 rfl rfl rfl (by decide) hP rz_o88 (by decide) rfl (Nat.le_of_ble_eq_true rfl) (Nat.le_of_ble_eq_true rfl) ?_
          refine rr_15 hP hR (rq_T_F hT hF) (fun h1657 s1658 A1659 L1660 hP1661 F1662 R1663 => ?_)
          have F1664 := rq_F_t hF F1662
          have e1665 := fun q : σ.2.1 = 0 => (R1663.2.1 q).2.2.2.2.2.2.2.2
          have e1666 := (s1658 8812).toInt_lt
          show bp_G E PO (NN + 1) ((26, 118, lv, [], 0, 0) :: gs, h1657, none)
          refine bp_ld (pc' := 119) bu_26_118 rfl rfl (fun _ _ _ => rfl) g0 rfl ?_
          refine bp_dup (pc' := 120) bu_26_119 rfl rfl ?_
          refine bn_gi (pc' := 123) (K := 8843) bu_26_120 rfl rfl (fun _ _ _ => rfl) hP1661 rz_o88 rz_i88_43 rfl rfl ?_
          refine bp_c (pc' := 124) (n := 1) bu_26_123 rfl rfl (fun _ _ _ => rfl) (by decide) (fun c1667 e1668 => ?_)
          refine bp_subA (pc' := 125) bu_26_124 rfl (fun v1669 => ?_)
          refine bn_pf (pc' := 128) (K := 8843) bu_26_125 rfl rfl (fun _ _ _ => rfl) hP1661 rz_o88 rz_i88_43 rfl rfl (fun h1670 s1671 hP1672 e1673 f1674 => ?_)
          refine bp_ld (pc' := 129) bu_26_128 rfl rfl (fun _ _ _ => rfl) g0 rfl ?_
          refine bp_dup (pc' := 130) bu_26_129 rfl rfl ?_
          refine bn_gi (pc' := 133) (K := 8812) bu_26_130 rfl rfl (fun _ _ _ => rfl) hP1672 rz_o88 rz_i88_12 rfl (f1674 8812 (by decide)) ?_
          refine bp_c (pc' := 134) (n := 1) bu_26_133 rfl rfl (fun _ _ _ => rfl) (by decide) (fun c1675 e1676 => ?_)
          refine bp_sub (pc' := 135) bu_26_134 rfl (by omega) (by omega) (fun v1677 e1678 => ?_)
          refine bn_pf (pc' := 138) (K := 8812) bu_26_135 rfl rfl (fun _ _ _ => rfl) hP1672 rz_o88 rz_i88_12 rfl rfl (fun h1679 s1680 hP1681 e1682 f1683 => ?_)
          refine bp_ld (pc' := 139) bu_26_138 rfl rfl (fun _ _ _ => rfl) g0 rfl ?_
          refine bn_cvF (pc' := 142) (st := []) (args := []) bu_26_139 rfl rfl rfl (by decide) hP1681 rz_o88 (by decide) rfl (Nat.le_of_ble_eq_true rfl) (Nat.le_of_ble_eq_true rfl) ?_
          have z8812 := congrArg Int32.toInt e1682
          have R1684 : rq_R K P M σ ns (on - 1) 0 s1680 A1659 L1660 := rq_R_o R1663 ((f1683 8811 (by decide)).trans (f1674 8811 (by decide))) ((f1683 8813 (by decide)).trans (f1674 8813 (by decide))) ((f1683 8814 (by decide)).trans (f1674 8814 (by decide))) ((f1683 8815 (by decide)).trans (f1674 8815 (by decide))) ((f1683 8816 (by decide)).trans (f1674 8816 (by decide))) ((f1683 8819 (by decide)).trans (f1674 8819 (by decide))) ((f1683 8820 (by decide)).trans (f1674 8820 (by decide))) (fun u => by omega) rfl
          have F1685 : rq_F s1658 A1659 L1660 s1680 A1659 L1660 := ⟨⟨((f1683 8802 (by decide)).trans (f1674 8802 (by decide))), ((f1683 8804 (by decide)).trans (f1674 8804 (by decide))), ((f1683 8810 (by decide)).trans (f1674 8810 (by decide))), ((f1683 8818 (by decide)).trans (f1674 8818 (by decide))), ((f1683 8819 (by decide)).trans (f1674 8819 (by decide)))⟩, ⟨rfl, rfl, rfl, rfl, rfl⟩, rfl, rfl, ((f1683 8865 (by decide)).trans (f1674 8865 (by decide))), rfl, fun c c1 c2 => rfl⟩
          have F1686 := rq_F_t F1664 F1685
          refine rr_37 hP1681 (by decide) R1684 (rq_T_F hT F1686) (fun _ => by omega) (fun h1687 s1688 A1689 L1690 hP1691 F1692 R1693 => ?_)
          have F1694 := rq_F_t F1686 F1692
          show bp_G E PO (NN + 1) ((26, 142, lv, [], 0, 0) :: gs, h1687, none)
          refine bp_goD (pc' := 96) bu_26_142 rfl ?_
          exact (ih (fun h' s' A' L' hP' F' R' => bp_mono (Nat.le_succ NN) (kk h' s' A' L' hP' F' R'))).2.2 _ _ _ _ _ _ _ _ hP1691 F1694 R1693 g0 g1 (by omega) ((py_x_c q3.2.2.2 q0 (by omega) (by omega)).symm.trans hx)
    have h23 : ∀ (h : mm_H) (s : Nat → Int32) (A : Nat → Nat → Int32) (L : Nat → Nat → Int64) (lv : mm_V) (o : Option Value) (σ : py_S) (on : Nat), bm_P rz_T E h0 h s A L → rq_F s0 A0 L0 s A L → rq_R K P M σ ns on 0 s A L → mm_get lv 0 = some (.ref (E.1 + 88)) → mm_get lv 1 = some (.int b) → on ≤ 6 → py_x K true on σ = τ → bp_G E PO (NN + 1) ((26, 23, lv, [], 0, 0) :: gs, h, o) := by
      intro h s A L lv o σ on hP hF hR g0 g1 ho hx
      have q1 := hR.1
      have q2 : σ.2.1 = 0 → (s 8811).toInt = (σ.1 : Int) ∧ (A 91 (s 8811).toInt.toNat).toInt = K σ.1 ∧ (s 8812).toInt = (on : Int) ∧ σ.1 ≤ 400 := fun hf => by
        have a1 := hR.2.1 hf
        have ei : (s 8811).toInt.toNat = σ.1 := by omega
        have a2 := (rq_T_F hT hF).2.2.1 σ.1 a1.2.1
        rw [ei]
        exact ⟨a1.1, a2.1, a1.2.2.2.2.2.2.2.2, rq_le hT hR hf⟩
      refine bp_ld (pc' := 24) bu_26_23 rfl rfl (fun _ _ _ => rfl) g0 rfl ?_
      refine bp_c (pc' := 26) (n := 6) bu_26_24 rfl rfl (fun _ _ _ => rfl) (by decide) (fun c1695 e1696 => ?_)
      refine bn_cvF (pc' := 29) (st := []) (args := [.int c1695]) bu_26_26 rfl rfl rfl (by decide) hP rz_o88 (by decide) rfl (Nat.le_of_ble_eq_true rfl) (Nat.le_of_ble_eq_true rfl) ?_
      refine rr_45 (k := c1695) hP hR (rq_T_F hT hF) (fun r1697 p1698 => ?_)
      show bp_G E PO (NN + 1) ((26, 29, lv, [.int r1697], 0, 0) :: gs, h, none)
      refine bp_i0 (pc' := 32) (pt := 84) bu_26_29 rfl rfl (fun k1699 => ?_) (fun k1699 => ?_)
      · replace k1699 : (r1697).toInt = 0 := k1699
        refine bp_ld (pc' := 85) bu_26_84 rfl rfl (fun _ _ _ => rfl) g0 rfl ?_
        refine bn_cvF (pc' := 88) (st := []) (args := []) bu_26_85 rfl rfl rfl (by decide) hP rz_o88 (by decide) rfl (Nat.le_of_ble_eq_true rfl) (Nat.le_of_ble_eq_true rfl) ?_
        refine rr_105 hP (by decide) hR (rq_T_F hT hF) (fun h1700 s1701 A1702 L1703 hP1704 F1705 R1706 => ?_)
        have F1707 := rq_F_t hF F1705
        have u1708 := R1706.1
        show bp_G E PO (NN + 1) ((26, 88, lv, [], 0, 0) :: gs, h1700, none)
        refine bp_ld (pc' := 89) bu_26_88 rfl rfl (fun _ _ _ => rfl) g0 rfl ?_
        refine bn_gi (pc' := 92) (K := 8813) bu_26_89 rfl rfl (fun _ _ _ => rfl) hP1704 rz_o88 rz_i88_13 rfl rfl ?_
        refine bp_i0 (pc' := 95) (pt := 96) bu_26_92 rfl rfl (fun k1709 => ?_) (fun k1709 => ?_)
        · replace k1709 : ((s1701 8813)).toInt ≤ 0 := k1709
          exact h96 _ _ _ _ _ _ _ _ hP1704 F1707 R1706 g0 g1 ho ((py_un_x (fun q => (q2 q).2.2.2) (by omega)).symm.trans hx)
        · replace k1709 : ¬ (((s1701 8813)).toInt ≤ 0) := k1709
          refine bp_rv bu_26_95 ?_
          have ee := py_un_x (o := on) (fun q => (q2 q).2.2.2) (show ¬ (σ.2.1 = 0 ∧ K σ.1 = 6) by omega)
          have hf : (py_un K σ).2.1 ≠ 0 := by omega
          rw [py_x_f hf] at ee
          exact kk _ _ _ _ hP1704 F1707 (by rw [← hx, ee]; exact rq_R_0 hf R1706)
      · replace k1699 : ¬ ((r1697).toInt = 0) := k1699
        have q0 : σ.2.1 = 0 := by omega
        have q3 := q2 q0
        refine bp_ld (pc' := 33) bu_26_32 rfl rfl (fun _ _ _ => rfl) g0 rfl ?_
        refine bn_gi (pc' := 36) (K := 8812) bu_26_33 rfl rfl (fun _ _ _ => rfl) hP rz_o88 rz_i88_12 rfl rfl ?_
        refine bp_c (pc' := 38) (n := 6) bu_26_36 rfl rfl (fun _ _ _ => rfl) (by decide) (fun c1710 e1711 => ?_)
        refine bp_ic (pc' := 41) (pt := 46) bu_26_38 rfl rfl (fun k1712 => ?_) (fun k1712 => ?_)
        · replace k1712 : ((s 8812)).toInt ≠ (c1710).toInt := k1712
          refine bp_ld (pc' := 47) bu_26_46 rfl rfl (fun _ _ _ => rfl) g0 rfl ?_
          refine bp_dup (pc' := 48) bu_26_47 rfl rfl ?_
          refine bn_gi (pc' := 51) (K := 8812) bu_26_48 rfl rfl (fun _ _ _ => rfl) hP rz_o88 rz_i88_12 rfl rfl ?_
          refine bp_c (pc' := 52) (n := 1) bu_26_51 rfl rfl (fun _ _ _ => rfl) (by decide) (fun c1713 e1714 => ?_)
          refine bn_addx (pc' := 53) bu_26_52 rfl (fun v1715 e1716 => ?_)
          refine bn_pf (pc' := 56) (K := 8812) bu_26_53 rfl rfl (fun _ _ _ => rfl) hP rz_o88 rz_i88_12 rfl rfl (fun h1717 s1718 hP1719 e1720 f1721 => ?_)
          refine bp_ld (pc' := 57) bu_26_56 rfl rfl (fun _ _ _ => rfl) g0 rfl ?_
          refine bn_cvF (pc' := 60) (st := []) (args := []) bu_26_57 rfl rfl rfl (by decide) hP1719 rz_o88 (by decide) rfl (Nat.le_of_ble_eq_true rfl) (Nat.le_of_ble_eq_true rfl) ?_
          have z8812 := congrArg Int32.toInt e1720
          have R1722 : rq_R K P M σ ns (on + 1) 0 s1718 A L := rq_R_o hR (f1721 8811 (by decide)) (f1721 8813 (by decide)) (f1721 8814 (by decide)) (f1721 8815 (by decide)) (f1721 8816 (by decide)) (f1721 8819 (by decide)) (f1721 8820 (by decide)) (fun u => by omega) rfl
          have F1723 : rq_F s A L s1718 A L := ⟨⟨(f1721 8802 (by decide)), (f1721 8804 (by decide)), (f1721 8810 (by decide)), (f1721 8818 (by decide)), (f1721 8819 (by decide))⟩, ⟨rfl, rfl, rfl, rfl, rfl⟩, rfl, rfl, (f1721 8865 (by decide)), rfl, fun c c1 c2 => rfl⟩
          have F1724 := rq_F_t hF F1723
          refine rr_37 hP1719 (by decide) R1722 (rq_T_F hT F1724) (fun _ => by omega) (fun h1725 s1726 A1727 L1728 hP1729 F1730 R1731 => ?_)
          have F1732 := rq_F_t F1724 F1730
          show bp_G E PO (NN + 1) ((26, 60, lv, [], 0, 0) :: gs, h1725, none)
          refine bp_ld (pc' := 61) bu_26_60 rfl rfl (fun _ _ _ => rfl) g0 rfl ?_
          refine bn_gr (pc' := 64) (t := 115) bu_26_61 rfl rfl (fun _ _ _ => rfl) hP1729 rz_o88 rz_r88_42 ?_
          refine bp_ld (pc' := 65) bu_26_64 rfl rfl (fun _ _ _ => rfl) g0 rfl ?_
          refine bn_gi (pc' := 68) (K := 8843) bu_26_65 rfl rfl (fun _ _ _ => rfl) hP1729 rz_o88 rz_i88_43 rfl rfl ?_
          refine bp_c (pc' := 70) (n := 6) bu_26_68 rfl rfl (fun _ _ _ => rfl) (by decide) (fun c1733 e1734 => ?_)
          refine bn_iasF (pc' := 71) bu_26_70 rfl rfl (fun _ _ _ => rfl) hP1729 rz_a115 (Or.inl rfl) (fun b1737 b1738 h1735 hP1736 => ?_)
          refine bp_ld (pc' := 72) bu_26_71 rfl rfl (fun _ _ _ => rfl) g0 rfl ?_
          refine bp_dup (pc' := 73) bu_26_72 rfl rfl ?_
          refine bn_gi (pc' := 76) (K := 8843) bu_26_73 rfl rfl (fun _ _ _ => rfl) hP1736 rz_o88 rz_i88_43 rfl rfl ?_
          refine bp_c (pc' := 77) (n := 1) bu_26_76 rfl rfl (fun _ _ _ => rfl) (by decide) (fun c1739 e1740 => ?_)
          refine bp_addA (pc' := 78) bu_26_77 rfl (fun v1741 => ?_)
          refine bn_pf (pc' := 81) (K := 8843) bu_26_78 rfl rfl (fun _ _ _ => rfl) hP1736 rz_o88 rz_i88_43 rfl rfl (fun h1742 s1743 hP1744 e1745 f1746 => ?_)
          refine bp_goD (pc' := 23) bu_26_81 rfl ?_
          have R1747 : rq_R K P M (py_go σ) ns (on + 1) 0 s1743 (bh_up A1727 115 ((s1726 8843)).toInt.toNat (mm_nar 0 c1733)) L1728 := rq_R_s R1731 (f1746 8811 (by decide)) (f1746 8813 (by decide)) (f1746 8814 (by decide)) (f1746 8815 (by decide)) (f1746 8816 (by decide)) (f1746 8819 (by decide)) (f1746 8820 (by decide)) (f1746 8812 (by decide)) (bh_up_ne (by decide))
          have F1748 : rq_F s1726 A1727 L1728 s1743 (bh_up A1727 115 ((s1726 8843)).toInt.toNat (mm_nar 0 c1733)) L1728 := ⟨⟨(f1746 8802 (by decide)), (f1746 8804 (by decide)), (f1746 8810 (by decide)), (f1746 8818 (by decide)), (f1746 8819 (by decide))⟩, ⟨(bh_up_ne (by decide)), (bh_up_ne (by decide)), (bh_up_ne (by decide)), (bh_up_ne (by decide)), (bh_up_ne (by decide))⟩, rfl, rfl, (f1746 8865 (by decide)), (bh_up_ne (by decide)), fun c c1 c2 => (bh_up_ne (by omega))⟩
          have F1749 := rq_F_t F1732 F1748
          exact (ih (fun h' s' A' L' hP' F' R' => bp_mono (Nat.le_succ NN) (kk h' s' A' L' hP' F' R'))).2.1 _ _ _ _ _ _ _ _ hP1744 F1749 R1747 g0 g1 (by omega) (((py_x_o q3.2.2.2 q0 (by omega)).trans (if_neg (by omega))).symm.trans hx)
        · replace k1712 : ¬ (((s 8812)).toInt ≠ (c1710).toInt) := k1712
          refine bp_ld (pc' := 42) bu_26_41 rfl rfl (fun _ _ _ => rfl) g0 rfl ?_
          refine bp_c (pc' := 43) (n := 2) bu_26_42 rfl rfl (fun _ _ _ => rfl) (by decide) (fun c1750 e1751 => ?_)
          refine bn_cvF (pc' := 46) (st := []) (args := [.int c1750]) bu_26_43 rfl rfl rfl (by decide) hP rz_o88 (by decide) rfl (Nat.le_of_ble_eq_true rfl) (Nat.le_of_ble_eq_true rfl) ?_
          refine rr_27 (kn := 2) hP (by omega) (by decide) hR (rq_T_F hT hF) (fun h1752 s1753 A1754 L1755 hP1756 F1757 R1758 => ?_)
          have F1759 := rq_F_t hF F1757
          show bp_G E PO (NN + 1) ((26, 46, lv, [], 0, 0) :: gs, h1752, none)
          refine bp_ld (pc' := 47) bu_26_46 rfl rfl (fun _ _ _ => rfl) g0 rfl ?_
          refine bp_dup (pc' := 48) bu_26_47 rfl rfl ?_
          refine bn_gi (pc' := 51) (K := 8812) bu_26_48 rfl rfl (fun _ _ _ => rfl) hP1756 rz_o88 rz_i88_12 rfl rfl ?_
          refine bp_c (pc' := 52) (n := 1) bu_26_51 rfl rfl (fun _ _ _ => rfl) (by decide) (fun c1760 e1761 => ?_)
          refine bn_addx (pc' := 53) bu_26_52 rfl (fun v1762 e1763 => ?_)
          refine bn_pf (pc' := 56) (K := 8812) bu_26_53 rfl rfl (fun _ _ _ => rfl) hP1756 rz_o88 rz_i88_12 rfl rfl (fun h1764 s1765 hP1766 e1767 f1768 => ?_)
          refine bp_ld (pc' := 57) bu_26_56 rfl rfl (fun _ _ _ => rfl) g0 rfl ?_
          refine bn_cvF (pc' := 60) (st := []) (args := []) bu_26_57 rfl rfl rfl (by decide) hP1766 rz_o88 (by decide) rfl (Nat.le_of_ble_eq_true rfl) (Nat.le_of_ble_eq_true rfl) ?_
          have z8812 := congrArg Int32.toInt e1767
          have R1769 : rq_R K P M (py_fl 2 σ) ns 0 0 s1765 A1754 L1755 := rq_R_o R1758 (f1768 8811 (by decide)) (f1768 8813 (by decide)) (f1768 8814 (by decide)) (f1768 8815 (by decide)) (f1768 8816 (by decide)) (f1768 8819 (by decide)) (f1768 8820 (by decide)) (fun u => by exact absurd u (py_fl_f (by decide))) rfl
          have F1770 : rq_F s1753 A1754 L1755 s1765 A1754 L1755 := ⟨⟨(f1768 8802 (by decide)), (f1768 8804 (by decide)), (f1768 8810 (by decide)), (f1768 8818 (by decide)), (f1768 8819 (by decide))⟩, ⟨rfl, rfl, rfl, rfl, rfl⟩, rfl, rfl, (f1768 8865 (by decide)), rfl, fun c c1 c2 => rfl⟩
          have F1771 := rq_F_t F1759 F1770
          refine rr_37 hP1766 (by decide) R1769 (rq_T_F hT F1771) (fun u => absurd u (py_fl_f (by decide))) (fun h1772 s1773 A1774 L1775 hP1776 F1777 R1778 => ?_)
          have F1779 := rq_F_t F1771 F1777
          show bp_G E PO (NN + 1) ((26, 60, lv, [], 0, 0) :: gs, h1772, none)
          refine bp_ld (pc' := 61) bu_26_60 rfl rfl (fun _ _ _ => rfl) g0 rfl ?_
          refine bn_gr (pc' := 64) (t := 115) bu_26_61 rfl rfl (fun _ _ _ => rfl) hP1776 rz_o88 rz_r88_42 ?_
          refine bp_ld (pc' := 65) bu_26_64 rfl rfl (fun _ _ _ => rfl) g0 rfl ?_
          refine bn_gi (pc' := 68) (K := 8843) bu_26_65 rfl rfl (fun _ _ _ => rfl) hP1776 rz_o88 rz_i88_43 rfl rfl ?_
          refine bp_c (pc' := 70) (n := 6) bu_26_68 rfl rfl (fun _ _ _ => rfl) (by decide) (fun c1780 e1781 => ?_)
          refine bn_iasF (pc' := 71) bu_26_70 rfl rfl (fun _ _ _ => rfl) hP1776 rz_a115 (Or.inl rfl) (fun b1784 b1785 h1782 hP1783 => ?_)
          refine bp_ld (pc' := 72) bu_26_71 rfl rfl (fun _ _ _ => rfl) g0 rfl ?_
          refine bp_dup (pc' := 73) bu_26_72 rfl rfl ?_
          refine bn_gi (pc' := 76) (K := 8843) bu_26_73 rfl rfl (fun _ _ _ => rfl) hP1783 rz_o88 rz_i88_43 rfl rfl ?_
          refine bp_c (pc' := 77) (n := 1) bu_26_76 rfl rfl (fun _ _ _ => rfl) (by decide) (fun c1786 e1787 => ?_)
          refine bp_addA (pc' := 78) bu_26_77 rfl (fun v1788 => ?_)
          refine bn_pf (pc' := 81) (K := 8843) bu_26_78 rfl rfl (fun _ _ _ => rfl) hP1783 rz_o88 rz_i88_43 rfl rfl (fun h1789 s1790 hP1791 e1792 f1793 => ?_)
          refine bp_goD (pc' := 23) bu_26_81 rfl ?_
          have R1794 : rq_R K P M (py_go (py_fl 2 σ)) ns 0 0 s1790 (bh_up A1774 115 ((s1773 8843)).toInt.toNat (mm_nar 0 c1780)) L1775 := rq_R_s R1778 (f1793 8811 (by decide)) (f1793 8813 (by decide)) (f1793 8814 (by decide)) (f1793 8815 (by decide)) (f1793 8816 (by decide)) (f1793 8819 (by decide)) (f1793 8820 (by decide)) (f1793 8812 (by decide)) (bh_up_ne (by decide))
          have F1795 : rq_F s1773 A1774 L1775 s1790 (bh_up A1774 115 ((s1773 8843)).toInt.toNat (mm_nar 0 c1780)) L1775 := ⟨⟨(f1793 8802 (by decide)), (f1793 8804 (by decide)), (f1793 8810 (by decide)), (f1793 8818 (by decide)), (f1793 8819 (by decide))⟩, ⟨(bh_up_ne (by decide)), (bh_up_ne (by decide)), (bh_up_ne (by decide)), (bh_up_ne (by decide)), (bh_up_ne (by decide))⟩, rfl, rfl, (f1793 8865 (by decide)), (bh_up_ne (by decide)), fun c c1 c2 => (bh_up_ne (by omega))⟩
          have F1796 := rq_F_t F1779 F1795
          exact (ih (fun h' s' A' L' hP' F' R' => bp_mono (Nat.le_succ NN) (kk h' s' A' L' hP' F' R'))).2.1 _ _ _ _ _ _ _ _ hP1791 F1796 R1794 g0 g1 (by omega) (by rw [py_go_f (py_fl_f (by decide)), py_x_f (py_fl_f (by decide))]; exact ((py_x_o q3.2.2.2 q0 (by omega)).trans (if_pos (by omega))).symm.trans hx)
    have h12 : ∀ (h : mm_H) (s : Nat → Int32) (A : Nat → Nat → Int32) (L : Nat → Nat → Int64) (lv : mm_V) (o : Option Value) (σ : py_S) (on : Nat), bm_P rz_T E h0 h s A L → rq_F s0 A0 L0 s A L → rq_R K P M σ ns on 0 s A L → mm_get lv 0 = some (.ref (E.1 + 88)) → mm_get lv 1 = some (.int b) → on ≤ 6 → (∀ m : Int32, mm_get lv 2 = some (.int m) → m.toInt = 1 → py_x K true on σ = τ → bp_G E PO (NN + 1) ((26, 12, lv, [], 0, 0) :: gs, h, o)) := by
      intro h s A L lv o σ on hP hF hR g0 g1 ho m g2 hm hx
      have q1 := hR.1
      refine bp_ld (pc' := 13) bu_26_12 rfl rfl (fun _ _ _ => rfl) g2 rfl ?_
      refine bp_i0 (pc' := 16) (pt := 272) bu_26_13 rfl rfl (fun k1797 => ?_) (fun k1797 => ?_)
      · replace k1797 : (m).toInt = 0 := k1797
        omega
      · replace k1797 : ¬ ((m).toInt = 0) := k1797
        refine bp_ld (pc' := 17) bu_26_16 rfl rfl (fun _ _ _ => rfl) g0 rfl ?_
        refine bn_gi (pc' := 20) (K := 8813) bu_26_17 rfl rfl (fun _ _ _ => rfl) hP rz_o88 rz_i88_13 rfl rfl ?_
        refine bp_i0 (pc' := 23) (pt := 272) bu_26_20 rfl rfl (fun k1798 => ?_) (fun k1798 => ?_)
        · replace k1798 : ((s 8813)).toInt ≠ 0 := k1798
          refine bp_rv bu_26_272 ?_
          have q0 : σ.2.1 ≠ 0 := by omega
          exact kk _ _ _ _ hP hF (by rw [← hx, py_x_f q0]; exact rq_R_0 q0 hR)
        · replace k1798 : ¬ (((s 8813)).toInt ≠ 0) := k1798
          exact h23 _ _ _ _ _ _ _ _ hP hF hR g0 g1 ho hx
    exact ⟨h12, h23, h96⟩
theorem rr_26 (hP : bm_P rz_T E h0 h s A L) (hR : rq_R K P M σ ns 0 0 s A L) (hT : rq_T K V P M A) (kk : ∀ (h' : mm_H) (s' : Nat → Int32) (A' : Nat → Nat → Int32) (L' : Nat → Nat → Int64), bm_P rz_T E h0 h' s' A' L' → rq_F s A L s' A' L' → rq_R K P M (py_x K true 0 σ) ns 0 0 s' A' L' → bp_G E PO NN (mm_back (none) gs h')) : bp_G E PO NN ((26, 0, [(0, .ref (E.1 + 88))], [], 0, 0) :: gs, h, none) := by
  by_cases q0 : σ.2.1 = 0
  · have hb0 : (s 8812).toInt = 0 := (hR.2.1 q0).2.2.2.2.2.2.2.2
    refine bp_ld (pc' := 1) bu_26_0 rfl rfl (fun _ _ _ => rfl) rfl rfl ?_
    refine bp_c (pc' := 2) (n := 0) bu_26_1 rfl rfl (fun _ _ _ => rfl) (by decide) (fun c1799 e1800 => ?_)
    refine bn_pf (pc' := 5) (K := 8843) bu_26_2 rfl rfl (fun _ _ _ => rfl) hP rz_o88 rz_i88_43 rfl rfl (fun h1801 s1802 hP1803 e1804 f1805 => ?_)
    refine bp_ld (pc' := 6) bu_26_5 rfl rfl (fun _ _ _ => rfl) rfl rfl ?_
    refine bn_gi (pc' := 9) (K := 8812) bu_26_6 rfl rfl (fun _ _ _ => rfl) hP1803 rz_o88 rz_i88_12 rfl (f1805 8812 (by decide)) ?_
    refine bp_st (pc' := 10) bu_26_9 rfl rfl (fun _ _ _ => rfl) rfl (by decide) (by decide) (fun lv1806 F1807 g1808 => ?_)
    have g1809 := F1807 0 (.ref (E.1 + 88)) rfl (by decide) (Or.inl rfl)
    refine bp_c (pc' := 11) (n := 1) bu_26_10 rfl rfl (fun _ _ _ => rfl) (by decide) (fun c1810 e1811 => ?_)
    refine bp_st (pc' := 12) bu_26_11 rfl rfl (fun _ _ _ => rfl) rfl (by decide) (by decide) (fun lv1812 F1813 g1814 => ?_)
    have g1815 := F1813 0 (.ref (E.1 + 88)) g1809 (by decide) (Or.inl rfl)
    have g1816 := F1813 1 (.int (s 8812)) g1808 (by decide) (Or.inl rfl)
    have z8812 := congrArg Int32.toInt (f1805 8812 (by decide))
    have R1817 : rq_R K P M σ ns 0 0 s1802 A L := rq_R_s hR (f1805 8811 (by decide)) (f1805 8813 (by decide)) (f1805 8814 (by decide)) (f1805 8815 (by decide)) (f1805 8816 (by decide)) (f1805 8819 (by decide)) (f1805 8820 (by decide)) (f1805 8812 (by decide)) rfl
    have F1818 : rq_F s A L s1802 A L := ⟨⟨(f1805 8802 (by decide)), (f1805 8804 (by decide)), (f1805 8810 (by decide)), (f1805 8818 (by decide)), (f1805 8819 (by decide))⟩, ⟨rfl, rfl, rfl, rfl, rfl⟩, rfl, rfl, (f1805 8865 (by decide)), rfl, fun c c1 c2 => rfl⟩
    exact (rr_26l hb0 hT NN kk).1 _ _ _ _ _ _ _ _ hP1803 F1818 R1817 g1815 g1816 (by decide) _ g1814 (by omega) rfl
  · have q1 := hR.1
    refine bp_ld (pc' := 1) bu_26_0 rfl rfl (fun _ _ _ => rfl) rfl rfl ?_
    refine bp_c (pc' := 2) (n := 0) bu_26_1 rfl rfl (fun _ _ _ => rfl) (by decide) (fun c1819 e1820 => ?_)
    refine bn_pf (pc' := 5) (K := 8843) bu_26_2 rfl rfl (fun _ _ _ => rfl) hP rz_o88 rz_i88_43 rfl rfl (fun h1821 s1822 hP1823 e1824 f1825 => ?_)
    refine bp_ld (pc' := 6) bu_26_5 rfl rfl (fun _ _ _ => rfl) rfl rfl ?_
    refine bn_gi (pc' := 9) (K := 8812) bu_26_6 rfl rfl (fun _ _ _ => rfl) hP1823 rz_o88 rz_i88_12 rfl (f1825 8812 (by decide)) ?_
    refine bp_st (pc' := 10) bu_26_9 rfl rfl (fun _ _ _ => rfl) rfl (by decide) (by decide) (fun lv1826 F1827 g1828 => ?_)
    have g1829 := F1827 0 (.ref (E.1 + 88)) rfl (by decide) (Or.inl rfl)
    refine bp_c (pc' := 11) (n := 1) bu_26_10 rfl rfl (fun _ _ _ => rfl) (by decide) (fun c1830 e1831 => ?_)
    refine bp_st (pc' := 12) bu_26_11 rfl rfl (fun _ _ _ => rfl) rfl (by decide) (by decide) (fun lv1832 F1833 g1834 => ?_)
    have g1835 := F1833 0 (.ref (E.1 + 88)) g1829 (by decide) (Or.inl rfl)
    have g1836 := F1833 1 (.int (s 8812)) g1828 (by decide) (Or.inl rfl)
    refine bp_ld (pc' := 13) bu_26_12 rfl rfl (fun _ _ _ => rfl) g1834 rfl ?_
    refine bp_i0 (pc' := 16) (pt := 272) bu_26_13 rfl rfl (fun k1837 => ?_) (fun k1837 => ?_)
    · replace k1837 : (c1830).toInt = 0 := k1837
      omega
    · replace k1837 : ¬ ((c1830).toInt = 0) := k1837
      refine bp_ld (pc' := 17) bu_26_16 rfl rfl (fun _ _ _ => rfl) g1835 rfl ?_
      refine bn_gi (pc' := 20) (K := 8813) bu_26_17 rfl rfl (fun _ _ _ => rfl) hP1823 rz_o88 rz_i88_13 rfl (f1825 8813 (by decide)) ?_
      refine bp_i0 (pc' := 23) (pt := 272) bu_26_20 rfl rfl (fun k1838 => ?_) (fun k1838 => ?_)
      · replace k1838 : ((s 8813)).toInt ≠ 0 := k1838
        refine bp_rv bu_26_272 ?_
        have R1839 : rq_R K P M σ ns 0 0 s1822 A L := rq_R_s hR (f1825 8811 (by decide)) (f1825 8813 (by decide)) (f1825 8814 (by decide)) (f1825 8815 (by decide)) (f1825 8816 (by decide)) (f1825 8819 (by decide)) (f1825 8820 (by decide)) (f1825 8812 (by decide)) rfl
        have F1840 : rq_F s A L s1822 A L := ⟨⟨(f1825 8802 (by decide)), (f1825 8804 (by decide)), (f1825 8810 (by decide)), (f1825 8818 (by decide)), (f1825 8819 (by decide))⟩, ⟨rfl, rfl, rfl, rfl, rfl⟩, rfl, rfl, (f1825 8865 (by decide)), rfl, fun c c1 c2 => rfl⟩
        have ee : py_x K true 0 σ = σ := py_x_f q0
        exact kk _ _ _ _ hP1823 F1840 (by rw [ee]; exact rq_R_0 q0 R1839)
      · replace k1838 : ¬ (((s 8813)).toInt ≠ 0) := k1838
        exfalso
        omega
end RQB
