/-! BY HAND: what the reference's reader keeps to: codes that bring a pile from nothing to a height, waiting signs, laws -/
def rd_pf (cd ci : Nat → Int32) (c0 : Nat) : Nat → Nat → Prop
  | 0, d => d = 0
  | n + 1, d => ((cd (c0 + n)).toInt = 0 ∧ 1 ≤ d ∧ d ≤ 400 ∧ rd_pf cd ci c0 n (d - 1)) ∨ ((cd (c0 + n)).toInt = 1 ∧ 0 ≤ (ci (c0 + n)).toInt ∧ (ci (c0 + n)).toInt ≤ 8 ∧ 1 ≤ d ∧ d ≤ 400 ∧ rd_pf cd ci c0 n (d - 1)) ∨ (2 ≤ (cd (c0 + n)).toInt ∧ (cd (c0 + n)).toInt ≤ 5 ∧ 1 ≤ d ∧ rd_pf cd ci c0 n (d + 1))
theorem rd_pf_congr {cd ci cd' ci' : Nat → Int32} {c0 : Nat} : ∀ (n d : Nat), (∀ j, c0 ≤ j → j < c0 + n → cd' j = cd j ∧ ci' j = ci j) → rd_pf cd ci c0 n d → rd_pf cd' ci' c0 n d
  | 0, _, _, h => h
  | n + 1, d, hj, h => by
    have hj2 : ∀ j, c0 ≤ j → j < c0 + n → cd' j = cd j ∧ ci' j = ci j := fun j h1 h2 => hj j h1 (by omega)
    obtain ⟨e1, e2⟩ := hj (c0 + n) (by omega) (by omega)
    rcases h with ⟨h1, h2, h3, h4⟩ | ⟨h1, h2, h3, h4, h5, h6⟩ | ⟨h1, h2, h3, h4⟩
    · exact Or.inl ⟨by rw [e1]; exact h1, h2, h3, rd_pf_congr n _ hj2 h4⟩
    · exact Or.inr (Or.inl ⟨by rw [e1]; exact h1, by rw [e2]; exact h2, by rw [e2]; exact h3, h4, h5, rd_pf_congr n _ hj2 h6⟩)
    · exact Or.inr (Or.inr ⟨by rw [e1]; exact h1, by rw [e1]; exact h2, h3, rd_pf_congr n _ hj2 h4⟩)
/-- one code more -/
theorem rd_pf_snoc {cd ci cd' ci' : Nat → Int32} {c0 i d d' : Nat} (hi : c0 ≤ i) (h : rd_pf cd ci c0 (i - c0) d) (hj : ∀ j, j < i → cd' j = cd j ∧ ci' j = ci j) (hx : ((cd' i).toInt = 0 ∧ d' = d + 1 ∧ d' ≤ 400) ∨ ((cd' i).toInt = 1 ∧ 0 ≤ (ci' i).toInt ∧ (ci' i).toInt ≤ 8 ∧ d' = d + 1 ∧ d' ≤ 400) ∨ (2 ≤ (cd' i).toInt ∧ (cd' i).toInt ≤ 5 ∧ 1 ≤ d' ∧ d = d' + 1)) : rd_pf cd' ci' c0 (i + 1 - c0) d' := by
  have e : i + 1 - c0 = (i - c0) + 1 := by omega
  have e2 : c0 + (i - c0) = i := by omega
  rw [e]
  have h2 := rd_pf_congr (cd' := cd') (ci' := ci') (i - c0) d (fun j h1 h3 => hj j (by omega)) h
  rcases hx with ⟨h3, h4, h5⟩ | ⟨h3, h4, h5, h6, h7⟩ | ⟨h3, h4, h5, h6⟩
  · refine Or.inl ⟨by rw [e2]; exact h3, by omega, h5, ?_⟩
    have e3 : d' - 1 = d := by omega
    rw [e3]
    exact h2
  · refine Or.inr (Or.inl ⟨by rw [e2]; exact h3, by rw [e2]; exact h4, by rw [e2]; exact h5, by omega, h7, ?_⟩)
    have e3 : d' - 1 = d := by omega
    rw [e3]
    exact h2
  · refine Or.inr (Or.inr ⟨by rw [e2]; exact h3, by rw [e2]; exact h4, h5, ?_⟩)
    rw [← h6]
    exact h2
/-- what waits: signs in parentheses that are not closed (o of them); of what stands behind the last of these: 0 nothing, 1 a weak sign, 2 a strong one, 3 both; p signs in all -/
def rd_wt (w : Nat → Int32) : Nat → Nat → Nat → Nat → Prop
  | 0, o, g, p => o = 0 ∧ g = 0 ∧ p = 0
  | n + 1, o, g, p => ((w n).toInt = 6 ∧ g = 0 ∧ 1 ≤ o ∧ ∃ g' : Nat, rd_wt w n (o - 1) g' p) ∨ (((w n).toInt = 8 ∨ (w n).toInt = 9) ∧ g = 1 ∧ 1 ≤ p ∧ rd_wt w n o 0 (p - 1)) ∨ (((w n).toInt = 10 ∨ (w n).toInt = 15) ∧ 2 ≤ g ∧ g ≤ 3 ∧ 1 ≤ p ∧ rd_wt w n o (g - 2) (p - 1))
theorem rd_wt_congr {w w' : Nat → Int32} : ∀ (n o g p : Nat), (∀ j, j < n → w' j = w j) → rd_wt w n o g p → rd_wt w' n o g p
  | 0, _, _, _, _, h => h
  | n + 1, o, g, p, hj, h => by
    have hj2 : ∀ j, j < n → w' j = w j := fun j h1 => hj j (by omega)
    have e := hj n (by omega)
    rcases h with ⟨h1, h2, h3, g', h4⟩ | ⟨h1, h2, h3, h4⟩ | ⟨h1, h2, h3, h4, h5⟩
    · exact Or.inl ⟨by rw [e]; exact h1, h2, h3, g', rd_wt_congr n _ _ _ hj2 h4⟩
    · exact Or.inr (Or.inl ⟨by rw [e]; exact h1, h2, h3, rd_wt_congr n _ _ _ hj2 h4⟩)
    · exact Or.inr (Or.inr ⟨by rw [e]; exact h1, h2, h3, h4, rd_wt_congr n _ _ _ hj2 h5⟩)
theorem rd_wt_len {w : Nat → Int32} : ∀ (n o g p : Nat), rd_wt w n o g p → n ≤ 3 * o + (g + 1) / 2 ∧ g ≤ 3 ∧ p ≤ n
  | 0, o, g, p, h => by
    obtain ⟨h1, h2, h3⟩ := h
    omega
  | n + 1, o, g, p, h => by
    rcases h with ⟨h1, h2, h3, g', h4⟩ | ⟨h1, h2, h3, h4⟩ | ⟨h1, h2, h3, h4, h5⟩
    · have := rd_wt_len n _ _ _ h4
      omega
    · have := rd_wt_len n _ _ _ h4
      omega
    · have := rd_wt_len n _ _ _ h5
      omega
theorem rd_wt_z {w : Nat → Int32} {o g p : Nat} (h : rd_wt w 0 o g p) : o = 0 ∧ g = 0 ∧ p = 0 := h
theorem rd_wt_6 {w : Nat → Int32} {n o g p : Nat} (h : rd_wt w n o g p) (hn : 0 < n) (h6 : (w (n - 1)).toInt = 6) : g = 0 := by
  obtain ⟨m, rfl⟩ : ∃ m, n = m + 1 := ⟨n - 1, by omega⟩
  rw [Nat.add_sub_cancel] at h6
  rcases h with ⟨h1, h2, h3, g', h4⟩ | ⟨h1, h2, h3, h4⟩ | ⟨h1, h2, h3, h4, h5⟩ <;> omega
theorem rd_wt_89 {w : Nat → Int32} {n o g p : Nat} (h : rd_wt w n o g p) (hn : 0 < n) (h6 : (w (n - 1)).toInt = 8 ∨ (w (n - 1)).toInt = 9) : g = 1 := by
  obtain ⟨m, rfl⟩ : ∃ m, n = m + 1 := ⟨n - 1, by omega⟩
  rw [Nat.add_sub_cancel] at h6
  rcases h with ⟨h1, h2, h3, g', h4⟩ | ⟨h1, h2, h3, h4⟩ | ⟨h1, h2, h3, h4, h5⟩ <;> omega
theorem rd_wt_op {w : Nat → Int32} {n o g p : Nat} (h : rd_wt w n o g p) (hn : 0 < n) (h6 : (w (n - 1)).toInt ≠ 6) : 1 ≤ p ∧ ∃ g', rd_wt w (n - 1) o g' (p - 1) := by
  obtain ⟨m, rfl⟩ : ∃ m, n = m + 1 := ⟨n - 1, by omega⟩
  rw [Nat.add_sub_cancel] at h6 ⊢
  rcases h with ⟨h1, h2, h3, g', h4⟩ | ⟨h1, h2, h3, h4⟩ | ⟨h1, h2, h3, h4, h5⟩
  · exact absurd h1 h6
  · exact ⟨h3, _, h4⟩
  · exact ⟨h4, _, h5⟩
/-- behind what comes out in parentheses: the parenthesis -/
theorem rd_wt_o {w : Nat → Int32} {n o p : Nat} (h : rd_wt w n o 0 p) (ho : 1 ≤ o) : 0 < n ∧ ∃ g', rd_wt w (n - 1) (o - 1) g' p := by
  cases n with
  | zero =>
    obtain ⟨h1, -, -⟩ := h
    omega
  | succ n =>
    rcases h with ⟨h1, h2, h3, g', h4⟩ | ⟨h1, h2, h3, h4⟩ | ⟨h1, h2, h3, h4, h5⟩
    · exact ⟨Nat.succ_pos _, g', h4⟩
    · omega
    · omega
theorem rd_wt_00 {w : Nat → Int32} {n p : Nat} (h : rd_wt w n 0 0 p) : p = 0 := by
  cases n with
  | zero => exact h.2.2
  | succ n =>
    rcases h with ⟨h1, h2, h3, g', h4⟩ | ⟨h1, h2, h3, h4⟩ | ⟨h1, h2, h3, h4, h5⟩ <;> omega
/-- one more waits -/
theorem rd_wt_push {w w' : Nat → Int32} {n o g p o' g' p' : Nat} (h : rd_wt w n o g p) (hj : ∀ j, j < n → w' j = w j) (hx : ((w' n).toInt = 6 ∧ o' = o + 1 ∧ g' = 0 ∧ p' = p) ∨ (((w' n).toInt = 8 ∨ (w' n).toInt = 9) ∧ o' = o ∧ g = 0 ∧ g' = 1 ∧ p' = p + 1) ∨ (((w' n).toInt = 10 ∨ (w' n).toInt = 15) ∧ o' = o ∧ g ≤ 1 ∧ g' = g + 2 ∧ p' = p + 1)) : rd_wt w' (n + 1) o' g' p' := by
  have h2 := rd_wt_congr (w' := w') n o g p hj h
  rcases hx with ⟨h3, rfl, rfl, rfl⟩ | ⟨h3, rfl, rfl, rfl, rfl⟩ | ⟨h3, rfl, h4, rfl, rfl⟩
  · exact Or.inl ⟨h3, rfl, by omega, g, h2⟩
  · exact Or.inr (Or.inl ⟨h3, rfl, by omega, h2⟩)
  · exact Or.inr (Or.inr ⟨h3, by omega, by omega, by omega, h2⟩)
theorem rd_o2 {A : Nat → Nat → Int32} {i : Nat} {x y : Int32} : ∀ k j, ¬ ((k = 113 ∨ k = 114) ∧ j = i) → bh_up (bh_up A 113 i x) 114 i y k j = A k j := by
  intro k j h
  rw [bh_up_o (by omega), bh_up_o (by omega)]
theorem rd_o113 {A : Nat → Nat → Int32} {i : Nat} {x y : Int32} : bh_up (bh_up A 113 i x) 114 i y 113 i = x := by
  rw [bh_up_ne (by decide), bh_up_i]
theorem rd_o114 {A : Nat → Nat → Int32} {i : Nat} {x y : Int32} : bh_up (bh_up A 113 i x) 114 i y 114 i = y := bh_up_i
/-- a stretch of codes that makes one number -/
def rd_W (A : Nat → Nat → Int32) (lo hi : Nat) (u v : Int32) : Prop := (lo : Int) ≤ u.toInt ∧ u.toInt ≤ v.toInt ∧ v.toInt ≤ (hi : Int) ∧ rd_pf (A 113) (A 114) u.toInt.toNat (v.toInt - u.toInt).toNat 1
theorem rd_W_congr {A A' : Nat → Nat → Int32} {lo hi lo' hi' : Nat} {u v : Int32} (h1 : lo' ≤ lo) (h2 : hi ≤ hi') (hj : ∀ j, lo ≤ j → j < hi → A' 113 j = A 113 j ∧ A' 114 j = A 114 j) (h : rd_W A lo hi u v) : rd_W A' lo' hi' u v := by
  obtain ⟨a1, a2, a3, a4⟩ := h
  exact ⟨by omega, a2, by omega, rd_pf_congr _ _ (fun j g1 g2 => hj j (by omega) (by omega)) a4⟩
/-- a branch of a law -/
def rd_B (A : Nat → Nat → Int32) (lo hi : Nat) (b : Nat) : Prop := ((A 108 b).toInt = 0 ∨ (rd_W A lo hi (A 109 b) (A 110 b) ∧ rd_W A lo hi (A 110 b) (A 111 b))) ∧ rd_W A lo hi (A 111 b) (A 112 b)
theorem rd_B_congr {A A' : Nat → Nat → Int32} {lo hi lo' hi' b : Nat} (h1 : lo' ≤ lo) (h2 : hi ≤ hi') (hj : ∀ j, lo ≤ j → j < hi → A' 113 j = A 113 j ∧ A' 114 j = A 114 j) (hb : ∀ k, 108 ≤ k → k ≤ 112 → A' k b = A k b) (h : rd_B A lo hi b) : rd_B A' lo' hi' b := by
  obtain ⟨a1, a2⟩ := h
  refine ⟨?_, ?_⟩
  · rw [hb 108 (by omega) (by omega), hb 109 (by omega) (by omega), hb 110 (by omega) (by omega), hb 111 (by omega) (by omega)]
    rcases a1 with a1 | ⟨a1, a3⟩
    · exact Or.inl a1
    · exact Or.inr ⟨rd_W_congr h1 h2 hj a1, rd_W_congr h1 h2 hj a3⟩
  · rw [hb 111 (by omega) (by omega), hb 112 (by omega) (by omega)]
    exact rd_W_congr h1 h2 hj a2
/-- a law: its branches lie from bl to bh, their codes from lo to hi -/
def rd_L (A : Nat → Nat → Int32) (bl bh lo hi k : Nat) : Prop := 0 ≤ (A 106 k).toInt ∧ ∀ b : Nat, (A 106 k).toInt ≤ (b : Int) → (b : Int) < (A 107 k).toInt → bl ≤ b ∧ b < bh ∧ rd_B A lo hi b
theorem rd_L_congr {A A' : Nat → Nat → Int32} {bl bh lo hi bl' bh' lo' hi' k : Nat} (h1 : lo' ≤ lo) (h2 : hi ≤ hi') (h3 : bl' ≤ bl) (h4 : bh ≤ bh') (hj : ∀ j, lo ≤ j → j < hi → A' 113 j = A 113 j ∧ A' 114 j = A 114 j) (hb : ∀ b, bl ≤ b → b < bh → ∀ k, 108 ≤ k → k ≤ 112 → A' k b = A k b) (hk : A' 106 k = A 106 k ∧ A' 107 k = A 107 k) (h : rd_L A bl bh lo hi k) : rd_L A' bl' bh' lo' hi' k := by
  refine ⟨by rw [hk.1]; exact h.1, fun b g1 g2 => ?_⟩
  rw [hk.1] at g1
  rw [hk.2] at g2
  obtain ⟨a1, a2, a3⟩ := h.2 b g1 g2
  exact ⟨by omega, by omega, rd_B_congr h1 h2 hj (hb b a1 a2) a3⟩
/-- the laws of a side s, within branches and codes -/
def rd_S (A : Nat → Nat → Int32) (σ bh hi : Nat) : Prop := ∀ k, k < 7 → rd_L A (130 * σ) bh (420 * σ) hi (7 * σ + k)
theorem rd_S_congr {A A' : Nat → Nat → Int32} {σ bh hi bh' hi' : Nat} (h2 : hi ≤ hi') (h4 : bh ≤ bh') (hj : ∀ j, 420 * σ ≤ j → j < hi → A' 113 j = A 113 j ∧ A' 114 j = A 114 j) (hb : ∀ b, 130 * σ ≤ b → b < bh → ∀ k, 108 ≤ k → k ≤ 112 → A' k b = A k b) (hk : ∀ k, 7 * σ ≤ k → k < 7 * σ + 7 → A' 106 k = A 106 k ∧ A' 107 k = A 107 k) (h : rd_S A σ bh hi) : rd_S A' σ bh' hi' :=
  fun k hk7 => rd_L_congr (Nat.le_refl _) h2 (Nat.le_refl _) h4 hj hb (hk _ (by omega) (by omega)) (h k hk7)
/-- all laws of both sides -/
def rd_J (A : Nat → Nat → Int32) : Prop := rd_S A 0 130 420 ∧ rd_S A 1 260 840
