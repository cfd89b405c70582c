/-! PURE: the tokens of a text (X its bytes, n how many) -/
def px_c (X : Nat → Int32) (n j : Nat) : Int := if j < n then (X j).toInt % 256 else 0
def px_bl (c : Int) : Bool := decide (c = 9 ∨ c = 10 ∨ c = 13 ∨ c = 32)
def px_lt (c : Int) : Bool := decide (97 ≤ c ∧ c ≤ 122)
def px_dg (c : Int) : Bool := decide (48 ≤ c ∧ c ≤ 57)
theorem px_bl_iff {c : Int} : px_bl c = true ↔ (c = 9 ∨ c = 10 ∨ c = 13 ∨ c = 32) := decide_eq_true_iff
theorem px_lt_iff {c : Int} : px_lt c = true ↔ (97 ≤ c ∧ c ≤ 122) := decide_eq_true_iff
theorem px_dg_iff {c : Int} : px_dg c = true ↔ (48 ≤ c ∧ c ≤ 57) := decide_eq_true_iff
theorem px_c_lt {X : Nat → Int32} {n j : Nat} : 0 ≤ px_c X n j ∧ px_c X n j < 256 := by
  unfold px_c
  by_cases h : j < n
  · rw [if_pos h]
    omega
  · rw [if_neg h]
    omega
theorem px_c_in {X : Nat → Int32} {n j : Nat} (h : j < n) : px_c X n j = (X j).toInt % 256 := if_pos h
theorem px_c_out {X : Nat → Int32} {n j : Nat} (h : ¬ j < n) : px_c X n j = 0 := if_neg h
/-- from i on over signs that are Q -/
def px_rf (Q : Int → Bool) (X : Nat → Int32) (n : Nat) : Nat → Nat → Nat
  | 0, i => i
  | f + 1, i => if i < n ∧ Q (px_c X n i) = true then px_rf Q X n f (i + 1) else i
def px_rn (Q : Int → Bool) (X : Nat → Int32) (n i : Nat) : Nat := px_rf Q X n (n - i) i
section PX
variable {Q : Int → Bool} {X : Nat → Int32} {n i j p : Nat}
theorem px_rn_s (h : i < n) (hq : Q (px_c X n i) = true) : px_rn Q X n i = px_rn Q X n (i + 1) := by
  have e : n - i = (n - (i + 1)) + 1 := by omega
  unfold px_rn
  rw [e]
  exact if_pos ⟨h, hq⟩
theorem px_rn_e (h : ¬ (i < n ∧ Q (px_c X n i) = true)) : px_rn Q X n i = i := by
  unfold px_rn
  cases n - i with
  | zero => rfl
  | succ f => exact if_neg h
theorem px_rf_le : ∀ (f i : Nat), i ≤ px_rf Q X n f i ∧ (i ≤ n → px_rf Q X n f i ≤ n) := by
  intro f
  induction f with
  | zero => exact fun i => ⟨Nat.le_refl _, id⟩
  | succ f ih =>
    intro i
    by_cases h : i < n ∧ Q (px_c X n i) = true
    · have e : px_rf Q X n (f + 1) i = px_rf Q X n f (i + 1) := if_pos h
      rw [e]
      obtain ⟨a, b⟩ := ih (i + 1)
      exact ⟨by omega, fun _ => b (by omega)⟩
    · have e : px_rf Q X n (f + 1) i = i := if_neg h
      rw [e]
      exact ⟨Nat.le_refl _, id⟩
theorem px_rn_le : i ≤ px_rn Q X n i := (px_rf_le (n - i) i).1
theorem px_rn_n (h : i ≤ n) : px_rn Q X n i ≤ n := (px_rf_le (n - i) i).2 h
theorem px_rf_in : ∀ (f i j : Nat), i ≤ j → j < px_rf Q X n f i → j < n ∧ Q (px_c X n j) = true := by
  intro f
  induction f with
  | zero =>
    intro i j h1 h2
    have h2 : j < i := h2
    omega
  | succ f ih =>
    intro i j h1 h2
    by_cases h : i < n ∧ Q (px_c X n i) = true
    · have e : px_rf Q X n (f + 1) i = px_rf Q X n f (i + 1) := if_pos h
      rw [e] at h2
      by_cases hj : j = i
      · rw [hj]
        exact h
      · exact ih (i + 1) j (by omega) h2
    · have e : px_rf Q X n (f + 1) i = i := if_neg h
      rw [e] at h2
      omega
theorem px_rn_in (h1 : i ≤ j) (h2 : j < px_rn Q X n i) : j < n ∧ Q (px_c X n j) = true := px_rf_in _ _ _ h1 h2
theorem px_rf_at : ∀ (f i : Nat), n ≤ i + f → ¬ (px_rf Q X n f i < n ∧ Q (px_c X n (px_rf Q X n f i)) = true) := by
  intro f
  induction f with
  | zero =>
    intro i h1 h2
    have h2 : i < n := h2.1
    omega
  | succ f ih =>
    intro i h1
    by_cases h : i < n ∧ Q (px_c X n i) = true
    · have e : px_rf Q X n (f + 1) i = px_rf Q X n f (i + 1) := if_pos h
      rw [e]
      exact ih (i + 1) (by omega)
    · have e : px_rf Q X n (f + 1) i = i := if_neg h
      rw [e]
      exact h
theorem px_rn_at : ¬ (px_rn Q X n i < n ∧ Q (px_c X n (px_rn Q X n i)) = true) := px_rf_at _ _ (by omega)
end PX
/-- a name in base b -/
def px_nv (b : Nat) (d : Nat → Nat) : Nat → Nat
  | 0 => 0
  | k + 1 => b * px_nv b d k + d k
theorem px_nv_z {b : Nat} {d : Nat → Nat} : px_nv b d 0 = 0 := rfl
theorem px_nv_s {b k : Nat} {d : Nat → Nat} : px_nv b d (k + 1) = b * px_nv b d k + d k := rfl
theorem px_nv_inj {b : Nat} (hb : 2 ≤ b) {d d' : Nat → Nat} : ∀ (k k' : Nat), (∀ j, j < k → 1 ≤ d j ∧ d j < b) → (∀ j, j < k' → 1 ≤ d' j ∧ d' j < b) → px_nv b d k = px_nv b d' k' → k = k' ∧ ∀ j, j < k → d j = d' j := by
  intro k
  induction k with
  | zero =>
    intro k' _ h2 h
    cases k' with
    | zero => exact ⟨rfl, fun j hj => absurd hj (Nat.not_lt_zero j)⟩
    | succ k' =>
      exfalso
      have g := (h2 k' (Nat.lt_succ_self _)).1
      have h : 0 = b * px_nv b d' k' + d' k' := h
      generalize b * px_nv b d' k' = z at h
      omega
  | succ k ih =>
    intro k' h1 h2 h
    cases k' with
    | zero =>
      exfalso
      have g := (h1 k (Nat.lt_succ_self _)).1
      have h : b * px_nv b d k + d k = 0 := h
      generalize b * px_nv b d k = z at h
      omega
    | succ k' =>
      have e : b * px_nv b d k + d k = b * px_nv b d' k' + d' k' := h
      have g1 := h1 k (Nat.lt_succ_self _)
      have g2 := h2 k' (Nat.lt_succ_self _)
      have m1 : (b * px_nv b d k + d k) % b = d k := by rw [Nat.mul_add_mod, Nat.mod_eq_of_lt g1.2]
      have m2 : (b * px_nv b d' k' + d' k') % b = d' k' := by rw [Nat.mul_add_mod, Nat.mod_eq_of_lt g2.2]
      have e1 : d k = d' k' := by rw [← m1, ← m2, e]
      have e3 : b * px_nv b d k = b * px_nv b d' k' := by
        rw [e1] at e
        exact Nat.add_right_cancel e
      have e2 : px_nv b d k = px_nv b d' k' := Nat.eq_of_mul_eq_mul_left (Nat.lt_of_lt_of_le (by decide) hb) e3
      obtain ⟨r1, r2⟩ := ih k' (fun j hj => h1 j (by omega)) (fun j hj => h2 j (by omega)) e2
      subst r1
      refine ⟨rfl, fun j hj => ?_⟩
      by_cases ej : j = k
      · rw [ej]
        exact e1
      · exact r2 j (by omega)
theorem px_nv_lt {b : Nat} {d : Nat → Nat} (hb : 1 ≤ b) : ∀ k : Nat, (∀ j, j < k → d j < b) → px_nv b d k < b ^ k := by
  intro k
  induction k with
  | zero => exact fun _ => Nat.lt_succ_self 0
  | succ k ih =>
    intro h
    have h1 := ih (fun j hj => h j (by omega))
    have h2 := h k (Nat.lt_succ_self _)
    show b * px_nv b d k + d k < b ^ (k + 1)
    have h3 : b * (px_nv b d k + 1) ≤ b * b ^ k := Nat.mul_le_mul_left b h1
    rw [Nat.mul_add, Nat.mul_one] at h3
    rw [Nat.pow_succ, Nat.mul_comm (b ^ k) b]
    generalize b * px_nv b d k = z at h3
    generalize b * b ^ k = y at h3
    omega
/-- the letters of a name at p, 1 to 26 -/
def px_ld (X : Nat → Int32) (n p j : Nat) : Nat := (px_c X n (p + j) - 96).toNat
def px_nm (b : Nat) (X : Nat → Int32) (n p k : Nat) : Nat := px_nv b (px_ld X n p) k
/-- two names are the same -/
def px_sm (X : Nat → Int32) (n p q : Nat) : Bool := decide (px_rn px_lt X n p - p = px_rn px_lt X n q - q ∧ ∀ j, j < px_rn px_lt X n p - p → px_c X n (p + j) = px_c X n (q + j))
theorem px_ld_lt {X : Nat → Int32} {n p j : Nat} (h : j < px_rn px_lt X n p - p) : px_lt (px_c X n (p + j)) = true := (px_rn_in (i := p) (j := p + j) (by omega) (by omega)).2
theorem px_sm_d {b : Nat} (hb : 27 ≤ b) {X : Nat → Int32} {n p j : Nat} (h : j < px_rn px_lt X n p - p) : 1 ≤ px_ld X n p j ∧ px_ld X n p j < b := by
  have g := px_lt_iff.mp (px_ld_lt h)
  unfold px_ld
  omega
theorem px_nm_c {b : Nat} {X : Nat → Int32} {n p q : Nat} : ∀ k, (∀ j, j < k → px_c X n (p + j) = px_c X n (q + j)) → px_nm b X n p k = px_nm b X n q k := by
  intro k
  induction k with
  | zero =>
    intro _
    unfold px_nm
    rw [px_nv_z, px_nv_z]
  | succ k ih =>
    intro h
    have e := ih (fun j hj => h j (Nat.lt_succ_of_lt hj))
    have e2 := h k (Nat.lt_succ_self k)
    have e3 : px_ld X n p k = px_ld X n q k := congrArg (fun c : Int => (c - 96).toNat) e2
    unfold px_nm at e ⊢
    rw [px_nv_s, px_nv_s, e, e3]
theorem px_sm_1 {b : Nat} {X : Nat → Int32} {n p q : Nat} (h : px_sm X n p q = true) : px_nm b X n p (px_rn px_lt X n p - p) = px_nm b X n q (px_rn px_lt X n q - q) := by
  obtain ⟨h1, h2⟩ := decide_eq_true_iff.mp h
  rw [← h1]
  exact px_nm_c _ h2
theorem px_sm_2 {b : Nat} (hb : 27 ≤ b) {X : Nat → Int32} {n p q : Nat} (h : px_nm b X n p (px_rn px_lt X n p - p) = px_nm b X n q (px_rn px_lt X n q - q)) : px_sm X n p q = true := by
  obtain ⟨h1, h2⟩ := px_nv_inj (b := b) (Nat.le_trans (by decide) hb) _ _ (fun j hj => px_sm_d hb hj) (fun j hj => px_sm_d hb hj) h
  refine decide_eq_true_iff.mpr ⟨h1, fun j hj => ?_⟩
  have e := h2 j hj
  have g1 := px_lt_iff.mp (px_ld_lt hj)
  have g2 := px_lt_iff.mp (px_ld_lt (X := X) (n := n) (p := q) (j := j) (by rw [← h1]; exact hj))
  unfold px_ld at e
  omega
theorem px_sm_iff {b : Nat} (hb : 27 ≤ b) {X : Nat → Int32} {n p q : Nat} : px_sm X n p q = true ↔ px_nm b X n p (px_rn px_lt X n p - p) = px_nm b X n q (px_rn px_lt X n q - q) := ⟨px_sm_1, px_sm_2 hb⟩
/-- the words in quotes -/
def px_ws : List (List Int) := [[109, 97, 110], [119, 105, 110, 100], [100, 97, 110, 103, 101, 114], [111, 114, 100, 101, 114, 115], [114, 117, 110, 115], [115, 116, 114, 105, 107, 101, 115], [101, 97, 116, 115], [109, 111, 111, 100, 115], [115, 104, 105, 112], [103, 111, 97, 108], [98, 114, 111, 111, 109], [115, 101, 101, 100], [105, 102], [116, 104, 101, 110], [101, 108, 115, 101], [119, 97, 116, 99, 104], [108, 101, 97, 103, 117, 101], [115, 107, 105, 108, 108], [104, 101, 108, 109], [108, 111, 111, 107], [99, 111, 111, 107], [115, 97, 105, 108], [98, 108, 111, 119, 115], [110, 101, 97, 114]]
def px_wl (k : Nat) : Nat := (px_ws.getD k []).length
def px_wc (k i : Nat) : Int := (px_ws.getD k []).getD i 32
def px_ky (k : Nat) : Nat := px_nv 27 (fun j => (px_wc k j - 96).toNat) (px_wl k)
theorem px_wc_lt : ∀ k, k < 24 → ∀ i, i < px_wl k → 97 ≤ px_wc k i ∧ px_wc k i ≤ 122 := by decide +kernel
theorem px_wl_le : ∀ k, k < 24 → px_wl k ≤ 7 := by decide +kernel
theorem px_ky_inj : ∀ k, k < 24 → ∀ k', k' < 24 → px_ky k = px_ky k' → k = k' := by decide +kernel
/-- the len letters at p are word k -/
def px_mw (X : Nat → Int32) (n p len k : Nat) : Bool := decide (len = px_wl k ∧ ∀ i, i < len → px_c X n (p + i) = px_wc k i)
theorem px_mw_iff {X : Nat → Int32} {n p len k : Nat} (hk : k < 24) (hl : ∀ j, j < len → px_lt (px_c X n (p + j)) = true) : px_mw X n p len k = true ↔ px_nm 27 X n p len = px_ky k := by
  have hd : ∀ j, j < len → 1 ≤ px_ld X n p j ∧ px_ld X n p j < 27 := by
    intro j h
    have g := px_lt_iff.mp (hl j h)
    unfold px_ld
    omega
  have hw : ∀ j, j < px_wl k → 1 ≤ (px_wc k j - 96).toNat ∧ (px_wc k j - 96).toNat < 27 := by
    intro j h
    have g := px_wc_lt k hk j h
    omega
  constructor
  · intro h
    obtain ⟨h1, h2⟩ := decide_eq_true_iff.mp h
    have g : ∀ m, m ≤ len → px_nm 27 X n p m = px_nv 27 (fun j => (px_wc k j - 96).toNat) m := by
      intro m
      induction m with
      | zero => exact fun _ => rfl
      | succ m ih =>
        intro hm
        have e := ih (by omega)
        show 27 * px_nm 27 X n p m + px_ld X n p m = 27 * px_nv 27 (fun j => (px_wc k j - 96).toNat) m + (px_wc k m - 96).toNat
        rw [e]
        unfold px_ld
        rw [h2 m (by omega)]
    unfold px_ky
    rw [← h1]
    exact g _ (Nat.le_refl _)
  · intro h
    obtain ⟨h1, h2⟩ := px_nv_inj (b := 27) (by decide) _ _ hd hw h
    refine decide_eq_true_iff.mpr ⟨h1, fun j hj => ?_⟩
    have e : px_ld X n p j = (px_wc k j - 96).toNat := h2 j hj
    have g1 := px_lt_iff.mp (hl j hj)
    have g2 := px_wc_lt k hk j (by omega)
    unfold px_ld at e
    omega
def px_wg (M : Nat → Bool) : Nat → Nat → Nat
  | 0, k => k
  | f + 1, k => if M k = true then k else px_wg M f (k + 1)
theorem px_wg_le {M : Nat → Bool} : ∀ f k, k ≤ px_wg M f k ∧ px_wg M f k ≤ k + f := by
  intro f
  induction f with
  | zero => exact fun k => ⟨Nat.le_refl _, Nat.le_refl _⟩
  | succ f ih =>
    intro k
    by_cases h : M k = true
    · have e : px_wg M (f + 1) k = k := if_pos h
      rw [e]
      omega
    · have e : px_wg M (f + 1) k = px_wg M f (k + 1) := if_neg h
      rw [e]
      have g := ih (k + 1)
      omega
theorem px_wg_at {M : Nat → Bool} : ∀ f k, px_wg M f k < k + f → M (px_wg M f k) = true := by
  intro f
  induction f with
  | zero =>
    intro k h
    have h : k < k := h
    omega
  | succ f ih =>
    intro k
    by_cases h : M k = true
    · have e : px_wg M (f + 1) k = k := if_pos h
      rw [e]
      exact fun _ => h
    · have e : px_wg M (f + 1) k = px_wg M f (k + 1) := if_neg h
      rw [e]
      exact fun g => ih (k + 1) (by omega)
theorem px_wg_no {M : Nat → Bool} : ∀ f k j, k ≤ j → j < px_wg M f k → M j = false := by
  intro f
  induction f with
  | zero =>
    intro k j h1 h
    have h : j < k := h
    omega
  | succ f ih =>
    intro k j h1 h2
    by_cases h : M k = true
    · have e : px_wg M (f + 1) k = k := if_pos h
      rw [e] at h2
      omega
    · have e : px_wg M (f + 1) k = px_wg M f (k + 1) := if_neg h
      rw [e] at h2
      by_cases ej : j = k
      · rw [ej]
        exact Bool.eq_false_iff.mpr h
      · exact ih (k + 1) j (by omega) h2
def px_wd (X : Nat → Int32) (n p len : Nat) : Nat := px_wg (px_mw X n p len) 24 0
theorem px_mw_u {X : Nat → Int32} {n p len k k' : Nat} (hk : k < 24) (hk' : k' < 24) (h : px_mw X n p len k = true) (h' : px_mw X n p len k' = true) : k = k' := by
  obtain ⟨a1, a2⟩ := decide_eq_true_iff.mp h
  have hl : ∀ j, j < len → px_lt (px_c X n (p + j)) = true := by
    intro j hj
    rw [a2 j hj]
    exact px_lt_iff.mpr (px_wc_lt k hk j (by omega))
  exact px_ky_inj k hk k' hk' (((px_mw_iff hk hl).mp h).symm.trans ((px_mw_iff hk' hl).mp h'))
theorem px_wd_eq {X : Nat → Int32} {n p len k : Nat} (hk : k < 24) (h : px_mw X n p len k = true) : px_wd X n p len = k := by
  have h1 := px_wg_le (M := px_mw X n p len) 24 0
  have h2 := px_wg_at (M := px_mw X n p len) 24 0
  have h3 := px_wg_no (M := px_mw X n p len) 24 0 k (Nat.zero_le _)
  have e : px_wd X n p len = px_wg (px_mw X n p len) 24 0 := rfl
  rw [← e] at h1 h2 h3
  by_cases g : px_wd X n p len < 24
  · exact px_mw_u g hk (h2 (by omega)) h
  · exfalso
    have := h3 (by omega)
    rw [this] at h
    cases h
/-- the kind of a sign -/
def px_sg (c : Int) : Int := if c = 59 then 4 else if c = 61 then 5 else if c = 40 then 6 else if c = 41 then 7 else if c = 43 then 8 else if c = 45 then 9 else if c = 42 then 10 else if c = 47 then 15 else if c = 60 then 13 else 3
/-- how long the token at p is -/
def px_tl (X : Nat → Int32) (n p : Nat) : Nat := if px_lt (px_c X n p) = true then px_rn px_lt X n p - p else if px_dg (px_c X n p) = true then px_rn px_dg X n p - p else 1
def px_nx (X : Nat → Int32) (n p : Nat) : Nat := if n ≤ p then p else p + px_tl X n p
def px_kd (X : Nat → Int32) (n p : Nat) : Int := if n ≤ p then 0 else if px_lt (px_c X n p) = true then (if 8 < px_tl X n p then 3 else if px_wd X n p (px_tl X n p) < 24 then 20 + (px_wd X n p (px_tl X n p) : Nat) else 1) else if px_dg (px_c X n p) = true then (if 4 < px_tl X n p then 3 else 2) else px_sg (px_c X n p)
def px_dv (X : Nat → Int32) (n p : Nat) : Nat → Int
  | 0 => 0
  | k + 1 => 10 * px_dv X n p k + (px_c X n (p + k) - 48)
def px_vl (X : Nat → Int32) (n p : Nat) : Int := if px_kd X n p = 2 then px_dv X n p (px_tl X n p) else 0
/-- where the j-th token is -/
def px_at (X : Nat → Int32) (n : Nat) : Nat → Nat
  | 0 => px_rn px_bl X n 0
  | j + 1 => px_rn px_bl X n (px_nx X n (px_at X n j))
theorem px_tl_pos {X : Nat → Int32} {n p : Nat} (hp : p < n) : 1 ≤ px_tl X n p := by
  unfold px_tl
  by_cases h : px_lt (px_c X n p) = true
  · rw [if_pos h]
    have e := px_rn_s (Q := px_lt) hp h
    have g := px_rn_le (Q := px_lt) (X := X) (n := n) (i := p + 1)
    rw [e]
    omega
  · rw [if_neg h]
    by_cases h : px_dg (px_c X n p) = true
    · rw [if_pos h]
      have e := px_rn_s (Q := px_dg) hp h
      have g := px_rn_le (Q := px_dg) (X := X) (n := n) (i := p + 1)
      rw [e]
      omega
    · rw [if_neg h]
      exact Nat.le_refl _
theorem px_nx_n {X : Nat → Int32} {n p : Nat} (hp : p ≤ n) : px_nx X n p ≤ n := by
  unfold px_nx
  by_cases h : n ≤ p
  · rw [if_pos h]
    exact hp
  · rw [if_neg h]
    unfold px_tl
    by_cases h1 : px_lt (px_c X n p) = true
    · rw [if_pos h1]
      have g := px_rn_n (Q := px_lt) (X := X) hp
      have g2 := px_rn_le (Q := px_lt) (X := X) (n := n) (i := p)
      omega
    · rw [if_neg h1]
      by_cases h1 : px_dg (px_c X n p) = true
      · rw [if_pos h1]
        have g := px_rn_n (Q := px_dg) (X := X) hp
        have g2 := px_rn_le (Q := px_dg) (X := X) (n := n) (i := p)
        omega
      · rw [if_neg h1]
        omega
theorem px_at_n {X : Nat → Int32} {n : Nat} : ∀ j, px_at X n j ≤ n := by
  intro j
  induction j with
  | zero => exact px_rn_n (Nat.zero_le _)
  | succ j ih => exact px_rn_n (px_nx_n ih)
theorem px_at_s {X : Nat → Int32} {n j : Nat} : px_at X n j ≤ px_at X n (j + 1) ∧ (px_at X n j < n → px_at X n j < px_at X n (j + 1)) := by
  have g := px_rn_le (Q := px_bl) (X := X) (n := n) (i := px_nx X n (px_at X n j))
  have e : px_at X n (j + 1) = px_rn px_bl X n (px_nx X n (px_at X n j)) := rfl
  rw [e]
  by_cases h : px_at X n j < n
  · have h1 := px_tl_pos (X := X) h
    have h2 : px_nx X n (px_at X n j) = px_at X n j + px_tl X n (px_at X n j) := if_neg (by omega)
    omega
  · have h2 : px_nx X n (px_at X n j) = px_at X n j := if_pos (by omega)
    omega
