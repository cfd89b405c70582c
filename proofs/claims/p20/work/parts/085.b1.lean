/-! THE ENGINE IS SOUND, 1: numbers, rows, the tree -/
theorem en_if_t {α : Type} (x y : α) : en_if true x y = x := rfl
theorem en_if_f {α : Type} (x y : α) : en_if false x y = y := rfl
theorem en_if_and {b x : Bool} : en_if b x false = true ↔ b = true ∧ x = true := by cases b <;> simp [en_if]
theorem en_if_or {b x y : Bool} : en_if b x y = true ↔ (b = true ∧ x = true) ∨ (b = false ∧ y = true) := by cases b <;> simp [en_if]
theorem en_if_cases {α : Type} {b : Bool} {x y : α} {p : α → Prop} (h : p (en_if b x y)) : (b = true ∧ p x) ∨ (b = false ∧ p y) := by
  cases b
  · exact Or.inr ⟨rfl, h⟩
  · exact Or.inl ⟨rfl, h⟩
theorem en_pop_t {st : List Nat} {k : Nat → List Nat → Bool} (h : en_pop st k = true) : ∃ a r, st = a :: r ∧ k a r = true := by
  cases st with
  | nil => cases h
  | cons a r => exact ⟨a, r, rfl, h⟩
theorem en_nth_nil {α : Type} (d : α) (i : Nat) : en_nth d [] i = d := rfl
theorem en_nth_zero {α : Type} (d a : α) (r : List α) : en_nth d (a :: r) 0 = a := rfl
theorem en_nth_succ {α : Type} (d a : α) (r : List α) (i : Nat) : en_nth d (a :: r) (i + 1) = en_nth d r i := rfl
theorem en_nth_eq {α : Type} (d : α) (l : List α) (i : Nat) : en_nth d l i = (l[i]?).getD d := by
  induction l generalizing i with
  | nil => simp [en_nth_nil]
  | cons a r ih =>
    cases i with
    | zero => simp [en_nth_zero]
    | succ i => rw [en_nth_succ, ih]; simp
theorem en_set_eq {α : Type} (l : List α) (i : Nat) (v : α) : en_set l i v = l.set i v := by
  induction l generalizing i with
  | nil => rfl
  | cons a r ih =>
    cases i with
    | zero => rfl
    | succ i => show a :: en_set r i v = _; rw [ih]; rfl
/-- cells of a tree from lo to hi -/
def en_lens {α : Type} (lo hi : Nat) (g : α → Nat → Nat) (p : α → Nat → Nat → α) : Prop := ∀ (t : α) (k N j : Nat), lo ≤ k → k < hi → lo ≤ j → j < hi → g (p t k N) j = if k = j then N else g t j
theorem en_lens_leaf (i : Nat) : en_lens i (i + 1) en_lg en_lp := by
  intro t k N j h1 h2 h3 h4
  rw [if_pos (by omega)]
  rfl
theorem en_lens_node {α β : Type} {lo mid hi : Nat} {ga : α → Nat → Nat} {pa : α → Nat → Nat → α} {gb : β → Nat → Nat} {pb : β → Nat → Nat → β} (ha : en_lens lo mid ga pa) (hb : en_lens mid hi gb pb) : en_lens lo hi (en_ng mid ga gb) (en_np mid pa pb) := by
  intro t k N j h1 h2 h3 h4
  unfold en_ng en_np
  by_cases hk : mid ≤ k
  · have e1 : Nat.ble mid k = true := Nat.ble_eq_true_of_le hk
    rw [e1, en_if_t]
    by_cases hj : mid ≤ j
    · have e2 : Nat.ble mid j = true := Nat.ble_eq_true_of_le hj
      rw [e2, en_if_t, en_if_t]
      exact hb t.2 k N j hk h2 hj h4
    · have e2 : Nat.ble mid j = false := by
        cases h : Nat.ble mid j with
        | true => exact absurd (Nat.le_of_ble_eq_true h) hj
        | false => rfl
      rw [e2, en_if_f, en_if_f, if_neg (by omega)]
  · have e1 : Nat.ble mid k = false := by
      cases h : Nat.ble mid k with
      | true => exact absurd (Nat.le_of_ble_eq_true h) hk
      | false => rfl
    rw [e1, en_if_f]
    by_cases hj : mid ≤ j
    · have e2 : Nat.ble mid j = true := Nat.ble_eq_true_of_le hj
      rw [e2, en_if_t, en_if_t, if_neg (by omega)]
    · have e2 : Nat.ble mid j = false := by
        cases h : Nat.ble mid j with
        | true => exact absurd (Nat.le_of_ble_eq_true h) hj
        | false => rfl
      rw [e2, en_if_f, en_if_f]
      exact ha t.1 k N j h1 (by omega) h3 (by omega)
theorem en_ble_f {a b : Nat} : Nat.ble a b = false ↔ b < a := by
  constructor
  · intro h
    rcases Nat.lt_or_ge b a with q | q
    · exact q
    · rw [Nat.ble_eq_true_of_le q] at h; cases h
  · intro h
    cases q : Nat.ble a b with
    | true => exact absurd (Nat.le_of_ble_eq_true q) (by omega)
    | false => rfl
theorem en_ble_t {a b : Nat} : Nat.ble a b = true ↔ a ≤ b := ⟨Nat.le_of_ble_eq_true, Nat.ble_eq_true_of_le⟩
theorem en_beq_t {a b : Nat} : Nat.beq a b = true ↔ a = b := ⟨Nat.eq_of_beq_eq_true, fun h => by subst h; exact Nat.beq_refl a⟩
theorem en_beq_f {a b : Nat} : Nat.beq a b = false ↔ a ≠ b := by
  constructor
  · intro h e
    subst e
    rw [Nat.beq_refl] at h
    cases h
  · intro h
    cases q : Nat.beq a b with
    | true => exact absurd (Nat.eq_of_beq_eq_true q) h
    | false => rfl
theorem en_elt_lt (N j : Nat) : en_elt N j < 2 ^ 68 := Nat.mod_lt _ (by decide)
theorem en_elt_bit (N j i : Nat) : (en_elt N j).testBit i = (decide (i < 68) && N.testBit (32 + 68 * j + i)) := by
  show (N >>> (32 + 68 * j) % 2 ^ 68).testBit i = _
  rw [Nat.testBit_mod_two_pow, Nat.testBit_shiftRight]
theorem en_eset_bit (N j v i : Nat) : (en_eset N j v).testBit i = (N.testBit i ^^ (decide (32 + 68 * j ≤ i) && ((en_elt N j).testBit (i - (32 + 68 * j)) ^^ v.testBit (i - (32 + 68 * j))))) := by
  show (N ^^^ ((en_elt N j ^^^ v) <<< (32 + 68 * j))).testBit i = _
  rw [Nat.testBit_xor, Nat.testBit_shiftLeft, Nat.testBit_xor]
theorem en_bit_lt {v i : Nat} (hv : v < 2 ^ 68) (hi : 68 ≤ i) : v.testBit i = false := Nat.testBit_lt_two_pow (Nat.lt_of_lt_of_le hv (Nat.pow_le_pow_right (by decide) hi))
theorem en_elt_eset {N j v i : Nat} (hv : v < 2 ^ 68) : en_elt (en_eset N j v) i = if i = j then v else en_elt N i := by
  apply Nat.eq_of_testBit_eq
  intro b
  rw [en_elt_bit, en_eset_bit]
  by_cases hij : i = j
  · subst hij
    rw [if_pos rfl]
    by_cases hb : b < 68
    · rw [en_elt_bit]
      have e : 32 + 68 * i + b - (32 + 68 * i) = b := by omega
      simp [hb, e]
    · simp [hb, en_bit_lt hv (by omega : 68 ≤ b)]
  · rw [if_neg hij, en_elt_bit N i b]
    by_cases hb : b < 68
    · by_cases hle : 32 + 68 * j ≤ 32 + 68 * i + b
      · have h68 : 68 ≤ 32 + 68 * i + b - (32 + 68 * j) := by omega
        simp [hb, hle, en_bit_lt hv h68, en_bit_lt (en_elt_lt N j) h68]
      · simp [hb, hle]
    · simp [hb]
theorem en_eset_head {N j v : Nat} : en_eset N j v % 2 ^ 32 = N % 2 ^ 32 := by
  apply Nat.eq_of_testBit_eq
  intro b
  rw [Nat.testBit_mod_two_pow, Nat.testBit_mod_two_pow, en_eset_bit]
  by_cases hb : b < 32
  · have : ¬ 32 + 68 * j ≤ b := by omega
    simp [this]
  · simp [hb]
theorem en_kind_head (N : Nat) : en_kind N = N % 2 ^ 32 % 256 := by show N % 256 = _; omega
theorem en_len_head (N : Nat) : en_len N = N % 2 ^ 32 / 256 := by show N / 256 % 16777216 = _; omega
theorem en_eset_kind (N j v : Nat) : en_kind (en_eset N j v) = en_kind N := by rw [en_kind_head, en_kind_head, en_eset_head]
theorem en_eset_len (N j v : Nat) : en_len (en_eset N j v) = en_len N := by rw [en_len_head, en_len_head, en_eset_head]
/-- the sum of n powers -/
def en_geo : Nat → Nat
  | 0 => 0
  | n + 1 => en_geo n * 2 ^ 68 + 1
theorem en_geo_eq (n : Nat) : (2 ^ (68 * n) - 1) / (2 ^ 68 - 1) = en_geo n := by
  have h : ∀ n, (2 ^ 68 - 1) * en_geo n = 2 ^ (68 * n) - 1 := by
    intro n
    induction n with
    | zero => rfl
    | succ n ih =>
      have e : 2 ^ (68 * (n + 1)) = 2 ^ (68 * n) * 2 ^ 68 := by rw [← Nat.pow_add]; congr 1
      have hp : 1 ≤ 2 ^ (68 * n) := Nat.one_le_two_pow
      rw [e, en_geo]
      generalize 2 ^ (68 * n) = q at ih hp
      generalize en_geo n = g at ih
      omega
  rw [← h n, Nat.mul_div_cancel_left _ (by decide)]
theorem en_geo_dig {D : Nat} (hD : D < 2 ^ 68) : ∀ (n j : Nat), j < n → (D * en_geo n) / 2 ^ (68 * j) % 2 ^ 68 = D := by
  intro n
  induction n with
  | zero => intro j h; omega
  | succ n ih =>
    intro j hj
    rw [en_geo, Nat.mul_add, Nat.mul_one, ← Nat.mul_assoc]
    cases j with
    | zero =>
      rw [Nat.mul_zero, Nat.pow_zero, Nat.div_one]
      omega
    | succ j =>
      have e : 2 ^ (68 * (j + 1)) = 2 ^ 68 * 2 ^ (68 * j) := by rw [← Nat.pow_add]; congr 1; omega
      rw [e, ← Nat.div_div_eq_div_mul]
      have e2 : (D * en_geo n * 2 ^ 68 + D) / 2 ^ 68 = D * en_geo n := by omega
      rw [e2]
      exact ih j (by omega)
theorem en_rep_elt {kind n D j : Nat} (hk : kind < 256) (hn : n < 16777216) (hD : D < 2 ^ 68) (hj : j < n) : en_elt (en_rep kind n D) j = D := by
  show ((kind + 256 * n) + 4294967296 * (D * ((2 ^ (68 * n) - 1) / (2 ^ 68 - 1)))) >>> (32 + 68 * j) % 2 ^ 68 = D
  rw [en_geo_eq, Nat.shiftRight_eq_div_pow, Nat.pow_add, ← Nat.div_div_eq_div_mul]
  have e : (kind + 256 * n + 4294967296 * (D * en_geo n)) / 2 ^ 32 = D * en_geo n := by omega
  rw [e]
  exact en_geo_dig hD n j hj
theorem en_rep_kind {kind n D : Nat} (hk : kind < 256) : en_kind (en_rep kind n D) = kind := by
  show ((kind + 256 * n) + 4294967296 * (D * ((2 ^ (68 * n) - 1) / (2 ^ 68 - 1)))) % 256 = kind
  omega
theorem en_rep_len {kind n D : Nat} (hk : kind < 256) (hn : n < 16777216) : en_len (en_rep kind n D) = n := by
  show ((kind + 256 * n) + 4294967296 * (D * ((2 ^ (68 * n) - 1) / (2 ^ 68 - 1)))) / 256 % 16777216 = n
  omega
theorem en_lens_H : en_lens 0 136 en_get en_put := en_lens_node (en_lens_node (en_lens_node (en_lens_node (en_lens_node (en_lens_node (en_lens_node (en_lens_leaf 0) (en_lens_leaf 1)) (en_lens_leaf 2)) (en_lens_leaf 3)) (en_lens_node (en_lens_node (en_lens_leaf 4) (en_lens_leaf 5)) (en_lens_node (en_lens_leaf 6) (en_lens_leaf 7)))) (en_lens_node (en_lens_node (en_lens_node (en_lens_node (en_lens_node (en_lens_node (en_lens_leaf 8) (en_lens_node (en_lens_leaf 9) (en_lens_leaf 10))) (en_lens_leaf 11)) (en_lens_leaf 12)) (en_lens_node (en_lens_node (en_lens_node (en_lens_node (en_lens_leaf 13) (en_lens_leaf 14)) (en_lens_node (en_lens_leaf 15) (en_lens_node (en_lens_leaf 16) (en_lens_leaf 17)))) (en_lens_node (en_lens_node (en_lens_node (en_lens_leaf 18) (en_lens_leaf 19)) (en_lens_leaf 20)) (en_lens_node (en_lens_leaf 21) (en_lens_node (en_lens_leaf 22) (en_lens_node (en_lens_leaf 23) (en_lens_leaf 24)))))) (en_lens_leaf 25))) (en_lens_node (en_lens_node (en_lens_leaf 26) (en_lens_leaf 27)) (en_lens_leaf 28))) (en_lens_node (en_lens_leaf 29) (en_lens_node (en_lens_node (en_lens_node (en_lens_node (en_lens_leaf 30) (en_lens_leaf 31)) (en_lens_node (en_lens_node (en_lens_leaf 32) (en_lens_leaf 33)) (en_lens_node (en_lens_node (en_lens_leaf 34) (en_lens_leaf 35)) (en_lens_leaf 36)))) (en_lens_node (en_lens_node (en_lens_node (en_lens_leaf 37) (en_lens_node (en_lens_leaf 38) (en_lens_leaf 39))) (en_lens_node (en_lens_node (en_lens_leaf 40) (en_lens_leaf 41)) (en_lens_node (en_lens_leaf 42) (en_lens_leaf 43)))) (en_lens_node (en_lens_node (en_lens_node (en_lens_leaf 44) (en_lens_leaf 45)) (en_lens_node (en_lens_leaf 46) (en_lens_leaf 47))) (en_lens_node (en_lens_node (en_lens_leaf 48) (en_lens_leaf 49)) (en_lens_node (en_lens_leaf 50) (en_lens_leaf 51)))))) (en_lens_node (en_lens_node (en_lens_node (en_lens_node (en_lens_node (en_lens_leaf 52) (en_lens_leaf 53)) (en_lens_node (en_lens_leaf 54) (en_lens_leaf 55))) (en_lens_node (en_lens_node (en_lens_leaf 56) (en_lens_leaf 57)) (en_lens_node (en_lens_leaf 58) (en_lens_leaf 59)))) (en_lens_node (en_lens_node (en_lens_node (en_lens_leaf 60) (en_lens_leaf 61)) (en_lens_node (en_lens_leaf 62) (en_lens_leaf 63))) (en_lens_node (en_lens_node (en_lens_leaf 64) (en_lens_leaf 65)) (en_lens_node (en_lens_leaf 66) (en_lens_leaf 67))))) (en_lens_node (en_lens_node (en_lens_node (en_lens_node (en_lens_leaf 68) (en_lens_leaf 69)) (en_lens_node (en_lens_leaf 70) (en_lens_leaf 71))) (en_lens_node (en_lens_node (en_lens_leaf 72) (en_lens_leaf 73)) (en_lens_node (en_lens_leaf 74) (en_lens_node (en_lens_leaf 75) (en_lens_leaf 76))))) (en_lens_node (en_lens_node (en_lens_node (en_lens_node (en_lens_leaf 77) (en_lens_leaf 78)) (en_lens_node (en_lens_leaf 79) (en_lens_leaf 80))) (en_lens_node (en_lens_node (en_lens_leaf 81) (en_lens_leaf 82)) (en_lens_leaf 83))) (en_lens_node (en_lens_leaf 84) (en_lens_node (en_lens_leaf 85) (en_lens_node (en_lens_leaf 86) (en_lens_leaf 87))))))))))) (en_lens_leaf 88)) (en_lens_node (en_lens_node (en_lens_node (en_lens_node (en_lens_node (en_lens_node (en_lens_leaf 89) (en_lens_leaf 90)) (en_lens_leaf 91)) (en_lens_node (en_lens_leaf 92) (en_lens_node (en_lens_leaf 93) (en_lens_leaf 94)))) (en_lens_node (en_lens_leaf 95) (en_lens_leaf 96))) (en_lens_leaf 97)) (en_lens_node (en_lens_node (en_lens_node (en_lens_node (en_lens_node (en_lens_node (en_lens_node (en_lens_node (en_lens_leaf 98) (en_lens_leaf 99)) (en_lens_leaf 100)) (en_lens_node (en_lens_leaf 101) (en_lens_leaf 102))) (en_lens_node (en_lens_leaf 103) (en_lens_node (en_lens_leaf 104) (en_lens_leaf 105)))) (en_lens_leaf 106)) (en_lens_node (en_lens_leaf 107) (en_lens_node (en_lens_node (en_lens_node (en_lens_leaf 108) (en_lens_leaf 109)) (en_lens_node (en_lens_leaf 110) (en_lens_leaf 111))) (en_lens_node (en_lens_node (en_lens_leaf 112) (en_lens_leaf 113)) (en_lens_node (en_lens_leaf 114) (en_lens_leaf 115)))))) (en_lens_leaf 116)) (en_lens_node (en_lens_node (en_lens_node (en_lens_leaf 117) (en_lens_leaf 118)) (en_lens_leaf 119)) (en_lens_node (en_lens_leaf 120) (en_lens_node (en_lens_node (en_lens_leaf 121) (en_lens_node (en_lens_node (en_lens_leaf 122) (en_lens_leaf 123)) (en_lens_node (en_lens_leaf 124) (en_lens_leaf 125)))) (en_lens_node (en_lens_node (en_lens_node (en_lens_leaf 126) (en_lens_leaf 127)) (en_lens_node (en_lens_leaf 128) (en_lens_leaf 129))) (en_lens_node (en_lens_node (en_lens_leaf 130) (en_lens_leaf 131)) (en_lens_node (en_lens_node (en_lens_leaf 132) (en_lens_leaf 133)) (en_lens_node (en_lens_leaf 134) (en_lens_leaf 135))))))))))
