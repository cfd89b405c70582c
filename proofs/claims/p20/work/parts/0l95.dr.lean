/-! PURE: the draws of a crew of m: by the reference's numbers w (four digits to 7, 6: nobody), by the class's one after the other (wip/p8, by hand) -/
def dr_dg (w p : Nat) : Nat := w / 7 ^ (3 - p) % 7
def dr_cv (a : Nat) : Int := if a = 6 then -2 else (a : Int)
def dr_okp (m w p : Nat) : Bool := if m ≤ p then Nat.beq (dr_dg w p) 6 else Nat.blt (dr_dg w p) m && (List.range p).all (fun q => !Nat.beq (dr_dg w q) (dr_dg w p))
def dr_ok (m w : Nat) : Bool := dr_okp m w 0 && (dr_okp m w 1 && (dr_okp m w 2 && dr_okp m w 3))
/-- what the reference finds up to k -/
def dr_L (m k : Nat) : List Nat := (List.range k).filter (dr_ok m)
/-- what the class deals: a row of men, one taken out -/
def dl_A (l : Nat → Nat) (many k : Nat) : Nat → Nat := fun i => if k ≤ i ∧ i + 1 < many then l (i + 1) else l i
def dl_pz (m : Nat) : Nat → Nat
  | 0 => 1
  | p + 1 => dl_pz m p * max 1 (m - p)
def dl_sz (m : Nat) : Nat := dl_pz m 4
/-- the span behind p posts, the rest, the row of men -/
def dl_sp (m : Nat) : Nat → Nat
  | 0 => dl_sz m
  | p + 1 => if p < m then max 1 (dl_sp m p / (m - p)) else dl_sp m p
def dl_rs (m d : Nat) : Nat → Nat
  | 0 => d
  | p + 1 => if p < m then dl_rs m d p % dl_sp m (p + 1) else dl_rs m d p
def dl_l (m d : Nat) : Nat → Nat → Nat
  | 0 => fun i => i
  | p + 1 => if p < m then dl_A (dl_l m d p) (m - p) (dl_rs m d p / dl_sp m (p + 1)) else dl_l m d p
def dl_m (m d p : Nat) : Nat := if p < m then dl_l m d p (dl_rs m d p / dl_sp m (p + 1)) else 6
def dl_w (m d : Nat) : Nat := ((dl_m m d 0 * 7 + dl_m m d 1) * 7 + dl_m m d 2) * 7 + dl_m m d 3
/-- the class's draws up to k -/
def dl_L (m k : Nat) : List Nat := (List.range k).map (dl_w m)
def dr_leq : List Nat → List Nat → Bool
  | [], [] => true
  | a :: l, b :: r => Nat.beq a b && dr_leq l r
  | _, _ => false
theorem dr_leq_e : ∀ {l r : List Nat}, dr_leq l r = true → l = r
  | [], [], _ => rfl
  | a :: l, b :: r, h => by
    obtain ⟨h1, h2⟩ := Bool.and_eq_true_iff.mp h
    rw [Nat.eq_of_beq_eq_true h1, dr_leq_e h2]
def dr_chk (m : Nat) : Bool := dr_leq (dl_L m (dl_sz m)) (dr_L m 2401) && (List.range (dl_sz m)).all (fun d => Nat.beq (dr_dg (dl_w m d) 0) (dl_m m d 0) && (Nat.beq (dr_dg (dl_w m d) 1) (dl_m m d 1) && (Nat.beq (dr_dg (dl_w m d) 2) (dl_m m d 2) && (Nat.beq (dr_dg (dl_w m d) 3) (dl_m m d 3) && (Nat.ble 1 (dl_sp m 1) && (Nat.ble 1 (dl_sp m 2) && (Nat.ble 1 (dl_sp m 3) && (Nat.ble 1 (dl_sp m 4) && (List.range 4).all (fun p => !Nat.blt p m || Nat.blt (dl_rs m d p / dl_sp m (p + 1)) (m - p))))))))))
theorem dr_c0 : dr_chk 0 = true := by decide +kernel
theorem dr_c1 : dr_chk 1 = true := by decide +kernel
theorem dr_c2 : dr_chk 2 = true := by decide +kernel
theorem dr_c3 : dr_chk 3 = true := by decide +kernel
theorem dr_c4 : dr_chk 4 = true := by decide +kernel
theorem dr_c5 : dr_chk 5 = true := by decide +kernel
theorem dr_c6 : dr_chk 6 = true := by decide +kernel
theorem dr_c {m : Nat} (h : m ≤ 6) : dr_chk m = true := by
  rcases (show m = 0 ∨ m = 1 ∨ m = 2 ∨ m = 3 ∨ m = 4 ∨ m = 5 ∨ m = 6 by omega) with rfl | rfl | rfl | rfl | rfl | rfl | rfl
  · exact dr_c0
  · exact dr_c1
  · exact dr_c2
  · exact dr_c3
  · exact dr_c4
  · exact dr_c5
  · exact dr_c6
theorem dr_E {m : Nat} (h : m ≤ 6) : dl_L m (dl_sz m) = dr_L m 2401 := dr_leq_e (Bool.and_eq_true_iff.mp (dr_c h)).1
theorem dr_d {m d : Nat} (h : m ≤ 6) (hd : d < dl_sz m) : (∀ p, p < 4 → dr_dg (dl_w m d) p = dl_m m d p) ∧ (∀ p, p < 4 → 1 ≤ dl_sp m (p + 1)) ∧ ∀ p, p < 4 → p < m → dl_rs m d p / dl_sp m (p + 1) < m - p := by
  have g := List.all_eq_true.mp (Bool.and_eq_true_iff.mp (dr_c h)).2 d (List.mem_range.mpr hd)
  obtain ⟨g0, g⟩ := Bool.and_eq_true_iff.mp g
  obtain ⟨g1, g⟩ := Bool.and_eq_true_iff.mp g
  obtain ⟨g2, g⟩ := Bool.and_eq_true_iff.mp g
  obtain ⟨g3, g⟩ := Bool.and_eq_true_iff.mp g
  obtain ⟨s0, g⟩ := Bool.and_eq_true_iff.mp g
  obtain ⟨s1, g⟩ := Bool.and_eq_true_iff.mp g
  obtain ⟨s2, g⟩ := Bool.and_eq_true_iff.mp g
  obtain ⟨s3, g⟩ := Bool.and_eq_true_iff.mp g
  refine ⟨fun p hp => ?_, fun p hp => ?_, fun p hp hm => ?_⟩
  · rcases (show p = 0 ∨ p = 1 ∨ p = 2 ∨ p = 3 by omega) with rfl | rfl | rfl | rfl
    · exact Nat.eq_of_beq_eq_true g0
    · exact Nat.eq_of_beq_eq_true g1
    · exact Nat.eq_of_beq_eq_true g2
    · exact Nat.eq_of_beq_eq_true g3
  · rcases (show p = 0 ∨ p = 1 ∨ p = 2 ∨ p = 3 by omega) with rfl | rfl | rfl | rfl
    · exact Nat.le_of_ble_eq_true s0
    · exact Nat.le_of_ble_eq_true s1
    · exact Nat.le_of_ble_eq_true s2
    · exact Nat.le_of_ble_eq_true s3
  · have u := List.all_eq_true.mp g p (List.mem_range.mpr hp)
    rcases Bool.or_eq_true_iff.mp u with u | u
    · have v : Nat.blt p m = true := Nat.ble_eq_true_of_le (by omega)
      rw [v] at u
      cases u
    · exact Nat.le_of_ble_eq_true u
theorem dr_sz {m : Nat} (h : m ≤ 6) : 1 ≤ dl_sz m ∧ dl_sz m ≤ 360 := by
  rcases (show m = 0 ∨ m = 1 ∨ m = 2 ∨ m = 3 ∨ m = 4 ∨ m = 5 ∨ m = 6 by omega) with rfl | rfl | rfl | rfl | rfl | rfl | rfl <;> decide +kernel
/-- the best so far: the first that is as great as any -/
def dr_u (f : Nat → Int) (b : Option Nat) (w : Nat) : Option Nat := match b with
  | none => some w
  | some v => if f v < f w then some w else some v
def dr_m (f : Nat → Int) (l : List Nat) : Option Nat := l.foldl (dr_u f) none
def dr_s (f : Nat → Int) (l : List Nat) : Int := l.foldl (fun s w => s + f w) 0
theorem dr_m_a {f : Nat → Int} {l : List Nat} {w : Nat} : dr_m f (l ++ [w]) = dr_u f (dr_m f l) w := by
  unfold dr_m
  rw [List.foldl_append]
  rfl
theorem dr_s_a {f : Nat → Int} {l : List Nat} {w : Nat} : dr_s f (l ++ [w]) = dr_s f l + f w := by
  unfold dr_s
  rw [List.foldl_append]
  rfl
theorem dr_L_s {m k : Nat} (h : dr_ok m k = true) : dr_L m (k + 1) = dr_L m k ++ [k] := by
  unfold dr_L
  rw [List.range_succ, List.filter_append]
  simp [h]
theorem dr_L_n {m k : Nat} (h : dr_ok m k = false) : dr_L m (k + 1) = dr_L m k := by
  unfold dr_L
  rw [List.range_succ, List.filter_append]
  simp [h]
theorem dl_L_s {m k : Nat} : dl_L m (k + 1) = dl_L m k ++ [dl_w m k] := by
  unfold dl_L
  rw [List.range_succ, List.map_append]
  rfl
/-- skills of a draw -/
def dr_kp (f : Nat → Nat → Int) (w : Nat) : Nat → Int
  | 0 => 0
  | p + 1 => dr_kp f w p + (if dr_dg w p = 6 then 0 else f (dr_dg w p) p)
def dr_k (f : Nat → Nat → Int) (w : Nat) : Int := dr_kp f w 4
theorem dr_dg7 {w p : Nat} : dr_dg w p < 7 := Nat.mod_lt _ (by decide)
theorem dr_okp_t {m w p : Nat} (h : m ≤ p) : dr_okp m w p = true ↔ dr_dg w p = 6 := by
  unfold dr_okp
  rw [if_pos h]
  exact ⟨Nat.eq_of_beq_eq_true, fun e => by rw [e]; rfl⟩
theorem dr_okp_m {m w p : Nat} (h : p < m) : dr_okp m w p = true ↔ dr_dg w p < m ∧ ∀ q, q < p → dr_dg w q ≠ dr_dg w p := by
  unfold dr_okp
  rw [if_neg (by omega), Bool.and_eq_true_iff, List.all_eq_true]
  refine ⟨fun ⟨a, b⟩ => ⟨Nat.le_of_ble_eq_true a, fun q hq e => ?_⟩, fun ⟨a, b⟩ => ⟨Nat.ble_eq_true_of_le a, fun q hq => ?_⟩⟩
  · have g := b q (List.mem_range.mpr hq)
    rw [e, Nat.beq_refl] at g
    cases g
  · cases g : Nat.beq (dr_dg w q) (dr_dg w p) with
    | false => rfl
    | true => exact absurd (Nat.eq_of_beq_eq_true g) (b q (List.mem_range.mp hq))
theorem dr_ok_t {m w : Nat} (h : ∀ p, p < 4 → dr_okp m w p = true) : dr_ok m w = true := by
  unfold dr_ok
  rw [h 0 (by decide), h 1 (by decide), h 2 (by decide), h 3 (by decide)]
  rfl
theorem dr_ok_p {m w : Nat} (h : dr_ok m w = true) : ∀ p, p < 4 → dr_okp m w p = true := by
  unfold dr_ok at h
  obtain ⟨a, h⟩ := Bool.and_eq_true_iff.mp h
  obtain ⟨b, h⟩ := Bool.and_eq_true_iff.mp h
  obtain ⟨c, d⟩ := Bool.and_eq_true_iff.mp h
  intro p hp
  rcases (show p = 0 ∨ p = 1 ∨ p = 2 ∨ p = 3 by omega) with rfl | rfl | rfl | rfl
  · exact a
  · exact b
  · exact c
  · exact d
theorem dr_ok_f {m w p : Nat} (hp : p < 4) (h : ¬ dr_okp m w p = true) : dr_ok m w = false := by
  cases g : dr_ok m w with
  | false => rfl
  | true => exact absurd (dr_ok_p g p hp) h
/-- a man at a post of a draw is one of the m -/
theorem dr_ok_lt {m w p : Nat} (h : dr_ok m w = true) (hp : p < 4) : dr_dg w p = 6 ∨ dr_dg w p < m := by
  have g := dr_ok_p h p hp
  by_cases c : m ≤ p
  · exact Or.inl ((dr_okp_t c).mp g)
  · exact Or.inr ((dr_okp_m (by omega)).mp g).1
theorem dr_kp_b {f : Nat → Nat → Int} {m w : Nat} (hf : ∀ a, a < m → ∀ p, p < 4 → 0 ≤ f a p ∧ f a p ≤ 9) (h : dr_ok m w = true) : ∀ p, p ≤ 4 → 0 ≤ dr_kp f w p ∧ dr_kp f w p ≤ 9 * (p : Int) := by
  intro p
  induction p with
  | zero => intro _; exact ⟨Int.le_refl _, Int.le_refl _⟩
  | succ p ih =>
    intro hp
    have g := ih (by omega)
    show 0 ≤ dr_kp f w p + (if dr_dg w p = 6 then 0 else f (dr_dg w p) p) ∧ dr_kp f w p + (if dr_dg w p = 6 then 0 else f (dr_dg w p) p) ≤ _
    by_cases e : dr_dg w p = 6
    · rw [if_pos e]
      omega
    · rw [if_neg e]
      have u := hf _ ((dr_ok_lt h (by omega : p < 4)).resolve_left e) p (by omega)
      omega
theorem dr_kp_c {f g : Nat → Nat → Int} {m w : Nat} (hf : ∀ a, a < m → ∀ p, p < 4 → f a p = g a p) (h : dr_ok m w = true) : ∀ p, p ≤ 4 → dr_kp f w p = dr_kp g w p := by
  intro p
  induction p with
  | zero => intro _; rfl
  | succ p ih =>
    intro hp
    show dr_kp f w p + _ = dr_kp g w p + _
    rw [ih (by omega)]
    by_cases e : dr_dg w p = 6
    · rw [if_pos e, if_pos e]
    · rw [if_neg e, if_neg e, hf _ ((dr_ok_lt h (by omega : p < 4)).resolve_left e) p (by omega)]
/-- bits: who is taken -/
def dr_uf (u : Int32) (a : Nat) : Int32 := if a = 6 then u else u ||| (1 <<< (Int32.ofNat a &&& 31))
def dr_ub (d : Nat → Nat) : Nat → Int32
  | 0 => 0
  | p + 1 => dr_uf (dr_ub d p) (d p)
def dr_bt (u : Int32) (a : Nat) : Bool := decide (((u >>> (Int32.ofNat a &&& 31)) &&& 1) = 1)
theorem dr_b0 : ∀ a, a < 6 → dr_bt 0 a = false := by decide +kernel
theorem dr_b1 : ∀ x, x < 7 → ∀ a, a < 6 → dr_bt (dr_uf 0 x) a = Nat.beq x a := by decide +kernel
theorem dr_b2 : ∀ x, x < 7 → ∀ y, y < 7 → ∀ a, a < 6 → dr_bt (dr_uf (dr_uf 0 x) y) a = (Nat.beq x a || Nat.beq y a) := by decide +kernel
theorem dr_b3 : ∀ x, x < 7 → ∀ y, y < 7 → ∀ z, z < 7 → ∀ a, a < 6 → dr_bt (dr_uf (dr_uf (dr_uf 0 x) y) z) a = (Nat.beq x a || (Nat.beq y a || Nat.beq z a)) := by decide +kernel
theorem dr_b {w p a : Nat} (hp : p ≤ 3) (ha : a < 6) : dr_bt (dr_ub (dr_dg w) p) a = true ↔ ∃ q, q < p ∧ dr_dg w q = a := by
  have bq : ∀ {x y : Nat}, Nat.beq x y = true ↔ x = y := ⟨Nat.eq_of_beq_eq_true, fun e => by rw [e]; exact Nat.beq_refl _⟩
  rcases (show p = 0 ∨ p = 1 ∨ p = 2 ∨ p = 3 by omega) with rfl | rfl | rfl | rfl
  · show dr_bt 0 a = true ↔ _
    rw [dr_b0 a ha]
    exact ⟨fun h => absurd h Bool.false_ne_true, fun ⟨q, h, _⟩ => absurd h (Nat.not_lt_zero q)⟩
  · show dr_bt (dr_uf 0 (dr_dg w 0)) a = true ↔ _
    rw [dr_b1 _ dr_dg7 a ha, bq]
    exact ⟨fun h => ⟨0, by decide, h⟩, fun ⟨q, h, e⟩ => by rw [show q = 0 by omega] at e; exact e⟩
  · show dr_bt (dr_uf (dr_uf 0 (dr_dg w 0)) (dr_dg w 1)) a = true ↔ _
    rw [dr_b2 _ dr_dg7 _ dr_dg7 a ha, Bool.or_eq_true_iff, bq, bq]
    refine ⟨fun h => ?_, fun ⟨q, h, e⟩ => ?_⟩
    · rcases h with h | h
      · exact ⟨0, by decide, h⟩
      · exact ⟨1, by decide, h⟩
    · rcases (show q = 0 ∨ q = 1 by omega) with rfl | rfl
      · exact Or.inl e
      · exact Or.inr e
  · show dr_bt (dr_uf (dr_uf (dr_uf 0 (dr_dg w 0)) (dr_dg w 1)) (dr_dg w 2)) a = true ↔ _
    rw [dr_b3 _ dr_dg7 _ dr_dg7 _ dr_dg7 a ha, Bool.or_eq_true_iff, Bool.or_eq_true_iff, bq, bq, bq]
    refine ⟨fun h => ?_, fun ⟨q, h, e⟩ => ?_⟩
    · rcases h with h | h | h
      · exact ⟨0, by decide, h⟩
      · exact ⟨1, by decide, h⟩
      · exact ⟨2, by decide, h⟩
    · rcases (show q = 0 ∨ q = 1 ∨ q = 2 by omega) with rfl | rfl | rfl
      · exact Or.inl e
      · exact Or.inr (Or.inl e)
      · exact Or.inr (Or.inr e)
/-- the best of the draws and its skills, as both keep them -/
def dr_Q (f : Nat → Int) (l : List Nat) (b v : Int) : Prop := match dr_m f l with
  | none => b = -1
  | some w => b = (w : Int) ∧ v = f w
theorem dr_u_s {f : Nat → Int} {b : Option Nat} {w : Nat} : ∃ v, dr_u f b w = some v := by
  cases b with
  | none => exact ⟨w, rfl⟩
  | some v =>
    show ∃ u, (if f v < f w then some w else some v) = some u
    split
    · exact ⟨w, rfl⟩
    · exact ⟨v, rfl⟩
theorem dr_m_s {f : Nat → Int} {l : List Nat} (h : l ≠ []) : ∃ w, dr_m f l = some w := by
  obtain ⟨l', a, rfl⟩ : ∃ l' a, l = l' ++ [a] := ⟨l.dropLast, l.getLast h, (List.dropLast_concat_getLast h).symm⟩
  rw [dr_m_a]
  exact dr_u_s
theorem dr_Q_s {f : Nat → Int} {l : List Nat} {b v : Int} (h : dr_Q f l b v) (hl : l ≠ []) : ∃ w, dr_m f l = some w ∧ b = (w : Int) ∧ v = f w := by
  obtain ⟨w, e⟩ := dr_m_s (f := f) hl
  unfold dr_Q at h
  rw [e] at h
  exact ⟨w, e, h⟩
theorem dr_Q_a {f : Nat → Int} {l : List Nat} {b v b' v' : Int} {w : Nat} (h : dr_Q f l b v) (h1 : b < 0 ∨ v < f w → b' = (w : Int) ∧ v' = f w) (h2 : 0 ≤ b → f w ≤ v → b' = b ∧ v' = v) : dr_Q f (l ++ [w]) b' v' := by
  unfold dr_Q at h ⊢
  rw [dr_m_a]
  cases e : dr_m f l with
  | none =>
    rw [e] at h
    have h : b = -1 := h
    exact h1 (Or.inl (by omega))
  | some u =>
    rw [e] at h
    obtain ⟨a1, a2⟩ : b = (u : Int) ∧ v = f u := h
    show match (if f u < f w then some w else some u) with | none => b' = -1 | some w => b' = (w : Int) ∧ v' = f w
    by_cases c : f u < f w
    · rw [if_pos c]
      exact h1 (Or.inr (by omega))
    · rw [if_neg c]
      have g := h2 (by omega) (by omega)
      exact ⟨by omega, by omega⟩
theorem dr_L_ne {m : Nat} (h : m ≤ 6) : dr_L m 2401 ≠ [] := by
  rw [← dr_E h]
  intro e
  have g := congrArg List.length e
  unfold dl_L at g
  rw [List.length_map, List.length_range] at g
  have := (dr_sz h).1
  have g : dl_sz m = 0 := g
  omega
theorem dr_m_c {f g : Nat → Int} : ∀ (l : List Nat) (b : Option Nat), (∀ w, w ∈ l → f w = g w) → (∀ v, b = some v → f v = g v) → l.foldl (dr_u f) b = l.foldl (dr_u g) b := by
  intro l
  induction l with
  | nil => intro b _ _; rfl
  | cons w l ih =>
    intro b h hb
    have e : dr_u f b w = dr_u g b w := by
      cases b with
      | none => rfl
      | some v =>
        show (if f v < f w then some w else some v) = (if g v < g w then some w else some v)
        rw [hb v rfl, h w List.mem_cons_self]
    show l.foldl (dr_u f) (dr_u f b w) = l.foldl (dr_u g) (dr_u g b w)
    rw [← e]
    refine ih _ (fun w hw => h w (List.mem_cons_of_mem _ hw)) (fun v hv => ?_)
    cases b with
    | none =>
      cases hv
      exact h w List.mem_cons_self
    | some v0 =>
      have hv : (if f v0 < f w then some w else some v0) = some v := hv
      split at hv
      · cases hv
        exact h w List.mem_cons_self
      · cases hv
        exact hb v rfl
theorem dr_s_c {f g : Nat → Int} : ∀ (l : List Nat) (b : Int), (∀ w, w ∈ l → f w = g w) → l.foldl (fun s w => s + f w) b = l.foldl (fun s w => s + g w) b := by
  intro l
  induction l with
  | nil => intro b _; rfl
  | cons w l ih =>
    intro b h
    show l.foldl _ (b + f w) = l.foldl _ (b + g w)
    rw [h w List.mem_cons_self]
    exact ih _ (fun w hw => h w (List.mem_cons_of_mem _ hw))
