/-! THE ENGINE IS SOUND, 3: arithmetic -/
theorem en_d_nI {c : Nat} (h : 2147483648 ≤ c) : en_d c = nI (c - 2147483648) := by
  unfold en_d nI
  rw [show ((c : Int) - 2147483648) = ((c - 2147483648 : Nat) : Int) by omega]
  exact Int32.ofInt_eq_ofNat
theorem en_nI_d (n : Nat) : nI n = en_d (n + 2147483648) := by rw [en_d_nI (by omega), Nat.add_sub_cancel]
theorem en_nI_z {x : Int32} (h : 2147483648 ≤ en_z x) : x = nI (en_z x - 2147483648) := by rw [← en_d_nI h, en_d_z]
theorem en_z_nI {n : Nat} (h : n < 2147483648) : en_z (nI n) = n + 2147483648 := by rw [en_nI_d, en_z_d (by omega)]
theorem en_d_add (x y : Nat) : en_d x + en_d y = en_d ((x + y + 2147483648) % 4294967296) := by
  unfold en_d
  rw [← Int32.ofInt_add]
  apply en_ofInt_mod
  omega
theorem en_d_sub {x y : Nat} (h : y < 4294967296) : en_d x - en_d y = en_d ((x + 6442450944 - y) % 4294967296) := by
  unfold en_d
  rw [← Int32.ofInt_sub]
  apply en_ofInt_mod
  omega
theorem en_mod_aux (u : Int) (t : Nat) (h : u % 4294967296 = (t : Int) % 4294967296) : u % 4294967296 = ((((t + 2147483648) % 4294967296 : Nat) : Int) - 2147483648) % 4294967296 := by omega
theorem en_d_mul (x y : Nat) : en_d x * en_d y = en_d (((x + 2147483648) * (y + 2147483648) + 2147483648) % 4294967296) := by
  unfold en_d
  rw [← Int32.ofInt_mul]
  apply en_ofInt_mod
  have h1 : ((x : Int) - 2147483648) % 4294967296 = ((x + 2147483648 : Nat) : Int) % 4294967296 := by omega
  have h2 : ((y : Int) - 2147483648) % 4294967296 = ((y + 2147483648 : Nat) : Int) % 4294967296 := by omega
  have hm : (((x : Int) - 2147483648) * ((y : Int) - 2147483648)) % 4294967296 = (((x + 2147483648) * (y + 2147483648) : Nat) : Int) % 4294967296 := by rw [Int.natCast_mul, Int.mul_emod, h1, h2, ← Int.mul_emod]
  exact en_mod_aux _ _ hm
theorem en_z_add {X Y : Int32} (h1 : 2147483648 ≤ en_z X + en_z Y) (h2 : en_z X + en_z Y < 6442450944) : en_z (X + Y) = en_z X + en_z Y - 2147483648 := by
  have e : X + Y = en_d ((en_z X + en_z Y + 2147483648) % 4294967296) := by rw [← en_d_add, en_d_z, en_d_z]
  rw [e, en_z_d (by omega)]
  omega
theorem en_z_sub {X Y : Int32} (h1 : en_z Y ≤ en_z X + 2147483648) (h2 : en_z X + 2147483648 < en_z Y + 4294967296) : en_z (X - Y) = en_z X + 2147483648 - en_z Y := by
  have hy := en_z_lt Y
  have e : X - Y = en_d ((en_z X + 6442450944 - en_z Y) % 4294967296) := by rw [← en_d_sub hy, en_d_z, en_d_z]
  rw [e, en_z_d (by omega)]
  omega
theorem en_nI_and {a b : Nat} (ha : a < 4294967296) (hb : b < 4294967296) : nI a &&& nI b = nI (a &&& b) := by
  apply Int32.toBitVec_inj.mp
  show BitVec.ofNat 32 a &&& BitVec.ofNat 32 b = BitVec.ofNat 32 (a &&& b)
  apply BitVec.eq_of_toNat_eq
  have h : a &&& b ≤ a := Nat.and_le_left
  simp only [BitVec.toNat_and, BitVec.toNat_ofNat]
  rw [Nat.mod_eq_of_lt ha, Nat.mod_eq_of_lt hb, Nat.mod_eq_of_lt (by omega)]
theorem en_nI_or {a b : Nat} (ha : a < 4294967296) (hb : b < 4294967296) : nI a ||| nI b = nI (a ||| b) := by
  apply Int32.toBitVec_inj.mp
  show BitVec.ofNat 32 a ||| BitVec.ofNat 32 b = BitVec.ofNat 32 (a ||| b)
  apply BitVec.eq_of_toNat_eq
  have h : a ||| b < 2 ^ 32 := Nat.or_lt_two_pow ha hb
  simp only [BitVec.toNat_or, BitVec.toNat_ofNat]
  rw [Nat.mod_eq_of_lt ha, Nat.mod_eq_of_lt hb, Nat.mod_eq_of_lt h]
theorem en_and_any (X : Int32) {b : Nat} (hb : b < 2147483648) : ∃ j, j ≤ b ∧ X &&& nI b = nI j := by
  refine ⟨X.toBitVec.toNat &&& b, Nat.and_le_right, ?_⟩
  apply Int32.toBitVec_inj.mp
  show X.toBitVec &&& BitVec.ofNat 32 b = BitVec.ofNat 32 (X.toBitVec.toNat &&& b)
  apply BitVec.eq_of_toNat_eq
  have h : X.toBitVec.toNat &&& b ≤ b := Nat.and_le_right
  simp only [BitVec.toNat_and, BitVec.toNat_ofNat]
  rw [Nat.mod_eq_of_lt (by omega), Nat.mod_eq_of_lt (by omega)]
theorem en_sh31 : ∀ s, s < 32 → (nI s &&& 31) = nI s ∧ ((nI s).toBitVec.smod 32).toNat = s := by decide +kernel
section ENA
variable (E : mm_E) (ρ : Nat → Int32) (ω : Nat → Value)
/-- a rule of two ints is right -/
def en_G (g : en_W → Nat → Nat → (Nat → Bool) → Bool) (r : Int32 → Int32 → Option Int32) : Prop := ∀ (w : en_W) (x y : Nat) (k : Nat → Bool) (X Y : Int32), en_e ρ (en_ev w) → en_v E ρ ω x (.int X) → en_v E ρ ω y (.int Y) → g w x y k = true → ∃ Z, r X Y = some Z ∧ ∃ c, k c = true ∧ en_v E ρ ω c (.int Z)
variable {E ρ ω}
theorem en_mk_ex {k : Nat → Bool} {lo hi : Nat} {x : Int32} (h : k (en_mk lo hi) = true) (h1 : lo ≤ en_z x) (h2 : en_z x ≤ hi) (h3 : hi < 4294967296) : ∃ c, k c = true ∧ en_v E ρ ω c (.int x) := ⟨_, h, en_mk_v h1 h2 h3⟩
theorem en_addI_v {w : en_W} {x y : Nat} {k : Nat → Bool} {X Y : Int32} (he : en_e ρ (en_ev w)) (hx : en_v E ρ ω x (.int X)) (hy : en_v E ρ ω y (.int Y)) (h : en_addI w x y k = true) : ∃ c, k c = true ∧ en_v E ρ ω c (.int (X + Y)) := by
  unfold en_addI at h
  obtain ⟨a, b, g1, g2, g3, g4⟩ := en_iv_v he hx
  obtain ⟨c, d, f1, f2, f3, f4⟩ := en_iv_v he hy
  rw [g4, f4] at h
  rcases en_if_or.mp h with ⟨a1, h⟩ | ⟨-, h⟩
  · rcases en_if_or.mp h with ⟨a2, h⟩ | ⟨-, h⟩
    · have a1 : 2147483648 ≤ a + c := en_ble_t.mp a1
      have a2 : b + d ≤ 6442450943 := en_ble_t.mp a2
      have e := en_z_add (X := X) (Y := Y) (by omega) (by omega)
      have q1 : a + c - 2147483648 ≤ en_z (X + Y) := by omega
      have q2 : en_z (X + Y) ≤ b + d - 2147483648 := by omega
      have q3 : b + d - 2147483648 < 4294967296 := by omega
      exact en_mk_ex h q1 q2 q3
    · exact ⟨_, h, en_any_v _⟩
  · exact ⟨_, h, en_any_v _⟩
theorem en_addN_v {w : en_W} {x y : Nat} {k : Nat → Bool} {X Y : Int32} (he : en_e ρ (en_ev w)) (hx : en_v E ρ ω x (.int X)) (hy : en_v E ρ ω y (.int Y)) (q1 : 4294967296 ≤ x) (q2 : x < 8589934592) (q3 : y < 4294967296) (h : en_addN w x y k = true) : ∃ c, k c = true ∧ en_v E ρ ω c (.int (X + Y)) := by
  unfold en_addN at h
  rcases en_if_or.mp h with ⟨a1, h⟩ | ⟨-, h⟩
  · rcases en_if_or.mp h with ⟨a2, h⟩ | ⟨-, h⟩
    · have a1 : 2147483648 ≤ x % 65536 + y := en_ble_t.mp a1
      have a2 : x % 65536 + y ≤ 2147549183 := en_ble_t.mp a2
      refine ⟨_, h, ?_⟩
      have ex : X = ρ ((x - 4294967296) / 65536) + en_off x := by simpa using (en_v_name q1 q2).mp hx
      have ey : Y = en_d y := by simpa using (en_v_const q3).mp hy
      show en_v E ρ ω (x / 65536 * 65536 + (x % 65536 + y - 2147483648)) (.int (X + Y))
      rw [en_v_name (by omega) (by omega), ex, ey, Int32.add_assoc]
      rw [show (x / 65536 * 65536 + (x % 65536 + y - 2147483648) - 4294967296) / 65536 = (x - 4294967296) / 65536 by omega]
      have e9 : en_off x + en_d y = en_off (x / 65536 * 65536 + (x % 65536 + y - 2147483648)) := by
        unfold en_off en_d
        rw [← Int32.ofInt_add]
        exact congrArg Int32.ofInt (by omega)
      rw [e9]
    · exact en_addI_v he hx hy h
  · exact en_addI_v he hx hy h
theorem en_add_v {w : en_W} {x y : Nat} {k : Nat → Bool} {X Y : Int32} (he : en_e ρ (en_ev w)) (hx : en_v E ρ ω x (.int X)) (hy : en_v E ρ ω y (.int Y)) (h : en_add w x y k = true) : ∃ c, k c = true ∧ en_v E ρ ω c (.int (X + Y)) := by
  unfold en_add at h
  rcases en_if_or.mp h with ⟨a1, h⟩ | ⟨a1, h⟩
  · have a1 := en_ble_t.mp a1
    rcases en_if_or.mp h with ⟨a2, h⟩ | ⟨a2, h⟩
    · have a2 := en_ble_t.mp a2
      have ex : X = en_d x := by simpa using (en_v_const (by omega)).mp hx
      have ey : Y = en_d y := by simpa using (en_v_const (by omega)).mp hy
      refine ⟨_, h, ?_⟩
      show en_v E ρ ω ((x + y + 2147483648) % 4294967296) _
      rw [en_v_const (by omega), ex, ey, en_d_add]
    · have a2 := en_ble_f.mp a2
      rcases en_if_or.mp h with ⟨a3, h⟩ | ⟨a3, h⟩
      · have a3 := en_ble_t.mp a3
        exact en_addN_v he hx hy (by omega) (by omega) (by omega) h
      · exact en_addI_v he hx hy h
  · have a1 := en_ble_f.mp a1
    rcases en_if_or.mp h with ⟨a2, h⟩ | ⟨a2, h⟩
    · have a2 := en_ble_t.mp a2
      rcases en_if_or.mp h with ⟨a3, h⟩ | ⟨a3, h⟩
      · have a3 := en_ble_t.mp a3
        rw [Int32.add_comm]
        exact en_addN_v he hy hx (by omega) (by omega) (by omega) h
      · exact en_addI_v he hx hy h
    · exact en_addI_v he hx hy h
theorem en_add_G : en_G E ρ ω en_add (fun x y => some (x + y)) := fun _ _ _ _ _ _ he hx hy h => ⟨_, rfl, en_add_v he hx hy h⟩
theorem en_subI_v {w : en_W} {x y : Nat} {k : Nat → Bool} {X Y : Int32} (he : en_e ρ (en_ev w)) (hx : en_v E ρ ω x (.int X)) (hy : en_v E ρ ω y (.int Y)) (h : en_subI w x y k = true) : ∃ c, k c = true ∧ en_v E ρ ω c (.int (X - Y)) := by
  unfold en_subI at h
  obtain ⟨a, b, g1, g2, g3, g4⟩ := en_iv_v he hx
  obtain ⟨c, d, f1, f2, f3, f4⟩ := en_iv_v he hy
  rw [g4, f4] at h
  rcases en_if_or.mp h with ⟨a1, h⟩ | ⟨-, h⟩
  · rcases en_if_or.mp h with ⟨a2, h⟩ | ⟨-, h⟩
    · have a1 : d ≤ a + 2147483648 := en_ble_t.mp a1
      have a2 : b + 2147483648 ≤ c + 4294967295 := en_ble_t.mp a2
      have e := en_z_sub (X := X) (Y := Y) (by omega) (by omega)
      exact ⟨_, h, en_mk_v (by show a + 2147483648 - d ≤ _; omega) (by show _ ≤ b + 2147483648 - c; omega) (by show b + 2147483648 - c < _; omega)⟩
    · exact ⟨_, h, en_any_v _⟩
  · exact ⟨_, h, en_any_v _⟩
theorem en_sub_G : en_G E ρ ω en_sub (fun x y => some (x - y)) := by
  intro w x y k X Y he hx hy h
  refine ⟨_, rfl, ?_⟩
  unfold en_sub at h
  rcases en_if_or.mp h with ⟨a1, h⟩ | ⟨a1, h⟩
  · have a1 := en_ble_t.mp a1
    rcases en_if_or.mp h with ⟨a2, h⟩ | ⟨a2, h⟩
    · have a2 := en_ble_t.mp a2
      have ex : X = en_d x := by simpa using (en_v_const (by omega)).mp hx
      have ey : Y = en_d y := by simpa using (en_v_const (by omega)).mp hy
      refine ⟨_, h, ?_⟩
      show en_v E ρ ω ((x + 6442450944 - y) % 4294967296) _
      rw [en_v_const (by omega), ex, ey, en_d_sub (by omega)]
    · have a2 := en_ble_f.mp a2
      rcases en_if_or.mp h with ⟨a3, h⟩ | ⟨a3, h⟩
      · have a3 := en_ble_t.mp a3
        rcases en_if_or.mp h with ⟨a4, h⟩ | ⟨-, h⟩
        · rcases en_if_or.mp h with ⟨a5, h⟩ | ⟨-, h⟩
          · have a4 : y ≤ x % 65536 + 2147483648 := en_ble_t.mp a4
            have a5 : x % 65536 + 2147483648 ≤ y + 65535 := en_ble_t.mp a5
            refine ⟨_, h, ?_⟩
            have ex : X = ρ ((x - 4294967296) / 65536) + en_off x := by simpa using (en_v_name (by omega) (by omega)).mp hx
            have ey : Y = en_d y := by simpa using (en_v_const (by omega)).mp hy
            show en_v E ρ ω (x / 65536 * 65536 + (x % 65536 + 2147483648 - y)) (.int (X - Y))
            rw [en_v_name (by omega) (by omega), ex, ey]
            rw [show (x / 65536 * 65536 + (x % 65536 + 2147483648 - y) - 4294967296) / 65536 = (x - 4294967296) / 65536 by omega]
            have e9 : en_off x - en_d y = en_off (x / 65536 * 65536 + (x % 65536 + 2147483648 - y)) := by
              unfold en_off en_d
              rw [← Int32.ofInt_sub]
              exact congrArg Int32.ofInt (by omega)
            rw [← e9, Int32.sub_eq_add_neg, Int32.add_assoc, ← Int32.sub_eq_add_neg]
          · exact en_subI_v he hx hy h
        · exact en_subI_v he hx hy h
      · exact en_subI_v he hx hy h
  · exact en_subI_v he hx hy h
theorem en_mul_G : en_G E ρ ω en_mul (fun x y => some (x * y)) := by
  intro w x y k X Y he hx hy h
  refine ⟨_, rfl, ?_⟩
  unfold en_mul at h
  rcases en_if_or.mp h with ⟨a1, h⟩ | ⟨a1, h⟩
  · have a1 := en_ble_t.mp a1
    rcases en_if_or.mp h with ⟨a2, h⟩ | ⟨a2, h⟩
    · have a2 := en_ble_t.mp a2
      have ex : X = en_d x := by simpa using (en_v_const (by omega)).mp hx
      have ey : Y = en_d y := by simpa using (en_v_const (by omega)).mp hy
      refine ⟨_, h, ?_⟩
      show en_v E ρ ω (((x + 2147483648) * (y + 2147483648) + 2147483648) % 4294967296) _
      rw [en_v_const (Nat.mod_lt _ (by decide)), ex, ey, en_d_mul]
    · exact ⟨_, h, en_any_v _⟩
  · exact ⟨_, h, en_any_v _⟩
theorem en_div_G : en_G E ρ ω en_div (fun x y => if y = 0 then none else some (x / y)) := by
  intro w x y k X Y he hx hy h
  unfold en_div at h
  obtain ⟨a1, h⟩ := en_if_and.mp h
  obtain ⟨a2, h⟩ := en_if_and.mp h
  have a1 := en_ble_t.mp a1
  have a2 := en_ble_t.mp a2
  have ey : Y = en_d y := by simpa using (en_v_const (by omega)).mp hy
  obtain ⟨a, b, g1, g2, g3, g4⟩ := en_iv_v he hx
  rw [g4] at h
  obtain ⟨a3, h⟩ := en_if_and.mp h
  have a3 := en_ble_t.mp a3
  have hX := en_z_lt X
  have eX := en_nI_z (x := X) (by omega)
  have eY : Y = nI (y - 2147483648) := by rw [ey, en_d_nI (by omega)]
  have hne : ¬ Y = 0 := by rw [eY]; exact nI_ne0 (by omega) (by omega)
  refine ⟨X / Y, if_neg hne, _, h, ?_⟩
  have ed : X / Y = nI ((en_z X - 2147483648) / (y - 2147483648)) := by
    rw [eY]
    conv => lhs; rw [eX]
    exact pk_div (by omega) (by omega) (by omega)
  have hle : (en_z X - 2147483648) / (y - 2147483648) ≤ en_z X - 2147483648 := Nat.div_le_self _ _
  have h1 : (a - 2147483648) / (y - 2147483648) ≤ (en_z X - 2147483648) / (y - 2147483648) := Nat.div_le_div_right (by omega)
  have h2 : (en_z X - 2147483648) / (y - 2147483648) ≤ (b - 2147483648) / (y - 2147483648) := Nat.div_le_div_right (by omega)
  have h3 : (b - 2147483648) / (y - 2147483648) ≤ b - 2147483648 := Nat.div_le_self _ _
  have ez := en_z_nI (n := (en_z X - 2147483648) / (y - 2147483648)) (by omega)
  rw [← ed] at ez
  refine en_mk_v ?_ ?_ ?_
  · show (a - 2147483648) / (y - 2147483648) + 2147483648 ≤ _; omega
  · show _ ≤ (b - 2147483648) / (y - 2147483648) + 2147483648; omega
  · show (b - 2147483648) / (y - 2147483648) + 2147483648 < _; omega
theorem en_rem_G : en_G E ρ ω en_rem (fun x y => if y = 0 then none else some (x - x / y * y)) := by
  intro w x y k X Y he hx hy h
  unfold en_rem at h
  obtain ⟨a1, h⟩ := en_if_and.mp h
  obtain ⟨a2, h⟩ := en_if_and.mp h
  have a1 := en_ble_t.mp a1
  have a2 := en_ble_t.mp a2
  have ey : Y = en_d y := by simpa using (en_v_const (by omega)).mp hy
  obtain ⟨a, b, g1, g2, g3, g4⟩ := en_iv_v he hx
  rw [g4] at h
  obtain ⟨a3, h⟩ := en_if_and.mp h
  have a3 := en_ble_t.mp a3
  have hX := en_z_lt X
  have eX := en_nI_z (x := X) (by omega)
  have eY : Y = nI (y - 2147483648) := by rw [ey, en_d_nI (by omega)]
  have hne : ¬ Y = 0 := by rw [eY]; exact nI_ne0 (by omega) (by omega)
  have ed : X - X / Y * Y = nI ((en_z X - 2147483648) % (y - 2147483648)) := by
    rw [eY]
    conv => lhs; rw [eX]
    exact pk_rem (by omega) (by omega) (by omega)
  have hlt : (en_z X - 2147483648) % (y - 2147483648) < y - 2147483648 := Nat.mod_lt _ (by omega)
  have ez := en_z_nI (n := (en_z X - 2147483648) % (y - 2147483648)) (by omega)
  rw [← ed] at ez
  refine ⟨_, if_neg hne, ?_⟩
  rcases en_if_or.mp h with ⟨a4, h⟩ | ⟨-, h⟩
  · have a4 : (a - 2147483648) / (y - 2147483648) = (b - 2147483648) / (y - 2147483648) := en_beq_t.mp a4
    refine ⟨_, h, ?_⟩
    have h1 : (a - 2147483648) / (y - 2147483648) ≤ (en_z X - 2147483648) / (y - 2147483648) := Nat.div_le_div_right (by omega)
    have h2 : (en_z X - 2147483648) / (y - 2147483648) ≤ (b - 2147483648) / (y - 2147483648) := Nat.div_le_div_right (by omega)
    have e1 : (a - 2147483648) / (y - 2147483648) = (en_z X - 2147483648) / (y - 2147483648) := Nat.le_antisymm h1 (by rw [a4]; exact h2)
    have e2 : (b - 2147483648) / (y - 2147483648) = (en_z X - 2147483648) / (y - 2147483648) := by rw [← a4]; exact e1
    have m1 := Nat.div_add_mod (a - 2147483648) (y - 2147483648)
    have m2 := Nat.div_add_mod (b - 2147483648) (y - 2147483648)
    have m3 := Nat.div_add_mod (en_z X - 2147483648) (y - 2147483648)
    have hb : (b - 2147483648) % (y - 2147483648) < y - 2147483648 := Nat.mod_lt _ (by omega)
    rw [e1] at m1
    rw [e2] at m2
    refine en_mk_v ?_ ?_ ?_
    · show (a - 2147483648) % (y - 2147483648) + 2147483648 ≤ _; omega
    · show _ ≤ (b - 2147483648) % (y - 2147483648) + 2147483648; omega
    · show (b - 2147483648) % (y - 2147483648) + 2147483648 < _; omega
  · refine ⟨_, h, en_mk_v ?_ ?_ ?_⟩
    · omega
    · show _ ≤ y - 1; omega
    · show y - 1 < _; omega
theorem en_mulX_G : en_G E ρ ω en_mulX (fun x y => some (x * y)) := by
  intro w x y k X Y he hx hy h
  unfold en_mulX at h
  obtain ⟨a, b, g1, g2, g3, g4⟩ := en_iv_v he hx
  obtain ⟨c, d, f1, f2, f3, f4⟩ := en_iv_v he hy
  rw [g4, f4] at h
  rcases en_if_or.mp h with ⟨a1, h⟩ | ⟨-, h⟩
  · rcases en_if_or.mp h with ⟨a2, h⟩ | ⟨-, h⟩
    · rcases en_if_or.mp h with ⟨a3, h⟩ | ⟨-, h⟩
      · have a1 := en_ble_t.mp a1
        have a2 := en_ble_t.mp a2
        have a3 : (b - 2147483648) * (d - 2147483648) ≤ 2147483647 := en_ble_t.mp a3
        have eX := en_nI_z (x := X) (by omega)
        have eY := en_nI_z (x := Y) (by omega)
        have m1 : (a - 2147483648) * (c - 2147483648) ≤ (en_z X - 2147483648) * (en_z Y - 2147483648) := Nat.mul_le_mul (by omega) (by omega)
        have m2 : (en_z X - 2147483648) * (en_z Y - 2147483648) ≤ (b - 2147483648) * (d - 2147483648) := Nat.mul_le_mul (by omega) (by omega)
        have ed : X * Y = nI ((en_z X - 2147483648) * (en_z Y - 2147483648)) := by
          conv => lhs; rw [eX, eY]
          exact pk_mul _ _
        have ez := en_z_nI (n := (en_z X - 2147483648) * (en_z Y - 2147483648)) (by omega)
        rw [← ed] at ez
        refine ⟨X * Y, rfl, en_mk_ex h ?_ ?_ ?_⟩
        · show 2147483648 + (a - 2147483648) * (c - 2147483648) ≤ _; omega
        · show _ ≤ 2147483648 + (b - 2147483648) * (d - 2147483648); omega
        · show 2147483648 + (b - 2147483648) * (d - 2147483648) < _; omega
      · exact en_mul_G w x y k X Y he hx hy h
    · exact en_mul_G w x y k X Y he hx hy h
  · exact en_mul_G w x y k X Y he hx hy h
theorem en_z_zero : en_z 0 = 2147483648 := by decide
theorem en_divX_G : en_G E ρ ω en_divX (fun x y => if y = 0 then none else some (x / y)) := by
  intro w x y k X Y he hx hy h
  unfold en_divX at h
  obtain ⟨c, d, f1, f2, f3, f4⟩ := en_iv_v he hy
  rw [f4] at h
  have ne : (2147483649 ≤ c ∨ d < 2147483648) → ¬ Y = 0 := fun hh e => by
    rw [e, en_z_zero] at f1 f2
    omega
  rcases en_if_or.mp h with ⟨a1, h⟩ | ⟨-, h⟩
  · have a1 := en_ble_t.mp a1
    obtain ⟨a, b, g1, g2, g3, g4⟩ := en_iv_v he hx
    rw [g4] at h
    rcases en_if_or.mp h with ⟨a2, h⟩ | ⟨-, h⟩
    · have a2 := en_ble_t.mp a2
      have eX := en_nI_z (x := X) (by omega)
      have eY := en_nI_z (x := Y) (by omega)
      have hXl := en_z_lt X
      have hYl := en_z_lt Y
      have ed : X / Y = nI ((en_z X - 2147483648) / (en_z Y - 2147483648)) := by
        conv => lhs; rw [eX, eY]
        exact pk_div (by omega) (by omega) (by omega)
      have m1 : (a - 2147483648) / (d - 2147483648) ≤ (en_z X - 2147483648) / (en_z Y - 2147483648) := Nat.div_le_div (by omega) (by omega) (by omega)
      have m2 : (en_z X - 2147483648) / (en_z Y - 2147483648) ≤ (b - 2147483648) / (c - 2147483648) := Nat.div_le_div (by omega) (by omega) (by omega)
      have m3 : (b - 2147483648) / (c - 2147483648) ≤ b - 2147483648 := Nat.div_le_self _ _
      have m4 : (en_z X - 2147483648) / (en_z Y - 2147483648) ≤ en_z X - 2147483648 := Nat.div_le_self _ _
      have ez := en_z_nI (n := (en_z X - 2147483648) / (en_z Y - 2147483648)) (by omega)
      rw [← ed] at ez
      refine ⟨X / Y, if_neg (ne (Or.inl a1)), _, h, en_mk_v ?_ ?_ ?_⟩
      · show 2147483648 + (a - 2147483648) / (d - 2147483648) ≤ _; omega
      · show _ ≤ 2147483648 + (b - 2147483648) / (c - 2147483648); omega
      · show 2147483648 + (b - 2147483648) / (c - 2147483648) < _; omega
    · exact ⟨_, if_neg (ne (Or.inl a1)), _, h, en_any_v _⟩
  · obtain ⟨a1, h⟩ := en_if_and.mp h
    exact ⟨_, if_neg (ne (Or.inr (en_ble_t.mp a1))), _, h, en_any_v _⟩
theorem en_remX_G : en_G E ρ ω en_remX (fun x y => if y = 0 then none else some (x - x / y * y)) := by
  intro w x y k X Y he hx hy h
  unfold en_remX at h
  obtain ⟨c, d, f1, f2, f3, f4⟩ := en_iv_v he hy
  rw [f4] at h
  have ne : (2147483649 ≤ c ∨ d < 2147483648) → ¬ Y = 0 := fun hh e => by
    rw [e, en_z_zero] at f1 f2
    omega
  rcases en_if_or.mp h with ⟨a1, h⟩ | ⟨-, h⟩
  · have a1 := en_ble_t.mp a1
    obtain ⟨a, b, g1, g2, g3, g4⟩ := en_iv_v he hx
    rw [g4] at h
    rcases en_if_or.mp h with ⟨a2, h⟩ | ⟨-, h⟩
    · have a2 := en_ble_t.mp a2
      rcases en_if_or.mp h with ⟨-, h⟩ | ⟨-, h⟩
      · exact en_rem_G w x y k X Y he hx hy h
      · have eX := en_nI_z (x := X) (by omega)
        have eY := en_nI_z (x := Y) (by omega)
        have hXl := en_z_lt X
        have hYl := en_z_lt Y
        have ed : X - X / Y * Y = nI ((en_z X - 2147483648) % (en_z Y - 2147483648)) := by
          conv => lhs; rw [eX, eY]
          exact pk_rem (by omega) (by omega) (by omega)
        have m1 : (en_z X - 2147483648) % (en_z Y - 2147483648) < en_z Y - 2147483648 := Nat.mod_lt _ (by omega)
        have m2 : (en_z X - 2147483648) % (en_z Y - 2147483648) ≤ en_z X - 2147483648 := Nat.mod_le _ _
        have ez := en_z_nI (n := (en_z X - 2147483648) % (en_z Y - 2147483648)) (by omega)
        rw [← ed] at ez
        refine ⟨_, if_neg (ne (Or.inl a1)), ?_⟩
        rcases en_if_or.mp h with ⟨-, h⟩ | ⟨-, h⟩
        · exact ⟨_, h, en_mk_v (by omega) (by omega) (by omega)⟩
        · refine ⟨_, h, en_mk_v (by omega) ?_ ?_⟩
          · show _ ≤ d - 1; omega
          · show d - 1 < _; omega
    · exact ⟨_, if_neg (ne (Or.inl a1)), _, h, en_any_v _⟩
  · obtain ⟨a1, h⟩ := en_if_and.mp h
    exact ⟨_, if_neg (ne (Or.inr (en_ble_t.mp a1))), _, h, en_any_v _⟩
theorem en_pos_v {f : Nat → Nat → Nat} {r : Int32 → Int32 → Int32} (hf : ∀ a b, a < 2147483648 → b < 2147483648 → f a b < 2147483648 → r (nI a) (nI b) = nI (f a b)) {x y : Nat} {k : Nat → Bool} {X Y : Int32} (hx : en_v E ρ ω x (.int X)) (hy : en_v E ρ ω y (.int Y)) (h : en_pos f x y k = true) : ∃ c, k c = true ∧ en_v E ρ ω c (.int (r X Y)) := by
  unfold en_pos at h
  rcases en_if_or.mp h with ⟨a1, h⟩ | ⟨-, h⟩
  · rcases en_if_or.mp h with ⟨a2, h⟩ | ⟨-, h⟩
    · rcases en_if_or.mp h with ⟨a3, h⟩ | ⟨-, h⟩
      · rcases en_if_or.mp h with ⟨a4, h⟩ | ⟨-, h⟩
        · rcases en_if_or.mp h with ⟨a5, h⟩ | ⟨-, h⟩
          · have a1 := en_ble_t.mp a1
            have a2 := en_ble_t.mp a2
            have a3 := en_ble_t.mp a3
            have a4 := en_ble_t.mp a4
            have a5 : f (x - 2147483648) (y - 2147483648) ≤ 2147483647 := en_ble_t.mp a5
            have ex : X = nI (x - 2147483648) := by rw [← en_d_nI a3]; simpa using (en_v_const (by omega)).mp hx
            have ey : Y = nI (y - 2147483648) := by rw [← en_d_nI a4]; simpa using (en_v_const (by omega)).mp hy
            refine ⟨_, h, ?_⟩
            show en_v E ρ ω (f (x - 2147483648) (y - 2147483648) + 2147483648) _
            rw [en_v_const (by omega), ex, ey, hf _ _ (by omega) (by omega) (by omega), en_nI_d]
          · exact ⟨_, h, en_any_v _⟩
        · exact ⟨_, h, en_any_v _⟩
      · exact ⟨_, h, en_any_v _⟩
    · exact ⟨_, h, en_any_v _⟩
  · exact ⟨_, h, en_any_v _⟩
theorem en_and_G : en_G E ρ ω en_and (fun x y => some (x &&& y)) := by
  intro w x y k X Y he hx hy h
  refine ⟨_, rfl, ?_⟩
  unfold en_and at h
  rcases en_if_or.mp h with ⟨a1, h⟩ | ⟨-, h⟩
  · exact en_pos_v (r := fun x y => x &&& y) (fun a b ha hb _ => en_nI_and (by omega) (by omega)) hx hy h
  · rcases en_if_or.mp h with ⟨a1, h⟩ | ⟨-, h⟩
    · rcases en_if_or.mp h with ⟨a2, h⟩ | ⟨-, h⟩
      · have a1 := en_ble_t.mp a1
        have a2 := en_ble_t.mp a2
        have ey : Y = nI (y - 2147483648) := by rw [← en_d_nI a2]; simpa using (en_v_const (by omega)).mp hy
        obtain ⟨j, hj, ej⟩ := en_and_any X (b := y - 2147483648) (by omega)
        rw [← ey] at ej
        have ez := en_z_nI (n := j) (by omega)
        rw [← ej] at ez
        exact ⟨_, h, en_mk_v (by omega) (by omega) (by omega)⟩
      · exact ⟨_, h, en_any_v _⟩
    · exact ⟨_, h, en_any_v _⟩
theorem en_or_G : en_G E ρ ω en_or (fun x y => some (x ||| y)) := by
  intro w x y k X Y he hx hy h
  exact ⟨_, rfl, en_pos_v (r := fun x y => x ||| y) (fun a b ha hb _ => en_nI_or (by omega) (by omega)) hx hy h⟩
theorem en_shl_G : en_G E ρ ω en_shl (fun x y => some (x <<< (y &&& 31))) := by
  intro w x y k X Y he hx hy h
  refine ⟨_, rfl, ?_⟩
  unfold en_shl at h
  rcases en_if_or.mp h with ⟨a1, h⟩ | ⟨-, h⟩
  · have a1 := en_ble_t.mp a1
    by_cases hyB : 2147483648 ≤ y
    · refine en_pos_v (f := fun x y => if y < 32 then Nat.shiftLeft x y else 2147483648) (r := fun x y => x <<< (y &&& 31)) (fun a b ha hb hf => ?_) hx hy ?_
      · by_cases hb2 : b < 32
        · simp only [hb2, if_true] at hf ⊢
          obtain ⟨e1, e2⟩ := en_sh31 b hb2
          have e3 : Nat.shiftLeft a b = a * 2 ^ b := Nat.shiftLeft_eq a b
          rw [e3] at hf ⊢
          rw [e1]
          exact pk_shlN _ b e2 (by omega)
        · simp only [hb2, if_false] at hf
          exact absurd hf (by decide)
      · unfold en_pos at h ⊢
        have e : Nat.sub y 2147483648 < 32 := by show y - 2147483648 < 32; omega
        simp only [e, if_true]
        exact h
    · unfold en_pos at h
      rw [en_ble_t.mpr (show y ≤ 4294967295 by omega), en_if_t, en_ble_f.mpr (show y < 2147483648 by omega)] at h
      simp only [en_if_f] at h
      rcases en_if_or.mp h with ⟨-, h⟩ | ⟨-, h⟩
      · rcases en_if_or.mp h with ⟨-, h⟩ | ⟨-, h⟩ <;> exact ⟨_, h, en_any_v _⟩
      · exact ⟨_, h, en_any_v _⟩
  · exact ⟨_, h, en_any_v _⟩
theorem en_shr_G : en_G E ρ ω en_shr (fun x y => some (x >>> (y &&& 31))) := by
  intro w x y k X Y he hx hy h
  refine ⟨_, rfl, ?_⟩
  unfold en_shr at h
  rcases en_if_or.mp h with ⟨a1, h⟩ | ⟨-, h⟩
  · have a1 := en_ble_t.mp a1
    by_cases hyB : 2147483648 ≤ y
    · refine en_pos_v (f := fun x y => if y < 32 then Nat.shiftRight x y else 2147483648) (r := fun x y => x >>> (y &&& 31)) (fun a b ha hb hf => ?_) hx hy ?_
      · by_cases hb2 : b < 32
        · simp only [hb2, if_true] at hf ⊢
          obtain ⟨e1, e2⟩ := en_sh31 b hb2
          have e3 : Nat.shiftRight a b = a / 2 ^ b := Nat.shiftRight_eq_div_pow a b
          rw [e3, e1]
          exact pk_shrN (by omega) _ b e2
        · simp only [hb2, if_false] at hf
          exact absurd hf (by decide)
      · unfold en_pos at h ⊢
        have e : Nat.sub y 2147483648 < 32 := by show y - 2147483648 < 32; omega
        simp only [e, if_true]
        exact h
    · unfold en_pos at h
      rw [en_ble_t.mpr (show y ≤ 4294967295 by omega), en_if_t, en_ble_f.mpr (show y < 2147483648 by omega)] at h
      simp only [en_if_f] at h
      rcases en_if_or.mp h with ⟨-, h⟩ | ⟨-, h⟩
      · rcases en_if_or.mp h with ⟨-, h⟩ | ⟨-, h⟩ <;> exact ⟨_, h, en_any_v _⟩
      · exact ⟨_, h, en_any_v _⟩
  · exact ⟨_, h, en_any_v _⟩
theorem en_d_bv {c : Nat} : (en_d c).toBitVec.toNat = (c + 2147483648) % 4294967296 := by
  show (BitVec.ofInt 32 ((c : Int) - 2147483648)).toNat = _
  rw [BitVec.toNat_ofInt]
  have e : (((2 : Nat) ^ 32 : Nat) : Int) = 4294967296 := by decide
  rw [e]
  omega
theorem en_d_and (x y : Nat) : en_d x &&& en_d y = en_d ((2147483648 + ((2147483648 + x) % 4294967296 &&& (2147483648 + y) % 4294967296)) % 4294967296) := by
  apply Int32.toBitVec_inj.mp
  apply BitVec.eq_of_toNat_eq
  rw [Int32.toBitVec_and, BitVec.toNat_and, en_d_bv, en_d_bv, en_d_bv]
  rw [Nat.add_comm x, Nat.add_comm y]
  have h : (2147483648 + x) % 4294967296 &&& (2147483648 + y) % 4294967296 < 2 ^ 32 := Nat.and_lt_two_pow _ (Nat.mod_lt _ (by decide))
  have e : (2 : Nat) ^ 32 = 4294967296 := by decide
  rw [e] at h
  generalize (2147483648 + x) % 4294967296 &&& (2147483648 + y) % 4294967296 = t at h
  omega
theorem en_cst_v {t : Nat} (h : t < 4294967296) : en_v E ρ ω t (.int (en_d t)) := (en_v_const h).mpr rfl
theorem en_andX_G : en_G E ρ ω en_andX (fun x y => some (x &&& y)) := by
  intro w x y k X Y he hx hy h
  have hold := en_and_G (E := E) (ρ := ρ) (ω := ω) w x y k X Y he hx hy
  unfold en_andX at h
  rcases en_if_or.mp h with ⟨a1, h⟩ | ⟨-, h⟩
  · rcases en_if_or.mp h with ⟨a2, h⟩ | ⟨-, h⟩
    · have a1 := en_ble_t.mp a1
      have a2 := en_ble_t.mp a2
      have ex : X = en_d x := by simpa using (en_v_const (by omega)).mp hx
      have ey : Y = en_d y := by simpa using (en_v_const (by omega)).mp hy
      refine ⟨_, rfl, _, h, ?_⟩
      rw [ex, ey, en_d_and]
      exact en_cst_v (Nat.mod_lt (2147483648 + ((2147483648 + x) % 4294967296 &&& (2147483648 + y) % 4294967296)) (by decide))
    · exact hold h
  · exact hold h
theorem en_xor_G : en_G E ρ ω en_xor (fun x y => some (x ^^^ y)) := by
  intro w x y k X Y he hx hy h
  unfold en_xor at h
  rcases en_if_or.mp h with ⟨a1, h⟩ | ⟨-, h⟩
  · rcases en_if_or.mp h with ⟨a2, h9⟩ | ⟨-, h⟩
    · have a1 := en_beq_t.mp a1
      have a2 := en_ble_t.mp a2
      have ex : X = en_d x := by simpa using (en_v_const (by omega)).mp hx
      have ey : Y = en_d 2147483647 := by rw [a1] at hy; simpa using (en_v_const (by decide)).mp hy
      refine ⟨_, rfl, _, h9, ?_⟩
      have e : X ^^^ Y = en_d (4294967295 - x) := by
        rw [ex, ey]
        apply Int32.toBitVec_inj.mp
        apply BitVec.eq_of_toNat_eq
        have e1 : (en_d 2147483647).toBitVec = BitVec.allOnes 32 := by decide
        rw [Int32.toBitVec_xor, e1, BitVec.xor_allOnes, BitVec.toNat_not, en_d_bv, en_d_bv]
        have e2 : (2 : Nat) ^ 32 = 4294967296 := by decide
        rw [e2]
        omega
      rw [e]
      exact en_cst_v (Nat.lt_of_le_of_lt (Nat.sub_le 4294967295 x) (by decide))
    · exact ⟨_, rfl, _, h, en_any_v _⟩
  · exact ⟨_, rfl, _, h, en_any_v _⟩
theorem en_ushr_G : en_G E ρ ω en_ushr (fun x y => some (x.toUInt32 >>> (y.toUInt32 &&& Int32.toUInt32 31)).toInt32) := by
  intro w x y k X Y he hx hy h
  refine ⟨_, rfl, ?_⟩
  unfold en_ushr at h
  rcases en_if_or.mp h with ⟨a1, h⟩ | ⟨-, h⟩
  · rcases en_if_or.mp h with ⟨a2, h⟩ | ⟨-, h⟩
    · have a1 := en_ble_t.mp a1
      have a2 := en_ble_t.mp a2
      have ey : Y = en_d y := by simpa using (en_v_const (by omega)).mp hy
      have e1 : Y.toUInt32.toNat = y - 2147483648 := by
        show Y.toBitVec.toNat = _
        rw [ey, en_d_bv]
        omega
      have e2 : (Y.toUInt32 &&& Int32.toUInt32 31).toNat = y - 2147483648 := by
        rw [UInt32.toNat_and, e1]
        show (y - 2147483648) &&& (2 ^ 5 - 1) = _
        rw [Nat.and_two_pow_sub_one_eq_mod]
        have e3 : (2 : Nat) ^ 5 = 32 := by decide
        rw [e3]
        omega
      have h3 : (X.toUInt32 >>> (Y.toUInt32 &&& Int32.toUInt32 31)).toNat < 2147483648 := by
        rw [UInt32.toNat_shiftRight, e2, Nat.mod_eq_of_lt (by omega), Nat.shiftRight_eq_div_pow]
        have h4 : X.toUInt32.toNat < 4294967296 := X.toUInt32.toBitVec.isLt
        have h5 : 2 ^ 1 ≤ 2 ^ (y - 2147483648) := Nat.pow_le_pow_right (by decide) (by omega)
        have h6 : X.toUInt32.toNat / 2 ^ (y - 2147483648) ≤ X.toUInt32.toNat / 2 ^ 1 := Nat.div_le_div_left h5 (by decide)
        omega
      have h7 : ((X.toUInt32 >>> (Y.toUInt32 &&& Int32.toUInt32 31)).toInt32).toInt = ((X.toUInt32 >>> (Y.toUInt32 &&& Int32.toUInt32 31)).toNat : Int) := by
        show ((X.toUInt32 >>> (Y.toUInt32 &&& Int32.toUInt32 31)).toBitVec).toInt = _
        rw [BitVec.toInt_eq_toNat_cond]
        have e : (X.toUInt32 >>> (Y.toUInt32 &&& Int32.toUInt32 31)).toBitVec.toNat = (X.toUInt32 >>> (Y.toUInt32 &&& Int32.toUInt32 31)).toNat := rfl
        rw [e, if_pos (by omega)]
      have hz := en_z_int (X.toUInt32 >>> (Y.toUInt32 &&& Int32.toUInt32 31)).toInt32
      exact en_mk_ex h (by omega) (by omega) (by decide)
    · exact ⟨_, h, en_any_v _⟩
  · exact ⟨_, h, en_any_v _⟩
theorem en_any_G {r : Int32 → Int32 → Int32} : en_G E ρ ω (fun _ _ _ k => k 73786976299133173759) (fun x y => some (r x y)) := fun _ _ _ _ _ _ _ _ _ h => ⟨_, rfl, _, h, en_any_v _⟩
end ENA
section SFV
variable {E : mm_E} {ω : Nat → Value}
theorem sf_nl_v {c : Nat} {v : Value} {ρ : Nat → Int32} (ρ' : Nat → Int32) (h : sf_nl c = true) (hv : en_v E ρ ω c v) : en_v E ρ' ω c v := by
  have h1 : c < 4294967296 ∨ 8589934592 ≤ c := by
    rcases en_if_or.mp h with ⟨h, -⟩ | ⟨-, h⟩
    · exact Or.inl (Nat.lt_of_le_of_lt (en_ble_t.mp h) (by decide))
    · exact Or.inr (en_ble_t.mp h)
  unfold en_v at hv ⊢
  rcases h1 with h1 | h1
  · rw [if_pos h1] at hv ⊢; exact hv
  · rw [if_neg (by omega), if_neg (by omega)] at hv ⊢; exact hv
theorem sf_sub_v {w : en_W} {c c2 : Nat} {v : Value} {ρ : Nat → Int32} (ρ' : Nat → Int32) (he : en_e ρ (en_ev w)) (hv : en_v E ρ ω c v) (h : sf_sub w c c2 = true) : en_v E ρ' ω c2 v := by
  unfold sf_sub at h
  rcases en_if_or.mp h with ⟨a1, h⟩ | ⟨a1, h⟩
  · obtain ⟨a2, h⟩ := en_if_and.mp h
    obtain ⟨x, rfl⟩ := en_isI_int a2 hv
    obtain ⟨a, b, b1, b2, b3, hk⟩ := en_iv_v he hv
    rw [hk] at h
    obtain ⟨c1, c3⟩ := en_if_and.mp h
    have e1 := en_beq_t.mp c1
    have e2 := en_beq_t.mp c3
    have e3 : en_z x = c2 := by omega
    rw [en_v_const (Nat.lt_of_le_of_lt (en_ble_t.mp a1) (by decide)), ← e3, en_d_z]
  · rcases en_if_or.mp h with ⟨a2, h⟩ | ⟨a2, h⟩
    · obtain ⟨a3, h⟩ := en_if_and.mp h
      obtain ⟨a4, h⟩ := en_if_and.mp h
      obtain ⟨x, rfl⟩ := en_isI_int a4 hv
      obtain ⟨a, b, b1, b2, b3, hk⟩ := en_iv_v he hv
      rw [hk] at h
      obtain ⟨c1, c3⟩ := en_if_and.mp h
      have e1 := en_ble_t.mp c1
      have e2 := en_ble_t.mp c3
      rw [en_v_rng (en_ble_t.mp a2) (Nat.lt_of_le_of_lt (en_ble_t.mp a3) (by decide))]
      exact ⟨x, rfl, Nat.le_trans e1 b1, Nat.le_trans b2 e2⟩
    · rcases en_if_or.mp h with ⟨a3, h⟩ | ⟨a3, h⟩
      · have h5 := en_isL_long h hv
        have e1 := en_beq_t.mp a3
        rw [e1]
        exact en_v_anyL.mpr h5
      · obtain ⟨a4, h⟩ := en_if_and.mp h
        have e1 := en_beq_t.mp h
        subst e1
        exact sf_nl_v ρ' (en_if_or.mpr (Or.inr ⟨a1, a4⟩)) hv
end SFV
