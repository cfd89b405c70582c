/-! THE ENGINE IS SOUND, 2: what a code says -/
/-- an int and 2^31 more -/
def en_z (x : Int32) : Nat := (x.toInt + 2147483648).toNat
def en_d (c : Nat) : Int32 := Int32.ofInt ((c : Int) - 2147483648)
theorem en_z_lt (x : Int32) : en_z x < 4294967296 := by
  have h1 := x.toInt_lt
  have h2 := x.le_toInt
  unfold en_z
  omega
theorem en_z_int (x : Int32) : ((en_z x : Nat) : Int) = x.toInt + 2147483648 := by
  have h2 := x.le_toInt
  unfold en_z
  omega
theorem en_d_int {c : Nat} (h : c < 4294967296) : (en_d c).toInt = (c : Int) - 2147483648 := by
  unfold en_d
  rw [Int32.toInt_ofInt_of_le (by omega) (by omega)]
theorem en_d_z (x : Int32) : en_d (en_z x) = x := by
  apply Int32.toInt_inj.mp
  rw [en_d_int (en_z_lt x), en_z_int]
  omega
theorem en_z_d {c : Nat} (h : c < 4294967296) : en_z (en_d c) = c := by
  have h1 := en_z_int (en_d c)
  rw [en_d_int h] at h1
  omega
theorem en_z_inj {x y : Int32} (h : en_z x = en_z y) : x = y := by rw [← en_d_z x, ← en_d_z y, h]
theorem en_z_lt_iff {x y : Int32} : x < y ↔ en_z x < en_z y := by
  rw [Int32.lt_iff_toInt_lt]
  have h1 := en_z_int x
  have h2 := en_z_int y
  omega
theorem en_z_le_iff {x y : Int32} : x ≤ y ↔ en_z x ≤ en_z y := by
  rw [Int32.le_iff_toInt_le]
  have h1 := en_z_int x
  have h2 := en_z_int y
  omega
theorem en_z_eq_iff {x y : Int32} : x = y ↔ en_z x = en_z y := ⟨fun h => by rw [h], en_z_inj⟩
theorem en_d_zero : en_d 2147483648 = 0 := by decide
/-- any number with the same rest is the same int -/
theorem en_ofInt_mod {a b : Int} (h : a % 4294967296 = b % 4294967296) : Int32.ofInt a = Int32.ofInt b := by
  apply Int32.toBitVec_inj.mp
  show BitVec.ofInt 32 a = BitVec.ofInt 32 b
  apply BitVec.eq_of_toNat_eq
  rw [BitVec.toNat_ofInt, BitVec.toNat_ofInt]
  simpa using congrArg Int.toNat h
/-- what is added to a named int -/
def en_off (c : Nat) : Int32 := Int32.ofInt (((c % 65536 : Nat) : Int) - 32768)
section ENV
variable (E : mm_E) (ρ : Nat → Int32) (ω : Nat → Value)
def en_v (c : Nat) (v : Value) : Prop :=
  if c < 4294967296 then v = .int (en_d c)
  else if c < 8589934592 then v = .int (ρ ((c - 4294967296) / 65536) + en_off c)
  else if c < 8589934728 then v = .ref (E.1 + (c - 8589934592))
  else if c = 12884901888 then v = .null
  else if c = 12884901890 then ∃ x, v = .long x
  else if 12884901904 ≤ c ∧ c ≤ 12884902911 then ∃ q, E.2[c - 12884901904]? = some q ∧ v = .ref q.1
  else if 17179869184 ≤ c ∧ c < 18446744073709551616 then v = ω (c - 17179869184)
  else if 36893488147419103232 ≤ c ∧ c < 73786976294838206464 then v = .long (Int64.ofNat (c - 36893488147419103232))
  else if 73786976294838206464 ≤ c ∧ c < 147573952589676412928 then ∃ x : Int32, v = .int x ∧ (c - 73786976294838206464) / 4294967296 ≤ en_z x ∧ en_z x ≤ c % 4294967296
  else False
variable {E ρ ω}
theorem en_v_const {c : Nat} {v : Value} (h : c < 4294967296) : en_v E ρ ω c v ↔ v = .int (en_d c) := by unfold en_v; rw [if_pos h]
theorem en_v_name {c : Nat} {v : Value} (h : 4294967296 ≤ c) (h2 : c < 8589934592) : en_v E ρ ω c v ↔ v = .int (ρ ((c - 4294967296) / 65536) + en_off c) := by unfold en_v; rw [if_neg (by omega), if_pos h2]
theorem en_v_ref {c : Nat} {v : Value} (h : 8589934592 ≤ c) (h2 : c < 8589934728) : en_v E ρ ω c v ↔ v = .ref (E.1 + (c - 8589934592)) := by unfold en_v; rw [if_neg (by omega), if_neg (by omega), if_pos h2]
theorem en_v_null {v : Value} : en_v E ρ ω 12884901888 v ↔ v = .null := by unfold en_v; simp
theorem en_v_anyL {v : Value} : en_v E ρ ω 12884901890 v ↔ ∃ x, v = .long x := by unfold en_v; simp
theorem en_v_stat {c : Nat} {v : Value} (h : 12884901904 ≤ c) (h2 : c ≤ 12884902911) : en_v E ρ ω c v ↔ ∃ q, E.2[c - 12884901904]? = some q ∧ v = .ref q.1 := by unfold en_v; rw [if_neg (by omega), if_neg (by omega), if_neg (by omega), if_neg (by omega), if_neg (by omega), if_pos ⟨h, h2⟩]
theorem en_v_opq {c : Nat} {v : Value} (h : 17179869184 ≤ c) (h2 : c < 18446744073709551616) : en_v E ρ ω c v ↔ v = ω (c - 17179869184) := by unfold en_v; rw [if_neg (by omega), if_neg (by omega), if_neg (by omega), if_neg (by omega), if_neg (by omega), if_neg (by omega), if_pos ⟨h, h2⟩]
theorem en_v_long {c : Nat} {v : Value} (h : 36893488147419103232 ≤ c) (h2 : c < 73786976294838206464) : en_v E ρ ω c v ↔ v = .long (Int64.ofNat (c - 36893488147419103232)) := by unfold en_v; rw [if_neg (by omega), if_neg (by omega), if_neg (by omega), if_neg (by omega), if_neg (by omega), if_neg (by omega), if_neg (by omega), if_pos ⟨h, h2⟩]
theorem en_v_rng {c : Nat} {v : Value} (h : 73786976294838206464 ≤ c) (h2 : c < 147573952589676412928) : en_v E ρ ω c v ↔ ∃ x : Int32, v = .int x ∧ (c - 73786976294838206464) / 4294967296 ≤ en_z x ∧ en_z x ≤ c % 4294967296 := by unfold en_v; rw [if_neg (by omega), if_neg (by omega), if_neg (by omega), if_neg (by omega), if_neg (by omega), if_neg (by omega), if_neg (by omega), if_neg (by omega), if_pos ⟨h, h2⟩]
theorem en_v_big {c : Nat} {v : Value} (h : en_v E ρ ω c v) : c < 147573952589676412928 := by
  rcases Nat.lt_or_ge c 147573952589676412928 with q | q
  · exact q
  · unfold en_v at h
    rw [if_neg (by omega), if_neg (by omega), if_neg (by omega), if_neg (by omega), if_neg (by omega), if_neg (by omega), if_neg (by omega), if_neg (by omega), if_neg (by omega)] at h
    exact h.elim
theorem en_v_und {v : Value} (h : en_v E ρ ω 12884901891 v) : False := by
  unfold en_v at h
  simp at h
theorem en_v_68 {c : Nat} {v : Value} (h : en_v E ρ ω c v) : c < 2 ^ 68 := Nat.lt_of_lt_of_le (en_v_big h) (by decide)
theorem en_isI_iff {c : Nat} : en_isI c = true ↔ c < 8589934592 ∨ 73786976294838206464 ≤ c := by
  unfold en_isI
  simp only [en_if_or, en_ble_t, en_ble_f, and_true]
  omega
theorem en_isI_int {c : Nat} {v : Value} (h : en_isI c = true) (hv : en_v E ρ ω c v) : ∃ x, v = .int x := by
  have hb := en_v_big hv
  rcases en_isI_iff.mp h with h | h
  · rcases Nat.lt_or_ge c 4294967296 with q | q
    · exact ⟨_, (en_v_const q).mp hv⟩
    · exact ⟨_, (en_v_name q h).mp hv⟩
  · obtain ⟨x, h1, -⟩ := (en_v_rng h hb).mp hv
    exact ⟨x, h1⟩
theorem en_isL_iff {c : Nat} : en_isL c = true ↔ (36893488147419103232 ≤ c ∧ c < 73786976294838206464) ∨ c = 12884901890 := by
  unfold en_isL
  rw [en_if_or, en_ble_t, en_ble_f, en_ble_t, en_beq_t]
  omega
theorem en_isL_long {c : Nat} {v : Value} (h : en_isL c = true) (hv : en_v E ρ ω c v) : ∃ x, v = .long x := by
  rcases en_isL_iff.mp h with ⟨h1, h2⟩ | rfl
  · exact ⟨_, (en_v_long h1 h2).mp hv⟩
  · exact en_v_anyL.mp hv
theorem en_isR_iff {c : Nat} : en_isR c = true ↔ (8589934592 ≤ c ∧ c < 8589934728) ∨ (12884901904 ≤ c ∧ c ≤ 12884902911) := by
  unfold en_isR
  simp only [en_if_and, en_if_or, en_ble_t, en_ble_f, and_true, Bool.false_eq_true, and_false, or_false]
  omega
theorem en_isR_ref {c : Nat} {v : Value} (h : en_isR c = true) (hv : en_v E ρ ω c v) : ∃ x, v = .ref x := by
  rcases en_isR_iff.mp h with ⟨h1, h2⟩ | ⟨h1, h2⟩
  · exact ⟨_, (en_v_ref h1 h2).mp hv⟩
  · obtain ⟨q, -, hq⟩ := (en_v_stat h1 h2).mp hv
    exact ⟨_, hq⟩
theorem en_one_iff {c : Nat} : en_one c = true ↔ (c ≤ 12884902911 ∧ c ≠ 12884901890 ∧ c ≠ 12884901891) ∨ 73786976294838206464 ≤ c := by
  unfold en_one
  rw [en_if_or, en_ble_t, en_ble_f, en_ble_t, en_if_or, en_beq_t, en_beq_f, en_if_or, en_beq_t, en_beq_f]
  simp only [Bool.false_eq_true, and_false, false_or, and_true]
  omega
theorem en_one_cat {c : Nat} {v : Value} (h : en_one c = true) (hv : en_v E ρ ω c v) : v.category = 1 := by
  have hb := en_v_big hv
  rcases en_one_iff.mp h with ⟨h1, h2, h3⟩ | h
  · rcases Nat.lt_or_ge c 8589934592 with q | q
    · obtain ⟨x, rfl⟩ := en_isI_int (en_isI_iff.mpr (Or.inl q)) hv
      rfl
    · by_cases q1 : c < 8589934728
      · rw [(en_v_ref q q1).mp hv]; rfl
      · by_cases q2 : c = 12884901888
        · subst q2
          rw [en_v_null.mp hv]; rfl
        · by_cases q3 : 12884901904 ≤ c
          · obtain ⟨q, -, hq⟩ := (en_v_stat q3 h1).mp hv
            rw [hq]; rfl
          · unfold en_v at hv
            rw [if_neg (by omega), if_neg (by omega), if_neg (by omega), if_neg (by omega), if_neg (by omega), if_neg (by omega), if_neg (by omega), if_neg (by omega), if_neg (by omega)] at hv
            exact hv.elim
  · obtain ⟨x, rfl⟩ := en_isI_int (en_isI_iff.mpr (Or.inr h)) hv
    rfl
theorem en_cat_le (v : Value) : v.category ≤ 2 := by cases v <;> simp [Value.category]
/-- an int from .. to .., made -/
theorem en_mk_v {lo hi : Nat} {x : Int32} (h1 : lo ≤ en_z x) (h2 : en_z x ≤ hi) (h3 : hi < 4294967296) : en_v E ρ ω (en_mk lo hi) (.int x) := by
  unfold en_mk
  cases h : Nat.beq lo hi with
  | true =>
    rw [en_if_t]
    have e := en_beq_t.mp h
    have e2 : en_z x = lo := by omega
    rw [en_v_const (by omega), ← e2, en_d_z]
  | false =>
    rw [en_if_f]
    show en_v E ρ ω (73786976294838206464 + (lo * 4294967296 + hi)) (.int x)
    rw [en_v_rng (by omega) (by omega)]
    exact ⟨x, rfl, by omega, by omega⟩
theorem en_any_v (x : Int32) : en_v E ρ ω 73786976299133173759 (.int x) := by
  rw [en_v_rng (by decide) (by decide)]
  have := en_z_lt x
  exact ⟨x, rfl, by omega, by omega⟩
def en_e (ρ : Nat → Int32) (ev : en_V) : Prop := ∀ i : Nat, (en_nth (0, 4294967295) ev i).1 ≤ en_z (ρ i) ∧ en_z (ρ i) ≤ (en_nth (0, 4294967295) ev i).2
theorem en_e_set {ev : en_V} (h : en_e ρ ev) {i : Nat} {q : Nat × Nat} (h1 : q.1 ≤ en_z (ρ i)) (h2 : en_z (ρ i) ≤ q.2) : en_e ρ (en_set ev i q) := by
  intro j
  rw [en_set_eq, en_nth_eq, List.getElem?_set]
  by_cases hij : i = j
  · subst hij
    by_cases hl : i < ev.length
    · simp [hl, h1, h2]
    · simp only [hl, if_true, if_false, Option.getD_none]
      have := en_z_lt (ρ i)
      exact ⟨Nat.zero_le _, by show en_z (ρ i) ≤ 4294967295; omega⟩
  · rw [if_neg hij, ← en_nth_eq]
    exact h j
/-- a named int, moved: if nothing wraps, its number moves so -/
theorem en_z_off {x : Int32} {c : Nat} (h1 : 32768 ≤ en_z x + c % 65536) (h2 : en_z x + c % 65536 < 4294967296 + 32768) : en_z (x + en_off c) + 32768 = en_z x + c % 65536 := by
  have hx := en_z_int x
  have e0 : x + en_off c = Int32.ofInt (((en_z x : Nat) : Int) - 2147483648) + Int32.ofInt (((c % 65536 : Nat) : Int) - 32768) := by
    conv => lhs; rw [← en_d_z x]
    rfl
  have e : x + en_off c = en_d (en_z x + c % 65536 - 32768) := by
    rw [e0, ← Int32.ofInt_add]
    unfold en_d
    exact congrArg Int32.ofInt (by omega)
  rw [e, en_z_d (by omega)]
  omega
/-- where an int goes: the reading of a code is right -/
theorem en_iv_v {w : en_W} {c : Nat} {x : Int32} (he : en_e ρ (en_ev w)) (hv : en_v E ρ ω c (.int x)) : ∃ a b, a ≤ en_z x ∧ en_z x ≤ b ∧ b < 4294967296 ∧ ∀ {α : Type} (k : Nat → Nat → α), en_iv w c k = k a b := by
  have hb := en_v_big hv
  have hz := en_z_lt x
  rcases Nat.lt_or_ge c 4294967296 with q | q
  · have e : x = en_d c := by simpa using (en_v_const q).mp hv
    refine ⟨c, c, ?_, ?_, q, fun k => ?_⟩
    · rw [e, en_z_d q]; omega
    · rw [e, en_z_d q]; omega
    · unfold en_iv
      rw [en_ble_t.mpr (by omega), en_if_t]
  · rcases Nat.lt_or_ge c 8589934592 with q2 | q2
    · have e : x = ρ ((c - 4294967296) / 65536) + en_off c := by simpa using (en_v_name q q2).mp hv
      obtain ⟨h1, h2⟩ := he ((c - 4294967296) / 65536)
      cases hn : en_nth (0, 4294967295) (en_ev w) ((c - 4294967296) / 65536) with
      | mk lo hi =>
        rw [hn] at h1 h2
        by_cases g1 : 32768 ≤ lo + c % 65536
        · by_cases g2 : hi + c % 65536 ≤ 4295000063
          · have h3 := en_z_off (x := ρ ((c - 4294967296) / 65536)) (c := c) (by simp only [] at h1; omega) (by simp only [] at h2; omega)
            rw [← e] at h3
            refine ⟨lo + c % 65536 - 32768, hi + c % 65536 - 32768, by simp only [] at h1; omega, by simp only [] at h2; omega, by omega, fun k => ?_⟩
            unfold en_iv
            rw [en_ble_f.mpr (by omega), en_if_f, en_ble_t.mpr (by omega), en_if_t]
            have hn2 : en_nth (0, 4294967295) (en_ev w) (Nat.div (Nat.sub c 4294967296) 65536) = (lo, hi) := hn
            rw [hn2]
            show en_if (Nat.ble 32768 (lo + c % 65536)) (en_if (Nat.ble (hi + c % 65536) 4295000063) _ _) _ = _
            rw [en_ble_t.mpr g1, en_if_t, en_ble_t.mpr g2, en_if_t]
            rfl
          · refine ⟨0, 4294967295, Nat.zero_le _, by omega, by decide, fun k => ?_⟩
            unfold en_iv
            rw [en_ble_f.mpr (by omega), en_if_f, en_ble_t.mpr (by omega), en_if_t]
            have hn2 : en_nth (0, 4294967295) (en_ev w) (Nat.div (Nat.sub c 4294967296) 65536) = (lo, hi) := hn
            rw [hn2]
            show en_if (Nat.ble 32768 (lo + c % 65536)) (en_if (Nat.ble (hi + c % 65536) 4295000063) _ _) _ = _
            rw [en_ble_t.mpr g1, en_if_t, en_ble_f.mpr (by omega), en_if_f]
        · refine ⟨0, 4294967295, Nat.zero_le _, by omega, by decide, fun k => ?_⟩
          unfold en_iv
          rw [en_ble_f.mpr (by omega), en_if_f, en_ble_t.mpr (by omega), en_if_t]
          have hn2 : en_nth (0, 4294967295) (en_ev w) (Nat.div (Nat.sub c 4294967296) 65536) = (lo, hi) := hn
          rw [hn2]
          show en_if (Nat.ble 32768 (lo + c % 65536)) (en_if (Nat.ble (hi + c % 65536) 4295000063) _ _) _ = _
          rw [en_ble_f.mpr (by omega), en_if_f]
    · rcases Nat.lt_or_ge c 73786976294838206464 with q3 | q3
      · refine ⟨0, 4294967295, Nat.zero_le _, by omega, by decide, fun k => ?_⟩
        unfold en_iv
        rw [en_ble_f.mpr (by omega), en_if_f, en_ble_f.mpr (by omega), en_if_f, en_ble_f.mpr (by omega), en_if_f]
      · obtain ⟨y, hy, h1, h2⟩ := (en_v_rng q3 hb).mp hv
        have e : x = y := by simpa using hy
        subst e
        refine ⟨_, _, h1, h2, by omega, fun k => ?_⟩
        unfold en_iv
        rw [en_ble_f.mpr (by omega), en_if_f, en_ble_f.mpr (by omega), en_if_f, en_ble_t.mpr (by omega), en_if_t]
        rfl
/-- the same rest of a state, but for ranges -/
def en_wq (w w' : en_W) : Prop := w'.1 = w.1 ∧ w'.2.1 = w.2.1 ∧ w'.2.2.1 = w.2.2.1 ∧ w'.2.2.2.1 = w.2.2.2.1 ∧ w'.2.2.2.2.1 = w.2.2.2.2.1
theorem en_wq.rf (w : en_W) : en_wq w w := ⟨rfl, rfl, rfl, rfl, rfl⟩
theorem en_wq.tr {a b c : en_W} (h : en_wq a b) (g : en_wq b c) : en_wq a c := ⟨g.1.trans h.1, g.2.1.trans h.2.1, g.2.2.1.trans h.2.2.1, g.2.2.2.1.trans h.2.2.2.1, g.2.2.2.2.trans h.2.2.2.2⟩
/-- a true range of a named int may be noted -/
theorem en_ref_v {w : en_W} {c lo hi : Nat} {x : Int32} {k : en_W → Bool} (he : en_e ρ (en_ev w)) (hv : en_v E ρ ω c (.int x)) (h1 : lo ≤ en_z x) (h2 : en_z x ≤ hi) (hk : en_ref w c lo hi k = true) : ∃ w', k w' = true ∧ en_wq w w' ∧ en_e ρ (en_ev w') := by
  unfold en_ref at hk
  rw [en_ble_t.mpr (by omega), en_if_t] at hk
  rcases Nat.lt_or_ge c 4294967296 with q | q
  · rw [en_ble_t.mpr (by omega), en_if_t] at hk
    exact ⟨w, hk, en_wq.rf w, he⟩
  · rw [en_ble_f.mpr (by omega), en_if_f] at hk
    rcases Nat.lt_or_ge c 8589934592 with q2 | q2
    · rw [en_ble_t.mpr (by omega), en_if_t] at hk
      have e : x = ρ ((c - 4294967296) / 65536) + en_off c := by simpa using (en_v_name q q2).mp hv
      obtain ⟨g1, g2⟩ := he ((c - 4294967296) / 65536)
      cases hn : en_nth (0, 4294967295) (en_ev w) ((c - 4294967296) / 65536) with
      | mk l h =>
        rw [hn] at g1 g2
        have hk : en_if (Nat.ble 32768 (l + c % 65536)) (en_if (Nat.ble (h + c % 65536) 4295000063) (k (en_sev w ((c - 4294967296) / 65536) (lo + 32768 - c % 65536, hi + 32768 - c % 65536))) (k w)) (k w) = true := by
          have h9 : (Prod.rec (motive := fun _ => Bool) (fun l h => en_if (Nat.ble 32768 (l + c % 65536)) (en_if (Nat.ble (h + c % 65536) 4295000063) (k (en_sev w ((c - 4294967296) / 65536) (lo + 32768 - c % 65536, hi + 32768 - c % 65536))) (k w)) (k w)) (en_nth (0, 4294967295) (en_ev w) ((c - 4294967296) / 65536)) : Bool) = true := hk
          rw [hn] at h9
          exact h9
        rcases en_if_or.mp hk with ⟨a1, hk⟩ | ⟨a1, hk⟩
        · rcases en_if_or.mp hk with ⟨a2, hk⟩ | ⟨a2, hk⟩
          · have a1 := en_ble_t.mp a1
            have a2 := en_ble_t.mp a2
            have h3 := en_z_off (x := ρ ((c - 4294967296) / 65536)) (c := c) (by simp only [] at g1; omega) (by simp only [] at g2; omega)
            rw [← e] at h3
            exact ⟨_, hk, ⟨rfl, rfl, rfl, rfl, rfl⟩, en_e_set he (by simp only []; omega) (by simp only []; omega)⟩
          · exact ⟨w, hk, en_wq.rf w, he⟩
        · exact ⟨w, hk, en_wq.rf w, he⟩
    · rw [en_ble_f.mpr (by omega), en_if_f] at hk
      exact ⟨w, hk, en_wq.rf w, he⟩
theorem en_all_v {f : Nat → Bool} : ∀ {n lo : Nat}, en_all f n lo = true → ∀ v, lo ≤ v → v ≤ lo + n → f v = true := by
  intro n
  induction n with
  | zero => intro lo h v h1 h2; have e : v = lo := by omega
            subst e; exact h
  | succ n ih =>
    intro lo h v h1 h2
    have h9 : en_if (f lo) (en_all f n (Nat.succ lo)) false = true := h
    obtain ⟨a, b⟩ := en_if_and.mp h9
    rcases Nat.lt_or_ge lo v with q | q
    · exact ih b v q (by omega)
    · have e : v = lo := by omega
      subst e; exact a
/-- an int that is to be known -/
theorem en_pt_v {w : en_W} {c : Nat} {x : Int32} {k : Nat → Bool} {r : en_W → Bool} {o : Bool} (he : en_e ρ (en_ev w)) (hv : en_v E ρ ω c (.int x)) (h : en_pt w c k r o = true) : k (en_z x) = true ∨ (∃ w', r w' = true ∧ en_wq w w' ∧ en_e ρ (en_ev w')) ∨ o = true := by
  unfold en_pt at h
  rcases en_if_or.mp h with ⟨a1, h⟩ | ⟨a1, h⟩
  · have e : x = en_d c := by simpa using (en_v_const (by have := en_ble_t.mp a1; omega)).mp hv
    left
    rw [e, en_z_d (by have := en_ble_t.mp a1; omega)]
    exact h
  · obtain ⟨a, b, g1, g2, g3, g4⟩ := en_iv_v he hv
    rw [g4] at h
    rcases en_if_or.mp h with ⟨a2, h⟩ | ⟨a2, h⟩
    · have := en_beq_t.mp a2
      left
      rw [show en_z x = a by omega]
      exact h
    · rcases en_if_or.mp h with ⟨a3, h⟩ | ⟨a3, h⟩
      · rcases en_if_or.mp h with ⟨a4, h⟩ | ⟨a4, h⟩
        · rcases en_if_or.mp h with ⟨a5, h⟩ | ⟨a5, h⟩
          · right; left
            have h9 := en_all_v h (en_z x) g1 (by have : b - a = b - a := rfl; show en_z x ≤ a + (b - a); omega)
            exact en_ref_v he hv (Nat.le_refl _) (Nat.le_refl _) h9
          · left
            exact en_all_v h (en_z x) g1 (by show en_z x ≤ a + (b - a); omega)
        · have := en_ble_f.mp a4
          omega
      · right; right; exact h
theorem en_le_mn {x a b : Nat} (h1 : x ≤ a) (h2 : x ≤ b) : x ≤ en_mn a b := by
  unfold en_mn
  cases Nat.ble a b
  · rw [en_if_f]; exact h2
  · rw [en_if_t]; exact h1
theorem en_mx_le {x a b : Nat} (h1 : a ≤ x) (h2 : b ≤ x) : en_mx a b ≤ x := by
  unfold en_mx
  cases Nat.ble a b
  · rw [en_if_f]; exact h1
  · rw [en_if_t]; exact h2
theorem en_lt_v {w : en_W} {x y : Nat} {X Y : Int32} {kt kf : en_W → Bool} (he : en_e ρ (en_ev w)) (hx : en_v E ρ ω x (.int X)) (hy : en_v E ρ ω y (.int Y)) (h : en_lt x y w kt kf = true) : (X < Y → ∃ w', kt w' = true ∧ en_wq w w' ∧ en_e ρ (en_ev w')) ∧ (¬ X < Y → ∃ w', kf w' = true ∧ en_wq w w' ∧ en_e ρ (en_ev w')) := by
  unfold en_lt at h
  rcases en_if_or.mp h with ⟨a1, h⟩ | ⟨-, h⟩
  · obtain ⟨a1, a2⟩ := en_if_and.mp a1
    have a1 := en_ble_t.mp a1
    have a2 := en_ble_t.mp a2
    have ex : X = en_d x := by simpa using (en_v_const (by omega)).mp hx
    have ey : Y = en_d y := by simpa using (en_v_const (by omega)).mp hy
    have hlt : X < Y ↔ x < y := by rw [en_z_lt_iff, ex, ey, en_z_d (by omega), en_z_d (by omega)]
    rcases en_if_or.mp h with ⟨a3, h⟩ | ⟨a3, h⟩
    · have := en_ble_t.mp a3
      exact ⟨fun q => absurd (hlt.mp q) (by omega), fun _ => ⟨w, h, en_wq.rf w, he⟩⟩
    · have := en_ble_f.mp a3
      exact ⟨fun _ => ⟨w, h, en_wq.rf w, he⟩, fun q => absurd (hlt.mpr (by omega)) q⟩
  · obtain ⟨a, b, g1, g2, g3, g4⟩ := en_iv_v he hx
    obtain ⟨c, d, f1, f2, f3, f4⟩ := en_iv_v he hy
    rw [g4, f4] at h
    rw [en_z_lt_iff]
    rcases en_if_or.mp h with ⟨a3, h⟩ | ⟨a3, h⟩
    · have : b + 1 ≤ c := en_ble_t.mp a3
      exact ⟨fun _ => ⟨w, h, en_wq.rf w, he⟩, fun q => absurd (by omega) q⟩
    · rcases en_if_or.mp h with ⟨a4, h⟩ | ⟨a4, h⟩
      · have := en_ble_t.mp a4
        exact ⟨fun q => absurd q (by omega), fun _ => ⟨w, h, en_wq.rf w, he⟩⟩
      · obtain ⟨h1, h2⟩ := en_if_and.mp h
        refine ⟨fun q => ?_, fun q => ?_⟩
        · obtain ⟨w1, k1, e1, e2⟩ := en_ref_v he hx g1 (en_le_mn g2 (by show en_z X ≤ d - 1; omega)) h1
          obtain ⟨w2, k2, e3, e4⟩ := en_ref_v e2 hy (en_mx_le f1 (by show a + 1 ≤ en_z Y; omega)) f2 k1
          exact ⟨w2, k2, e1.tr e3, e4⟩
        · obtain ⟨w1, k1, e1, e2⟩ := en_ref_v he hx (en_mx_le g1 (by omega)) g2 h2
          obtain ⟨w2, k2, e3, e4⟩ := en_ref_v e2 hy f1 (en_le_mn f2 (by omega)) k1
          exact ⟨w2, k2, e1.tr e3, e4⟩
theorem en_cut_v {w : en_W} {x a b c : Nat} {X : Int32} {k : en_W → Bool} (he : en_e ρ (en_ev w)) (hx : en_v E ρ ω x (.int X)) (h1 : a ≤ en_z X) (h2 : en_z X ≤ b) (hn : en_z X ≠ c) (h : en_cut w x a b c k = true) : ∃ w', k w' = true ∧ en_wq w w' ∧ en_e ρ (en_ev w') := by
  unfold en_cut at h
  rcases en_if_or.mp h with ⟨a3, h⟩ | ⟨a3, h⟩
  · have := en_beq_t.mp a3
    exact en_ref_v he hx (by show a + 1 ≤ en_z X; omega) h2 h
  · rcases en_if_or.mp h with ⟨a4, h⟩ | ⟨a4, h⟩
    · have := en_beq_t.mp a4
      exact en_ref_v he hx h1 (by show en_z X ≤ b - 1; omega) h
    · exact ⟨w, h, en_wq.rf w, he⟩
theorem en_eq_v {w : en_W} {x y : Nat} {X Y : Int32} {kt kf : en_W → Bool} (he : en_e ρ (en_ev w)) (hx : en_v E ρ ω x (.int X)) (hy : en_v E ρ ω y (.int Y)) (h : en_eq x y w kt kf = true) : (X = Y → ∃ w', kt w' = true ∧ en_wq w w' ∧ en_e ρ (en_ev w')) ∧ (¬ X = Y → ∃ w', kf w' = true ∧ en_wq w w' ∧ en_e ρ (en_ev w')) := by
  unfold en_eq at h
  rcases en_if_or.mp h with ⟨a1, h⟩ | ⟨-, h⟩
  · obtain ⟨a1, a2⟩ := en_if_and.mp a1
    have a1 := en_ble_t.mp a1
    have a2 := en_ble_t.mp a2
    have ex : X = en_d x := by simpa using (en_v_const (by omega)).mp hx
    have ey : Y = en_d y := by simpa using (en_v_const (by omega)).mp hy
    have hlt : X = Y ↔ x = y := by rw [en_z_eq_iff, ex, ey, en_z_d (by omega), en_z_d (by omega)]
    rcases en_if_or.mp h with ⟨a3, h⟩ | ⟨a3, h⟩
    · have := en_beq_t.mp a3
      exact ⟨fun _ => ⟨w, h, en_wq.rf w, he⟩, fun q => absurd (hlt.mpr this) q⟩
    · have := en_beq_f.mp a3
      exact ⟨fun q => absurd (hlt.mp q) this, fun _ => ⟨w, h, en_wq.rf w, he⟩⟩
  · rcases en_if_or.mp h with ⟨a1, hk⟩ | ⟨-, h⟩
    · obtain ⟨a1, a2⟩ := en_if_and.mp a1
      have a1 := en_beq_t.mp a1
      have a2 := en_ble_t.mp a2
      subst a1
      have e : X = Y := by
        rcases Nat.lt_or_ge x 4294967296 with q | q
        · have h1 := (en_v_const q).mp hx
          have h2 := (en_v_const q).mp hy
          simpa using h1.trans h2.symm
        · have h1 := (en_v_name q (by omega)).mp hx
          have h2 := (en_v_name q (by omega)).mp hy
          simpa using h1.trans h2.symm
      exact ⟨fun _ => ⟨w, hk, en_wq.rf w, he⟩, fun q => absurd e q⟩
    · obtain ⟨a, b, g1, g2, g3, g4⟩ := en_iv_v he hx
      obtain ⟨c, d, f1, f2, f3, f4⟩ := en_iv_v he hy
      rw [g4, f4] at h
      rw [en_z_eq_iff]
      rcases en_if_or.mp h with ⟨a3, h⟩ | ⟨a3, h⟩
      · have : b + 1 ≤ c := en_ble_t.mp a3
        exact ⟨fun q => absurd q (by omega), fun _ => ⟨w, h, en_wq.rf w, he⟩⟩
      · rcases en_if_or.mp h with ⟨a4, h⟩ | ⟨a4, h⟩
        · have : d + 1 ≤ a := en_ble_t.mp a4
          exact ⟨fun q => absurd q (by omega), fun _ => ⟨w, h, en_wq.rf w, he⟩⟩
        · obtain ⟨h1, h2⟩ := en_if_and.mp h
          refine ⟨fun q => ?_, fun q => ?_⟩
          · rcases en_if_or.mp h1 with ⟨a5, h1⟩ | ⟨a5, h1⟩
            · have := en_beq_t.mp a5
              exact en_ref_v he hx (by omega) (by omega) h1
            · rcases en_if_or.mp h1 with ⟨a6, h1⟩ | ⟨a6, h1⟩
              · have := en_beq_t.mp a6
                exact en_ref_v he hy (by omega) (by omega) h1
              · exact ⟨w, h1, en_wq.rf w, he⟩
          · rcases en_if_or.mp h2 with ⟨a5, h2⟩ | ⟨a5, h2⟩
            · have := en_beq_t.mp a5
              rcases en_if_or.mp h2 with ⟨a6, h2⟩ | ⟨a6, h2⟩
              · have := en_beq_t.mp a6
                have := en_ble_f.mp a3
                have := en_ble_f.mp a4
                omega
              · exact en_cut_v he hx g1 g2 (by omega) h2
            · rcases en_if_or.mp h2 with ⟨a6, h2⟩ | ⟨a6, h2⟩
              · have := en_beq_t.mp a6
                exact en_cut_v he hy f1 f2 (by omega) h2
              · exact ⟨w, h2, en_wq.rf w, he⟩
theorem en_cmp_v {k : Jvm.ClassFile.Cond} {w : en_W} {x y : Nat} {X Y : Int32} {kt kf : en_W → Bool} (he : en_e ρ (en_ev w)) (hx : en_v E ρ ω x (.int X)) (hy : en_v E ρ ω y (.int Y)) (h : en_cmp k x y w kt kf = true) : (mm_cond k X Y = true → ∃ w', kt w' = true ∧ en_wq w w' ∧ en_e ρ (en_ev w')) ∧ (¬ mm_cond k X Y = true → ∃ w', kf w' = true ∧ en_wq w w' ∧ en_e ρ (en_ev w')) := by
  cases k with
  | eq =>
    obtain ⟨h1, h2⟩ := en_eq_v he hx hy (show en_eq x y w kt kf = true from h)
    simp only [mm_cond, decide_eq_true_eq]
    exact ⟨h1, h2⟩
  | ne =>
    obtain ⟨h1, h2⟩ := en_eq_v he hx hy (show en_eq x y w kf kt = true from h)
    simp only [mm_cond, decide_eq_true_eq, Decidable.not_not]
    exact ⟨h2, h1⟩
  | lt =>
    obtain ⟨h1, h2⟩ := en_lt_v he hx hy (show en_lt x y w kt kf = true from h)
    simp only [mm_cond, decide_eq_true_eq]
    exact ⟨h1, h2⟩
  | ge =>
    obtain ⟨h1, h2⟩ := en_lt_v he hx hy (show en_lt x y w kf kt = true from h)
    simp only [mm_cond, decide_eq_true_eq]
    exact ⟨fun q => h2 (Int32.not_lt.mpr q), fun q => h1 (Int32.not_le.mp q)⟩
  | gt =>
    obtain ⟨h1, h2⟩ := en_lt_v he hy hx (show en_lt y x w kt kf = true from h)
    simp only [mm_cond, decide_eq_true_eq]
    exact ⟨h1, h2⟩
  | le =>
    obtain ⟨h1, h2⟩ := en_lt_v he hy hx (show en_lt y x w kf kt = true from h)
    simp only [mm_cond, decide_eq_true_eq]
    exact ⟨fun q => h2 (Int32.not_lt.mpr q), fun q => h1 (Int32.not_le.mp q)⟩
end ENV
