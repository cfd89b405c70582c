/-! STEPS: rests, quotients, rows copied; what tables say of a heap (by hand) -/
section KS
variable {T : bm_T} {E : mm_E} {PO : mm_C → Prop} {NN : Nat} {h0 h : mm_H} {s : Nat → Int32} {A : Nat → Nat → Int32} {L : Nat → Nat → Int64} {m pc pc' pc0 len a b wd nL : Nat} {dd : mm_M} {z : Int} {ins : Instr} {lv lv' : mm_V} {st st' r : List Value} {gs : List mm_F} {o : Option Value}
/-- a row of another content -/
def bh_row (A : Nat → Nat → Int32) (c : Nat) (f : Nat → Int32) : Nat → Nat → Int32 := fun k => if k = c then f else A k
theorem bh_row_i {A : Nat → Nat → Int32} {c : Nat} {f : Nat → Int32} : bh_row A c f c = f := if_pos rfl
theorem bh_row_o {A : Nat → Nat → Int32} {c k : Nat} {f : Nat → Int32} (h : k ≠ c) : bh_row A c f k = A k := if_neg h
theorem bm_setr (hP : bm_P T E h0 h s A L) {q : Nat × Nat × Nat} (hq : q ∈ T.2.2.2.2.1) (f : Nat → Int32) : bm_P T E h0 (h.set q.1 (.inl (q.2.1, q.2.2, .inl f))) s (bh_row A q.1 f) L := by
  obtain ⟨hW, hl, hO, hA, hL, hF⟩ := hP
  have hql : q.1 < h.length := (List.getElem?_eq_some_iff.mp (hA q hq)).1
  refine ⟨hW, by rw [List.length_set]; exact hl, fun p hp => ?_, fun p hp => ?_, fun p hp => ?_, fun j j1 j2 j3 => ?_⟩
  · rw [List.getElem?_set_ne (fun e => hW.2.1 p hp q hq e.symm)]
    exact hO p hp
  · by_cases e : q.1 = p.1
    · have e2 := hW.2.2.2.1 q hq p hp e
      subst e2
      rw [List.getElem?_set_self hql, bh_row_i]
    · rw [List.getElem?_set_ne e, bh_row_o (fun g => e g.symm)]
      exact hA p hp
  · rw [List.getElem?_set_ne (hW.2.2.2.2.2.1 q hq p hp)]
    exact hL p hp
  · rw [List.getElem?_set_ne (j2 q hq)]
    exact hF j j1 j2 j3
/-- System.arraycopy into a row of the table, whatever it comes from -/
theorem bn_acV {x c1 n1 : Nat} {v0 : Value} {sp dp n : Int32} (hat : mm_at mt_P m pc = some ((pc0, len, .invokestatic x, 1, b, z, wd), nL, dd)) (hp : pc + len = pc') (hP : bm_P T E h0 h s A L) (h1 : (c1, 0, n1) ∈ T.2.2.2.2.1) (g : ∀ (h' : mm_H) (f : Nat → Int32), bm_P T E h0 h' s (bh_row A c1 f) L → bp_G E PO NN ((m, pc', lv, st, 0, 0) :: gs, h', none)) : bp_G E PO NN ((m, pc, lv, .int n :: .int dp :: .ref (E.1 + c1) :: .int sp :: v0 :: st, 0, 0) :: gs, h, o) := by
  subst hp
  refine bp_any (bp_nm2 hat) (fun c' hs => ?_)
  obtain ⟨np, kd, ci2, rk2, mc, ms⟩ := dd
  have q1 := hP.2.2.2.1 (c1, 0, n1) h1
  simp only at q1
  simp only [mm_stp, hat, mm_inv] at hs
  rw [if_pos (show (1 : Nat) < 2 by decide)] at hs
  split at hs
  · split at hs
    · next e =>
      cases hs
      unfold mm_sp at e
      rw [if_neg (by decide), if_pos rfl] at e
      unfold mm_copy at e
      split at e
      · next n9 dp9 a9 sp9 a09 r9 hst =>
        have hst2 := hst
        injection hst2 with i1 i2
        injection i2 with i3 i4
        injection i4 with i5 i6
        injection i6 with i7 i8
        injection i8 with i9 i10
        injection i5 with i5
        subst i10
        subst i5
        split at e
        · next e0 e1 =>
          rw [bh_cell, q1] at e1
          cases e1
          split at e
          · cases e
            rw [Nat.add_sub_cancel_left]
            exact g _ _ (bm_setr hP (q := (c1, 0, n1)) h1 _)
          · cases e
        · cases e
      · cases e
    · cases hs
  · cases hs
/-- a row that the table cannot know is written: no row of ints stands in it -/
theorem bn_acB {x : Nat} {v0 v1 : Value} {sp dp n : Int32} (hat : mm_at mt_P m pc = some ((pc0, len, .invokestatic x, 1, b, z, wd), nL, dd)) (hp : pc + len = pc') (hB : ∀ q ∈ T.2.2.2.2.1, q.2.1 ≠ 0) (hP : bm_P T E h h s A L) (g : ∀ h' : mm_H, bm_P T E h' h' s A L → bp_G E PO NN ((m, pc', lv, st, 0, 0) :: gs, h', none)) : bp_G E PO NN ((m, pc, lv, .int n :: .int dp :: v1 :: .int sp :: v0 :: st, 0, 0) :: gs, h, o) := by
  subst hp
  refine bp_any (bp_nm2 hat) (fun c' hs => ?_)
  obtain ⟨np, kd, ci2, rk2, mc, ms⟩ := dd
  simp only [mm_stp, hat, mm_inv] at hs
  rw [if_pos (show (1 : Nat) < 2 by decide)] at hs
  split at hs
  · split at hs
    · next e =>
      cases hs
      unfold mm_sp at e
      rw [if_neg (by decide), if_pos rfl] at e
      unfold mm_copy at e
      split at e
      · next n9 dp9 a9 sp9 a09 r9 hst =>
        injection hst with i1 i2
        injection i2 with i3 i4
        injection i4 with i5 i6
        injection i6 with i7 i8
        injection i8 with i9 i10
        subst i10
        split at e
        · next e0 e1 =>
          split at e
          · next hc =>
            cases e
            refine g _ ?_
            obtain ⟨hW, hl, hO, hA, hL, hF⟩ := hP
            obtain ⟨k1, k2⟩ := ka_cell e1
            have hkl := (List.getElem?_eq_some_iff.mp k1).1
            have hne : ∀ c : Nat, (∀ t n f, h[c]? = some (.inl (t, n, .inl f)) → t ≠ 0) → a9 - E.1 ≠ c := fun c hc2 e => by
              rw [e] at k1
              exact hc2 _ _ _ k1 hc.2.1
            refine ⟨hW, by rw [List.length_set]; exact hl, fun q hq => ?_, fun q hq => ?_, fun q hq => ?_, fun _ _ _ _ => rfl⟩
            · obtain ⟨fs0, fs, a1, a2, o9⟩ := hO q hq
              have e9 := hne q.1 (fun t n f e => by rw [a2] at e; cases e)
              exact ⟨fs, fs, by rw [List.getElem?_set_ne e9]; exact a2, by rw [List.getElem?_set_ne e9]; exact a2, rfl, fun _ _ _ => rfl, o9.2.2⟩
            · rw [List.getElem?_set_ne (hne q.1 (fun t n f e => by rw [hA q hq] at e; cases e; exact hB q hq))]
              exact hA q hq
            · rw [List.getElem?_set_ne (hne q.1 (fun t n f e => by rw [hL q hq] at e; cases e))]
              exact hL q hq
          · cases e
        · cases e
      · cases e
    · cases hs
  · cases hs
/-- a smaller table -/
theorem bm_sub {T2 : bm_T} (hW : bm_W T2) (h1 : ∀ q ∈ T2.1, q ∈ T.1) (h2 : ∀ q ∈ T2.2.1, q ∈ T.2.1) (h3 : ∀ q ∈ T2.2.2.1, q ∈ T.2.2.1) (h4 : ∀ q ∈ T2.2.2.2.1, q ∈ T.2.2.2.1) (h5 : ∀ q ∈ T2.2.2.2.2.1, q ∈ T.2.2.2.2.1) (h6 : ∀ q ∈ T2.2.2.2.2.2, q ∈ T.2.2.2.2.2) (hP : bm_P T E h0 h s A L) : bm_P T2 E h h s A L := by
  obtain ⟨-, hl, hO, hA, hL, hF⟩ := hP
  refine ⟨hW, hl, fun q hq => ?_, fun q hq => hA q (h5 q hq), fun q hq => hL q (h6 q hq), fun _ _ _ _ => rfl⟩
  obtain ⟨fs0, fs, a1, a2, o1, o2, o3, o4, o5⟩ := hO q (h1 q hq)
  exact ⟨fs, fs, a2, a2, rfl, fun _ _ _ => rfl, fun k t hk => o3 k t (h2 _ hk), fun k hk => o4 k (h3 _ hk), fun k hk => o5 k (h4 _ hk)⟩
/-- what a row of places holds -/
theorem bn_aaV {x I : Int32} {a9 : Nat} (hat : mm_at mt_P m pc = some ((pc0, len, .aaload, a, b, z, wd), nL, dd)) (hp : pc + len = pc') (g : ∀ v : Value, bp_G E PO NN ((m, pc', lv, v :: st, 0, 0) :: gs, h, none)) : bp_G E PO NN ((m, pc, lv, .int I :: .ref a9 :: st, 0, 0) :: gs, h, o) := by
  subst hp
  refine bp_any (bp_nm2 hat) (fun c' hs => ?_)
  obtain ⟨np, kd, ci2, rk2, mc, ms⟩ := dd
  simp only [mm_stp, hat, mm_inv, mm_rtn, mm_ex, mm_aald] at hs
  split at hs
  · next e =>
    cases hs
    split at e
    · split at e
      · cases e
        exact g _
      · cases e
    · cases e
  · cases hs
theorem bp_remx {x y : Int32} (hat : mm_at mt_P m pc = some ((pc0, len, .irem, a, b, z, wd), nL, dd)) (hp : pc + len = pc') (g : ∀ v : Int32, y.toInt ≠ 0 → v.toInt = x.toInt.tmod y.toInt → bp_G E PO NN ((m, pc', lv, .int v :: st, 0, 0) :: gs, h, none)) : bp_G E PO NN ((m, pc, lv, .int y :: .int x :: st, 0, 0) :: gs, h, o) := by
  subst hp
  by_cases hy : y = 0
  · exact bp_s0 hat rfl rfl (by
      subst hy
      simp [mm_ex, mm_bin])
  · refine bp_bin (v := x - x / y * y) (f := fun x y => if y = 0 then none else some (x - x / y * y)) hat rfl rfl (fun _ _ _ => rfl) (if_neg hy) (g _ (fun e => hy (Int32.toInt_inj.mp e)) (ln_rem hy))
theorem bp_divx {x y : Int32} (hat : mm_at mt_P m pc = some ((pc0, len, .idiv, a, b, z, wd), nL, dd)) (hp : pc + len = pc') (g : ∀ v : Int32, y.toInt ≠ 0 → v = x / y → bp_G E PO NN ((m, pc', lv, .int v :: st, 0, 0) :: gs, h, none)) : bp_G E PO NN ((m, pc, lv, .int y :: .int x :: st, 0, 0) :: gs, h, o) := by
  subst hp
  by_cases hy : y = 0
  · exact bp_s0 hat rfl rfl (by
      subst hy
      simp [mm_ex, mm_bin])
  · exact bp_bin (v := x / y) (f := fun x y => if y = 0 then none else some (x / y)) hat rfl rfl (fun _ _ _ => rfl) (if_neg hy) (g _ (fun e => hy (Int32.toInt_inj.mp e)) rfl)
theorem bp_negx {x : Int32} (hat : mm_at mt_P m pc = some ((pc0, len, .ineg, a, b, z, wd), nL, dd)) (hp : pc + len = pc') (g : ∀ v : Int32, (-2147483648 < x.toInt → v.toInt = -x.toInt) → bp_G E PO NN ((m, pc', lv, .int v :: st, 0, 0) :: gs, h, none)) : bp_G E PO NN ((m, pc, lv, .int x :: st, 0, 0) :: gs, h, o) := by
  subst hp
  refine bp_s1 hat rfl rfl (show mm_ex E mt_kds nL .ineg len a b z pc lv (.int x :: st) 0 0 h = some (pc + len, lv, .int (-x) :: st, 0, 0, h) from rfl) (g _ (fun hx => ?_))
  rw [Int32.toInt_neg]
  have h3 := en_z_int x
  have h4 := en_z_lt x
  exact Int.bmod_eq_of_le (by omega) (by omega)
theorem bp_x {x y v : Int32} {f : Int32 → Int32 → Option Int32} (hat : mm_at mt_P m pc = some ((pc0, len, ins, a, b, z, wd), nL, dd)) (hi : mm_inv ins = none) (hr : mm_rtn ins = none) (hl : ∀ (lv : mm_V) (st : List Value) (h : mm_H), mm_ex E mt_kds nL ins len a b z pc lv st 0 0 h = mm_bin lv st 0 0 h pc' f) (hf : f x y = some v) (g : bp_G E PO NN ((m, pc', lv, .int v :: st, 0, 0) :: gs, h, none)) : bp_G E PO NN ((m, pc, lv, .int y :: .int x :: st, 0, 0) :: gs, h, o) := bp_bin hat hi hr hl hf g
theorem bm_ws (hP : bm_P T E h0 h s A L) {c ci k : Nat} (hc : (c, ci) ∈ T.1) (hk : (c, k) ∈ T.2.2.1) : wt_s h (100 * c + k) = s (100 * c + k) := by
  obtain ⟨fs0, fs, -, a2, o⟩ := hP.2.2.1 (c, ci) hc
  exact wt_s_eq (hP.1.2.2.2.2.2.2.2.1 (c, k) hk).2 a2 (o.2.2.2.1 k hk)
theorem bm_wA (hP : bm_P T E h0 h s A L) {q : Nat × Nat × Nat} (hq : q ∈ T.2.2.2.2.1) : br_A h q.1 = A q.1 := br_A_eq (hP.2.2.2.1 q hq)
end KS
/-- Euclid's steps -/
theorem kg_gcd {x y v : Int32} {g : Nat} (hx : 0 ≤ x.toInt) (hy : 0 ≤ y.toInt) (hy0 : y.toInt ≠ 0) (hg : Nat.gcd x.toInt.toNat y.toInt.toNat = g) (hv : v.toInt = x.toInt.tmod y.toInt) : 0 ≤ v.toInt ∧ v.toInt < y.toInt ∧ Nat.gcd y.toInt.toNat v.toInt.toNat = g ∧ v.toInt.toNat = x.toInt.toNat % y.toInt.toNat := by
  obtain ⟨X, hX⟩ : ∃ X : Nat, x.toInt = X := ⟨x.toInt.toNat, by omega⟩
  obtain ⟨Y, hY⟩ : ∃ Y : Nat, y.toInt = Y := ⟨y.toInt.toNat, by omega⟩
  have e : v.toInt = ((X % Y : Nat) : Int) := by
    rw [hv, hX, hY]
    exact Int.ofNat_tmod X Y ▸ rfl
  have hY0 : 0 < Y := by omega
  have hlt := Nat.mod_lt X hY0
  rw [hX, hY, Int.toNat_natCast, Int.toNat_natCast] at hg
  refine ⟨by omega, by omega, ?_, ?_⟩
  · rw [hY, e, Int.toNat_natCast, Int.toNat_natCast, Nat.gcd_comm, ← Nat.gcd_rec, Nat.gcd_comm]
    exact hg
  · rw [e, hX, hY, Int.toNat_natCast, Int.toNat_natCast, Int.toNat_natCast]
theorem kg_half {a b : Nat} (h : b ≤ a) (hb : 0 < b) : 2 * (b * (a % b)) < a * b + 1 ∧ a % b ≤ b := by
  have h1 := Nat.mod_lt a hb
  have h2 : a % b + b ≤ a := by
    have := Nat.div_add_mod a b
    have h3 : 1 ≤ a / b := (Nat.one_le_div_iff hb).mpr h
    have h4 : b * 1 ≤ b * (a / b) := Nat.mul_le_mul_left b h3
    omega
  refine ⟨?_, Nat.le_of_lt h1⟩
  have h5 : 2 * (a % b) ≤ a := by omega
  have h6 : b * (2 * (a % b)) ≤ b * a := Nat.mul_le_mul_left b h5
  rw [Nat.mul_left_comm] at h6
  rw [Nat.mul_comm a b]
  omega
theorem kg_step {a b s : Nat} (hb : 0 < b) (h : s = 0 ∨ b ≤ a) (hm : a * b < 2 ^ (62 - (s - 1))) : b * (a % b) < 2 ^ (62 - (s + 1 - 1)) ∧ a % b ≤ b := by
  have hlt := Nat.mod_lt a hb
  refine ⟨?_, Nat.le_of_lt hlt⟩
  by_cases hba : b ≤ a
  · have g := (kg_half hba hb).1
    have hpos : 0 < a * b := Nat.mul_pos (by omega) hb
    rcases Nat.eq_zero_or_pos s with rfl | hs
    · have e1 : (62 : Nat) - (0 - 1) = 62 := rfl
      have e2 : (62 : Nat) - (0 + 1 - 1) = 62 := rfl
      rw [e1] at hm
      rw [e2]
      generalize (2 : Nat) ^ 62 = p at *
      omega
    · by_cases h62 : s ≤ 62
      · have e1 : 62 - (s - 1) = (62 - s) + 1 := by omega
        have e2 : 62 - (s + 1 - 1) = 62 - s := by omega
        rw [e1, Nat.pow_succ] at hm
        rw [e2]
        generalize (2 : Nat) ^ (62 - s) = p at *
        omega
      · have e1 : 62 - (s - 1) = 0 := by omega
        rw [e1, Nat.pow_zero] at hm
        omega
  · have hs : s = 0 := by omega
    subst hs
    have e0 : a % b = a := Nat.mod_eq_of_lt (by omega)
    rw [e0, Nat.mul_comm]
    exact hm
theorem kg_end {a b s : Nat} (h : b ≤ a) (hs : 63 ≤ s) (hm : a * b < 2 ^ (62 - (s - 1))) : b = 0 := by
  have e1 : 62 - (s - 1) = 0 := by omega
  rw [e1, Nat.pow_zero] at hm
  rcases Nat.eq_zero_or_pos b with h0 | h0
  · exact h0
  · have := Nat.mul_pos (show 0 < a by omega) h0
    omega
theorem kg_init {a b : Int32} (ha : 0 ≤ a.toInt) (hb : 0 ≤ b.toInt) : a.toInt.toNat * b.toInt.toNat < 2 ^ (62 - (0 - 1)) := by
  have h1 := en_z_int a
  have h2 := en_z_lt a
  have h3 := en_z_int b
  have h4 := en_z_lt b
  have g1 : a.toInt.toNat < 2147483648 := by omega
  have g2 : b.toInt.toNat < 2147483648 := by omega
  have e : (2 : Nat) ^ (62 - (0 - 1)) = 2147483648 * 2147483648 := by decide
  rw [e]
  exact Nat.mul_lt_mul'' g1 g2
/-- a power as ints of 32 bits have it -/
def kg_pw (b : Int32) : Nat → Int32
  | 0 => 1
  | n + 1 => kg_pw b n * b
theorem kg_pw_small : ∀ b, b < 7 → ∀ n, n < 11 → 0 ≤ (kg_pw (Int32.ofNat b) n).toInt ∧ (kg_pw (Int32.ofNat b) n).toInt ≤ 60466176 ∧ (1 ≤ b → 1 ≤ (kg_pw (Int32.ofNat b) n).toInt) := by decide +kernel
theorem kg_pw_s {b : Int32} {n : Nat} (h1 : 0 ≤ b.toInt) (h2 : b.toInt ≤ 6) (hn : n ≤ 10) : 0 ≤ (kg_pw b n).toInt ∧ (kg_pw b n).toInt ≤ 60466176 ∧ (1 ≤ b.toInt → 1 ≤ (kg_pw b n).toInt) := by
  have e : b = Int32.ofNat b.toInt.toNat := by
    apply Int32.toInt_inj.mp
    rw [Int32.toInt_ofNat_of_lt (by omega)]
    omega
  have g := kg_pw_small b.toInt.toNat (by omega) n (by omega)
  rw [← e] at g
  exact ⟨g.1, g.2.1, fun h => g.2.2 (by omega)⟩
/-- as many hundredths, behind k -/
def kg_c (m q p : Int32) (k : Nat) : Bool := decide ((p.toInt64 * ((kg_pw m k).toInt64 + (kg_pw q k).toInt64)).toInt ≤ (100 * (kg_pw m k).toInt64).toInt)
theorem kg_cI {m q p v1 v2 : Int32} {k : Nat} {x1 x2 x3 c y1 xp y2 : Int64} (hv1 : v1 = kg_pw m k) (hv2 : v2 = kg_pw q k) (e1 : x1.toInt = v1.toInt) (e2 : x2.toInt = v2.toInt) (e3 : x3 = x1 + x2) (ec : c.toInt = 100) (e4 : y1 = c * x1 ∨ y1 = x1 * c) (ep : xp.toInt = p.toInt) (e5 : y2 = xp * x3 ∨ y2 = x3 * xp) : kg_c m q p k = decide (y2.toInt ≤ y1.toInt) := by
  have f1 : x1 = (kg_pw m k).toInt64 := Int64.toInt_inj.mp (by rw [e1, hv1, Int32.toInt_toInt64])
  have f2 : x2 = (kg_pw q k).toInt64 := Int64.toInt_inj.mp (by rw [e2, hv2, Int32.toInt_toInt64])
  have f3 : c = 100 := Int64.toInt_inj.mp (by rw [ec]; rfl)
  have f4 : xp = p.toInt64 := Int64.toInt_inj.mp (by rw [ep, Int32.toInt_toInt64])
  have g1 : y1 = 100 * (kg_pw m k).toInt64 := by
    rcases e4 with e | e
    · rw [e, f1, f3]
    · rw [e, f1, f3, Int64.mul_comm]
  have g2 : y2 = p.toInt64 * ((kg_pw m k).toInt64 + (kg_pw q k).toInt64) := by
    rcases e5 with e | e
    · rw [e, e3, f1, f2, f4]
    · rw [e, e3, f1, f2, f4, Int64.mul_comm]
  unfold kg_c
  rw [g1, g2]
/-- the fewest behind which it is so -/
def kg_su (m q p : Int32) : Nat → Nat → Int
  | 0, _ => -2
  | f + 1, k => if kg_c m q p k = true then (k : Int) else kg_su m q p f (k + 1)
/-- what likely, surely, cheats, restore, tell answer: m MEN, t TOLD, cap who, hs which SLOTS hold -/
def kd_Plk (m a p b r : Int32) : Prop := (¬ (0 ≤ a.toInt ∧ a.toInt < m.toInt ∧ 0 ≤ p.toInt ∧ p.toInt < 4) ∧ r.toInt = -1) ∨ ((0 ≤ a.toInt ∧ a.toInt < m.toInt ∧ 0 ≤ p.toInt ∧ p.toInt < 4) ∧ ((p.toInt < m.toInt ∧ ∃ d : Int32, d.toInt = (Nat.gcd 1 m.toInt.toNat : Int) ∧ (b.toInt ≠ 0 → r = m / d) ∧ (b.toInt = 0 → r = 1 / d)) ∨ (¬ (p.toInt < m.toInt) ∧ (b.toInt ≠ 0 → r.toInt = 1) ∧ (b.toInt = 0 → r.toInt = 0))))
def kd_Psu (m p r : Int32) : Prop := (¬ (0 ≤ p.toInt ∧ p.toInt ≤ 100 ∧ m.toInt ≠ 0) ∧ r.toInt = -1) ∨ ((0 ≤ p.toInt ∧ p.toInt ≤ 100 ∧ m.toInt ≠ 0) ∧ r.toInt = kg_su m (m - 1) p 11 0)
def kd_Pch (m t : Int32) (cap : Nat → Int32) (a k b r : Int32) : Prop := (¬ (0 ≤ a.toInt ∧ a.toInt < m.toInt ∧ 0 ≤ k.toInt ∧ k.toInt ≤ t.toInt) ∧ r.toInt = -1) ∨ ((0 ≤ a.toInt ∧ a.toInt < m.toInt ∧ 0 ≤ k.toInt ∧ k.toInt ≤ t.toInt) ∧ (((∃ j : Nat, (j : Int) < k.toInt ∧ cap j = a) ∧ (b.toInt ≠ 0 → r.toInt = 1) ∧ (b.toInt = 0 → r.toInt = 0)) ∨ ((∀ j : Nat, (j : Int) < k.toInt → cap j ≠ a) ∧ ∃ d l : Int32, l.toInt = (kg_pw m k.toInt.toNat).toInt + (kg_pw (m - 1) k.toInt.toNat).toInt ∧ d.toInt = (Nat.gcd (kg_pw m k.toInt.toNat).toInt.natAbs l.toInt.toNat : Int) ∧ (b.toInt ≠ 0 → r = l / d) ∧ (b.toInt = 0 → r = kg_pw m k.toInt.toNat / d))))
def kd_Prs (hs : Nat → Int32) (p r : Int32) : Prop := (r.toInt = 1 ∧ 0 ≤ p.toInt ∧ p.toInt < 3 ∧ (hs p.toInt.toNat).toInt ≠ 0) ∨ (r.toInt = 0 ∧ ¬ (0 ≤ p.toInt ∧ p.toInt < 3 ∧ (hs p.toInt.toNat).toInt ≠ 0))
def kd_Ptl (m t : Int32) (cap : Nat → Int32) (a r t' : Int32) (cap' : Nat → Int32) : Prop := (((0 ≤ a.toInt ∧ a.toInt < m.toInt) ∧ t.toInt < 10) ∧ r.toInt = t.toInt ∧ t'.toInt = t.toInt + 1 ∧ cap' t.toInt.toNat = a ∧ ∀ j : Nat, (j : Int) < t.toInt → cap' j = cap j) ∨ (¬ ((0 ≤ a.toInt ∧ a.toInt < m.toInt) ∧ t.toInt < 10) ∧ r.toInt = -1 ∧ t' = t ∧ cap' = cap)
def kd_Phd (hs hs' : Nat → Int32) (p : Int32) : Prop := (0 ≤ p.toInt ∧ p.toInt < 3 → (hs' p.toInt.toNat).toInt = 1 ∧ ∀ j, j ≠ p.toInt.toNat → hs' j = hs j) ∧ (¬ (0 ≤ p.toInt ∧ p.toInt < 3) → hs' = hs)
theorem kd_ti {x y : Int32} (h : x.toInt = y.toInt) : x = y := Int32.toInt_inj.mp h
theorem kd_Ulk {m a p b r r' : Int32} (h : kd_Plk m a p b r) (g : kd_Plk m a p b r') : r = r' := by
  rcases h with ⟨h1, h2⟩ | ⟨h1, ⟨h2, d, h3, h4, h5⟩ | ⟨h2, h4, h5⟩⟩ <;> rcases g with ⟨g1, g2⟩ | ⟨g1, ⟨g2, d', g3, g4, g5⟩ | ⟨g2, g4, g5⟩⟩
  · exact kd_ti (by omega)
  · exact absurd g1 h1
  · exact absurd g1 h1
  · exact absurd h1 g1
  · have e : d = d' := kd_ti (h3.trans g3.symm)
    subst e
    by_cases q : b.toInt = 0
    · rw [h5 q, g5 q]
    · rw [h4 q, g4 q]
  · exact absurd h2 g2
  · exact absurd h1 g1
  · exact absurd g2 h2
  · by_cases q : b.toInt = 0
    · exact kd_ti ((h5 q).trans (g5 q).symm)
    · exact kd_ti ((h4 q).trans (g4 q).symm)
theorem kd_Usu {m p r r' : Int32} (h : kd_Psu m p r) (g : kd_Psu m p r') : r = r' := by
  rcases h with ⟨h1, h2⟩ | ⟨h1, h2⟩ <;> rcases g with ⟨g1, g2⟩ | ⟨g1, g2⟩
  · exact kd_ti (by omega)
  · exact absurd g1 h1
  · exact absurd h1 g1
  · exact kd_ti (h2.trans g2.symm)
theorem kd_Uch {m t a k b r r' : Int32} {cap cap' : Nat → Int32} (hc : ∀ j : Nat, (j : Int) < t.toInt → cap j = cap' j) (h : kd_Pch m t cap a k b r) (g : kd_Pch m t cap' a k b r') : r = r' := by
  rcases h with ⟨h1, h2⟩ | ⟨h1, ⟨h2, h4, h5⟩ | ⟨h2, d, l, h3, h6, h4, h5⟩⟩ <;> rcases g with ⟨g1, g2⟩ | ⟨g1, ⟨g2, g4, g5⟩ | ⟨g2, d', l', g3, g6, g4, g5⟩⟩
  · exact kd_ti (by omega)
  · exact absurd g1 h1
  · exact absurd g1 h1
  · exact absurd h1 g1
  · by_cases q : b.toInt = 0
    · exact kd_ti ((h5 q).trans (g5 q).symm)
    · exact kd_ti ((h4 q).trans (g4 q).symm)
  · obtain ⟨j, j1, j2⟩ := h2
    exact absurd ((hc j (by omega)).symm.trans j2) (g2 j j1)
  · exact absurd h1 g1
  · obtain ⟨j, j1, j2⟩ := g2
    exact absurd ((hc j (by omega)).trans j2) (h2 j j1)
  · have el : l = l' := kd_ti (h3.trans g3.symm)
    subst el
    have e : d = d' := kd_ti (h6.trans g6.symm)
    subst e
    by_cases q : b.toInt = 0
    · rw [h5 q, g5 q]
    · rw [h4 q, g4 q]
theorem kd_Urs {p r r' : Int32} {hs hs' : Nat → Int32} (hc : ∀ j, j < 3 → hs j = hs' j) (h : kd_Prs hs p r) (g : kd_Prs hs' p r') : r = r' := by
  rcases h with ⟨h1, h2, h3, h4⟩ | ⟨h1, h2⟩ <;> rcases g with ⟨g1, g2, g3, g4⟩ | ⟨g1, g2⟩
  · exact kd_ti (by omega)
  · exact absurd ⟨h2, h3, by rw [← hc _ (by omega)]; exact h4⟩ g2
  · exact absurd ⟨g2, g3, by rw [hc _ (by omega)]; exact g4⟩ h2
  · exact kd_ti (by omega)
theorem kd_Utl {m t a r r' t1 t2 : Int32} {cap cap' c1 c2 : Nat → Int32} (ht : 0 ≤ t.toInt) (hc : ∀ j : Nat, (j : Int) < t.toInt → cap j = cap' j) (h : kd_Ptl m t cap a r t1 c1) (g : kd_Ptl m t cap' a r' t2 c2) : r = r' ∧ t1 = t2 ∧ ∀ j : Nat, (j : Int) < t1.toInt → c1 j = c2 j := by
  rcases h with ⟨h1, h2, h3, h4, h5⟩ | ⟨h1, h2, h3, h4⟩ <;> rcases g with ⟨g1, g2, g3, g4, g5⟩ | ⟨g1, g2, g3, g4⟩
  · refine ⟨kd_ti (h2.trans g2.symm), kd_ti (h3.trans g3.symm), fun j hj => ?_⟩
    by_cases e : j = t.toInt.toNat
    · rw [e, h4, g4]
    · rw [h5 j (by omega), g5 j (by omega)]
      exact hc j (by omega)
  · exact absurd h1 g1
  · exact absurd g1 h1
  · refine ⟨kd_ti (h2.trans g2.symm), by rw [h3, g3], fun j hj => ?_⟩
    rw [h4, g4]
    rw [h3] at hj
    exact hc j hj
theorem kd_Uhd {p : Int32} {a b a' b' : Nat → Int32} (hc : ∀ j, j < 3 → a j = b j) (h : kd_Phd a a' p) (g : kd_Phd b b' p) : ∀ j, j < 3 → a' j = b' j := by
  intro j hj
  by_cases q : 0 ≤ p.toInt ∧ p.toInt < 3
  · obtain ⟨h1, h2⟩ := h.1 q
    obtain ⟨g1, g2⟩ := g.1 q
    by_cases e : j = p.toInt.toNat
    · rw [e]
      exact kd_ti (h1.trans g1.symm)
    · rw [h2 j e, g2 j e]
      exact hc j hj
  · rw [h.2 q, g.2 q]
    exact hc j hj
