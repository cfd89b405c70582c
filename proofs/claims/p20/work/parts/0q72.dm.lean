/-! PARTIAL: the reference's draws (wip/p8/mkdm.py) -/
theorem dm_q {x y v : Int32} (hx : 0 ≤ x.toInt) (hy : 0 < y.toInt) (e : v = x / y) : v.toInt = x.toInt / y.toInt := by
  rw [e, Int32.toInt_div, Int.tdiv_eq_ediv_of_nonneg hx]
  have h1 : 0 ≤ x.toInt / y.toInt := Int.ediv_nonneg hx (by omega)
  have h2 : x.toInt / y.toInt ≤ x.toInt := Int.ediv_le_self _ hx
  have h3 := x.toInt_lt
  exact Int.bmod_eq_of_le (by show _ ≤ _; omega) (by show _ < _; omega)
theorem dm_r {x y v : Int32} (hx : 0 ≤ x.toInt) (e : v.toInt = x.toInt.tmod y.toInt) : v.toInt = x.toInt % y.toInt := by rw [e, Int.tmod_eq_emod_of_nonneg hx]
theorem dm_dg {w p v1 v2 s c : Int32} (hw : 0 ≤ w.toInt) (hp : 0 ≤ p.toInt ∧ p.toInt < 4) (hs : (p.toInt = 3 ∧ s.toInt = 1) ∨ (p.toInt = 2 ∧ s.toInt = 7) ∨ (p.toInt = 1 ∧ s.toInt = 49) ∨ (p.toInt = 0 ∧ s.toInt = 343)) (hc : c.toInt = 7) (d1 : v1 = w / s) (d2 : v2.toInt = v1.toInt.tmod c.toInt) : v2.toInt = (dr_dg w.toInt.toNat p.toInt.toNat : Int) := by
  have d1 := dm_q hw (by omega) d1
  have d3 : v2.toInt = v1.toInt % c.toInt := by
    refine dm_r ?_ d2
    rw [d1]
    exact Int.ediv_nonneg hw (by omega)
  rw [hc] at d3
  rcases hs with ⟨a, b⟩ | ⟨a, b⟩ | ⟨a, b⟩ | ⟨a, b⟩
  · rw [b] at d1
    rw [show p.toInt.toNat = 3 by omega]
    show v2.toInt = ((w.toInt.toNat / 1 % 7 : Nat) : Int)
    omega
  · rw [b] at d1
    rw [show p.toInt.toNat = 2 by omega]
    show v2.toInt = ((w.toInt.toNat / 7 % 7 : Nat) : Int)
    omega
  · rw [b] at d1
    rw [show p.toInt.toNat = 1 by omega]
    show v2.toInt = ((w.toInt.toNat / 49 % 7 : Nat) : Int)
    omega
  · rw [b] at d1
    rw [show p.toInt.toNat = 0 by omega]
    show v2.toInt = ((w.toInt.toNat / 343 % 7 : Nat) : Int)
    omega
theorem dr_cv_6 {a : Nat} (h : a = 6) : dr_cv a = -2 := if_pos h
theorem dr_cv_n {a : Nat} (h : a ≠ 6) : dr_cv a = (a : Int) := if_neg h
theorem dr_cv_b {w p : Nat} : (dr_cv (dr_dg w p) < 0 ∧ dr_dg w p = 6 ∧ dr_cv (dr_dg w p) = -2) ∨ (0 ≤ dr_cv (dr_dg w p) ∧ dr_dg w p < 6 ∧ dr_cv (dr_dg w p) = (dr_dg w p : Int)) := by
  have h := dr_dg7 (w := w) (p := p)
  by_cases e : dr_dg w p = 6
  · rw [dr_cv_6 e]
    exact Or.inl ⟨by decide, e, rfl⟩
  · rw [dr_cv_n e]
    exact Or.inr ⟨Int.natCast_nonneg _, by omega, rfl⟩
theorem dm_of {a : Int32} {n : Nat} (h : a.toInt = (n : Int)) (hn : n < 6) : a = Int32.ofNat n := Int32.toInt_inj.mp (by rw [h, Int32.toInt_ofNat_of_lt (by omega)])
/-- the bit of a man -/
theorem dm_bt {u a c : Int32} {n : Nat} (h : a.toInt = (n : Int)) (hn : n < 6) (hc : c.toInt = 1) : (((u >>> (a &&& 31)) &&& c).toInt = 1) ↔ dr_bt u n = true := by
  have ec : c = 1 := Int32.toInt_inj.mp hc
  rw [dm_of h hn, ec]
  unfold dr_bt
  rw [decide_eq_true_iff]
  exact ⟨fun e => Int32.toInt_inj.mp e, fun e => by rw [e]; rfl⟩
theorem dm_us {u a c : Int32} {n : Nat} (h : a.toInt = (n : Int)) (hn : n < 6) (hc : c.toInt = 1) : u ||| (c <<< (a &&& 31)) = dr_uf u n := by
  have ec : c = 1 := Int32.toInt_inj.mp hc
  unfold dr_uf
  rw [if_neg (by omega), dm_of h hn, ec]
/-- how many draws: one post more -/
theorem dl_pz_b {m p : Nat} (hm : m ≤ 6) (hp : p ≤ 4) : 1 ≤ dl_pz m p ∧ dl_pz m p ≤ 360 := (by decide +kernel : ∀ m, m ≤ 6 → ∀ p, p ≤ 4 → 1 ≤ dl_pz m p ∧ dl_pz m p ≤ 360) m hm p hp
theorem dm_pz {v x : Int32} {m p : Nat} (hm : m ≤ 6) (hp : p < m) (hp4 : p < 4) (hv : v.toInt = (dl_pz m p : Int)) (hx : x.toInt = (m : Int) - (p : Int)) : (v * x).toInt = (dl_pz m (p + 1) : Int) := by
  have b := dl_pz_b hm (show p + 1 ≤ 4 by omega)
  have e : v.toInt * x.toInt = (dl_pz m (p + 1) : Int) := by
    rw [hv, hx]
    show (dl_pz m p : Int) * ((m : Int) - (p : Int)) = ((dl_pz m p * max 1 (m - p) : Nat) : Int)
    rw [Nat.max_eq_right (by omega), Int.natCast_mul, Int.ofNat_sub (by omega)]
  rw [Int32.toInt_mul, e]
  exact Int.bmod_eq_of_le (by show _ ≤ _; omega) (by show _ < _; omega)
theorem dm_pze {m p : Nat} (hm : m ≤ 6) (hp : p ≤ 4) (h : m ≤ p ∨ p = 4) : dl_pz m p = dl_pz m 4 := (by decide +kernel : ∀ m, m ≤ 6 → ∀ p, p ≤ 4 → (m ≤ p ∨ p = 4) → dl_pz m p = dl_pz m 4) m hm p hp h
theorem dm_pz1 {m p : Nat} (hp : m ≤ p) : dl_pz m (p + 1) = dl_pz m p := by
  show dl_pz m p * max 1 (m - p) = _
  rw [Nat.max_eq_left (by omega), Nat.mul_one]
/-- what roster answers -/
def kd_Pro (m : Nat) (f : Nat → Nat → Int) (p r : Int32) : Prop := (¬ (-1 ≤ p.toInt ∧ p.toInt ≤ 3) ∧ r.toInt = -100) ∨ ((-1 ≤ p.toInt ∧ p.toInt ≤ 3) ∧ ∃ w : Nat, dr_m (dr_k f) (dr_L m 2401) = some w ∧ (p.toInt = -1 → r.toInt = dr_k f w) ∧ (0 ≤ p.toInt → r.toInt = dr_cv (dr_dg w p.toInt.toNat)))
/-- what better answers -/
def kd_Pbt (m : Nat) (f : Nat → Nat → Int) (b r : Int32) : Prop := ∃ (w : Nat) (u l d : Int32), dr_m (dr_k f) (dr_L m 2401) = some w ∧ u.toInt = dr_k f w * (dl_sz m : Int) - dr_s (dr_k f) (dr_L m 2401) ∧ l.toInt = (dl_sz m : Int) ∧ d.toInt = (Nat.gcd u.toInt.natAbs l.toInt.toNat : Int) ∧ (b.toInt ≠ 0 → r = l / d) ∧ (b.toInt = 0 → r = u / d)
theorem dr_fc {m : Nat} {f g : Nat → Nat → Int} (h : ∀ a, a < m → ∀ p, p < 4 → f a p = g a p) : dr_m (dr_k f) (dr_L m 2401) = dr_m (dr_k g) (dr_L m 2401) ∧ dr_s (dr_k f) (dr_L m 2401) = dr_s (dr_k g) (dr_L m 2401) ∧ ∀ w, w ∈ dr_L m 2401 → dr_k f w = dr_k g w := by
  have e : ∀ w, w ∈ dr_L m 2401 → dr_k f w = dr_k g w := fun w hw => dr_kp_c h (List.mem_filter.mp hw).2 4 (Nat.le_refl _)
  exact ⟨dr_m_c _ _ e (fun v hv => by cases hv), dr_s_c _ _ e, e⟩
theorem dr_m_in {f : Nat → Int} : ∀ (l : List Nat) (b : Option Nat) (w : Nat), l.foldl (dr_u f) b = some w → w ∈ l ∨ b = some w := by
  intro l
  induction l with
  | nil => intro b w h; exact Or.inr h
  | cons a l ih =>
    intro b w h
    rcases ih _ w h with q | q
    · exact Or.inl (List.mem_cons_of_mem _ q)
    · cases b with
      | none =>
        cases q
        exact Or.inl List.mem_cons_self
      | some v =>
        have q : (if f v < f a then some a else some v) = some w := q
        split at q
        · cases q
          exact Or.inl List.mem_cons_self
        · exact Or.inr q
theorem kd_Uro {m : Nat} {f g : Nat → Nat → Int} {p r r' : Int32} (h : ∀ a, a < m → ∀ p, p < 4 → f a p = g a p) (a : kd_Pro m f p r) (b : kd_Pro m g p r') : r = r' := by
  refine Int32.toInt_inj.mp ?_
  obtain ⟨e1, e2, e3⟩ := dr_fc h
  rcases a with ⟨a1, a2⟩ | ⟨a1, w, a2, a3, a4⟩ <;> rcases b with ⟨b1, b2⟩ | ⟨b1, w', b2, b3, b4⟩
  · omega
  · exact absurd b1 a1
  · exact absurd a1 b1
  · rw [e1, b2] at a2
    cases a2
    have hw : w ∈ dr_L m 2401 := (dr_m_in _ _ _ b2).resolve_right (fun q => by cases q)
    by_cases c : p.toInt = -1
    · rw [a3 c, b3 c, e3 w hw]
    · rw [a4 (by omega), b4 (by omega)]
theorem kd_Ubt {m : Nat} {f g : Nat → Nat → Int} {b r r' : Int32} (h : ∀ a, a < m → ∀ p, p < 4 → f a p = g a p) (a : kd_Pbt m f b r) (c : kd_Pbt m g b r') : r = r' := by
  obtain ⟨e1, e2, e3⟩ := dr_fc h
  obtain ⟨w, u, l, d, a1, a2, a3, a4, a5, a6⟩ := a
  obtain ⟨w', u', l', d', c1, c2, c3, c4, c5, c6⟩ := c
  rw [e1, c1] at a1
  cases a1
  have hw : w ∈ dr_L m 2401 := (dr_m_in _ _ _ c1).resolve_right (fun q => by cases q)
  have hl : l = l' := Int32.toInt_inj.mp (a3.trans c3.symm)
  have hu : u = u' := Int32.toInt_inj.mp (by rw [a2, c2, e2, e3 w hw])
  subst hl
  subst hu
  have hd : d = d' := Int32.toInt_inj.mp (a4.trans c4.symm)
  subst hd
  by_cases c : b.toInt = 0
  · rw [a6 c, c6 c]
  · rw [a5 c, c5 c]
theorem dm_mul {x y : Int32} (hx : 0 ≤ x.toInt ∧ x.toInt ≤ 36) (hy : 0 ≤ y.toInt ∧ y.toInt ≤ 360) : (x * y).toInt = x.toInt * y.toInt ∧ 0 ≤ x.toInt * y.toInt ∧ x.toInt * y.toInt ≤ 12960 := by
  have a : 0 ≤ x.toInt * y.toInt := Int.mul_nonneg hx.1 hy.1
  have b : x.toInt * y.toInt ≤ 36 * 360 := Int.mul_le_mul hx.2 hy.2 hy.1 (by decide)
  refine ⟨?_, a, by omega⟩
  rw [Int32.toInt_mul]
  exact Int.bmod_eq_of_le (by show _ ≤ _; omega) (by show _ < _; omega)
theorem bu_4_0 : mm_at mt_P 4 0 = some ((0, 1, .iload_n 0, 0, 0, 0, 0), 3, 2, 0, 9, 1, 0, 0) := rfl
theorem bu_4_1 : mm_at mt_P 4 1 = some ((1, 1, .iconst 3, 0, 0, 0, 0), 3, 2, 0, 9, 1, 0, 0) := rfl
theorem bu_4_2 : mm_at mt_P 4 2 = some ((2, 1, .iload_n 1, 0, 0, 0, 0), 3, 2, 0, 9, 1, 0, 0) := rfl
theorem bu_4_3 : mm_at mt_P 4 3 = some ((3, 1, .isub, 0, 0, 0, 0), 3, 2, 0, 9, 1, 0, 0) := rfl
theorem bu_4_4 : mm_at mt_P 4 4 = some ((4, 3, .invokestatic 399, 86, 0, 0, 1688), 3, 2, 0, 9, 1, 0, 0) := rfl
theorem bu_4_7 : mm_at mt_P 4 7 = some ((7, 1, .idiv, 0, 0, 0, 0), 3, 2, 0, 9, 1, 0, 0) := rfl
theorem bu_4_8 : mm_at mt_P 4 8 = some ((8, 2, .bipush 7, 0, 0, 0, 0), 3, 2, 0, 9, 1, 0, 0) := rfl
theorem bu_4_10 : mm_at mt_P 4 10 = some ((10, 1, .irem, 0, 0, 0, 0), 3, 2, 0, 9, 1, 0, 0) := rfl
theorem bu_4_11 : mm_at mt_P 4 11 = some ((11, 1, .istore_n 2, 0, 0, 0, 0), 3, 2, 0, 9, 1, 0, 0) := rfl
theorem bu_4_12 : mm_at mt_P 4 12 = some ((12, 1, .iload_n 2, 0, 0, 0, 0), 3, 2, 0, 9, 1, 0, 0) := rfl
theorem bu_4_13 : mm_at mt_P 4 13 = some ((13, 2, .bipush 6, 0, 0, 0, 0), 3, 2, 0, 9, 1, 0, 0) := rfl
theorem bu_4_15 : mm_at mt_P 4 15 = some ((15, 3, .if_icmp .ne 8, 0, 0, 0, 0), 3, 2, 0, 9, 1, 0, 0) := rfl
theorem bu_4_18 : mm_at mt_P 4 18 = some ((18, 2, .bipush (-2), 0, 0, 0, 0), 3, 2, 0, 9, 1, 0, 0) := rfl
theorem bu_4_20 : mm_at mt_P 4 20 = some ((20, 3, .goto 4, 0, 0, 0, 0), 3, 2, 0, 9, 1, 0, 0) := rfl
theorem bu_4_23 : mm_at mt_P 4 23 = some ((23, 1, .iload_n 2, 0, 0, 0, 0), 3, 2, 0, 9, 1, 0, 0) := rfl
theorem bu_4_24 : mm_at mt_P 4 24 = some ((24, 1, .ireturn, 0, 0, 0, 0), 3, 2, 0, 9, 1, 0, 0) := rfl
theorem bu_9_0 : mm_at mt_P 9 0 = some ((0, 1, .aload_n 0, 0, 0, 0, 0), 4, 1, 1, 9, 1, 0, 0) := rfl
theorem bu_9_1 : mm_at mt_P 9 1 = some ((1, 3, .invokevirtual 455, 33, 0, 0, 1739), 4, 1, 1, 9, 1, 0, 0) := rfl
theorem bu_9_4 : mm_at mt_P 9 4 = some ((4, 1, .iconst 0, 0, 0, 0, 0), 4, 1, 1, 9, 1, 0, 0) := rfl
theorem bu_9_5 : mm_at mt_P 9 5 = some ((5, 1, .istore_n 2, 0, 0, 0, 0), 4, 1, 1, 9, 1, 0, 0) := rfl
theorem bu_9_6 : mm_at mt_P 9 6 = some ((6, 1, .iconst 0, 0, 0, 0, 0), 4, 1, 1, 9, 1, 0, 0) := rfl
theorem bu_9_7 : mm_at mt_P 9 7 = some ((7, 1, .istore_n 3, 0, 0, 0, 0), 4, 1, 1, 9, 1, 0, 0) := rfl
theorem bu_9_8 : mm_at mt_P 9 8 = some ((8, 1, .iload_n 3, 0, 0, 0, 0), 4, 1, 1, 9, 1, 0, 0) := rfl
theorem bu_9_9 : mm_at mt_P 9 9 = some ((9, 3, .sipush 2401, 0, 0, 0, 0), 4, 1, 1, 9, 1, 0, 0) := rfl
theorem bu_9_12 : mm_at mt_P 9 12 = some ((12, 3, .if_icmp .ge 25, 0, 0, 0, 0), 4, 1, 1, 9, 1, 0, 0) := rfl
theorem bu_9_15 : mm_at mt_P 9 15 = some ((15, 1, .aload_n 0, 0, 0, 0, 0), 4, 1, 1, 9, 1, 0, 0) := rfl
theorem bu_9_16 : mm_at mt_P 9 16 = some ((16, 1, .iload_n 3, 0, 0, 0, 0), 4, 1, 1, 9, 1, 0, 0) := rfl
theorem bu_9_17 : mm_at mt_P 9 17 = some ((17, 3, .invokevirtual 416, 49, 0, 0, 1681), 4, 1, 1, 9, 1, 0, 0) := rfl
theorem bu_9_20 : mm_at mt_P 9 20 = some ((20, 3, .ifCond .eq 11, 0, 0, 0, 0), 4, 1, 1, 9, 1, 0, 0) := rfl
theorem bu_9_23 : mm_at mt_P 9 23 = some ((23, 1, .iload_n 2, 0, 0, 0, 0), 4, 1, 1, 9, 1, 0, 0) := rfl
theorem bu_9_24 : mm_at mt_P 9 24 = some ((24, 1, .aload_n 0, 0, 0, 0, 0), 4, 1, 1, 9, 1, 0, 0) := rfl
theorem bu_9_25 : mm_at mt_P 9 25 = some ((25, 1, .iload_n 3, 0, 0, 0, 0), 4, 1, 1, 9, 1, 0, 0) := rfl
theorem bu_9_26 : mm_at mt_P 9 26 = some ((26, 3, .invokevirtual 449, 91, 0, 0, 1743), 4, 1, 1, 9, 1, 0, 0) := rfl
theorem bu_9_29 : mm_at mt_P 9 29 = some ((29, 1, .iadd, 0, 0, 0, 0), 4, 1, 1, 9, 1, 0, 0) := rfl
theorem bu_9_30 : mm_at mt_P 9 30 = some ((30, 1, .istore_n 2, 0, 0, 0, 0), 4, 1, 1, 9, 1, 0, 0) := rfl
theorem bu_9_31 : mm_at mt_P 9 31 = some ((31, 3, .iinc 3 1, 0, 0, 0, 0), 4, 1, 1, 9, 1, 0, 0) := rfl
theorem bu_9_34 : mm_at mt_P 9 34 = some ((34, 3, .goto (-26), 0, 0, 0, 0), 4, 1, 1, 9, 1, 0, 0) := rfl
theorem bu_9_37 : mm_at mt_P 9 37 = some ((37, 1, .aload_n 0, 0, 0, 0, 0), 4, 1, 1, 9, 1, 0, 0) := rfl
theorem bu_9_38 : mm_at mt_P 9 38 = some ((38, 3, .getfield 452, 9, 64, 0, 1281), 4, 1, 1, 9, 1, 0, 0) := rfl
theorem bu_9_41 : mm_at mt_P 9 41 = some ((41, 1, .aload_n 0, 0, 0, 0, 0), 4, 1, 1, 9, 1, 0, 0) := rfl
theorem bu_9_42 : mm_at mt_P 9 42 = some ((42, 3, .invokevirtual 422, 22, 0, 0, 1695), 4, 1, 1, 9, 1, 0, 0) := rfl
theorem bu_9_45 : mm_at mt_P 9 45 = some ((45, 1, .imul, 0, 0, 0, 0), 4, 1, 1, 9, 1, 0, 0) := rfl
theorem bu_9_46 : mm_at mt_P 9 46 = some ((46, 1, .iload_n 2, 0, 0, 0, 0), 4, 1, 1, 9, 1, 0, 0) := rfl
theorem bu_9_47 : mm_at mt_P 9 47 = some ((47, 1, .isub, 0, 0, 0, 0), 4, 1, 1, 9, 1, 0, 0) := rfl
theorem bu_9_48 : mm_at mt_P 9 48 = some ((48, 1, .aload_n 0, 0, 0, 0, 0), 4, 1, 1, 9, 1, 0, 0) := rfl
theorem bu_9_49 : mm_at mt_P 9 49 = some ((49, 3, .invokevirtual 422, 22, 0, 0, 1695), 4, 1, 1, 9, 1, 0, 0) := rfl
theorem bu_9_52 : mm_at mt_P 9 52 = some ((52, 1, .iload_n 1, 0, 0, 0, 0), 4, 1, 1, 9, 1, 0, 0) := rfl
theorem bu_9_53 : mm_at mt_P 9 53 = some ((53, 3, .invokestatic 408, 59, 0, 0, 1662), 4, 1, 1, 9, 1, 0, 0) := rfl
theorem bu_9_56 : mm_at mt_P 9 56 = some ((56, 1, .ireturn, 0, 0, 0, 0), 4, 1, 1, 9, 1, 0, 0) := rfl
theorem bu_22_0 : mm_at mt_P 22 0 = some ((0, 1, .iconst 1, 0, 0, 0, 0), 3, 0, 1, 9, 1, 0, 0) := rfl
theorem bu_22_1 : mm_at mt_P 22 1 = some ((1, 1, .istore_n 1, 0, 0, 0, 0), 3, 0, 1, 9, 1, 0, 0) := rfl
theorem bu_22_2 : mm_at mt_P 22 2 = some ((2, 1, .iconst 0, 0, 0, 0, 0), 3, 0, 1, 9, 1, 0, 0) := rfl
theorem bu_22_3 : mm_at mt_P 22 3 = some ((3, 1, .istore_n 2, 0, 0, 0, 0), 3, 0, 1, 9, 1, 0, 0) := rfl
theorem bu_22_4 : mm_at mt_P 22 4 = some ((4, 1, .iload_n 2, 0, 0, 0, 0), 3, 0, 1, 9, 1, 0, 0) := rfl
theorem bu_22_5 : mm_at mt_P 22 5 = some ((5, 1, .iconst 4, 0, 0, 0, 0), 3, 0, 1, 9, 1, 0, 0) := rfl
theorem bu_22_6 : mm_at mt_P 22 6 = some ((6, 3, .if_icmp .ge 36, 0, 0, 0, 0), 3, 0, 1, 9, 1, 0, 0) := rfl
theorem bu_22_9 : mm_at mt_P 22 9 = some ((9, 1, .iload_n 2, 0, 0, 0, 0), 3, 0, 1, 9, 1, 0, 0) := rfl
theorem bu_22_10 : mm_at mt_P 22 10 = some ((10, 1, .aload_n 0, 0, 0, 0, 0), 3, 0, 1, 9, 1, 0, 0) := rfl
theorem bu_22_11 : mm_at mt_P 22 11 = some ((11, 3, .getfield 43, 9, 22, 0, 1239), 3, 0, 1, 9, 1, 0, 0) := rfl
theorem bu_22_14 : mm_at mt_P 22 14 = some ((14, 1, .aload_n 0, 0, 0, 0, 0), 3, 0, 1, 9, 1, 0, 0) := rfl
theorem bu_22_15 : mm_at mt_P 22 15 = some ((15, 3, .getfield 233, 9, 18, 0, 1235), 3, 0, 1, 9, 1, 0, 0) := rfl
theorem bu_22_18 : mm_at mt_P 22 18 = some ((18, 1, .iaload, 0, 0, 0, 0), 3, 0, 1, 9, 1, 0, 0) := rfl
theorem bu_22_19 : mm_at mt_P 22 19 = some ((19, 3, .if_icmp .ge 23, 0, 0, 0, 0), 3, 0, 1, 9, 1, 0, 0) := rfl
theorem bu_22_22 : mm_at mt_P 22 22 = some ((22, 1, .iload_n 1, 0, 0, 0, 0), 3, 0, 1, 9, 1, 0, 0) := rfl
theorem bu_22_23 : mm_at mt_P 22 23 = some ((23, 1, .aload_n 0, 0, 0, 0, 0), 3, 0, 1, 9, 1, 0, 0) := rfl
theorem bu_22_24 : mm_at mt_P 22 24 = some ((24, 3, .getfield 43, 9, 22, 0, 1239), 3, 0, 1, 9, 1, 0, 0) := rfl
theorem bu_22_27 : mm_at mt_P 22 27 = some ((27, 1, .aload_n 0, 0, 0, 0, 0), 3, 0, 1, 9, 1, 0, 0) := rfl
theorem bu_22_28 : mm_at mt_P 22 28 = some ((28, 3, .getfield 233, 9, 18, 0, 1235), 3, 0, 1, 9, 1, 0, 0) := rfl
theorem bu_22_31 : mm_at mt_P 22 31 = some ((31, 1, .iaload, 0, 0, 0, 0), 3, 0, 1, 9, 1, 0, 0) := rfl
theorem bu_22_32 : mm_at mt_P 22 32 = some ((32, 1, .iload_n 2, 0, 0, 0, 0), 3, 0, 1, 9, 1, 0, 0) := rfl
theorem bu_22_33 : mm_at mt_P 22 33 = some ((33, 1, .isub, 0, 0, 0, 0), 3, 0, 1, 9, 1, 0, 0) := rfl
theorem bu_22_34 : mm_at mt_P 22 34 = some ((34, 1, .imul, 0, 0, 0, 0), 3, 0, 1, 9, 1, 0, 0) := rfl
theorem bu_22_35 : mm_at mt_P 22 35 = some ((35, 1, .istore_n 1, 0, 0, 0, 0), 3, 0, 1, 9, 1, 0, 0) := rfl
theorem bu_22_36 : mm_at mt_P 22 36 = some ((36, 3, .iinc 2 1, 0, 0, 0, 0), 3, 0, 1, 9, 1, 0, 0) := rfl
theorem bu_22_39 : mm_at mt_P 22 39 = some ((39, 3, .goto (-35), 0, 0, 0, 0), 3, 0, 1, 9, 1, 0, 0) := rfl
theorem bu_22_42 : mm_at mt_P 22 42 = some ((42, 1, .iload_n 1, 0, 0, 0, 0), 3, 0, 1, 9, 1, 0, 0) := rfl
theorem bu_22_43 : mm_at mt_P 22 43 = some ((43, 1, .ireturn, 0, 0, 0, 0), 3, 0, 1, 9, 1, 0, 0) := rfl
theorem bu_33_0 : mm_at mt_P 33 0 = some ((0, 1, .aload_n 0, 0, 0, 0, 0), 2, 0, 1, 9, 0, 0, 0) := rfl
theorem bu_33_1 : mm_at mt_P 33 1 = some ((1, 1, .iconst (-1), 0, 0, 0, 0), 2, 0, 1, 9, 0, 0, 0) := rfl
theorem bu_33_2 : mm_at mt_P 33 2 = some ((2, 3, .putfield 446, 9, 63, 0, 1280), 2, 0, 1, 9, 0, 0, 0) := rfl
theorem bu_33_5 : mm_at mt_P 33 5 = some ((5, 1, .iconst 0, 0, 0, 0, 0), 2, 0, 1, 9, 0, 0, 0) := rfl
theorem bu_33_6 : mm_at mt_P 33 6 = some ((6, 1, .istore_n 1, 0, 0, 0, 0), 2, 0, 1, 9, 0, 0, 0) := rfl
theorem bu_33_7 : mm_at mt_P 33 7 = some ((7, 1, .iload_n 1, 0, 0, 0, 0), 2, 0, 1, 9, 0, 0, 0) := rfl
theorem bu_33_8 : mm_at mt_P 33 8 = some ((8, 3, .sipush 2401, 0, 0, 0, 0), 2, 0, 1, 9, 0, 0, 0) := rfl
theorem bu_33_11 : mm_at mt_P 33 11 = some ((11, 3, .if_icmp .ge 53, 0, 0, 0, 0), 2, 0, 1, 9, 0, 0, 0) := rfl
theorem bu_33_14 : mm_at mt_P 33 14 = some ((14, 1, .aload_n 0, 0, 0, 0, 0), 2, 0, 1, 9, 0, 0, 0) := rfl
theorem bu_33_15 : mm_at mt_P 33 15 = some ((15, 1, .iload_n 1, 0, 0, 0, 0), 2, 0, 1, 9, 0, 0, 0) := rfl
theorem bu_33_16 : mm_at mt_P 33 16 = some ((16, 3, .invokevirtual 416, 49, 0, 0, 1681), 2, 0, 1, 9, 0, 0, 0) := rfl
theorem bu_33_19 : mm_at mt_P 33 19 = some ((19, 3, .ifCond .eq 39, 0, 0, 0, 0), 2, 0, 1, 9, 0, 0, 0) := rfl
theorem bu_33_22 : mm_at mt_P 33 22 = some ((22, 1, .aload_n 0, 0, 0, 0, 0), 2, 0, 1, 9, 0, 0, 0) := rfl
theorem bu_33_23 : mm_at mt_P 33 23 = some ((23, 3, .getfield 446, 9, 63, 0, 1280), 2, 0, 1, 9, 0, 0, 0) := rfl
theorem bu_33_26 : mm_at mt_P 33 26 = some ((26, 3, .ifCond .lt 18, 0, 0, 0, 0), 2, 0, 1, 9, 0, 0, 0) := rfl
theorem bu_33_29 : mm_at mt_P 33 29 = some ((29, 1, .aload_n 0, 0, 0, 0, 0), 2, 0, 1, 9, 0, 0, 0) := rfl
theorem bu_33_30 : mm_at mt_P 33 30 = some ((30, 1, .iload_n 1, 0, 0, 0, 0), 2, 0, 1, 9, 0, 0, 0) := rfl
theorem bu_33_31 : mm_at mt_P 33 31 = some ((31, 3, .invokevirtual 449, 91, 0, 0, 1743), 2, 0, 1, 9, 0, 0, 0) := rfl
theorem bu_33_34 : mm_at mt_P 33 34 = some ((34, 1, .aload_n 0, 0, 0, 0, 0), 2, 0, 1, 9, 0, 0, 0) := rfl
theorem bu_33_35 : mm_at mt_P 33 35 = some ((35, 3, .getfield 452, 9, 64, 0, 1281), 2, 0, 1, 9, 0, 0, 0) := rfl
theorem bu_33_38 : mm_at mt_P 33 38 = some ((38, 3, .if_icmp .gt 6, 0, 0, 0, 0), 2, 0, 1, 9, 0, 0, 0) := rfl
theorem bu_33_41 : mm_at mt_P 33 41 = some ((41, 3, .goto 17, 0, 0, 0, 0), 2, 0, 1, 9, 0, 0, 0) := rfl
theorem bu_33_44 : mm_at mt_P 33 44 = some ((44, 1, .aload_n 0, 0, 0, 0, 0), 2, 0, 1, 9, 0, 0, 0) := rfl
theorem bu_33_45 : mm_at mt_P 33 45 = some ((45, 1, .iload_n 1, 0, 0, 0, 0), 2, 0, 1, 9, 0, 0, 0) := rfl
theorem bu_33_46 : mm_at mt_P 33 46 = some ((46, 3, .putfield 446, 9, 63, 0, 1280), 2, 0, 1, 9, 0, 0, 0) := rfl
theorem bu_33_49 : mm_at mt_P 33 49 = some ((49, 1, .aload_n 0, 0, 0, 0, 0), 2, 0, 1, 9, 0, 0, 0) := rfl
theorem bu_33_50 : mm_at mt_P 33 50 = some ((50, 1, .aload_n 0, 0, 0, 0, 0), 2, 0, 1, 9, 0, 0, 0) := rfl
theorem bu_33_51 : mm_at mt_P 33 51 = some ((51, 1, .iload_n 1, 0, 0, 0, 0), 2, 0, 1, 9, 0, 0, 0) := rfl
theorem bu_33_52 : mm_at mt_P 33 52 = some ((52, 3, .invokevirtual 449, 91, 0, 0, 1743), 2, 0, 1, 9, 0, 0, 0) := rfl
theorem bu_33_55 : mm_at mt_P 33 55 = some ((55, 3, .putfield 452, 9, 64, 0, 1281), 2, 0, 1, 9, 0, 0, 0) := rfl
theorem bu_33_58 : mm_at mt_P 33 58 = some ((58, 3, .iinc 1 1, 0, 0, 0, 0), 2, 0, 1, 9, 0, 0, 0) := rfl
theorem bu_33_61 : mm_at mt_P 33 61 = some ((61, 3, .goto (-54), 0, 0, 0, 0), 2, 0, 1, 9, 0, 0, 0) := rfl
theorem bu_33_64 : mm_at mt_P 33 64 = some ((64, 1, .return_, 0, 0, 0, 0), 2, 0, 1, 9, 0, 0, 0) := rfl
theorem bu_49_0 : mm_at mt_P 49 0 = some ((0, 1, .iconst 0, 0, 0, 0, 0), 5, 1, 1, 9, 2, 0, 0) := rfl
theorem bu_49_1 : mm_at mt_P 49 1 = some ((1, 1, .istore_n 2, 0, 0, 0, 0), 5, 1, 1, 9, 2, 0, 0) := rfl
theorem bu_49_2 : mm_at mt_P 49 2 = some ((2, 1, .iconst 0, 0, 0, 0, 0), 5, 1, 1, 9, 2, 0, 0) := rfl
theorem bu_49_3 : mm_at mt_P 49 3 = some ((3, 1, .istore_n 3, 0, 0, 0, 0), 5, 1, 1, 9, 2, 0, 0) := rfl
theorem bu_49_4 : mm_at mt_P 49 4 = some ((4, 1, .iload_n 3, 0, 0, 0, 0), 5, 1, 1, 9, 2, 0, 0) := rfl
theorem bu_49_5 : mm_at mt_P 49 5 = some ((5, 1, .iconst 4, 0, 0, 0, 0), 5, 1, 1, 9, 2, 0, 0) := rfl
theorem bu_49_6 : mm_at mt_P 49 6 = some ((6, 3, .if_icmp .ge 70, 0, 0, 0, 0), 5, 1, 1, 9, 2, 0, 0) := rfl
theorem bu_49_9 : mm_at mt_P 49 9 = some ((9, 1, .iload_n 1, 0, 0, 0, 0), 5, 1, 1, 9, 2, 0, 0) := rfl
theorem bu_49_10 : mm_at mt_P 49 10 = some ((10, 1, .iload_n 3, 0, 0, 0, 0), 5, 1, 1, 9, 2, 0, 0) := rfl
theorem bu_49_11 : mm_at mt_P 49 11 = some ((11, 3, .invokestatic 402, 4, 0, 0, 1685), 5, 1, 1, 9, 2, 0, 0) := rfl
theorem bu_49_14 : mm_at mt_P 49 14 = some ((14, 2, .istore 4, 0, 0, 0, 0), 5, 1, 1, 9, 2, 0, 0) := rfl
theorem bu_49_16 : mm_at mt_P 49 16 = some ((16, 1, .iload_n 3, 0, 0, 0, 0), 5, 1, 1, 9, 2, 0, 0) := rfl
theorem bu_49_17 : mm_at mt_P 49 17 = some ((17, 1, .aload_n 0, 0, 0, 0, 0), 5, 1, 1, 9, 2, 0, 0) := rfl
theorem bu_49_18 : mm_at mt_P 49 18 = some ((18, 3, .getfield 43, 9, 22, 0, 1239), 5, 1, 1, 9, 2, 0, 0) := rfl
theorem bu_49_21 : mm_at mt_P 49 21 = some ((21, 1, .aload_n 0, 0, 0, 0, 0), 5, 1, 1, 9, 2, 0, 0) := rfl
theorem bu_49_22 : mm_at mt_P 49 22 = some ((22, 3, .getfield 233, 9, 18, 0, 1235), 5, 1, 1, 9, 2, 0, 0) := rfl
theorem bu_49_25 : mm_at mt_P 49 25 = some ((25, 1, .iaload, 0, 0, 0, 0), 5, 1, 1, 9, 2, 0, 0) := rfl
theorem bu_49_26 : mm_at mt_P 49 26 = some ((26, 3, .if_icmp .lt 11, 0, 0, 0, 0), 5, 1, 1, 9, 2, 0, 0) := rfl
theorem bu_49_29 : mm_at mt_P 49 29 = some ((29, 2, .iload 4, 0, 0, 0, 0), 5, 1, 1, 9, 2, 0, 0) := rfl
theorem bu_49_31 : mm_at mt_P 49 31 = some ((31, 3, .ifCond .lt 27, 0, 0, 0, 0), 5, 1, 1, 9, 2, 0, 0) := rfl
theorem bu_49_34 : mm_at mt_P 49 34 = some ((34, 3, .goto 22, 0, 0, 0, 0), 5, 1, 1, 9, 2, 0, 0) := rfl
theorem bu_49_37 : mm_at mt_P 49 37 = some ((37, 1, .aload_n 0, 0, 0, 0, 0), 5, 1, 1, 9, 2, 0, 0) := rfl
theorem bu_49_38 : mm_at mt_P 49 38 = some ((38, 2, .iload 4, 0, 0, 0, 0), 5, 1, 1, 9, 2, 0, 0) := rfl
theorem bu_49_40 : mm_at mt_P 49 40 = some ((40, 3, .invokevirtual 377, 52, 0, 0, 1539), 5, 1, 1, 9, 2, 0, 0) := rfl
theorem bu_49_43 : mm_at mt_P 49 43 = some ((43, 3, .ifCond .eq 13, 0, 0, 0, 0), 5, 1, 1, 9, 2, 0, 0) := rfl
theorem bu_49_46 : mm_at mt_P 49 46 = some ((46, 1, .iload_n 2, 0, 0, 0, 0), 5, 1, 1, 9, 2, 0, 0) := rfl
theorem bu_49_47 : mm_at mt_P 49 47 = some ((47, 2, .iload 4, 0, 0, 0, 0), 5, 1, 1, 9, 2, 0, 0) := rfl
theorem bu_49_49 : mm_at mt_P 49 49 = some ((49, 1, .ishr, 0, 0, 0, 0), 5, 1, 1, 9, 2, 0, 0) := rfl
theorem bu_49_50 : mm_at mt_P 49 50 = some ((50, 1, .iconst 1, 0, 0, 0, 0), 5, 1, 1, 9, 2, 0, 0) := rfl
theorem bu_49_51 : mm_at mt_P 49 51 = some ((51, 1, .iand, 0, 0, 0, 0), 5, 1, 1, 9, 2, 0, 0) := rfl
theorem bu_49_52 : mm_at mt_P 49 52 = some ((52, 1, .iconst 1, 0, 0, 0, 0), 5, 1, 1, 9, 2, 0, 0) := rfl
theorem bu_49_53 : mm_at mt_P 49 53 = some ((53, 3, .if_icmp .ne 5, 0, 0, 0, 0), 5, 1, 1, 9, 2, 0, 0) := rfl
theorem bu_49_56 : mm_at mt_P 49 56 = some ((56, 1, .iconst 0, 0, 0, 0, 0), 5, 1, 1, 9, 2, 0, 0) := rfl
theorem bu_49_57 : mm_at mt_P 49 57 = some ((57, 1, .ireturn, 0, 0, 0, 0), 5, 1, 1, 9, 2, 0, 0) := rfl
theorem bu_49_58 : mm_at mt_P 49 58 = some ((58, 2, .iload 4, 0, 0, 0, 0), 5, 1, 1, 9, 2, 0, 0) := rfl
theorem bu_49_60 : mm_at mt_P 49 60 = some ((60, 3, .ifCond .lt 10, 0, 0, 0, 0), 5, 1, 1, 9, 2, 0, 0) := rfl
theorem bu_49_63 : mm_at mt_P 49 63 = some ((63, 1, .iload_n 2, 0, 0, 0, 0), 5, 1, 1, 9, 2, 0, 0) := rfl
theorem bu_49_64 : mm_at mt_P 49 64 = some ((64, 1, .iconst 1, 0, 0, 0, 0), 5, 1, 1, 9, 2, 0, 0) := rfl
theorem bu_49_65 : mm_at mt_P 49 65 = some ((65, 2, .iload 4, 0, 0, 0, 0), 5, 1, 1, 9, 2, 0, 0) := rfl
theorem bu_49_67 : mm_at mt_P 49 67 = some ((67, 1, .ishl, 0, 0, 0, 0), 5, 1, 1, 9, 2, 0, 0) := rfl
theorem bu_49_68 : mm_at mt_P 49 68 = some ((68, 1, .ior, 0, 0, 0, 0), 5, 1, 1, 9, 2, 0, 0) := rfl
theorem bu_49_69 : mm_at mt_P 49 69 = some ((69, 1, .istore_n 2, 0, 0, 0, 0), 5, 1, 1, 9, 2, 0, 0) := rfl
theorem bu_49_70 : mm_at mt_P 49 70 = some ((70, 3, .iinc 3 1, 0, 0, 0, 0), 5, 1, 1, 9, 2, 0, 0) := rfl
theorem bu_49_73 : mm_at mt_P 49 73 = some ((73, 3, .goto (-69), 0, 0, 0, 0), 5, 1, 1, 9, 2, 0, 0) := rfl
theorem bu_49_76 : mm_at mt_P 49 76 = some ((76, 1, .iconst 1, 0, 0, 0, 0), 5, 1, 1, 9, 2, 0, 0) := rfl
theorem bu_49_77 : mm_at mt_P 49 77 = some ((77, 1, .ireturn, 0, 0, 0, 0), 5, 1, 1, 9, 2, 0, 0) := rfl
theorem bu_80_0 : mm_at mt_P 80 0 = some ((0, 1, .iload_n 1, 0, 0, 0, 0), 2, 1, 1, 9, 1, 0, 0) := rfl
theorem bu_80_1 : mm_at mt_P 80 1 = some ((1, 1, .iconst (-1), 0, 0, 0, 0), 2, 1, 1, 9, 1, 0, 0) := rfl
theorem bu_80_2 : mm_at mt_P 80 2 = some ((2, 1, .iconst 3, 0, 0, 0, 0), 2, 1, 1, 9, 1, 0, 0) := rfl
theorem bu_80_3 : mm_at mt_P 80 3 = some ((3, 3, .invokestatic 300, 43, 0, 0, 1543), 2, 1, 1, 9, 1, 0, 0) := rfl
theorem bu_80_6 : mm_at mt_P 80 6 = some ((6, 3, .ifCond .ne 6, 0, 0, 0, 0), 2, 1, 1, 9, 1, 0, 0) := rfl
theorem bu_80_9 : mm_at mt_P 80 9 = some ((9, 2, .bipush (-100), 0, 0, 0, 0), 2, 1, 1, 9, 1, 0, 0) := rfl
theorem bu_80_11 : mm_at mt_P 80 11 = some ((11, 1, .ireturn, 0, 0, 0, 0), 2, 1, 1, 9, 1, 0, 0) := rfl
theorem bu_80_12 : mm_at mt_P 80 12 = some ((12, 1, .aload_n 0, 0, 0, 0, 0), 2, 1, 1, 9, 1, 0, 0) := rfl
theorem bu_80_13 : mm_at mt_P 80 13 = some ((13, 3, .invokevirtual 455, 33, 0, 0, 1739), 2, 1, 1, 9, 1, 0, 0) := rfl
theorem bu_80_16 : mm_at mt_P 80 16 = some ((16, 1, .iload_n 1, 0, 0, 0, 0), 2, 1, 1, 9, 1, 0, 0) := rfl
theorem bu_80_17 : mm_at mt_P 80 17 = some ((17, 1, .iconst (-1), 0, 0, 0, 0), 2, 1, 1, 9, 1, 0, 0) := rfl
theorem bu_80_18 : mm_at mt_P 80 18 = some ((18, 3, .if_icmp .ne 10, 0, 0, 0, 0), 2, 1, 1, 9, 1, 0, 0) := rfl
theorem bu_80_21 : mm_at mt_P 80 21 = some ((21, 1, .aload_n 0, 0, 0, 0, 0), 2, 1, 1, 9, 1, 0, 0) := rfl
theorem bu_80_22 : mm_at mt_P 80 22 = some ((22, 3, .getfield 452, 9, 64, 0, 1281), 2, 1, 1, 9, 1, 0, 0) := rfl
theorem bu_80_25 : mm_at mt_P 80 25 = some ((25, 3, .goto 11, 0, 0, 0, 0), 2, 1, 1, 9, 1, 0, 0) := rfl
theorem bu_80_28 : mm_at mt_P 80 28 = some ((28, 1, .aload_n 0, 0, 0, 0, 0), 2, 1, 1, 9, 1, 0, 0) := rfl
theorem bu_80_29 : mm_at mt_P 80 29 = some ((29, 3, .getfield 446, 9, 63, 0, 1280), 2, 1, 1, 9, 1, 0, 0) := rfl
theorem bu_80_32 : mm_at mt_P 80 32 = some ((32, 1, .iload_n 1, 0, 0, 0, 0), 2, 1, 1, 9, 1, 0, 0) := rfl
theorem bu_80_33 : mm_at mt_P 80 33 = some ((33, 3, .invokestatic 402, 4, 0, 0, 1685), 2, 1, 1, 9, 1, 0, 0) := rfl
theorem bu_80_36 : mm_at mt_P 80 36 = some ((36, 1, .ireturn, 0, 0, 0, 0), 2, 1, 1, 9, 1, 0, 0) := rfl
theorem bu_86_0 : mm_at mt_P 86 0 = some ((0, 1, .iconst 1, 0, 0, 0, 0), 3, 1, 0, 9, 1, 0, 0) := rfl
theorem bu_86_1 : mm_at mt_P 86 1 = some ((1, 1, .istore_n 1, 0, 0, 0, 0), 3, 1, 0, 9, 1, 0, 0) := rfl
theorem bu_86_2 : mm_at mt_P 86 2 = some ((2, 1, .iconst 0, 0, 0, 0, 0), 3, 1, 0, 9, 1, 0, 0) := rfl
theorem bu_86_3 : mm_at mt_P 86 3 = some ((3, 1, .istore_n 2, 0, 0, 0, 0), 3, 1, 0, 9, 1, 0, 0) := rfl
theorem bu_86_4 : mm_at mt_P 86 4 = some ((4, 1, .iload_n 2, 0, 0, 0, 0), 3, 1, 0, 9, 1, 0, 0) := rfl
theorem bu_86_5 : mm_at mt_P 86 5 = some ((5, 1, .iload_n 0, 0, 0, 0, 0), 3, 1, 0, 9, 1, 0, 0) := rfl
theorem bu_86_6 : mm_at mt_P 86 6 = some ((6, 3, .if_icmp .ge 14, 0, 0, 0, 0), 3, 1, 0, 9, 1, 0, 0) := rfl
theorem bu_86_9 : mm_at mt_P 86 9 = some ((9, 1, .iload_n 1, 0, 0, 0, 0), 3, 1, 0, 9, 1, 0, 0) := rfl
theorem bu_86_10 : mm_at mt_P 86 10 = some ((10, 2, .bipush 7, 0, 0, 0, 0), 3, 1, 0, 9, 1, 0, 0) := rfl
theorem bu_86_12 : mm_at mt_P 86 12 = some ((12, 1, .imul, 0, 0, 0, 0), 3, 1, 0, 9, 1, 0, 0) := rfl
theorem bu_86_13 : mm_at mt_P 86 13 = some ((13, 1, .istore_n 1, 0, 0, 0, 0), 3, 1, 0, 9, 1, 0, 0) := rfl
theorem bu_86_14 : mm_at mt_P 86 14 = some ((14, 3, .iinc 2 1, 0, 0, 0, 0), 3, 1, 0, 9, 1, 0, 0) := rfl
theorem bu_86_17 : mm_at mt_P 86 17 = some ((17, 3, .goto (-13), 0, 0, 0, 0), 3, 1, 0, 9, 1, 0, 0) := rfl
theorem bu_86_20 : mm_at mt_P 86 20 = some ((20, 1, .iload_n 1, 0, 0, 0, 0), 3, 1, 0, 9, 1, 0, 0) := rfl
theorem bu_86_21 : mm_at mt_P 86 21 = some ((21, 1, .ireturn, 0, 0, 0, 0), 3, 1, 0, 9, 1, 0, 0) := rfl
theorem bu_91_0 : mm_at mt_P 91 0 = some ((0, 1, .iconst 0, 0, 0, 0, 0), 4, 1, 1, 9, 1, 0, 0) := rfl
theorem bu_91_1 : mm_at mt_P 91 1 = some ((1, 1, .istore_n 2, 0, 0, 0, 0), 4, 1, 1, 9, 1, 0, 0) := rfl
theorem bu_91_2 : mm_at mt_P 91 2 = some ((2, 1, .iconst 0, 0, 0, 0, 0), 4, 1, 1, 9, 1, 0, 0) := rfl
theorem bu_91_3 : mm_at mt_P 91 3 = some ((3, 1, .istore_n 3, 0, 0, 0, 0), 4, 1, 1, 9, 1, 0, 0) := rfl
theorem bu_91_4 : mm_at mt_P 91 4 = some ((4, 1, .iload_n 3, 0, 0, 0, 0), 4, 1, 1, 9, 1, 0, 0) := rfl
theorem bu_91_5 : mm_at mt_P 91 5 = some ((5, 1, .iconst 4, 0, 0, 0, 0), 4, 1, 1, 9, 1, 0, 0) := rfl
theorem bu_91_6 : mm_at mt_P 91 6 = some ((6, 3, .if_icmp .ge 22, 0, 0, 0, 0), 4, 1, 1, 9, 1, 0, 0) := rfl
theorem bu_91_9 : mm_at mt_P 91 9 = some ((9, 1, .iload_n 2, 0, 0, 0, 0), 4, 1, 1, 9, 1, 0, 0) := rfl
theorem bu_91_10 : mm_at mt_P 91 10 = some ((10, 1, .aload_n 0, 0, 0, 0, 0), 4, 1, 1, 9, 1, 0, 0) := rfl
theorem bu_91_11 : mm_at mt_P 91 11 = some ((11, 1, .iload_n 1, 0, 0, 0, 0), 4, 1, 1, 9, 1, 0, 0) := rfl
theorem bu_91_12 : mm_at mt_P 91 12 = some ((12, 1, .iload_n 3, 0, 0, 0, 0), 4, 1, 1, 9, 1, 0, 0) := rfl
theorem bu_91_13 : mm_at mt_P 91 13 = some ((13, 3, .invokestatic 402, 4, 0, 0, 1685), 4, 1, 1, 9, 1, 0, 0) := rfl
theorem bu_91_16 : mm_at mt_P 91 16 = some ((16, 1, .iload_n 3, 0, 0, 0, 0), 4, 1, 1, 9, 1, 0, 0) := rfl
theorem bu_91_17 : mm_at mt_P 91 17 = some ((17, 3, .invokevirtual 346, 90, 0, 0, 1550), 4, 1, 1, 9, 1, 0, 0) := rfl
theorem bu_91_20 : mm_at mt_P 91 20 = some ((20, 1, .iadd, 0, 0, 0, 0), 4, 1, 1, 9, 1, 0, 0) := rfl
theorem bu_91_21 : mm_at mt_P 91 21 = some ((21, 1, .istore_n 2, 0, 0, 0, 0), 4, 1, 1, 9, 1, 0, 0) := rfl
theorem bu_91_22 : mm_at mt_P 91 22 = some ((22, 3, .iinc 3 1, 0, 0, 0, 0), 4, 1, 1, 9, 1, 0, 0) := rfl
theorem bu_91_25 : mm_at mt_P 91 25 = some ((25, 3, .goto (-21), 0, 0, 0, 0), 4, 1, 1, 9, 1, 0, 0) := rfl
theorem bu_91_28 : mm_at mt_P 91 28 = some ((28, 1, .iload_n 2, 0, 0, 0, 0), 4, 1, 1, 9, 1, 0, 0) := rfl
theorem bu_91_29 : mm_at mt_P 91 29 = some ((29, 1, .ireturn, 0, 0, 0, 0), 4, 1, 1, 9, 1, 0, 0) := rfl
section DM
variable {E : mm_E} {PO : mm_C → Prop} {NN : Nat} {h0 h : mm_H} {s : Nat → Int32} {A : Nat → Nat → Int32} {L : Nat → Nat → Int64} {gs : List mm_F}
set_option maxHeartbeats 4000000 in
theorem dm_86l {n : Int32} (hn : 0 ≤ n.toInt ∧ n.toInt ≤ 3) : ∀ NN : Nat, (∀ v : Int32, ((n.toInt = 0 ∧ v.toInt = 1) ∨ (n.toInt = 1 ∧ v.toInt = 7) ∨ (n.toInt = 2 ∧ v.toInt = 49) ∨ (n.toInt = 3 ∧ v.toInt = 343)) → bp_G E PO NN (mm_back (some (.int v)) gs h)) → (∀ (lv : mm_V) (o : Option Value) (v : Int32) (k : Int32), mm_get lv 0 = some (.int n) → mm_get lv 1 = some (.int v) → mm_get lv 2 = some (.int k) → (0 ≤ k.toInt ∧ k.toInt ≤ n.toInt) → (((k.toInt = 0 ∧ v.toInt = 1) ∨ (k.toInt = 1 ∧ v.toInt = 7) ∨ (k.toInt = 2 ∧ v.toInt = 49) ∨ (k.toInt = 3 ∧ v.toInt = 343))) → bp_G E PO NN ((86, 4, lv, [], 0, 0) :: gs, h, o)) := by
  intro NN
  induction NN with
  | zero => intro kk lv o v k g0 g1 g2 i1 i2; exact bp_zero bu_86_4
  | succ NN ih =>
    intro kk lv o v k g0 g1 g2 i1 i2
    refine bp_ld (pc' := 5) bu_86_4 rfl rfl (fun _ _ _ => rfl) g2 rfl ?_
    refine bp_ld (pc' := 6) bu_86_5 rfl rfl (fun _ _ _ => rfl) g0 rfl ?_
    refine bp_ic (pc' := 9) (pt := 20) bu_86_6 rfl rfl (fun k1 => ?_) (fun k1 => ?_)
    · replace k1 : (n).toInt ≤ (k).toInt := k1
      refine bp_ld (pc' := 21) bu_86_20 rfl rfl (fun _ _ _ => rfl) g1 rfl ?_
      refine bp_ri bu_86_21 ?_
      exact kk _ (by omega)
    · replace k1 : ¬ ((n).toInt ≤ (k).toInt) := k1
      refine bp_ld (pc' := 10) bu_86_9 rfl rfl (fun _ _ _ => rfl) g1 rfl ?_
      refine bp_c (pc' := 12) (n := 7) bu_86_10 rfl rfl (fun _ _ _ => rfl) (by decide) (fun c2 e3 => ?_)
      refine bp_mul (pc' := 13) bu_86_12 rfl (by rw [e3]; omega) (by rw [e3]; omega) (fun v4 e5 => ?_)
      rw [e3] at e5
      refine bp_st (pc' := 14) bu_86_13 rfl rfl (fun _ _ _ => rfl) rfl (by decide) (by decide) (fun lv6 F7 g8 => ?_)
      have g9 := F7 0 (.int n) g0 (by decide) (Or.inl rfl)
      have g10 := F7 2 (.int k) g2 (by decide) (Or.inl rfl)
      refine bp_inc (pc' := 17) bu_86_14 rfl (by decide) g10 (by decide) (by omega) (by omega) (fun lv11 y14 F12 g13 e15 => ?_)
      have g16 := F12 0 (.int n) g9 (by decide) (Or.inl rfl)
      have g17 := F12 1 (.int v4) g8 (by decide) (Or.inl rfl)
      refine bp_goD (pc' := 4) bu_86_17 rfl ?_
      exact ih (fun v q => bp_mono (Nat.le_succ NN) (kk v q)) _ _ (v4) (y14) g16 g17 g13 (by omega) (by omega)
set_option maxHeartbeats 4000000 in
theorem dm_86 {n : Int32} (hn : 0 ≤ n.toInt ∧ n.toInt ≤ 3) (kk : ∀ v : Int32, ((n.toInt = 0 ∧ v.toInt = 1) ∨ (n.toInt = 1 ∧ v.toInt = 7) ∨ (n.toInt = 2 ∧ v.toInt = 49) ∨ (n.toInt = 3 ∧ v.toInt = 343)) → bp_G E PO NN (mm_back (some (.int v)) gs h)) : bp_G E PO NN ((86, 0, [(0, .int n)], [], 0, 0) :: gs, h, none) := by
  refine bp_c (pc' := 1) (n := 1) bu_86_0 rfl rfl (fun _ _ _ => rfl) (by decide) (fun c18 e19 => ?_)
  refine bp_st (pc' := 2) bu_86_1 rfl rfl (fun _ _ _ => rfl) rfl (by decide) (by decide) (fun lv20 F21 g22 => ?_)
  have g23 := F21 0 (.int n) rfl (by decide) (Or.inl rfl)
  refine bp_c (pc' := 3) (n := 0) bu_86_2 rfl rfl (fun _ _ _ => rfl) (by decide) (fun c24 e25 => ?_)
  refine bp_st (pc' := 4) bu_86_3 rfl rfl (fun _ _ _ => rfl) rfl (by decide) (by decide) (fun lv26 F27 g28 => ?_)
  have g29 := F27 0 (.int n) g23 (by decide) (Or.inl rfl)
  have g30 := F27 1 (.int c18) g22 (by decide) (Or.inl rfl)
  exact dm_86l hn NN kk _ _ _ _ g29 g30 g28 (by omega) (by omega)
set_option maxHeartbeats 4000000 in
theorem dm_4 {w p : Int32} (hw : 0 ≤ w.toInt) (hp : 0 ≤ p.toInt ∧ p.toInt < 4) (kk : ∀ r : Int32, r.toInt = dr_cv (dr_dg w.toInt.toNat p.toInt.toNat) → bp_G E PO NN (mm_back (some (.int r)) gs h)) : bp_G E PO NN ((4, 0, [(0, .int w), (1, .int p)], [], 0, 0) :: gs, h, none) := by
  refine bp_ld (pc' := 1) bu_4_0 rfl rfl (fun _ _ _ => rfl) rfl rfl ?_
  refine bp_c (pc' := 2) (n := 3) bu_4_1 rfl rfl (fun _ _ _ => rfl) (by decide) (fun c31 e32 => ?_)
  refine bp_ld (pc' := 3) bu_4_2 rfl rfl (fun _ _ _ => rfl) rfl rfl ?_
  refine bp_sub (pc' := 4) bu_4_3 rfl (by omega) (by omega) (fun v33 e34 => ?_)
  refine bp_csF (pc' := 7) (st := [.int w]) (args := [.int v33]) bu_4_4 rfl rfl (by decide) rfl (Nat.le_of_ble_eq_true rfl) (Nat.le_of_ble_eq_true rfl) ?_
  refine dm_86 (n := v33) (by omega) (fun v35 e36 => ?_)
  show bp_G E PO NN ((4, 7, _, [.int v35, .int w], 0, 0) :: gs, h, none)
  refine bp_divx (pc' := 8) bu_4_7 rfl (fun v37 n38 e39 => ?_)
  refine bp_c (pc' := 10) (n := 7) bu_4_8 rfl rfl (fun _ _ _ => rfl) (by decide) (fun c40 e41 => ?_)
  refine bp_remx (pc' := 11) bu_4_10 rfl (fun v42 n43 e44 => ?_)
  refine bp_st (pc' := 12) bu_4_11 rfl rfl (fun _ _ _ => rfl) rfl (by decide) (by decide) (fun lv45 F46 g47 => ?_)
  have g48 := F46 0 (.int w) rfl (by decide) (Or.inl rfl)
  have g49 := F46 1 (.int p) rfl (by decide) (Or.inl rfl)
  refine bp_ld (pc' := 13) bu_4_12 rfl rfl (fun _ _ _ => rfl) g47 rfl ?_
  refine bp_c (pc' := 15) (n := 6) bu_4_13 rfl rfl (fun _ _ _ => rfl) (by decide) (fun c50 e51 => ?_)
  refine bp_ic (pc' := 18) (pt := 23) bu_4_15 rfl rfl (fun k52 => ?_) (fun k52 => ?_)
  · replace k52 : (v42).toInt ≠ (c50).toInt := k52
    refine bp_ld (pc' := 24) bu_4_23 rfl rfl (fun _ _ _ => rfl) g47 rfl ?_
    refine bp_ri bu_4_24 ?_
    have hd := dm_dg (w := w) (p := p) (v1 := v37) (v2 := v42) (s := v35) (c := c40) (by omega) (by omega) (by omega) (by omega) e39 e44
    exact kk _ (by unfold dr_cv; first | (rw [if_pos (by omega)]; omega) | (rw [if_neg (by omega)]; omega))
  · replace k52 : ¬ ((v42).toInt ≠ (c50).toInt) := k52
    refine bp_c (pc' := 20) (n := -2) bu_4_18 rfl rfl (fun _ _ _ => rfl) (by decide) (fun c53 e54 => ?_)
    refine bp_go (pc' := 24) bu_4_20 rfl ?_
    refine bp_ri bu_4_24 ?_
    have hd := dm_dg (w := w) (p := p) (v1 := v37) (v2 := v42) (s := v35) (c := c40) (by omega) (by omega) (by omega) (by omega) e39 e44
    exact kk _ (by unfold dr_cv; first | (rw [if_pos (by omega)]; omega) | (rw [if_neg (by omega)]; omega))
set_option maxHeartbeats 4000000 in
theorem dm_52 {a : Int32} (hP : bm_P nw_T E h0 h s A L) (hm : 0 ≤ (A 97 (s 8818).toInt.toNat).toInt ∧ (A 97 (s 8818).toInt.toNat).toInt ≤ 6) (kk : ∀ r : Int32, ((r.toInt = 1 ∧ 0 ≤ a.toInt ∧ a.toInt < (A 97 (s 8818).toInt.toNat).toInt) ∨ (r.toInt = 0 ∧ ¬ (0 ≤ a.toInt ∧ a.toInt < (A 97 (s 8818).toInt.toNat).toInt))) → bp_G E PO NN (mm_back (some (.int r)) gs h)) : bp_G E PO NN ((52, 0, [(0, .ref (E.1 + 88)), (1, .int a)], [], 0, 0) :: gs, h, none) := by
  refine bp_ld (pc' := 1) bu_52_0 rfl rfl (fun _ _ _ => rfl) rfl rfl ?_
  refine bp_c (pc' := 2) (n := 0) bu_52_1 rfl rfl (fun _ _ _ => rfl) (by decide) (fun c55 e56 => ?_)
  refine bp_ld (pc' := 3) bu_52_2 rfl rfl (fun _ _ _ => rfl) rfl rfl ?_
  refine bn_gr (pc' := 6) (t := 97) bu_52_3 rfl rfl (fun _ _ _ => rfl) hP nw_o88 nw_r88_22 ?_
  refine bp_ld (pc' := 7) bu_52_6 rfl rfl (fun _ _ _ => rfl) rfl rfl ?_
  refine bn_gi (pc' := 10) (K := 8818) bu_52_7 rfl rfl (fun _ _ _ => rfl) hP nw_o88 nw_i88_18 rfl rfl ?_
  refine bn_iaF (pc' := 11) bu_52_10 rfl rfl (fun _ _ _ => rfl) hP nw_a97 (Or.inl rfl) (fun b57 b58 => ?_)
  refine bp_c (pc' := 12) (n := 1) bu_52_11 rfl rfl (fun _ _ _ => rfl) (by decide) (fun c59 e60 => ?_)
  refine bp_sub (pc' := 13) bu_52_12 rfl (by omega) (by omega) (fun v61 e62 => ?_)
  refine bp_csF (pc' := 16) (st := []) (args := [.int v61, .int c55, .int a]) bu_52_13 rfl rfl (by decide) rfl (Nat.le_of_ble_eq_true rfl) (Nat.le_of_ble_eq_true rfl) ?_
  refine kd_43 (x := a) (y := c55) (z := v61) (fun r63 e64 => ?_)
  show bp_G E PO NN ((52, 16, _, [.int r63], 0, 0) :: gs, h, none)
  refine bp_rbF bu_52_16 (fun rb65 => ?_)
  exact kk _ (by omega)
set_option maxHeartbeats 4000000 in
theorem dm_49l {w : Int32} (hP : bm_P nw_T E h0 h s A L) (hm : 0 ≤ (A 97 (s 8818).toInt.toNat).toInt ∧ (A 97 (s 8818).toInt.toNat).toInt ≤ 6) (hw : 0 ≤ w.toInt) : ∀ NN : Nat, (∀ r : Int32, ((r.toInt = 1 ∧ dr_ok (A 97 (s 8818).toInt.toNat).toInt.toNat w.toInt.toNat = true) ∨ (r.toInt = 0 ∧ dr_ok (A 97 (s 8818).toInt.toNat).toInt.toNat w.toInt.toNat = false)) → bp_G E PO NN (mm_back (some (.int r)) gs h)) → (∀ (lv : mm_V) (o : Option Value) (u p : Int32), mm_get lv 0 = some (.ref (E.1 + 88)) → mm_get lv 1 = some (.int w) → mm_get lv 2 = some (.int u) → mm_get lv 3 = some (.int p) → (0 ≤ p.toInt ∧ p.toInt ≤ 4) → (∀ q : Nat, q < p.toInt.toNat → dr_okp (A 97 (s 8818).toInt.toNat).toInt.toNat w.toInt.toNat q = true) → (u = dr_ub (dr_dg w.toInt.toNat) p.toInt.toNat) → bp_G E PO NN ((49, 4, lv, [], 0, 0) :: gs, h, o)) := by
  intro NN
  induction NN with
  | zero => intro kk lv o u p g0 g1 g2 g3 i1 i2 i3; exact bp_zero bu_49_4
  | succ NN ih =>
    intro kk lv o u p g0 g1 g2 g3 i1 i2 i3
    refine bp_ld (pc' := 5) bu_49_4 rfl rfl (fun _ _ _ => rfl) g3 rfl ?_
    refine bp_c (pc' := 6) (n := 4) bu_49_5 rfl rfl (fun _ _ _ => rfl) (by decide) (fun c66 e67 => ?_)
    refine bp_ic (pc' := 9) (pt := 76) bu_49_6 rfl rfl (fun k68 => ?_) (fun k68 => ?_)
    · replace k68 : (c66).toInt ≤ (p).toInt := k68
      refine bp_c (pc' := 77) (n := 1) bu_49_76 rfl rfl (fun _ _ _ => rfl) (by decide) (fun c69 e70 => ?_)
      refine bp_rbF bu_49_77 (fun rb71 => ?_)
      exact kk _ (Or.inl ⟨by omega, dr_ok_t (fun q hq => i2 q (by omega))⟩)
    · replace k68 : ¬ ((c66).toInt ≤ (p).toInt) := k68
      refine bp_ld (pc' := 10) bu_49_9 rfl rfl (fun _ _ _ => rfl) g1 rfl ?_
      refine bp_ld (pc' := 11) bu_49_10 rfl rfl (fun _ _ _ => rfl) g3 rfl ?_
      refine bp_csF (pc' := 14) (st := []) (args := [.int p, .int w]) bu_49_11 rfl rfl (by decide) rfl (Nat.le_of_ble_eq_true rfl) (Nat.le_of_ble_eq_true rfl) ?_
      refine dm_4 (w := w) (p := p) (by omega) (by omega) (fun r72 e73 => ?_)
      show bp_G E PO (NN + 1) ((49, 14, lv, [.int r72], 0, 0) :: gs, h, none)
      refine bp_st (pc' := 16) bu_49_14 rfl rfl (fun _ _ _ => rfl) rfl (by decide) (by decide) (fun lv74 F75 g76 => ?_)
      have g77 := F75 0 (.ref (E.1 + 88)) g0 (by decide) (Or.inl rfl)
      have g78 := F75 1 (.int w) g1 (by decide) (Or.inl rfl)
      have g79 := F75 2 (.int u) g2 (by decide) (Or.inl rfl)
      have g80 := F75 3 (.int p) g3 (by decide) (Or.inl rfl)
      refine bp_ld (pc' := 17) bu_49_16 rfl rfl (fun _ _ _ => rfl) g80 rfl ?_
      refine bp_ld (pc' := 18) bu_49_17 rfl rfl (fun _ _ _ => rfl) g77 rfl ?_
      refine bn_gr (pc' := 21) (t := 97) bu_49_18 rfl rfl (fun _ _ _ => rfl) hP nw_o88 nw_r88_22 ?_
      refine bp_ld (pc' := 22) bu_49_21 rfl rfl (fun _ _ _ => rfl) g77 rfl ?_
      refine bn_gi (pc' := 25) (K := 8818) bu_49_22 rfl rfl (fun _ _ _ => rfl) hP nw_o88 nw_i88_18 rfl rfl ?_
      refine bn_iaF (pc' := 26) bu_49_25 rfl rfl (fun _ _ _ => rfl) hP nw_a97 (Or.inl rfl) (fun b81 b82 => ?_)
      refine bp_ic (pc' := 29) (pt := 37) bu_49_26 rfl rfl (fun k83 => ?_) (fun k83 => ?_)
      · replace k83 : (p).toInt < ((A 97 ((s 8818)).toInt.toNat)).toInt := k83
        refine bp_ld (pc' := 38) bu_49_37 rfl rfl (fun _ _ _ => rfl) g77 rfl ?_
        refine bp_ld (pc' := 40) bu_49_38 rfl rfl (fun _ _ _ => rfl) g76 rfl ?_
        refine bn_cvF (pc' := 43) (st := []) (args := [.int r72]) bu_49_40 rfl rfl rfl (by decide) hP nw_o88 (by decide) rfl (Nat.le_of_ble_eq_true rfl) (Nat.le_of_ble_eq_true rfl) ?_
        refine dm_52 (a := r72) hP hm (fun r84 e85 => ?_)
        show bp_G E PO (NN + 1) ((49, 43, lv74, [.int r84], 0, 0) :: gs, h, none)
        refine bp_i0 (pc' := 46) (pt := 56) bu_49_43 rfl rfl (fun k86 => ?_) (fun k86 => ?_)
        · replace k86 : (r84).toInt = 0 := k86
          refine bp_c (pc' := 57) (n := 0) bu_49_56 rfl rfl (fun _ _ _ => rfl) (by decide) (fun c87 e88 => ?_)
          refine bp_rbF bu_49_57 (fun rb89 => ?_)
          have hcv := dr_cv_b (w := w.toInt.toNat) (p := p.toInt.toNat)
          rw [← e73] at hcv
          refine kk _ (Or.inr ⟨by omega, dr_ok_f (p := p.toInt.toNat) (by omega) (fun g9 => ?_)⟩)
          have g8 := ((dr_okp_m (by omega)).mp g9).1
          omega
        · replace k86 : ¬ ((r84).toInt = 0) := k86
          refine bp_ld (pc' := 47) bu_49_46 rfl rfl (fun _ _ _ => rfl) g79 rfl ?_
          refine bp_ld (pc' := 49) bu_49_47 rfl rfl (fun _ _ _ => rfl) g76 rfl ?_
          refine bp_bin (pc' := 50) (f := (fun x y => some (x >>> (y &&& 31)))) (v := (u >>> (r72 &&& 31))) bu_49_49 rfl rfl (fun _ _ _ => rfl) rfl ?_
          refine bp_c (pc' := 51) (n := 1) bu_49_50 rfl rfl (fun _ _ _ => rfl) (by decide) (fun c90 e91 => ?_)
          refine bp_bin (pc' := 52) (v := (u >>> (r72 &&& 31)) &&& c90) bu_49_51 rfl rfl (fun _ _ _ => rfl) rfl ?_
          refine bp_c (pc' := 53) (n := 1) bu_49_52 rfl rfl (fun _ _ _ => rfl) (by decide) (fun c92 e93 => ?_)
          refine bp_ic (pc' := 56) (pt := 58) bu_49_53 rfl rfl (fun k94 => ?_) (fun k94 => ?_)
          · replace k94 : (((u >>> (r72 &&& 31)) &&& c90)).toInt ≠ (c92).toInt := k94
            refine bp_ld (pc' := 60) bu_49_58 rfl rfl (fun _ _ _ => rfl) g76 rfl ?_
            refine bp_i0 (pc' := 63) (pt := 70) bu_49_60 rfl rfl (fun k95 => ?_) (fun k95 => ?_)
            · replace k95 : (r72).toInt < 0 := k95
              refine bp_inc (pc' := 73) bu_49_70 rfl (by decide) g80 (by decide) (by omega) (by omega) (fun lv96 y99 F97 g98 e100 => ?_)
              have g101 := F97 0 (.ref (E.1 + 88)) g77 (by decide) (Or.inl rfl)
              have g102 := F97 1 (.int w) g78 (by decide) (Or.inl rfl)
              have g103 := F97 2 (.int u) g79 (by decide) (Or.inl rfl)
              have g104 := F97 4 (.int r72) g76 (by decide) (Or.inl rfl)
              refine bp_goD (pc' := 4) bu_49_73 rfl ?_
              exfalso
              omega
            · replace k95 : ¬ ((r72).toInt < 0) := k95
              refine bp_ld (pc' := 64) bu_49_63 rfl rfl (fun _ _ _ => rfl) g79 rfl ?_
              refine bp_c (pc' := 65) (n := 1) bu_49_64 rfl rfl (fun _ _ _ => rfl) (by decide) (fun c105 e106 => ?_)
              refine bp_ld (pc' := 67) bu_49_65 rfl rfl (fun _ _ _ => rfl) g76 rfl ?_
              refine bp_bin (pc' := 68) (f := (fun x y => some (x <<< (y &&& 31)))) (v := (c105 <<< (r72 &&& 31))) bu_49_67 rfl rfl (fun _ _ _ => rfl) rfl ?_
              refine bp_bin (pc' := 69) (f := (fun x y => some (x ||| y))) (v := (u ||| (c105 <<< (r72 &&& 31)))) bu_49_68 rfl rfl (fun _ _ _ => rfl) rfl ?_
              refine bp_st (pc' := 70) bu_49_69 rfl rfl (fun _ _ _ => rfl) rfl (by decide) (by decide) (fun lv107 F108 g109 => ?_)
              have g110 := F108 0 (.ref (E.1 + 88)) g77 (by decide) (Or.inl rfl)
              have g111 := F108 1 (.int w) g78 (by decide) (Or.inl rfl)
              have g112 := F108 3 (.int p) g80 (by decide) (Or.inl rfl)
              have g113 := F108 4 (.int r72) g76 (by decide) (Or.inl rfl)
              refine bp_inc (pc' := 73) bu_49_70 rfl (by decide) g112 (by decide) (by omega) (by omega) (fun lv114 y117 F115 g116 e118 => ?_)
              have g119 := F115 0 (.ref (E.1 + 88)) g110 (by decide) (Or.inl rfl)
              have g120 := F115 1 (.int w) g111 (by decide) (Or.inl rfl)
              have g121 := F115 4 (.int r72) g113 (by decide) (Or.inl rfl)
              have g122 := F115 2 (.int (u ||| (c105 <<< (r72 &&& 31)))) g109 (by decide) (Or.inl rfl)
              refine bp_goD (pc' := 4) bu_49_73 rfl ?_
              have hcv := dr_cv_b (w := w.toInt.toNat) (p := p.toInt.toNat)
              rw [← e73] at hcv
              have hp2 : (y117).toInt.toNat = p.toInt.toNat + 1 := by omega
              have hn6 : dr_dg w.toInt.toNat p.toInt.toNat < 6 := by omega
              have ha9 : (r72).toInt = (dr_dg w.toInt.toNat p.toInt.toNat : Int) := by omega
              have hbt : ¬ dr_bt u (dr_dg w.toInt.toNat p.toInt.toNat) = true := fun q => by
                have q9 := (dm_bt (c := c90) ha9 hn6 (by omega)).mpr q
                omega
              rw [i3, dr_b (by omega) hn6] at hbt
              have hk9 : dr_okp (A 97 (s 8818).toInt.toNat).toInt.toNat w.toInt.toNat p.toInt.toNat = true := (dr_okp_m (by omega)).mpr ⟨by omega, fun q hq e9 => hbt ⟨q, hq, e9⟩⟩
              have hu9 : (u ||| (c105 <<< (r72 &&& 31))) = dr_ub (dr_dg w.toInt.toNat) (y117).toInt.toNat := by
                rw [hp2, dm_us (c := c105) ha9 hn6 (by omega), i3]
                rfl
              exact ih (fun r q => bp_mono (Nat.le_succ NN) (kk r q)) _ _ _ _ g119 g120 g122 g116 (by omega) (fun q hq => by
                by_cases eq : q = p.toInt.toNat
                · rw [eq]
                  exact hk9
                · exact i2 q (by omega)) hu9
          · replace k94 : ¬ ((((u >>> (r72 &&& 31)) &&& c90)).toInt ≠ (c92).toInt) := k94
            refine bp_c (pc' := 57) (n := 0) bu_49_56 rfl rfl (fun _ _ _ => rfl) (by decide) (fun c123 e124 => ?_)
            refine bp_rbF bu_49_57 (fun rb125 => ?_)
            have hcv := dr_cv_b (w := w.toInt.toNat) (p := p.toInt.toNat)
            rw [← e73] at hcv
            have hn6 : dr_dg w.toInt.toNat p.toInt.toNat < 6 := by omega
            have ha9 : (r72).toInt = (dr_dg w.toInt.toNat p.toInt.toNat : Int) := by omega
            have hbt : dr_bt u (dr_dg w.toInt.toNat p.toInt.toNat) = true := (dm_bt (c := c90) ha9 hn6 (by omega)).mp (by omega)
            rw [i3, dr_b (by omega) hn6] at hbt
            obtain ⟨q, hq, e9⟩ := hbt
            refine kk _ (Or.inr ⟨by omega, dr_ok_f (p := p.toInt.toNat) (by omega) (fun g9 => ?_)⟩)
            exact ((dr_okp_m (by omega)).mp g9).2 q hq e9
      · replace k83 : ¬ ((p).toInt < ((A 97 ((s 8818)).toInt.toNat)).toInt) := k83
        refine bp_ld (pc' := 31) bu_49_29 rfl rfl (fun _ _ _ => rfl) g76 rfl ?_
        refine bp_i0 (pc' := 34) (pt := 58) bu_49_31 rfl rfl (fun k126 => ?_) (fun k126 => ?_)
        · replace k126 : (r72).toInt < 0 := k126
          refine bp_ld (pc' := 60) bu_49_58 rfl rfl (fun _ _ _ => rfl) g76 rfl ?_
          refine bp_i0 (pc' := 63) (pt := 70) bu_49_60 rfl rfl (fun k127 => ?_) (fun k127 => ?_)
          · replace k127 : (r72).toInt < 0 := k127
            refine bp_inc (pc' := 73) bu_49_70 rfl (by decide) g80 (by decide) (by omega) (by omega) (fun lv128 y131 F129 g130 e132 => ?_)
            have g133 := F129 0 (.ref (E.1 + 88)) g77 (by decide) (Or.inl rfl)
            have g134 := F129 1 (.int w) g78 (by decide) (Or.inl rfl)
            have g135 := F129 2 (.int u) g79 (by decide) (Or.inl rfl)
            have g136 := F129 4 (.int r72) g76 (by decide) (Or.inl rfl)
            refine bp_goD (pc' := 4) bu_49_73 rfl ?_
            have hcv := dr_cv_b (w := w.toInt.toNat) (p := p.toInt.toNat)
            rw [← e73] at hcv
            have hp2 : (y131).toInt.toNat = p.toInt.toNat + 1 := by omega
            have h6 : dr_dg w.toInt.toNat p.toInt.toNat = 6 := by omega
            have hk9 : dr_okp (A 97 (s 8818).toInt.toNat).toInt.toNat w.toInt.toNat p.toInt.toNat = true := (dr_okp_t (by omega)).mpr h6
            have hu9 : u = dr_ub (dr_dg w.toInt.toNat) (y131).toInt.toNat := by
              rw [hp2]
              show u = dr_uf (dr_ub (dr_dg w.toInt.toNat) p.toInt.toNat) (dr_dg w.toInt.toNat p.toInt.toNat)
              rw [h6, ← i3]
              rfl
            exact ih (fun r q => bp_mono (Nat.le_succ NN) (kk r q)) _ _ _ _ g133 g134 g135 g130 (by omega) (fun q hq => by
              by_cases eq : q = p.toInt.toNat
              · rw [eq]
                exact hk9
              · exact i2 q (by omega)) hu9
          · replace k127 : ¬ ((r72).toInt < 0) := k127
            refine bp_ld (pc' := 64) bu_49_63 rfl rfl (fun _ _ _ => rfl) g79 rfl ?_
            refine bp_c (pc' := 65) (n := 1) bu_49_64 rfl rfl (fun _ _ _ => rfl) (by decide) (fun c137 e138 => ?_)
            refine bp_ld (pc' := 67) bu_49_65 rfl rfl (fun _ _ _ => rfl) g76 rfl ?_
            refine bp_bin (pc' := 68) (f := (fun x y => some (x <<< (y &&& 31)))) (v := (c137 <<< (r72 &&& 31))) bu_49_67 rfl rfl (fun _ _ _ => rfl) rfl ?_
            refine bp_bin (pc' := 69) (f := (fun x y => some (x ||| y))) (v := (u ||| (c137 <<< (r72 &&& 31)))) bu_49_68 rfl rfl (fun _ _ _ => rfl) rfl ?_
            refine bp_st (pc' := 70) bu_49_69 rfl rfl (fun _ _ _ => rfl) rfl (by decide) (by decide) (fun lv139 F140 g141 => ?_)
            have g142 := F140 0 (.ref (E.1 + 88)) g77 (by decide) (Or.inl rfl)
            have g143 := F140 1 (.int w) g78 (by decide) (Or.inl rfl)
            have g144 := F140 3 (.int p) g80 (by decide) (Or.inl rfl)
            have g145 := F140 4 (.int r72) g76 (by decide) (Or.inl rfl)
            refine bp_inc (pc' := 73) bu_49_70 rfl (by decide) g144 (by decide) (by omega) (by omega) (fun lv146 y149 F147 g148 e150 => ?_)
            have g151 := F147 0 (.ref (E.1 + 88)) g142 (by decide) (Or.inl rfl)
            have g152 := F147 1 (.int w) g143 (by decide) (Or.inl rfl)
            have g153 := F147 4 (.int r72) g145 (by decide) (Or.inl rfl)
            have g154 := F147 2 (.int (u ||| (c137 <<< (r72 &&& 31)))) g141 (by decide) (Or.inl rfl)
            refine bp_goD (pc' := 4) bu_49_73 rfl ?_
            exfalso
            omega
        · replace k126 : ¬ ((r72).toInt < 0) := k126
          refine bp_go (pc' := 56) bu_49_34 rfl ?_
          refine bp_c (pc' := 57) (n := 0) bu_49_56 rfl rfl (fun _ _ _ => rfl) (by decide) (fun c155 e156 => ?_)
          refine bp_rbF bu_49_57 (fun rb157 => ?_)
          have hcv := dr_cv_b (w := w.toInt.toNat) (p := p.toInt.toNat)
          rw [← e73] at hcv
          refine kk _ (Or.inr ⟨by omega, dr_ok_f (p := p.toInt.toNat) (by omega) (fun g9 => ?_)⟩)
          have g8 := (dr_okp_t (by omega)).mp g9
          omega
set_option maxHeartbeats 4000000 in
theorem dm_49 {w : Int32} (hP : bm_P nw_T E h0 h s A L) (hm : 0 ≤ (A 97 (s 8818).toInt.toNat).toInt ∧ (A 97 (s 8818).toInt.toNat).toInt ≤ 6) (hw : 0 ≤ w.toInt) (kk : (∀ r : Int32, ((r.toInt = 1 ∧ dr_ok (A 97 (s 8818).toInt.toNat).toInt.toNat w.toInt.toNat = true) ∨ (r.toInt = 0 ∧ dr_ok (A 97 (s 8818).toInt.toNat).toInt.toNat w.toInt.toNat = false)) → bp_G E PO NN (mm_back (some (.int r)) gs h))) : bp_G E PO NN ((49, 0, [(0, .ref (E.1 + 88)), (1, .int w)], [], 0, 0) :: gs, h, none) := by
  refine bp_c (pc' := 1) (n := 0) bu_49_0 rfl rfl (fun _ _ _ => rfl) (by decide) (fun c158 e159 => ?_)
  refine bp_st (pc' := 2) bu_49_1 rfl rfl (fun _ _ _ => rfl) rfl (by decide) (by decide) (fun lv160 F161 g162 => ?_)
  have g163 := F161 0 (.ref (E.1 + 88)) rfl (by decide) (Or.inl rfl)
  have g164 := F161 1 (.int w) rfl (by decide) (Or.inl rfl)
  refine bp_c (pc' := 3) (n := 0) bu_49_2 rfl rfl (fun _ _ _ => rfl) (by decide) (fun c165 e166 => ?_)
  refine bp_st (pc' := 4) bu_49_3 rfl rfl (fun _ _ _ => rfl) rfl (by decide) (by decide) (fun lv167 F168 g169 => ?_)
  have g170 := F168 0 (.ref (E.1 + 88)) g163 (by decide) (Or.inl rfl)
  have g171 := F168 1 (.int w) g164 (by decide) (Or.inl rfl)
  have g172 := F168 2 (.int c158) g162 (by decide) (Or.inl rfl)
  exact dm_49l hP hm hw NN kk _ _ _ _ g170 g171 g172 g169 (by omega) (fun q hq => absurd hq (by omega)) (by rw [show (c165).toInt.toNat = 0 by omega]; exact Int32.toInt_inj.mp (by show _ = (0 : Int); omega))
set_option maxHeartbeats 4000000 in
theorem dm_22l  (hP : bm_P nw_T E h0 h s A L) (hm : 0 ≤ (A 97 (s 8818).toInt.toNat).toInt ∧ (A 97 (s 8818).toInt.toNat).toInt ≤ 6) : ∀ NN : Nat, (∀ r : Int32, r.toInt = (dl_sz (A 97 (s 8818).toInt.toNat).toInt.toNat : Int) → bp_G E PO NN (mm_back (some (.int r)) gs h)) → (∀ (lv : mm_V) (o : Option Value) (v : Int32) (p : Int32), mm_get lv 0 = some (.ref (E.1 + 88)) → mm_get lv 1 = some (.int v) → mm_get lv 2 = some (.int p) → (0 ≤ p.toInt ∧ p.toInt ≤ 4) → (v.toInt = (dl_pz (A 97 (s 8818).toInt.toNat).toInt.toNat p.toInt.toNat : Int)) → bp_G E PO NN ((22, 4, lv, [], 0, 0) :: gs, h, o)) := by
  intro NN
  induction NN with
  | zero => intro kk lv o v p g0 g1 g2 i1 i2; exact bp_zero bu_22_4
  | succ NN ih =>
    intro kk lv o v p g0 g1 g2 i1 i2
    refine bp_ld (pc' := 5) bu_22_4 rfl rfl (fun _ _ _ => rfl) g2 rfl ?_
    refine bp_c (pc' := 6) (n := 4) bu_22_5 rfl rfl (fun _ _ _ => rfl) (by decide) (fun c173 e174 => ?_)
    refine bp_ic (pc' := 9) (pt := 42) bu_22_6 rfl rfl (fun k175 => ?_) (fun k175 => ?_)
    · replace k175 : (c173).toInt ≤ (p).toInt := k175
      refine bp_ld (pc' := 43) bu_22_42 rfl rfl (fun _ _ _ => rfl) g1 rfl ?_
      refine bp_ri bu_22_43 ?_
      exact kk _ (by rw [i2, dm_pze (by omega) (by omega) (by omega)]; rfl)
    · replace k175 : ¬ ((c173).toInt ≤ (p).toInt) := k175
      refine bp_ld (pc' := 10) bu_22_9 rfl rfl (fun _ _ _ => rfl) g2 rfl ?_
      refine bp_ld (pc' := 11) bu_22_10 rfl rfl (fun _ _ _ => rfl) g0 rfl ?_
      refine bn_gr (pc' := 14) (t := 97) bu_22_11 rfl rfl (fun _ _ _ => rfl) hP nw_o88 nw_r88_22 ?_
      refine bp_ld (pc' := 15) bu_22_14 rfl rfl (fun _ _ _ => rfl) g0 rfl ?_
      refine bn_gi (pc' := 18) (K := 8818) bu_22_15 rfl rfl (fun _ _ _ => rfl) hP nw_o88 nw_i88_18 rfl rfl ?_
      refine bn_iaF (pc' := 19) bu_22_18 rfl rfl (fun _ _ _ => rfl) hP nw_a97 (Or.inl rfl) (fun b176 b177 => ?_)
      refine bp_ic (pc' := 22) (pt := 42) bu_22_19 rfl rfl (fun k178 => ?_) (fun k178 => ?_)
      · replace k178 : ((A 97 ((s 8818)).toInt.toNat)).toInt ≤ (p).toInt := k178
        refine bp_ld (pc' := 43) bu_22_42 rfl rfl (fun _ _ _ => rfl) g1 rfl ?_
        refine bp_ri bu_22_43 ?_
        exact kk _ (by rw [i2, dm_pze (by omega) (by omega) (by omega)]; rfl)
      · replace k178 : ¬ (((A 97 ((s 8818)).toInt.toNat)).toInt ≤ (p).toInt) := k178
        refine bp_ld (pc' := 23) bu_22_22 rfl rfl (fun _ _ _ => rfl) g1 rfl ?_
        refine bp_ld (pc' := 24) bu_22_23 rfl rfl (fun _ _ _ => rfl) g0 rfl ?_
        refine bn_gr (pc' := 27) (t := 97) bu_22_24 rfl rfl (fun _ _ _ => rfl) hP nw_o88 nw_r88_22 ?_
        refine bp_ld (pc' := 28) bu_22_27 rfl rfl (fun _ _ _ => rfl) g0 rfl ?_
        refine bn_gi (pc' := 31) (K := 8818) bu_22_28 rfl rfl (fun _ _ _ => rfl) hP nw_o88 nw_i88_18 rfl rfl ?_
        refine bn_iaF (pc' := 32) bu_22_31 rfl rfl (fun _ _ _ => rfl) hP nw_a97 (Or.inl rfl) (fun b179 b180 => ?_)
        refine bp_ld (pc' := 33) bu_22_32 rfl rfl (fun _ _ _ => rfl) g2 rfl ?_
        refine bp_sub (pc' := 34) bu_22_33 rfl (by omega) (by omega) (fun v181 e182 => ?_)
        refine bp_x (pc' := 35) (v := v * v181) bu_22_34 rfl rfl (fun _ _ _ => rfl) rfl ?_
        refine bp_st (pc' := 36) bu_22_35 rfl rfl (fun _ _ _ => rfl) rfl (by decide) (by decide) (fun lv183 F184 g185 => ?_)
        have g186 := F184 0 (.ref (E.1 + 88)) g0 (by decide) (Or.inl rfl)
        have g187 := F184 2 (.int p) g2 (by decide) (Or.inl rfl)
        refine bp_inc (pc' := 39) bu_22_36 rfl (by decide) g187 (by decide) (by omega) (by omega) (fun lv188 y191 F189 g190 e192 => ?_)
        have g193 := F189 0 (.ref (E.1 + 88)) g186 (by decide) (Or.inl rfl)
        have g194 := F189 1 (.int (v * v181)) g185 (by decide) (Or.inl rfl)
        refine bp_goD (pc' := 4) bu_22_39 rfl ?_
        have hp2 : (y191).toInt.toNat = p.toInt.toNat + 1 := by omega
        exact ih (fun r q => bp_mono (Nat.le_succ NN) (kk r q)) _ _ ((v * v181)) (y191) g193 g194 g190 (by omega) (by rw [hp2]; exact dm_pz (by omega) (by omega) (by omega) i2 (by omega))
set_option maxHeartbeats 4000000 in
theorem dm_22 (hP : bm_P nw_T E h0 h s A L) (hm : 0 ≤ (A 97 (s 8818).toInt.toNat).toInt ∧ (A 97 (s 8818).toInt.toNat).toInt ≤ 6) (kk : (∀ r : Int32, r.toInt = (dl_sz (A 97 (s 8818).toInt.toNat).toInt.toNat : Int) → bp_G E PO NN (mm_back (some (.int r)) gs h))) : bp_G E PO NN ((22, 0, [(0, .ref (E.1 + 88))], [], 0, 0) :: gs, h, none) := by
  refine bp_c (pc' := 1) (n := 1) bu_22_0 rfl rfl (fun _ _ _ => rfl) (by decide) (fun c195 e196 => ?_)
  refine bp_st (pc' := 2) bu_22_1 rfl rfl (fun _ _ _ => rfl) rfl (by decide) (by decide) (fun lv197 F198 g199 => ?_)
  have g200 := F198 0 (.ref (E.1 + 88)) rfl (by decide) (Or.inl rfl)
  refine bp_c (pc' := 3) (n := 0) bu_22_2 rfl rfl (fun _ _ _ => rfl) (by decide) (fun c201 e202 => ?_)
  refine bp_st (pc' := 4) bu_22_3 rfl rfl (fun _ _ _ => rfl) rfl (by decide) (by decide) (fun lv203 F204 g205 => ?_)
  have g206 := F204 0 (.ref (E.1 + 88)) g200 (by decide) (Or.inl rfl)
  have g207 := F204 1 (.int c195) g199 (by decide) (Or.inl rfl)
  exact dm_22l hP hm NN kk _ _ _ _ g206 g207 g205 (by omega) (by rw [show (c201).toInt.toNat = 0 by omega]; show _ = (1 : Int); omega)
set_option maxHeartbeats 4000000 in
theorem dm_91l {w : Int32} (hP : bm_P nw_T E h0 h s A L) (hm : 0 ≤ (A 97 (s 8818).toInt.toNat).toInt ∧ (A 97 (s 8818).toInt.toNat).toInt ≤ 6) (hv : 0 ≤ (s 8818).toInt ∧ (s 8818).toInt ≤ 1) (hw : 0 ≤ w.toInt) (hf : ∀ a, a < (A 97 (s 8818).toInt.toNat).toInt.toNat → ∀ q, q < 4 → 0 ≤ (A 98 (4 * (6 * (s 8818).toInt.toNat + a) + q)).toInt ∧ (A 98 (4 * (6 * (s 8818).toInt.toNat + a) + q)).toInt ≤ 9) (ho : dr_ok (A 97 (s 8818).toInt.toNat).toInt.toNat w.toInt.toNat = true) : ∀ NN : Nat, (∀ r : Int32, r.toInt = dr_k (fun a q => (A 98 (4 * (6 * (s 8818).toInt.toNat + a) + q)).toInt) w.toInt.toNat → bp_G E PO NN (mm_back (some (.int r)) gs h)) → (∀ (lv : mm_V) (o : Option Value) (sm : Int32) (p : Int32), mm_get lv 0 = some (.ref (E.1 + 88)) → mm_get lv 1 = some (.int w) → mm_get lv 2 = some (.int sm) → mm_get lv 3 = some (.int p) → (0 ≤ p.toInt ∧ p.toInt ≤ 4) → (sm.toInt = dr_kp (fun a q => (A 98 (4 * (6 * (s 8818).toInt.toNat + a) + q)).toInt) w.toInt.toNat p.toInt.toNat) → bp_G E PO NN ((91, 4, lv, [], 0, 0) :: gs, h, o)) := by
  intro NN
  induction NN with
  | zero => intro kk lv o sm p g0 g1 g2 g3 i1 i2; exact bp_zero bu_91_4
  | succ NN ih =>
    intro kk lv o sm p g0 g1 g2 g3 i1 i2
    refine bp_ld (pc' := 5) bu_91_4 rfl rfl (fun _ _ _ => rfl) g3 rfl ?_
    refine bp_c (pc' := 6) (n := 4) bu_91_5 rfl rfl (fun _ _ _ => rfl) (by decide) (fun c208 e209 => ?_)
    refine bp_ic (pc' := 9) (pt := 28) bu_91_6 rfl rfl (fun k210 => ?_) (fun k210 => ?_)
    · replace k210 : (c208).toInt ≤ (p).toInt := k210
      refine bp_ld (pc' := 29) bu_91_28 rfl rfl (fun _ _ _ => rfl) g2 rfl ?_
      refine bp_ri bu_91_29 ?_
      exact kk _ (by rw [i2, show p.toInt.toNat = 4 by omega]; rfl)
    · replace k210 : ¬ ((c208).toInt ≤ (p).toInt) := k210
      refine bp_ld (pc' := 10) bu_91_9 rfl rfl (fun _ _ _ => rfl) g2 rfl ?_
      refine bp_ld (pc' := 11) bu_91_10 rfl rfl (fun _ _ _ => rfl) g0 rfl ?_
      refine bp_ld (pc' := 12) bu_91_11 rfl rfl (fun _ _ _ => rfl) g1 rfl ?_
      refine bp_ld (pc' := 13) bu_91_12 rfl rfl (fun _ _ _ => rfl) g3 rfl ?_
      refine bp_csF (pc' := 16) (st := [.ref (E.1 + 88), .int sm]) (args := [.int p, .int w]) bu_91_13 rfl rfl (by decide) rfl (Nat.le_of_ble_eq_true rfl) (Nat.le_of_ble_eq_true rfl) ?_
      refine dm_4 (w := w) (p := p) (by omega) (by omega) (fun r211 e212 => ?_)
      show bp_G E PO (NN + 1) ((91, 16, lv, [.int r211, .ref (E.1 + 88), .int sm], 0, 0) :: gs, h, none)
      refine bp_ld (pc' := 17) bu_91_16 rfl rfl (fun _ _ _ => rfl) g3 rfl ?_
      refine bn_cvF (pc' := 20) (st := [.int sm]) (args := [.int p, .int r211]) bu_91_17 rfl rfl rfl (by decide) hP nw_o88 (by decide) rfl (Nat.le_of_ble_eq_true rfl) (Nat.le_of_ble_eq_true rfl) ?_
      have hcv := dr_cv_b (w := w.toInt.toNat) (p := p.toInt.toNat)
      rw [← e212] at hcv
      have hlt := dr_ok_lt ho (show p.toInt.toNat < 4 by omega)
      have hb := dr_kp_b (f := (fun a q => (A 98 (4 * (6 * (s 8818).toInt.toNat + a) + q)).toInt)) hf ho p.toInt.toNat (by omega)
      refine hy_90 (a := r211) (p := p) hP hv (by omega) (by omega) (fun r213 e214 e215 => ?_)
      have hr9 : 0 ≤ (r213).toInt ∧ (r213).toInt ≤ 9 := by
        by_cases e6 : dr_dg w.toInt.toNat p.toInt.toNat = 6
        · have y := e214 (by omega)
          omega
        · have y := congrArg Int32.toInt (e215 (by omega))
          have z := hf (dr_dg w.toInt.toNat p.toInt.toNat) (by omega) p.toInt.toNat (by omega)
          rw [show (r211).toInt.toNat = dr_dg w.toInt.toNat p.toInt.toNat by omega] at y
          omega
      show bp_G E PO (NN + 1) ((91, 20, lv, [.int r213, .int sm], 0, 0) :: gs, h, none)
      refine bp_add (pc' := 21) bu_91_20 rfl (by omega) (by omega) (fun v216 e217 => ?_)
      refine bp_st (pc' := 22) bu_91_21 rfl rfl (fun _ _ _ => rfl) rfl (by decide) (by decide) (fun lv218 F219 g220 => ?_)
      have g221 := F219 0 (.ref (E.1 + 88)) g0 (by decide) (Or.inl rfl)
      have g222 := F219 1 (.int w) g1 (by decide) (Or.inl rfl)
      have g223 := F219 3 (.int p) g3 (by decide) (Or.inl rfl)
      refine bp_inc (pc' := 25) bu_91_22 rfl (by decide) g223 (by decide) (by omega) (by omega) (fun lv224 y227 F225 g226 e228 => ?_)
      have g229 := F225 0 (.ref (E.1 + 88)) g221 (by decide) (Or.inl rfl)
      have g230 := F225 1 (.int w) g222 (by decide) (Or.inl rfl)
      have g231 := F225 2 (.int v216) g220 (by decide) (Or.inl rfl)
      refine bp_goD (pc' := 4) bu_91_25 rfl ?_
      have hp2 : (y227).toInt.toNat = p.toInt.toNat + 1 := by omega
      exact ih (fun r q => bp_mono (Nat.le_succ NN) (kk r q)) _ _ (v216) (y227) g229 g230 g231 g226 (by omega) (by
        rw [hp2]
        show _ = dr_kp _ _ _ + (if dr_dg w.toInt.toNat p.toInt.toNat = 6 then 0 else (A 98 (4 * (6 * (s 8818).toInt.toNat + dr_dg w.toInt.toNat p.toInt.toNat) + p.toInt.toNat)).toInt)
        by_cases e6 : dr_dg w.toInt.toNat p.toInt.toNat = 6
        · rw [if_pos e6]
          have y := e214 (by omega)
          omega
        · rw [if_neg e6]
          have y := congrArg Int32.toInt (e215 (by omega))
          rw [show (r211).toInt.toNat = dr_dg w.toInt.toNat p.toInt.toNat by omega] at y
          omega)
set_option maxHeartbeats 4000000 in
theorem dm_91 {w : Int32} (hP : bm_P nw_T E h0 h s A L) (hm : 0 ≤ (A 97 (s 8818).toInt.toNat).toInt ∧ (A 97 (s 8818).toInt.toNat).toInt ≤ 6) (hv : 0 ≤ (s 8818).toInt ∧ (s 8818).toInt ≤ 1) (hw : 0 ≤ w.toInt) (hf : ∀ a, a < (A 97 (s 8818).toInt.toNat).toInt.toNat → ∀ q, q < 4 → 0 ≤ (A 98 (4 * (6 * (s 8818).toInt.toNat + a) + q)).toInt ∧ (A 98 (4 * (6 * (s 8818).toInt.toNat + a) + q)).toInt ≤ 9) (ho : dr_ok (A 97 (s 8818).toInt.toNat).toInt.toNat w.toInt.toNat = true) (kk : (∀ r : Int32, r.toInt = dr_k (fun a q => (A 98 (4 * (6 * (s 8818).toInt.toNat + a) + q)).toInt) w.toInt.toNat → bp_G E PO NN (mm_back (some (.int r)) gs h))) : bp_G E PO NN ((91, 0, [(0, .ref (E.1 + 88)), (1, .int w)], [], 0, 0) :: gs, h, none) := by
  refine bp_c (pc' := 1) (n := 0) bu_91_0 rfl rfl (fun _ _ _ => rfl) (by decide) (fun c232 e233 => ?_)
  refine bp_st (pc' := 2) bu_91_1 rfl rfl (fun _ _ _ => rfl) rfl (by decide) (by decide) (fun lv234 F235 g236 => ?_)
  have g237 := F235 0 (.ref (E.1 + 88)) rfl (by decide) (Or.inl rfl)
  have g238 := F235 1 (.int w) rfl (by decide) (Or.inl rfl)
  refine bp_c (pc' := 3) (n := 0) bu_91_2 rfl rfl (fun _ _ _ => rfl) (by decide) (fun c239 e240 => ?_)
  refine bp_st (pc' := 4) bu_91_3 rfl rfl (fun _ _ _ => rfl) rfl (by decide) (by decide) (fun lv241 F242 g243 => ?_)
  have g244 := F242 0 (.ref (E.1 + 88)) g237 (by decide) (Or.inl rfl)
  have g245 := F242 1 (.int w) g238 (by decide) (Or.inl rfl)
  have g246 := F242 2 (.int c232) g236 (by decide) (Or.inl rfl)
  exact dm_91l hP hm hv hw hf ho NN kk _ _ _ _ g244 g245 g246 g243 (by omega) (by rw [show (c239).toInt.toNat = 0 by omega]; show _ = (0 : Int); omega)
set_option maxRecDepth 20000 in
set_option maxHeartbeats 4000000 in
theorem dm_33l {s0 : Nat → Int32} (hm : 0 ≤ (A 97 (s0 8818).toInt.toNat).toInt ∧ (A 97 (s0 8818).toInt.toNat).toInt ≤ 6) (hv : 0 ≤ (s0 8818).toInt ∧ (s0 8818).toInt ≤ 1) (hf : ∀ a, a < (A 97 (s0 8818).toInt.toNat).toInt.toNat → ∀ q, q < 4 → 0 ≤ (A 98 (4 * (6 * (s0 8818).toInt.toNat + a) + q)).toInt ∧ (A 98 (4 * (6 * (s0 8818).toInt.toNat + a) + q)).toInt ≤ 9) : ∀ NN : Nat, (∀ (h' : mm_H) (s' : Nat → Int32) (lv : mm_V) (o : Option Value), bm_P nw_T E h0 h' s' A L → (∀ j, j ≠ 8863 → j ≠ 8864 → s' j = s0 j) → dr_Q (dr_k (fun a q => (A 98 (4 * (6 * (s0 8818).toInt.toNat + a) + q)).toInt)) (dr_L (A 97 (s0 8818).toInt.toNat).toInt.toNat 2401) (s' 8863).toInt (s' 8864).toInt → bp_G E PO NN ((33, 64, lv, [], 0, 0) :: gs, h', o)) → (∀ (h : mm_H) (s : Nat → Int32) (lv : mm_V) (o : Option Value) (k : Int32), bm_P nw_T E h0 h s A L → (∀ j, j ≠ 8863 → j ≠ 8864 → s j = s0 j) → dr_Q (dr_k (fun a q => (A 98 (4 * (6 * (s0 8818).toInt.toNat + a) + q)).toInt)) (dr_L (A 97 (s0 8818).toInt.toNat).toInt.toNat k.toInt.toNat) (s 8863).toInt (s 8864).toInt → 0 ≤ k.toInt ∧ k.toInt ≤ 2401 → mm_get lv 0 = some (.ref (E.1 + 88)) → mm_get lv 1 = some (.int k) → bp_G E PO NN ((33, 7, lv, [], 0, 0) :: gs, h, o)) := by
  intro NN
  induction NN with
  | zero => intro kk h s lv o k hP fr hq hk g0 g1; exact bp_zero bu_33_7
  | succ NN ih =>
    intro kk h s lv o k hP fr hq hk g0 g1
    refine bp_ld (pc' := 8) bu_33_7 rfl rfl (fun _ _ _ => rfl) g1 rfl ?_
    refine bp_c (pc' := 11) (n := 2401) bu_33_8 rfl rfl (fun _ _ _ => rfl) (by decide) (fun c247 e248 => ?_)
    refine bp_ic (pc' := 14) (pt := 64) bu_33_11 rfl rfl (fun k249 => ?_) (fun k249 => ?_)
    · replace k249 : (c247).toInt ≤ (k).toInt := k249
      exact kk _ _ _ _ hP fr (by rw [show k.toInt.toNat = 2401 by omega] at hq; exact hq)
    · replace k249 : ¬ ((c247).toInt ≤ (k).toInt) := k249
      refine bp_ld (pc' := 15) bu_33_14 rfl rfl (fun _ _ _ => rfl) g0 rfl ?_
      refine bp_ld (pc' := 16) bu_33_15 rfl rfl (fun _ _ _ => rfl) g1 rfl ?_
      refine bn_cvF (pc' := 19) (st := []) (args := [.int k]) bu_33_16 rfl rfl rfl (by decide) hP nw_o88 (by decide) rfl (Nat.le_of_ble_eq_true rfl) (Nat.le_of_ble_eq_true rfl) ?_
      have z252 : s 8818 = s0 8818 := (fr 8818 (by decide) (by decide))
      refine dm_49 (w := k) hP (by rw [z252]; exact hm) (by omega) (fun r250 e251 => ?_)
      rw [z252] at e251
      show bp_G E PO (NN + 1) ((33, 19, lv, [.int r250], 0, 0) :: gs, h, none)
      refine bp_i0 (pc' := 22) (pt := 58) bu_33_19 rfl rfl (fun k253 => ?_) (fun k253 => ?_)
      · replace k253 : (r250).toInt = 0 := k253
        refine bp_inc (pc' := 61) bu_33_58 rfl (by decide) g1 (by decide) (by omega) (by omega) (fun lv254 y257 F255 g256 e258 => ?_)
        have g259 := F255 0 (.ref (E.1 + 88)) g0 (by decide) (Or.inl rfl)
        refine bp_goD (pc' := 7) bu_33_61 rfl ?_
        have hk2 : (y257).toInt.toNat = k.toInt.toNat + 1 := by omega
        have hno : dr_ok (A 97 (s0 8818).toInt.toNat).toInt.toNat k.toInt.toNat = false := by
          rcases e251 with q | q
          · omega
          · exact q.2
        exact ih (fun h' s' lv o a0 a1 a2 => bp_mono (Nat.le_succ NN) (kk h' s' lv o a0 a1 a2)) _ _ _ _ _ hP fr (by rw [hk2, dr_L_n hno]; exact hq) (by omega) g259 g256
      · replace k253 : ¬ ((r250).toInt = 0) := k253
        refine bp_ld (pc' := 23) bu_33_22 rfl rfl (fun _ _ _ => rfl) g0 rfl ?_
        refine bn_gi (pc' := 26) (K := 8863) bu_33_23 rfl rfl (fun _ _ _ => rfl) hP nw_o88 nw_i88_63 rfl rfl ?_
        refine bp_i0 (pc' := 29) (pt := 44) bu_33_26 rfl rfl (fun k260 => ?_) (fun k260 => ?_)
        · replace k260 : ((s 8863)).toInt < 0 := k260
          refine bp_ld (pc' := 45) bu_33_44 rfl rfl (fun _ _ _ => rfl) g0 rfl ?_
          refine bp_ld (pc' := 46) bu_33_45 rfl rfl (fun _ _ _ => rfl) g1 rfl ?_
          refine bn_pf (pc' := 49) (K := 8863) bu_33_46 rfl rfl (fun _ _ _ => rfl) hP nw_o88 nw_i88_63 rfl rfl (fun h261 s262 hP263 e264 f265 => ?_)
          refine bp_ld (pc' := 50) bu_33_49 rfl rfl (fun _ _ _ => rfl) g0 rfl ?_
          refine bp_ld (pc' := 51) bu_33_50 rfl rfl (fun _ _ _ => rfl) g0 rfl ?_
          refine bp_ld (pc' := 52) bu_33_51 rfl rfl (fun _ _ _ => rfl) g1 rfl ?_
          refine bn_cvF (pc' := 55) (st := [.ref (E.1 + 88)]) (args := [.int k]) bu_33_52 rfl rfl rfl (by decide) hP263 nw_o88 (by decide) rfl (Nat.le_of_ble_eq_true rfl) (Nat.le_of_ble_eq_true rfl) ?_
          have ho269 : dr_ok (A 97 (s0 8818).toInt.toNat).toInt.toNat k.toInt.toNat = true := by
            rcases e251 with q | q
            · exact q.2
            · omega
          have z268 : s262 8818 = s0 8818 := ((f265 8818 (by decide)).trans (fr 8818 (by decide) (by decide)))
          refine dm_91 (w := k) hP263 (by rw [z268]; exact hm) (by rw [z268]; exact hv) (by omega) (by rw [z268]; exact hf) (by rw [z268]; exact ho269) (fun r266 e267 => ?_)
          rw [z268] at e267
          show bp_G E PO (NN + 1) ((33, 55, lv, [.int r266, .ref (E.1 + 88)], 0, 0) :: gs, h261, none)
          refine bn_pf (pc' := 58) (K := 8864) bu_33_55 rfl rfl (fun _ _ _ => rfl) hP263 nw_o88 nw_i88_64 rfl rfl (fun h270 s271 hP272 e273 f274 => ?_)
          refine bp_inc (pc' := 61) bu_33_58 rfl (by decide) g1 (by decide) (by omega) (by omega) (fun lv275 y278 F276 g277 e279 => ?_)
          have g280 := F276 0 (.ref (E.1 + 88)) g0 (by decide) (Or.inl rfl)
          refine bp_goD (pc' := 7) bu_33_61 rfl ?_
          have hk2 : (y278).toInt.toNat = k.toInt.toNat + 1 := by omega
          have w3 := congrArg Int32.toInt ((f274 8863 (by decide)).trans e264)
          have w4 := congrArg Int32.toInt e273
          have hs9 := e267
          have hs8 := e267
          exact ih (fun h' s' lv o a0 a1 a2 => bp_mono (Nat.le_succ NN) (kk h' s' lv o a0 a1 a2)) _ _ _ _ _ hP272 (fun j u1 u2 => ((f274 j u2).trans ((f265 j u1).trans (fr j u1 u2)))) (by rw [hk2, dr_L_s ho269]; exact dr_Q_a hq (fun _ => ⟨by omega, by omega⟩) (fun c1 c2 => absurd c2 (by omega))) (by omega) g280 g277
        · replace k260 : ¬ (((s 8863)).toInt < 0) := k260
          refine bp_ld (pc' := 30) bu_33_29 rfl rfl (fun _ _ _ => rfl) g0 rfl ?_
          refine bp_ld (pc' := 31) bu_33_30 rfl rfl (fun _ _ _ => rfl) g1 rfl ?_
          refine bn_cvF (pc' := 34) (st := []) (args := [.int k]) bu_33_31 rfl rfl rfl (by decide) hP nw_o88 (by decide) rfl (Nat.le_of_ble_eq_true rfl) (Nat.le_of_ble_eq_true rfl) ?_
          have ho284 : dr_ok (A 97 (s0 8818).toInt.toNat).toInt.toNat k.toInt.toNat = true := by
            rcases e251 with q | q
            · exact q.2
            · omega
          have z283 : s 8818 = s0 8818 := (fr 8818 (by decide) (by decide))
          refine dm_91 (w := k) hP (by rw [z283]; exact hm) (by rw [z283]; exact hv) (by omega) (by rw [z283]; exact hf) (by rw [z283]; exact ho284) (fun r281 e282 => ?_)
          rw [z283] at e282
          show bp_G E PO (NN + 1) ((33, 34, lv, [.int r281], 0, 0) :: gs, h, none)
          refine bp_ld (pc' := 35) bu_33_34 rfl rfl (fun _ _ _ => rfl) g0 rfl ?_
          refine bn_gi (pc' := 38) (K := 8864) bu_33_35 rfl rfl (fun _ _ _ => rfl) hP nw_o88 nw_i88_64 rfl rfl ?_
          refine bp_ic (pc' := 41) (pt := 44) bu_33_38 rfl rfl (fun k285 => ?_) (fun k285 => ?_)
          · replace k285 : ((s 8864)).toInt < (r281).toInt := k285
            refine bp_ld (pc' := 45) bu_33_44 rfl rfl (fun _ _ _ => rfl) g0 rfl ?_
            refine bp_ld (pc' := 46) bu_33_45 rfl rfl (fun _ _ _ => rfl) g1 rfl ?_
            refine bn_pf (pc' := 49) (K := 8863) bu_33_46 rfl rfl (fun _ _ _ => rfl) hP nw_o88 nw_i88_63 rfl rfl (fun h286 s287 hP288 e289 f290 => ?_)
            refine bp_ld (pc' := 50) bu_33_49 rfl rfl (fun _ _ _ => rfl) g0 rfl ?_
            refine bp_ld (pc' := 51) bu_33_50 rfl rfl (fun _ _ _ => rfl) g0 rfl ?_
            refine bp_ld (pc' := 52) bu_33_51 rfl rfl (fun _ _ _ => rfl) g1 rfl ?_
            refine bn_cvF (pc' := 55) (st := [.ref (E.1 + 88)]) (args := [.int k]) bu_33_52 rfl rfl rfl (by decide) hP288 nw_o88 (by decide) rfl (Nat.le_of_ble_eq_true rfl) (Nat.le_of_ble_eq_true rfl) ?_
            have z293 : s287 8818 = s0 8818 := ((f290 8818 (by decide)).trans (fr 8818 (by decide) (by decide)))
            refine dm_91 (w := k) hP288 (by rw [z293]; exact hm) (by rw [z293]; exact hv) (by omega) (by rw [z293]; exact hf) (by rw [z293]; exact ho284) (fun r291 e292 => ?_)
            rw [z293] at e292
            show bp_G E PO (NN + 1) ((33, 55, lv, [.int r291, .ref (E.1 + 88)], 0, 0) :: gs, h286, none)
            refine bn_pf (pc' := 58) (K := 8864) bu_33_55 rfl rfl (fun _ _ _ => rfl) hP288 nw_o88 nw_i88_64 rfl rfl (fun h294 s295 hP296 e297 f298 => ?_)
            refine bp_inc (pc' := 61) bu_33_58 rfl (by decide) g1 (by decide) (by omega) (by omega) (fun lv299 y302 F300 g301 e303 => ?_)
            have g304 := F300 0 (.ref (E.1 + 88)) g0 (by decide) (Or.inl rfl)
            refine bp_goD (pc' := 7) bu_33_61 rfl ?_
            have hk2 : (y302).toInt.toNat = k.toInt.toNat + 1 := by omega
            have w3 := congrArg Int32.toInt ((f298 8863 (by decide)).trans e289)
            have w4 := congrArg Int32.toInt e297
            have hs9 := e282
            have hs8 := e292
            exact ih (fun h' s' lv o a0 a1 a2 => bp_mono (Nat.le_succ NN) (kk h' s' lv o a0 a1 a2)) _ _ _ _ _ hP296 (fun j u1 u2 => ((f298 j u2).trans ((f290 j u1).trans (fr j u1 u2)))) (by rw [hk2, dr_L_s ho284]; exact dr_Q_a hq (fun _ => ⟨by omega, by omega⟩) (fun c1 c2 => absurd c2 (by omega))) (by omega) g304 g301
          · replace k285 : ¬ (((s 8864)).toInt < (r281).toInt) := k285
            refine bp_go (pc' := 58) bu_33_41 rfl ?_
            refine bp_inc (pc' := 61) bu_33_58 rfl (by decide) g1 (by decide) (by omega) (by omega) (fun lv305 y308 F306 g307 e309 => ?_)
            have g310 := F306 0 (.ref (E.1 + 88)) g0 (by decide) (Or.inl rfl)
            refine bp_goD (pc' := 7) bu_33_61 rfl ?_
            have hk2 : (y308).toInt.toNat = k.toInt.toNat + 1 := by omega
            have hs9 := e282
            exact ih (fun h' s' lv o a0 a1 a2 => bp_mono (Nat.le_succ NN) (kk h' s' lv o a0 a1 a2)) _ _ _ _ _ hP fr (by rw [hk2, dr_L_s ho284]; exact dr_Q_a hq (fun c => absurd c (by omega)) (fun _ _ => ⟨rfl, rfl⟩)) (by omega) g310 g307
set_option maxRecDepth 20000 in
set_option maxHeartbeats 4000000 in
theorem dm_33 (hP : bm_P nw_T E h0 h s A L) (hm : 0 ≤ (A 97 (s 8818).toInt.toNat).toInt ∧ (A 97 (s 8818).toInt.toNat).toInt ≤ 6) (hv : 0 ≤ (s 8818).toInt ∧ (s 8818).toInt ≤ 1) (hf : ∀ a, a < (A 97 (s 8818).toInt.toNat).toInt.toNat → ∀ q, q < 4 → 0 ≤ (A 98 (4 * (6 * (s 8818).toInt.toNat + a) + q)).toInt ∧ (A 98 (4 * (6 * (s 8818).toInt.toNat + a) + q)).toInt ≤ 9) (kk : ∀ (h' : mm_H) (s' : Nat → Int32), bm_P nw_T E h0 h' s' A L → (∀ j, j ≠ 8863 → j ≠ 8864 → s' j = s j) → dr_Q (dr_k (fun a q => (A 98 (4 * (6 * (s 8818).toInt.toNat + a) + q)).toInt)) (dr_L (A 97 (s 8818).toInt.toNat).toInt.toNat 2401) (s' 8863).toInt (s' 8864).toInt → bp_G E PO NN (mm_back none gs h')) : bp_G E PO NN ((33, 0, [(0, .ref (E.1 + 88))], [], 0, 0) :: gs, h, none) := by
  refine bp_ld (pc' := 1) bu_33_0 rfl rfl (fun _ _ _ => rfl) rfl rfl ?_
  refine bp_c (pc' := 2) (n := -1) bu_33_1 rfl rfl (fun _ _ _ => rfl) (by decide) (fun c311 e312 => ?_)
  refine bn_pf (pc' := 5) (K := 8863) bu_33_2 rfl rfl (fun _ _ _ => rfl) hP nw_o88 nw_i88_63 rfl rfl (fun h313 s314 hP315 e316 f317 => ?_)
  refine bp_c (pc' := 6) (n := 0) bu_33_5 rfl rfl (fun _ _ _ => rfl) (by decide) (fun c318 e319 => ?_)
  refine bp_st (pc' := 7) bu_33_6 rfl rfl (fun _ _ _ => rfl) rfl (by decide) (by decide) (fun lv320 F321 g322 => ?_)
  have g323 := F321 0 (.ref (E.1 + 88)) rfl (by decide) (Or.inl rfl)
  have w3 := congrArg Int32.toInt e316
  refine dm_33l (s0 := s) hm hv hf NN (fun h324 s325 lv326 o327 hP328 a329 q330 => ?_) _ _ _ _ _ hP315 (fun j u1 u2 => f317 j u1) (by rw [show (c318).toInt.toNat = 0 by omega]; show _ = (-1 : Int); omega) (by omega) g323 g322
  refine bp_rv bu_33_64 ?_
  exact kk _ _ hP328 a329 q330
set_option maxRecDepth 20000 in
set_option maxHeartbeats 4000000 in
theorem dm_80 {p : Int32} (hP : bm_P nw_T E h0 h s A L) (hm : 0 ≤ (A 97 (s 8818).toInt.toNat).toInt ∧ (A 97 (s 8818).toInt.toNat).toInt ≤ 6) (hv : 0 ≤ (s 8818).toInt ∧ (s 8818).toInt ≤ 1) (hf : ∀ a, a < (A 97 (s 8818).toInt.toNat).toInt.toNat → ∀ q, q < 4 → 0 ≤ (A 98 (4 * (6 * (s 8818).toInt.toNat + a) + q)).toInt ∧ (A 98 (4 * (6 * (s 8818).toInt.toNat + a) + q)).toInt ≤ 9) (kk : ∀ (h' : mm_H) (s' : Nat → Int32) (r : Int32), bm_P nw_T E h0 h' s' A L → (∀ j, j ≠ 8863 → j ≠ 8864 → s' j = s j) → kd_Pro (A 97 (s 8818).toInt.toNat).toInt.toNat (fun a q => (A 98 (4 * (6 * (s 8818).toInt.toNat + a) + q)).toInt) p r → bp_G E PO NN (mm_back (some (.int r)) gs h')) : bp_G E PO NN ((80, 0, [(0, .ref (E.1 + 88)), (1, .int p)], [], 0, 0) :: gs, h, none) := by
  refine bp_ld (pc' := 1) bu_80_0 rfl rfl (fun _ _ _ => rfl) rfl rfl ?_
  refine bp_c (pc' := 2) (n := -1) bu_80_1 rfl rfl (fun _ _ _ => rfl) (by decide) (fun c331 e332 => ?_)
  refine bp_c (pc' := 3) (n := 3) bu_80_2 rfl rfl (fun _ _ _ => rfl) (by decide) (fun c333 e334 => ?_)
  refine bp_csF (pc' := 6) (st := []) (args := [.int c333, .int c331, .int p]) bu_80_3 rfl rfl (by decide) rfl (Nat.le_of_ble_eq_true rfl) (Nat.le_of_ble_eq_true rfl) ?_
  refine kd_43 (x := p) (y := c331) (z := c333) (fun r335 e336 => ?_)
  show bp_G E PO NN ((80, 6, _, [.int r335], 0, 0) :: gs, h, none)
  refine bp_i0 (pc' := 9) (pt := 12) bu_80_6 rfl rfl (fun k337 => ?_) (fun k337 => ?_)
  · replace k337 : (r335).toInt ≠ 0 := k337
    refine bp_ld (pc' := 13) bu_80_12 rfl rfl (fun _ _ _ => rfl) rfl rfl ?_
    refine bn_cvF (pc' := 16) (st := []) (args := []) bu_80_13 rfl rfl rfl (by decide) hP nw_o88 (by decide) rfl (Nat.le_of_ble_eq_true rfl) (Nat.le_of_ble_eq_true rfl) ?_
    refine dm_33 hP hm hv hf (fun h338 s339 hP340 a341 q342 => ?_)
    obtain ⟨w343, w344, w345, w346⟩ := dr_Q_s q342 (dr_L_ne (by omega))
    show bp_G E PO NN ((80, 16, _, [], 0, 0) :: gs, h338, none)
    refine bp_ld (pc' := 17) bu_80_16 rfl rfl (fun _ _ _ => rfl) rfl rfl ?_
    refine bp_c (pc' := 18) (n := -1) bu_80_17 rfl rfl (fun _ _ _ => rfl) (by decide) (fun c347 e348 => ?_)
    refine bp_ic (pc' := 21) (pt := 28) bu_80_18 rfl rfl (fun k349 => ?_) (fun k349 => ?_)
    · replace k349 : (p).toInt ≠ (c347).toInt := k349
      refine bp_ld (pc' := 29) bu_80_28 rfl rfl (fun _ _ _ => rfl) rfl rfl ?_
      refine bn_gi (pc' := 32) (K := 8863) bu_80_29 rfl rfl (fun _ _ _ => rfl) hP340 nw_o88 nw_i88_63 rfl rfl ?_
      refine bp_ld (pc' := 33) bu_80_32 rfl rfl (fun _ _ _ => rfl) rfl rfl ?_
      refine bp_csF (pc' := 36) (st := []) (args := [.int p, .int (s339 8863)]) bu_80_33 rfl rfl (by decide) rfl (Nat.le_of_ble_eq_true rfl) (Nat.le_of_ble_eq_true rfl) ?_
      refine dm_4 (w := (s339 8863)) (p := p) (by omega) (by omega) (fun r350 e351 => ?_)
      show bp_G E PO NN ((80, 36, _, [.int r350], 0, 0) :: gs, h338, none)
      refine bp_ri bu_80_36 ?_
      rw [show (s339 8863).toInt.toNat = w343 by omega] at e351
      exact kk _ _ _ hP340 a341 (Or.inr ⟨by omega, w343, w344, fun z => absurd z (by omega), fun _ => e351⟩)
    · replace k349 : ¬ ((p).toInt ≠ (c347).toInt) := k349
      refine bp_ld (pc' := 22) bu_80_21 rfl rfl (fun _ _ _ => rfl) rfl rfl ?_
      refine bn_gi (pc' := 25) (K := 8864) bu_80_22 rfl rfl (fun _ _ _ => rfl) hP340 nw_o88 nw_i88_64 rfl rfl ?_
      refine bp_go (pc' := 36) bu_80_25 rfl ?_
      refine bp_ri bu_80_36 ?_
      exact kk _ _ _ hP340 a341 (Or.inr ⟨by omega, w343, w344, fun _ => w346, fun z => absurd z (by omega)⟩)
  · replace k337 : ¬ ((r335).toInt ≠ 0) := k337
    refine bp_c (pc' := 11) (n := -100) bu_80_9 rfl rfl (fun _ _ _ => rfl) (by decide) (fun c352 e353 => ?_)
    refine bp_ri bu_80_11 ?_
    exact kk _ _ _ hP (fun _ _ _ => rfl) (Or.inl ⟨by omega, by omega⟩)
set_option maxRecDepth 20000 in
set_option maxHeartbeats 4000000 in
theorem dm_9l {b : Int32} (hP : bm_P nw_T E h0 h s A L) (hm : 0 ≤ (A 97 (s 8818).toInt.toNat).toInt ∧ (A 97 (s 8818).toInt.toNat).toInt ≤ 6) (hv : 0 ≤ (s 8818).toInt ∧ (s 8818).toInt ≤ 1) (hf : ∀ a, a < (A 97 (s 8818).toInt.toNat).toInt.toNat → ∀ q, q < 4 → 0 ≤ (A 98 (4 * (6 * (s 8818).toInt.toNat + a) + q)).toInt ∧ (A 98 (4 * (6 * (s 8818).toInt.toNat + a) + q)).toInt ≤ 9) : ∀ NN : Nat, (∀ (lv : mm_V) (o : Option Value) (t : Int32), t.toInt = dr_s (dr_k (fun a q => (A 98 (4 * (6 * (s 8818).toInt.toNat + a) + q)).toInt)) (dr_L (A 97 (s 8818).toInt.toNat).toInt.toNat 2401) → 0 ≤ t.toInt ∧ t.toInt ≤ 90000 → mm_get lv 0 = some (.ref (E.1 + 88)) → mm_get lv 1 = some (.int b) → mm_get lv 2 = some (.int t) → bp_G E PO NN ((9, 37, lv, [], 0, 0) :: gs, h, o)) → (∀ (lv : mm_V) (o : Option Value) (t k : Int32), t.toInt = dr_s (dr_k (fun a q => (A 98 (4 * (6 * (s 8818).toInt.toNat + a) + q)).toInt)) (dr_L (A 97 (s 8818).toInt.toNat).toInt.toNat k.toInt.toNat) → 0 ≤ t.toInt ∧ t.toInt ≤ 36 * k.toInt → 0 ≤ k.toInt ∧ k.toInt ≤ 2401 → mm_get lv 0 = some (.ref (E.1 + 88)) → mm_get lv 1 = some (.int b) → mm_get lv 2 = some (.int t) → mm_get lv 3 = some (.int k) → bp_G E PO NN ((9, 8, lv, [], 0, 0) :: gs, h, o)) := by
  intro NN
  induction NN with
  | zero => intro kk lv o t k ht htb hk g0 g1 g2 g3; exact bp_zero bu_9_8
  | succ NN ih =>
    intro kk lv o t k ht htb hk g0 g1 g2 g3
    refine bp_ld (pc' := 9) bu_9_8 rfl rfl (fun _ _ _ => rfl) g3 rfl ?_
    refine bp_c (pc' := 12) (n := 2401) bu_9_9 rfl rfl (fun _ _ _ => rfl) (by decide) (fun c354 e355 => ?_)
    refine bp_ic (pc' := 15) (pt := 37) bu_9_12 rfl rfl (fun k356 => ?_) (fun k356 => ?_)
    · replace k356 : (c354).toInt ≤ (k).toInt := k356
      exact kk _ _ _ (by rw [show k.toInt.toNat = 2401 by omega] at ht; exact ht) (by omega) g0 g1 g2
    · replace k356 : ¬ ((c354).toInt ≤ (k).toInt) := k356
      refine bp_ld (pc' := 16) bu_9_15 rfl rfl (fun _ _ _ => rfl) g0 rfl ?_
      refine bp_ld (pc' := 17) bu_9_16 rfl rfl (fun _ _ _ => rfl) g3 rfl ?_
      refine bn_cvF (pc' := 20) (st := []) (args := [.int k]) bu_9_17 rfl rfl rfl (by decide) hP nw_o88 (by decide) rfl (Nat.le_of_ble_eq_true rfl) (Nat.le_of_ble_eq_true rfl) ?_
      refine dm_49 (w := k) hP hm (by omega) (fun r357 e358 => ?_)
      show bp_G E PO (NN + 1) ((9, 20, lv, [.int r357], 0, 0) :: gs, h, none)
      refine bp_i0 (pc' := 23) (pt := 31) bu_9_20 rfl rfl (fun k359 => ?_) (fun k359 => ?_)
      · replace k359 : (r357).toInt = 0 := k359
        refine bp_inc (pc' := 34) bu_9_31 rfl (by decide) g3 (by decide) (by omega) (by omega) (fun lv360 y363 F361 g362 e364 => ?_)
        have g365 := F361 0 (.ref (E.1 + 88)) g0 (by decide) (Or.inl rfl)
        have g366 := F361 1 (.int b) g1 (by decide) (Or.inl rfl)
        have g367 := F361 2 (.int t) g2 (by decide) (Or.inl rfl)
        refine bp_goD (pc' := 8) bu_9_34 rfl ?_
        have hk2 : (y363).toInt.toNat = k.toInt.toNat + 1 := by omega
        have hno : dr_ok (A 97 (s 8818).toInt.toNat).toInt.toNat k.toInt.toNat = false := by
          rcases e358 with q | q
          · omega
          · exact q.2
        exact ih (fun lv o t a0 a1 a2 a3 a4 => bp_mono (Nat.le_succ NN) (kk lv o t a0 a1 a2 a3 a4)) _ _ _ _ (by rw [hk2, dr_L_n hno]; exact ht) (by omega) (by omega) g365 g366 g367 g362
      · replace k359 : ¬ ((r357).toInt = 0) := k359
        refine bp_ld (pc' := 24) bu_9_23 rfl rfl (fun _ _ _ => rfl) g2 rfl ?_
        refine bp_ld (pc' := 25) bu_9_24 rfl rfl (fun _ _ _ => rfl) g0 rfl ?_
        refine bp_ld (pc' := 26) bu_9_25 rfl rfl (fun _ _ _ => rfl) g3 rfl ?_
        refine bn_cvF (pc' := 29) (st := [.int t]) (args := [.int k]) bu_9_26 rfl rfl rfl (by decide) hP nw_o88 (by decide) rfl (Nat.le_of_ble_eq_true rfl) (Nat.le_of_ble_eq_true rfl) ?_
        have ho370 : dr_ok (A 97 (s 8818).toInt.toNat).toInt.toNat k.toInt.toNat = true := by
          rcases e358 with q | q
          · exact q.2
          · omega
        refine dm_91 (w := k) hP hm hv (by omega) hf ho370 (fun r368 e369 => ?_)
        have hb9 : 0 ≤ dr_k (fun a q => (A 98 (4 * (6 * (s 8818).toInt.toNat + a) + q)).toInt) k.toInt.toNat ∧ dr_k (fun a q => (A 98 (4 * (6 * (s 8818).toInt.toNat + a) + q)).toInt) k.toInt.toNat ≤ 9 * ((4 : Nat) : Int) := dr_kp_b (f := (fun a q => (A 98 (4 * (6 * (s 8818).toInt.toNat + a) + q)).toInt)) hf ho370 4 (Nat.le_refl _)
        show bp_G E PO (NN + 1) ((9, 29, lv, [.int r368, .int t], 0, 0) :: gs, h, none)
        refine bp_add (pc' := 30) bu_9_29 rfl (by omega) (by omega) (fun v371 e372 => ?_)
        refine bp_st (pc' := 31) bu_9_30 rfl rfl (fun _ _ _ => rfl) rfl (by decide) (by decide) (fun lv373 F374 g375 => ?_)
        have g376 := F374 0 (.ref (E.1 + 88)) g0 (by decide) (Or.inl rfl)
        have g377 := F374 1 (.int b) g1 (by decide) (Or.inl rfl)
        have g378 := F374 3 (.int k) g3 (by decide) (Or.inl rfl)
        refine bp_inc (pc' := 34) bu_9_31 rfl (by decide) g378 (by decide) (by omega) (by omega) (fun lv379 y382 F380 g381 e383 => ?_)
        have g384 := F380 0 (.ref (E.1 + 88)) g376 (by decide) (Or.inl rfl)
        have g385 := F380 1 (.int b) g377 (by decide) (Or.inl rfl)
        have g386 := F380 2 (.int v371) g375 (by decide) (Or.inl rfl)
        refine bp_goD (pc' := 8) bu_9_34 rfl ?_
        have hk2 : (y382).toInt.toNat = k.toInt.toNat + 1 := by omega
        exact ih (fun lv o t a0 a1 a2 a3 a4 => bp_mono (Nat.le_succ NN) (kk lv o t a0 a1 a2 a3 a4)) _ _ _ _ (by rw [hk2, dr_L_s ho370, dr_s_a]; omega) (by omega) (by omega) g384 g385 g386 g381
set_option maxRecDepth 20000 in
set_option maxHeartbeats 4000000 in
theorem dm_9 {b : Int32} (hP : bm_P nw_T E h0 h s A L) (hm : 0 ≤ (A 97 (s 8818).toInt.toNat).toInt ∧ (A 97 (s 8818).toInt.toNat).toInt ≤ 6) (hv : 0 ≤ (s 8818).toInt ∧ (s 8818).toInt ≤ 1) (hf : ∀ a, a < (A 97 (s 8818).toInt.toNat).toInt.toNat → ∀ q, q < 4 → 0 ≤ (A 98 (4 * (6 * (s 8818).toInt.toNat + a) + q)).toInt ∧ (A 98 (4 * (6 * (s 8818).toInt.toNat + a) + q)).toInt ≤ 9) (kk : ∀ (h' : mm_H) (s' : Nat → Int32) (r : Int32), bm_P nw_T E h0 h' s' A L → (∀ j, j ≠ 8863 → j ≠ 8864 → s' j = s j) → kd_Pbt (A 97 (s 8818).toInt.toNat).toInt.toNat (fun a q => (A 98 (4 * (6 * (s 8818).toInt.toNat + a) + q)).toInt) b r → bp_G E PO NN (mm_back (some (.int r)) gs h')) : bp_G E PO NN ((9, 0, [(0, .ref (E.1 + 88)), (1, .int b)], [], 0, 0) :: gs, h, none) := by
  refine bp_ld (pc' := 1) bu_9_0 rfl rfl (fun _ _ _ => rfl) rfl rfl ?_
  refine bn_cvF (pc' := 4) (st := []) (args := []) bu_9_1 rfl rfl rfl (by decide) hP nw_o88 (by decide) rfl (Nat.le_of_ble_eq_true rfl) (Nat.le_of_ble_eq_true rfl) ?_
  refine dm_33 hP hm hv hf (fun h387 s388 hP389 a390 q391 => ?_)
  obtain ⟨w392, w393, w394, w395⟩ := dr_Q_s q391 (dr_L_ne (by omega))
  have z18 : s388 8818 = s 8818 := a390 8818 (by decide) (by decide)
  have hw9 : w392 ∈ dr_L (A 97 (s 8818).toInt.toNat).toInt.toNat 2401 := (dr_m_in _ _ _ w393).resolve_right (fun q => by cases q)
  have hb9 : 0 ≤ dr_k (fun a q => (A 98 (4 * (6 * (s 8818).toInt.toNat + a) + q)).toInt) w392 ∧ dr_k (fun a q => (A 98 (4 * (6 * (s 8818).toInt.toNat + a) + q)).toInt) w392 ≤ 9 * ((4 : Nat) : Int) := dr_kp_b (f := (fun a q => (A 98 (4 * (6 * (s 8818).toInt.toNat + a) + q)).toInt)) hf (List.mem_filter.mp hw9).2 4 (Nat.le_refl _)
  have hsz := dr_sz (m := (A 97 (s 8818).toInt.toNat).toInt.toNat) (by omega)
  show bp_G E PO NN ((9, 4, _, [], 0, 0) :: gs, h387, none)
  refine bp_c (pc' := 5) (n := 0) bu_9_4 rfl rfl (fun _ _ _ => rfl) (by decide) (fun c396 e397 => ?_)
  refine bp_st (pc' := 6) bu_9_5 rfl rfl (fun _ _ _ => rfl) rfl (by decide) (by decide) (fun lv398 F399 g400 => ?_)
  have g401 := F399 0 (.ref (E.1 + 88)) rfl (by decide) (Or.inl rfl)
  have g402 := F399 1 (.int b) rfl (by decide) (Or.inl rfl)
  refine bp_c (pc' := 7) (n := 0) bu_9_6 rfl rfl (fun _ _ _ => rfl) (by decide) (fun c403 e404 => ?_)
  refine bp_st (pc' := 8) bu_9_7 rfl rfl (fun _ _ _ => rfl) rfl (by decide) (by decide) (fun lv405 F406 g407 => ?_)
  have g408 := F406 0 (.ref (E.1 + 88)) g401 (by decide) (Or.inl rfl)
  have g409 := F406 1 (.int b) g402 (by decide) (Or.inl rfl)
  have g410 := F406 2 (.int c396) g400 (by decide) (Or.inl rfl)
  have hm9 : 0 ≤ (A 97 (s388 8818).toInt.toNat).toInt ∧ (A 97 (s388 8818).toInt.toNat).toInt ≤ 6 := by rw [z18]; exact hm
  have hv9 : 0 ≤ (s388 8818).toInt ∧ (s388 8818).toInt ≤ 1 := by rw [z18]; exact hv
  refine dm_9l (b := b) hP389 hm9 hv9 (by rw [z18]; exact hf) NN (fun lv411 o412 t413 t414 t415 g416 g417 g418 => ?_) _ _ _ _ (by rw [show (c403).toInt.toNat = 0 by omega]; show _ = (0 : Int); omega) (by omega) (by omega) g408 g409 g410 g407
  rw [z18] at t414
  refine bp_ld (pc' := 38) bu_9_37 rfl rfl (fun _ _ _ => rfl) g416 rfl ?_
  refine bn_gi (pc' := 41) (K := 8864) bu_9_38 rfl rfl (fun _ _ _ => rfl) hP389 nw_o88 nw_i88_64 rfl rfl ?_
  refine bp_ld (pc' := 42) bu_9_41 rfl rfl (fun _ _ _ => rfl) g416 rfl ?_
  refine bn_cvF (pc' := 45) (st := [.int (s388 8864)]) (args := []) bu_9_42 rfl rfl rfl (by decide) hP389 nw_o88 (by decide) rfl (Nat.le_of_ble_eq_true rfl) (Nat.le_of_ble_eq_true rfl) ?_
  refine dm_22 hP389 hm9 (fun r419 e420 => ?_)
  rw [z18] at e420
  have hmu := dm_mul (x := (s388 8864)) (y := r419) (by omega) (by omega)
  show bp_G E PO NN ((9, 45, lv411, [.int r419, .int (s388 8864)], 0, 0) :: gs, h387, none)
  refine bp_x (pc' := 46) (v := (s388 8864) * r419) bu_9_45 rfl rfl (fun _ _ _ => rfl) rfl ?_
  refine bp_ld (pc' := 47) bu_9_46 rfl rfl (fun _ _ _ => rfl) g418 rfl ?_
  refine bp_sub (pc' := 48) bu_9_47 rfl (by omega) (by omega) (fun v421 e422 => ?_)
  refine bp_ld (pc' := 49) bu_9_48 rfl rfl (fun _ _ _ => rfl) g416 rfl ?_
  refine bn_cvF (pc' := 52) (st := [.int v421]) (args := []) bu_9_49 rfl rfl rfl (by decide) hP389 nw_o88 (by decide) rfl (Nat.le_of_ble_eq_true rfl) (Nat.le_of_ble_eq_true rfl) ?_
  refine dm_22 hP389 hm9 (fun r423 e424 => ?_)
  rw [z18] at e424
  show bp_G E PO NN ((9, 52, lv411, [.int r423, .int v421], 0, 0) :: gs, h387, none)
  refine bp_ld (pc' := 53) bu_9_52 rfl rfl (fun _ _ _ => rfl) g417 rfl ?_
  refine bp_csF (pc' := 56) (st := []) (args := [.int b, .int r423, .int v421]) bu_9_53 rfl rfl (by decide) rfl (Nat.le_of_ble_eq_true rfl) (Nat.le_of_ble_eq_true rfl) ?_
  refine kd_59 (u := v421) (l := r423) (b := b) (by omega) (by omega) (fun r425 d426 e427 e428 e429 => ?_)
  show bp_G E PO NN ((9, 56, lv411, [.int r425], 0, 0) :: gs, h387, none)
  refine bp_ri bu_9_56 ?_
  refine kk _ _ _ hP389 a390 ⟨w392, v421, r423, d426, w393, ?_, e424, e427, e428, e429⟩
  have y1 := hmu.1
  rw [w395, e420] at y1
  omega
end DM
