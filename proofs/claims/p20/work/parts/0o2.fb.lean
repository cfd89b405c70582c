/-! PARTIAL: what the tape gets and gives back, byte by byte (wip/p5/mkf1.py) -/
def bf_T : bm_T := ([(0, 8)], [(0, 0, 1)], [(0, 1), (0, 2)], [], [(1, 1, 2000)], [])
theorem bf_o0 : (0, 8) ∈ bf_T.1 := by decide
theorem bf_r0_0 : (0, 0, 1) ∈ bf_T.2.1 := by decide
theorem bf_i0_1 : (0, 1) ∈ bf_T.2.2.1 := by decide
theorem bf_i0_2 : (0, 2) ∈ bf_T.2.2.1 := by decide
theorem bf_a1 : (1, 1, 2000) ∈ bf_T.2.2.2.2.1 := by decide
theorem bf_W : bm_W bf_T := by unfold bm_W; decide
def bg_T : bm_T := ([(88, 9)], [(88, 1, 89)], [(88, 2)], [], [(89, 1, 2000)], [])
theorem bg_o88 : (88, 9) ∈ bg_T.1 := by decide
theorem bg_r88_1 : (88, 1, 89) ∈ bg_T.2.1 := by decide
theorem bg_i88_2 : (88, 2) ∈ bg_T.2.2.1 := by decide
theorem bg_a89 : (89, 1, 2000) ∈ bg_T.2.2.2.2.1 := by decide
theorem bg_W : bm_W bg_T := by unfold bm_W; decide
/-- the i-th byte of an int, the highest first -/
def fb_b (w : Int32) (i : Nat) : Int32 := (w >>> ((if i = 0 then 24 else if i = 1 then 16 else if i = 2 then 8 else 0 : Int32) &&& 31)).toInt8.toInt32
theorem fb_u (w : Int32) (k : Nat) (hk : k ≤ 24) : ((w.toBitVec >>> k).signExtend 8) = ((w.toBitVec.sshiftRight k).signExtend 8) := by
  apply BitVec.eq_of_getLsbD_eq
  intro i hi
  have h1 : k + i < 32 := by omega
  have h2 : ¬ 32 ≤ i := by omega
  have h3 : i < 32 := by omega
  rw [BitVec.getLsbD_signExtend, BitVec.getLsbD_signExtend, BitVec.getLsbD_ushiftRight, BitVec.getLsbD_sshiftRight]
  simp [h1, h2, h3]
theorem fb_24 (w : Int32) : ((w.toUInt32 >>> ((24 : Int32).toUInt32 &&& Int32.toUInt32 31)).toInt32).toInt8 = (w >>> ((24 : Int32) &&& 31)).toInt8 := by
  have e1 : ((w.toUInt32 >>> ((24 : Int32).toUInt32 &&& Int32.toUInt32 31)).toInt32).toBitVec = w.toBitVec >>> 24 := rfl
  have e2 : (w >>> ((24 : Int32) &&& 31)).toBitVec = w.toBitVec.sshiftRight 24 := rfl
  apply Int8.toBitVec_inj.mp
  show (((w.toUInt32 >>> ((24 : Int32).toUInt32 &&& Int32.toUInt32 31)).toInt32).toBitVec).signExtend 8 = ((w >>> ((24 : Int32) &&& 31)).toBitVec).signExtend 8
  rw [e1, e2]
  exact fb_u w 24 (by decide)
theorem fb_16 (w : Int32) : ((w.toUInt32 >>> ((16 : Int32).toUInt32 &&& Int32.toUInt32 31)).toInt32).toInt8 = (w >>> ((16 : Int32) &&& 31)).toInt8 := by
  have e1 : ((w.toUInt32 >>> ((16 : Int32).toUInt32 &&& Int32.toUInt32 31)).toInt32).toBitVec = w.toBitVec >>> 16 := rfl
  have e2 : (w >>> ((16 : Int32) &&& 31)).toBitVec = w.toBitVec.sshiftRight 16 := rfl
  apply Int8.toBitVec_inj.mp
  show (((w.toUInt32 >>> ((16 : Int32).toUInt32 &&& Int32.toUInt32 31)).toInt32).toBitVec).signExtend 8 = ((w >>> ((16 : Int32) &&& 31)).toBitVec).signExtend 8
  rw [e1, e2]
  exact fb_u w 16 (by decide)
theorem fb_8 (w : Int32) : ((w.toUInt32 >>> ((8 : Int32).toUInt32 &&& Int32.toUInt32 31)).toInt32).toInt8 = (w >>> ((8 : Int32) &&& 31)).toInt8 := by
  have e1 : ((w.toUInt32 >>> ((8 : Int32).toUInt32 &&& Int32.toUInt32 31)).toInt32).toBitVec = w.toBitVec >>> 8 := rfl
  have e2 : (w >>> ((8 : Int32) &&& 31)).toBitVec = w.toBitVec.sshiftRight 8 := rfl
  apply Int8.toBitVec_inj.mp
  show (((w.toUInt32 >>> ((8 : Int32).toUInt32 &&& Int32.toUInt32 31)).toInt32).toBitVec).signExtend 8 = ((w >>> ((8 : Int32) &&& 31)).toBitVec).signExtend 8
  rw [e1, e2]
  exact fb_u w 8 (by decide)
theorem fb_0 (w : Int32) : ((w.toUInt32 >>> ((0 : Int32).toUInt32 &&& Int32.toUInt32 31)).toInt32).toInt8 = (w >>> ((0 : Int32) &&& 31)).toInt8 := by
  have e1 : ((w.toUInt32 >>> ((0 : Int32).toUInt32 &&& Int32.toUInt32 31)).toInt32).toBitVec = w.toBitVec >>> 0 := rfl
  have e2 : (w >>> ((0 : Int32) &&& 31)).toBitVec = w.toBitVec.sshiftRight 0 := rfl
  apply Int8.toBitVec_inj.mp
  show (((w.toUInt32 >>> ((0 : Int32).toUInt32 &&& Int32.toUInt32 31)).toInt32).toBitVec).signExtend 8 = ((w >>> ((0 : Int32) &&& 31)).toBitVec).signExtend 8
  rw [e1, e2]
  exact fb_u w 0 (by decide)
theorem fb_nar (x : Int8) : mm_nar 1 x.toInt32 = x.toInt32 := by
  show (x.toInt32).toInt8.toInt32 = x.toInt32
  rw [Int8.toInt8_toInt32]
theorem fb_k {c : Int32} {k : Int} (d : Int32) (h : c.toInt = k) (hd : d.toInt = k) : c = d := Int32.toInt_inj.mp (h.trans hd.symm)
theorem fb_m0 {w c : Int32} (h : c.toInt = 24) : mm_nar 1 ((w >>> (c &&& 31)).toInt8.toInt32) = fb_b w 0 := by
  rw [fb_nar, fb_k 24 h (by decide)]
  rfl
theorem fb_c0 {w c : Int32} (h : c.toInt = 24) : mm_nar 1 ((w.toUInt32 >>> (c.toUInt32 &&& Int32.toUInt32 31)).toInt32.toInt8.toInt32) = fb_b w 0 := by
  rw [fb_nar, fb_k 24 h (by decide), fb_24]
  rfl
theorem fb_m1 {w c : Int32} (h : c.toInt = 16) : mm_nar 1 ((w >>> (c &&& 31)).toInt8.toInt32) = fb_b w 1 := by
  rw [fb_nar, fb_k 16 h (by decide)]
  rfl
theorem fb_c1 {w c : Int32} (h : c.toInt = 16) : mm_nar 1 ((w.toUInt32 >>> (c.toUInt32 &&& Int32.toUInt32 31)).toInt32.toInt8.toInt32) = fb_b w 1 := by
  rw [fb_nar, fb_k 16 h (by decide), fb_16]
  rfl
theorem fb_m2 {w c : Int32} (h : c.toInt = 8) : mm_nar 1 ((w >>> (c &&& 31)).toInt8.toInt32) = fb_b w 2 := by
  rw [fb_nar, fb_k 8 h (by decide)]
  rfl
theorem fb_c2 {w c : Int32} (h : c.toInt = 8) : mm_nar 1 ((w.toUInt32 >>> (c.toUInt32 &&& Int32.toUInt32 31)).toInt32.toInt8.toInt32) = fb_b w 2 := by
  rw [fb_nar, fb_k 8 h (by decide), fb_8]
  rfl
theorem fb_m3 {w c : Int32} (h : c.toInt = 0) : mm_nar 1 ((w >>> (c &&& 31)).toInt8.toInt32) = fb_b w 3 := by
  rw [fb_nar, fb_k 0 h (by decide)]
  rfl
theorem fb_c3 {w c : Int32} (h : c.toInt = 0) : mm_nar 1 ((w.toUInt32 >>> (c.toUInt32 &&& Int32.toUInt32 31)).toInt32.toInt8.toInt32) = fb_b w 3 := by
  rw [fb_nar, fb_k 0 h (by decide), fb_0]
  rfl
/-- four bytes behind the first n -/
def fb_P (n : Nat) (w : Int32) (B B' : Nat → Int32) : Prop := (∀ j, j < n → B' j = B j) ∧ ∀ i, i < 4 → B' (n + i) = fb_b w i
theorem fb_4 {n : Nat} {w : Int32} {A : Nat → Nat → Int32} {c i0 i1 i2 i3 : Nat} {v0 v1 v2 v3 : Int32} (h0 : i0 = n) (h1 : i1 = n + 1) (h2 : i2 = n + 2) (h3 : i3 = n + 3) (e0 : v0 = fb_b w 0) (e1 : v1 = fb_b w 1) (e2 : v2 = fb_b w 2) (e3 : v3 = fb_b w 3) : fb_P n w (A c) (bh_up (bh_up (bh_up (bh_up A c i0 v0) c i1 v1) c i2 v2) c i3 v3 c) := by
  subst h0 h1 h2 h3 e0 e1 e2 e3
  refine ⟨fun j hj => ?_, fun i hi => ?_⟩
  · rw [bh_up_j (by omega), bh_up_j (by omega), bh_up_j (by omega), bh_up_j (by omega)]
  · rcases (show i = 0 ∨ i = 1 ∨ i = 2 ∨ i = 3 by omega) with e | e | e | e <;> subst e
    · rw [bh_up_j (by omega), bh_up_j (by omega), bh_up_j (by omega)]
      exact bh_up_i
    · rw [bh_up_j (by omega), bh_up_j (by omega)]
      exact bh_up_i
    · rw [bh_up_j (by omega)]
      exact bh_up_i
    · exact bh_up_i
/-- five ints -/
def fb_5 (n : Nat) (w1 w2 w3 w4 w5 : Int32) (B B' : Nat → Int32) : Prop := ∃ B1 B2 B3 B4, fb_P n w1 B B1 ∧ fb_P (n + 4) w2 B1 B2 ∧ fb_P (n + 8) w3 B2 B3 ∧ fb_P (n + 12) w4 B3 B4 ∧ fb_P (n + 16) w5 B4 B'
/-- the two tapes: bytes of the class in their range, the reference's the same -/
def fb_R (x y : Nat) (B C : Nat → Int32) : Prop := ∀ j, j < x → (-128 ≤ (B j).toInt ∧ (B j).toInt ≤ 127) ∧ (j < y → (C j).toInt % 256 = (B j).toInt % 256)
theorem fb_R1 {n : Nat} {w : Int32} {B B' C C' : Nat → Int32} (h : fb_R n n B C) (p : fb_P n w B B') (q : fb_P n w C C') : fb_R (n + 4) (n + 4) B' C' := by
  intro j hj
  by_cases c : j < n
  · rw [p.1 j c, q.1 j c]
    exact ⟨(h j c).1, fun _ => (h j c).2 c⟩
  · have e : j = n + (j - n) := by omega
    rw [e, p.2 (j - n) (by omega), q.2 (j - n) (by omega)]
    refine ⟨?_, fun _ => rfl⟩
    unfold fb_b
    rw [Int8.toInt_toInt32]
    exact ⟨Int8.le_toInt _, Int.le_of_lt_add_one (Int8.toInt_lt _)⟩
theorem fb_R5 {n : Nat} {w1 w2 w3 w4 w5 : Int32} {B B' C C' : Nat → Int32} (h : fb_R n n B C) (p : fb_5 n w1 w2 w3 w4 w5 B B') (q : fb_5 n w1 w2 w3 w4 w5 C C') : fb_R (n + 20) (n + 20) B' C' := by
  obtain ⟨P1, P2, P3, P4, p1, p2, p3, p4, p5⟩ := p
  obtain ⟨Q1, Q2, Q3, Q4, q1, q2, q3, q4, q5⟩ := q
  exact fb_R1 (fb_R1 (fb_R1 (fb_R1 (fb_R1 h p1 q1) p2 q2) p3 q3) p4 q4) p5 q5
theorem bu_5_0 : mm_at mt_P 5 0 = some ((0, 1, .iload_n 1, 0, 0, 0, 0), 2, 1, 1, 9, 1, 0, 0) := rfl
theorem bu_5_1 : mm_at mt_P 5 1 = some ((1, 3, .ifCond .lt 11, 0, 0, 0, 0), 2, 1, 1, 9, 1, 0, 0) := rfl
theorem bu_5_4 : mm_at mt_P 5 4 = some ((4, 1, .iload_n 1, 0, 0, 0, 0), 2, 1, 1, 9, 1, 0, 0) := rfl
theorem bu_5_5 : mm_at mt_P 5 5 = some ((5, 1, .aload_n 0, 0, 0, 0, 0), 2, 1, 1, 9, 1, 0, 0) := rfl
theorem bu_5_6 : mm_at mt_P 5 6 = some ((6, 3, .getfield 166, 9, 2, 0, 1219), 2, 1, 1, 9, 1, 0, 0) := rfl
theorem bu_5_9 : mm_at mt_P 5 9 = some ((9, 3, .if_icmp .le 5, 0, 0, 0, 0), 2, 1, 1, 9, 1, 0, 0) := rfl
theorem bu_5_12 : mm_at mt_P 5 12 = some ((12, 1, .iconst (-1), 0, 0, 0, 0), 2, 1, 1, 9, 1, 0, 0) := rfl
theorem bu_5_13 : mm_at mt_P 5 13 = some ((13, 1, .ireturn, 0, 0, 0, 0), 2, 1, 1, 9, 1, 0, 0) := rfl
theorem bu_5_14 : mm_at mt_P 5 14 = some ((14, 1, .aload_n 0, 0, 0, 0, 0), 2, 1, 1, 9, 1, 0, 0) := rfl
theorem bu_5_15 : mm_at mt_P 5 15 = some ((15, 1, .dup, 0, 0, 0, 0), 2, 1, 1, 9, 1, 0, 0) := rfl
theorem bu_5_16 : mm_at mt_P 5 16 = some ((16, 3, .getfield 166, 9, 2, 0, 1219), 2, 1, 1, 9, 1, 0, 0) := rfl
theorem bu_5_19 : mm_at mt_P 5 19 = some ((19, 1, .iload_n 1, 0, 0, 0, 0), 2, 1, 1, 9, 1, 0, 0) := rfl
theorem bu_5_20 : mm_at mt_P 5 20 = some ((20, 1, .isub, 0, 0, 0, 0), 2, 1, 1, 9, 1, 0, 0) := rfl
theorem bu_5_21 : mm_at mt_P 5 21 = some ((21, 3, .putfield 166, 9, 2, 0, 1219), 2, 1, 1, 9, 1, 0, 0) := rfl
theorem bu_5_24 : mm_at mt_P 5 24 = some ((24, 1, .aload_n 0, 0, 0, 0, 0), 2, 1, 1, 9, 1, 0, 0) := rfl
theorem bu_5_25 : mm_at mt_P 5 25 = some ((25, 3, .getfield 166, 9, 2, 0, 1219), 2, 1, 1, 9, 1, 0, 0) := rfl
theorem bu_5_28 : mm_at mt_P 5 28 = some ((28, 1, .ireturn, 0, 0, 0, 0), 2, 1, 1, 9, 1, 0, 0) := rfl
theorem bu_28_0 : mm_at mt_P 28 0 = some ((0, 1, .aload_n 0, 0, 0, 0, 0), 6, 5, 1, 9, 1, 0, 0) := rfl
theorem bu_28_1 : mm_at mt_P 28 1 = some ((1, 3, .getfield 166, 9, 2, 0, 1219), 6, 5, 1, 9, 1, 0, 0) := rfl
theorem bu_28_4 : mm_at mt_P 28 4 = some ((4, 2, .bipush 20, 0, 0, 0, 0), 6, 5, 1, 9, 1, 0, 0) := rfl
theorem bu_28_6 : mm_at mt_P 28 6 = some ((6, 1, .iadd, 0, 0, 0, 0), 6, 5, 1, 9, 1, 0, 0) := rfl
theorem bu_28_7 : mm_at mt_P 28 7 = some ((7, 3, .sipush 2000, 0, 0, 0, 0), 6, 5, 1, 9, 1, 0, 0) := rfl
theorem bu_28_10 : mm_at mt_P 28 10 = some ((10, 3, .if_icmp .le 5, 0, 0, 0, 0), 6, 5, 1, 9, 1, 0, 0) := rfl
theorem bu_28_13 : mm_at mt_P 28 13 = some ((13, 1, .iconst (-1), 0, 0, 0, 0), 6, 5, 1, 9, 1, 0, 0) := rfl
theorem bu_28_14 : mm_at mt_P 28 14 = some ((14, 1, .ireturn, 0, 0, 0, 0), 6, 5, 1, 9, 1, 0, 0) := rfl
theorem bu_28_15 : mm_at mt_P 28 15 = some ((15, 1, .aload_n 0, 0, 0, 0, 0), 6, 5, 1, 9, 1, 0, 0) := rfl
theorem bu_28_16 : mm_at mt_P 28 16 = some ((16, 1, .iload_n 1, 0, 0, 0, 0), 6, 5, 1, 9, 1, 0, 0) := rfl
theorem bu_28_17 : mm_at mt_P 28 17 = some ((17, 3, .invokevirtual 169, 76, 0, 0, 1441), 6, 5, 1, 9, 1, 0, 0) := rfl
theorem bu_28_20 : mm_at mt_P 28 20 = some ((20, 1, .aload_n 0, 0, 0, 0, 0), 6, 5, 1, 9, 1, 0, 0) := rfl
theorem bu_28_21 : mm_at mt_P 28 21 = some ((21, 1, .iload_n 2, 0, 0, 0, 0), 6, 5, 1, 9, 1, 0, 0) := rfl
theorem bu_28_22 : mm_at mt_P 28 22 = some ((22, 3, .invokevirtual 169, 76, 0, 0, 1441), 6, 5, 1, 9, 1, 0, 0) := rfl
theorem bu_28_25 : mm_at mt_P 28 25 = some ((25, 1, .aload_n 0, 0, 0, 0, 0), 6, 5, 1, 9, 1, 0, 0) := rfl
theorem bu_28_26 : mm_at mt_P 28 26 = some ((26, 1, .iload_n 3, 0, 0, 0, 0), 6, 5, 1, 9, 1, 0, 0) := rfl
theorem bu_28_27 : mm_at mt_P 28 27 = some ((27, 3, .invokevirtual 169, 76, 0, 0, 1441), 6, 5, 1, 9, 1, 0, 0) := rfl
theorem bu_28_30 : mm_at mt_P 28 30 = some ((30, 1, .aload_n 0, 0, 0, 0, 0), 6, 5, 1, 9, 1, 0, 0) := rfl
theorem bu_28_31 : mm_at mt_P 28 31 = some ((31, 2, .iload 4, 0, 0, 0, 0), 6, 5, 1, 9, 1, 0, 0) := rfl
theorem bu_28_33 : mm_at mt_P 28 33 = some ((33, 3, .invokevirtual 169, 76, 0, 0, 1441), 6, 5, 1, 9, 1, 0, 0) := rfl
theorem bu_28_36 : mm_at mt_P 28 36 = some ((36, 1, .aload_n 0, 0, 0, 0, 0), 6, 5, 1, 9, 1, 0, 0) := rfl
theorem bu_28_37 : mm_at mt_P 28 37 = some ((37, 2, .iload 5, 0, 0, 0, 0), 6, 5, 1, 9, 1, 0, 0) := rfl
theorem bu_28_39 : mm_at mt_P 28 39 = some ((39, 3, .invokevirtual 169, 76, 0, 0, 1441), 6, 5, 1, 9, 1, 0, 0) := rfl
theorem bu_28_42 : mm_at mt_P 28 42 = some ((42, 1, .aload_n 0, 0, 0, 0, 0), 6, 5, 1, 9, 1, 0, 0) := rfl
theorem bu_28_43 : mm_at mt_P 28 43 = some ((43, 3, .getfield 166, 9, 2, 0, 1219), 6, 5, 1, 9, 1, 0, 0) := rfl
theorem bu_28_46 : mm_at mt_P 28 46 = some ((46, 1, .ireturn, 0, 0, 0, 0), 6, 5, 1, 9, 1, 0, 0) := rfl
theorem bu_76_0 : mm_at mt_P 76 0 = some ((0, 2, .bipush 24, 0, 0, 0, 0), 3, 1, 1, 9, 0, 0, 0) := rfl
theorem bu_76_2 : mm_at mt_P 76 2 = some ((2, 1, .istore_n 2, 0, 0, 0, 0), 3, 1, 1, 9, 0, 0, 0) := rfl
theorem bu_76_3 : mm_at mt_P 76 3 = some ((3, 1, .iload_n 2, 0, 0, 0, 0), 3, 1, 1, 9, 0, 0, 0) := rfl
theorem bu_76_4 : mm_at mt_P 76 4 = some ((4, 3, .ifCond .lt 32, 0, 0, 0, 0), 3, 1, 1, 9, 0, 0, 0) := rfl
theorem bu_76_7 : mm_at mt_P 76 7 = some ((7, 1, .aload_n 0, 0, 0, 0, 0), 3, 1, 1, 9, 0, 0, 0) := rfl
theorem bu_76_8 : mm_at mt_P 76 8 = some ((8, 3, .getfield 13, 9, 1, 0, 1218), 3, 1, 1, 9, 0, 0, 0) := rfl
theorem bu_76_11 : mm_at mt_P 76 11 = some ((11, 1, .aload_n 0, 0, 0, 0, 0), 3, 1, 1, 9, 0, 0, 0) := rfl
theorem bu_76_12 : mm_at mt_P 76 12 = some ((12, 3, .getfield 166, 9, 2, 0, 1219), 3, 1, 1, 9, 0, 0, 0) := rfl
theorem bu_76_15 : mm_at mt_P 76 15 = some ((15, 1, .iload_n 1, 0, 0, 0, 0), 3, 1, 1, 9, 0, 0, 0) := rfl
theorem bu_76_16 : mm_at mt_P 76 16 = some ((16, 1, .iload_n 2, 0, 0, 0, 0), 3, 1, 1, 9, 0, 0, 0) := rfl
theorem bu_76_17 : mm_at mt_P 76 17 = some ((17, 1, .ishr, 0, 0, 0, 0), 3, 1, 1, 9, 0, 0, 0) := rfl
theorem bu_76_18 : mm_at mt_P 76 18 = some ((18, 1, .i2b, 0, 0, 0, 0), 3, 1, 1, 9, 0, 0, 0) := rfl
theorem bu_76_19 : mm_at mt_P 76 19 = some ((19, 1, .bastore, 0, 0, 0, 0), 3, 1, 1, 9, 0, 0, 0) := rfl
theorem bu_76_20 : mm_at mt_P 76 20 = some ((20, 1, .aload_n 0, 0, 0, 0, 0), 3, 1, 1, 9, 0, 0, 0) := rfl
theorem bu_76_21 : mm_at mt_P 76 21 = some ((21, 1, .dup, 0, 0, 0, 0), 3, 1, 1, 9, 0, 0, 0) := rfl
theorem bu_76_22 : mm_at mt_P 76 22 = some ((22, 3, .getfield 166, 9, 2, 0, 1219), 3, 1, 1, 9, 0, 0, 0) := rfl
theorem bu_76_25 : mm_at mt_P 76 25 = some ((25, 1, .iconst 1, 0, 0, 0, 0), 3, 1, 1, 9, 0, 0, 0) := rfl
theorem bu_76_26 : mm_at mt_P 76 26 = some ((26, 1, .iadd, 0, 0, 0, 0), 3, 1, 1, 9, 0, 0, 0) := rfl
theorem bu_76_27 : mm_at mt_P 76 27 = some ((27, 3, .putfield 166, 9, 2, 0, 1219), 3, 1, 1, 9, 0, 0, 0) := rfl
theorem bu_76_30 : mm_at mt_P 76 30 = some ((30, 3, .iinc 2 (-8), 0, 0, 0, 0), 3, 1, 1, 9, 0, 0, 0) := rfl
theorem bu_76_33 : mm_at mt_P 76 33 = some ((33, 3, .goto (-30), 0, 0, 0, 0), 3, 1, 1, 9, 0, 0, 0) := rfl
theorem bu_76_36 : mm_at mt_P 76 36 = some ((36, 1, .return_, 0, 0, 0, 0), 3, 1, 1, 9, 0, 0, 0) := rfl
theorem bu_220_0 : mm_at mt_P 220 0 = some ((0, 2, .bipush 24, 0, 0, 0, 0), 3, 1, 1, 8, 0, 0, 0) := rfl
theorem bu_220_2 : mm_at mt_P 220 2 = some ((2, 1, .istore_n 2, 0, 0, 0, 0), 3, 1, 1, 8, 0, 0, 0) := rfl
theorem bu_220_3 : mm_at mt_P 220 3 = some ((3, 1, .iload_n 2, 0, 0, 0, 0), 3, 1, 1, 8, 0, 0, 0) := rfl
theorem bu_220_4 : mm_at mt_P 220 4 = some ((4, 3, .ifCond .lt 42, 0, 0, 0, 0), 3, 1, 1, 8, 0, 0, 0) := rfl
theorem bu_220_7 : mm_at mt_P 220 7 = some ((7, 1, .aload_n 0, 0, 0, 0, 0), 3, 1, 1, 8, 0, 0, 0) := rfl
theorem bu_220_8 : mm_at mt_P 220 8 = some ((8, 3, .getfield 13, 8, 1, 0, 433), 3, 1, 1, 8, 0, 0, 0) := rfl
theorem bu_220_11 : mm_at mt_P 220 11 = some ((11, 3, .sipush 2000, 0, 0, 0, 0), 3, 1, 1, 8, 0, 0, 0) := rfl
theorem bu_220_14 : mm_at mt_P 220 14 = some ((14, 3, .if_icmp .ge 32, 0, 0, 0, 0), 3, 1, 1, 8, 0, 0, 0) := rfl
theorem bu_220_17 : mm_at mt_P 220 17 = some ((17, 1, .aload_n 0, 0, 0, 0, 0), 3, 1, 1, 8, 0, 0, 0) := rfl
theorem bu_220_18 : mm_at mt_P 220 18 = some ((18, 3, .getfield 9, 8, 0, 0, 432), 3, 1, 1, 8, 0, 0, 0) := rfl
theorem bu_220_21 : mm_at mt_P 220 21 = some ((21, 1, .aload_n 0, 0, 0, 0, 0), 3, 1, 1, 8, 0, 0, 0) := rfl
theorem bu_220_22 : mm_at mt_P 220 22 = some ((22, 3, .getfield 13, 8, 1, 0, 433), 3, 1, 1, 8, 0, 0, 0) := rfl
theorem bu_220_25 : mm_at mt_P 220 25 = some ((25, 1, .iload_n 1, 0, 0, 0, 0), 3, 1, 1, 8, 0, 0, 0) := rfl
theorem bu_220_26 : mm_at mt_P 220 26 = some ((26, 1, .iload_n 2, 0, 0, 0, 0), 3, 1, 1, 8, 0, 0, 0) := rfl
theorem bu_220_27 : mm_at mt_P 220 27 = some ((27, 1, .iushr, 0, 0, 0, 0), 3, 1, 1, 8, 0, 0, 0) := rfl
theorem bu_220_28 : mm_at mt_P 220 28 = some ((28, 1, .i2b, 0, 0, 0, 0), 3, 1, 1, 8, 0, 0, 0) := rfl
theorem bu_220_29 : mm_at mt_P 220 29 = some ((29, 1, .bastore, 0, 0, 0, 0), 3, 1, 1, 8, 0, 0, 0) := rfl
theorem bu_220_30 : mm_at mt_P 220 30 = some ((30, 1, .aload_n 0, 0, 0, 0, 0), 3, 1, 1, 8, 0, 0, 0) := rfl
theorem bu_220_31 : mm_at mt_P 220 31 = some ((31, 1, .dup, 0, 0, 0, 0), 3, 1, 1, 8, 0, 0, 0) := rfl
theorem bu_220_32 : mm_at mt_P 220 32 = some ((32, 3, .getfield 13, 8, 1, 0, 433), 3, 1, 1, 8, 0, 0, 0) := rfl
theorem bu_220_35 : mm_at mt_P 220 35 = some ((35, 1, .iconst 1, 0, 0, 0, 0), 3, 1, 1, 8, 0, 0, 0) := rfl
theorem bu_220_36 : mm_at mt_P 220 36 = some ((36, 1, .iadd, 0, 0, 0, 0), 3, 1, 1, 8, 0, 0, 0) := rfl
theorem bu_220_37 : mm_at mt_P 220 37 = some ((37, 3, .putfield 13, 8, 1, 0, 433), 3, 1, 1, 8, 0, 0, 0) := rfl
theorem bu_220_40 : mm_at mt_P 220 40 = some ((40, 3, .iinc 2 (-8), 0, 0, 0, 0), 3, 1, 1, 8, 0, 0, 0) := rfl
theorem bu_220_43 : mm_at mt_P 220 43 = some ((43, 3, .goto (-40), 0, 0, 0, 0), 3, 1, 1, 8, 0, 0, 0) := rfl
theorem bu_220_46 : mm_at mt_P 220 46 = some ((46, 1, .return_, 0, 0, 0, 0), 3, 1, 1, 8, 0, 0, 0) := rfl
theorem bu_221_0 : mm_at mt_P 221 0 = some ((0, 1, .iload_n 1, 0, 0, 0, 0), 2, 1, 1, 8, 1, 0, 0) := rfl
theorem bu_221_1 : mm_at mt_P 221 1 = some ((1, 3, .ifCond .lt 11, 0, 0, 0, 0), 2, 1, 1, 8, 1, 0, 0) := rfl
theorem bu_221_4 : mm_at mt_P 221 4 = some ((4, 1, .iload_n 1, 0, 0, 0, 0), 2, 1, 1, 8, 1, 0, 0) := rfl
theorem bu_221_5 : mm_at mt_P 221 5 = some ((5, 1, .aload_n 0, 0, 0, 0, 0), 2, 1, 1, 8, 1, 0, 0) := rfl
theorem bu_221_6 : mm_at mt_P 221 6 = some ((6, 3, .getfield 13, 8, 1, 0, 433), 2, 1, 1, 8, 1, 0, 0) := rfl
theorem bu_221_9 : mm_at mt_P 221 9 = some ((9, 3, .if_icmp .le 5, 0, 0, 0, 0), 2, 1, 1, 8, 1, 0, 0) := rfl
theorem bu_221_12 : mm_at mt_P 221 12 = some ((12, 1, .iconst (-1), 0, 0, 0, 0), 2, 1, 1, 8, 1, 0, 0) := rfl
theorem bu_221_13 : mm_at mt_P 221 13 = some ((13, 1, .ireturn, 0, 0, 0, 0), 2, 1, 1, 8, 1, 0, 0) := rfl
theorem bu_221_14 : mm_at mt_P 221 14 = some ((14, 1, .aload_n 0, 0, 0, 0, 0), 2, 1, 1, 8, 1, 0, 0) := rfl
theorem bu_221_15 : mm_at mt_P 221 15 = some ((15, 1, .dup, 0, 0, 0, 0), 2, 1, 1, 8, 1, 0, 0) := rfl
theorem bu_221_16 : mm_at mt_P 221 16 = some ((16, 3, .getfield 13, 8, 1, 0, 433), 2, 1, 1, 8, 1, 0, 0) := rfl
theorem bu_221_19 : mm_at mt_P 221 19 = some ((19, 1, .iload_n 1, 0, 0, 0, 0), 2, 1, 1, 8, 1, 0, 0) := rfl
theorem bu_221_20 : mm_at mt_P 221 20 = some ((20, 1, .isub, 0, 0, 0, 0), 2, 1, 1, 8, 1, 0, 0) := rfl
theorem bu_221_21 : mm_at mt_P 221 21 = some ((21, 3, .putfield 13, 8, 1, 0, 433), 2, 1, 1, 8, 1, 0, 0) := rfl
theorem bu_221_24 : mm_at mt_P 221 24 = some ((24, 1, .aload_n 0, 0, 0, 0, 0), 2, 1, 1, 8, 1, 0, 0) := rfl
theorem bu_221_25 : mm_at mt_P 221 25 = some ((25, 3, .getfield 13, 8, 1, 0, 433), 2, 1, 1, 8, 1, 0, 0) := rfl
theorem bu_221_28 : mm_at mt_P 221 28 = some ((28, 1, .ireturn, 0, 0, 0, 0), 2, 1, 1, 8, 1, 0, 0) := rfl
theorem bu_230_0 : mm_at mt_P 230 0 = some ((0, 1, .aload_n 0, 0, 0, 0, 0), 6, 5, 1, 8, 1, 0, 0) := rfl
theorem bu_230_1 : mm_at mt_P 230 1 = some ((1, 3, .getfield 13, 8, 1, 0, 433), 6, 5, 1, 8, 1, 0, 0) := rfl
theorem bu_230_4 : mm_at mt_P 230 4 = some ((4, 2, .bipush 20, 0, 0, 0, 0), 6, 5, 1, 8, 1, 0, 0) := rfl
theorem bu_230_6 : mm_at mt_P 230 6 = some ((6, 1, .iadd, 0, 0, 0, 0), 6, 5, 1, 8, 1, 0, 0) := rfl
theorem bu_230_7 : mm_at mt_P 230 7 = some ((7, 3, .sipush 2000, 0, 0, 0, 0), 6, 5, 1, 8, 1, 0, 0) := rfl
theorem bu_230_10 : mm_at mt_P 230 10 = some ((10, 3, .if_icmp .le 5, 0, 0, 0, 0), 6, 5, 1, 8, 1, 0, 0) := rfl
theorem bu_230_13 : mm_at mt_P 230 13 = some ((13, 1, .iconst (-1), 0, 0, 0, 0), 6, 5, 1, 8, 1, 0, 0) := rfl
theorem bu_230_14 : mm_at mt_P 230 14 = some ((14, 1, .ireturn, 0, 0, 0, 0), 6, 5, 1, 8, 1, 0, 0) := rfl
theorem bu_230_15 : mm_at mt_P 230 15 = some ((15, 1, .aload_n 0, 0, 0, 0, 0), 6, 5, 1, 8, 1, 0, 0) := rfl
theorem bu_230_16 : mm_at mt_P 230 16 = some ((16, 1, .iload_n 1, 0, 0, 0, 0), 6, 5, 1, 8, 1, 0, 0) := rfl
theorem bu_230_17 : mm_at mt_P 230 17 = some ((17, 3, .invokevirtual 79, 220, 0, 0, 470), 6, 5, 1, 8, 1, 0, 0) := rfl
theorem bu_230_20 : mm_at mt_P 230 20 = some ((20, 1, .aload_n 0, 0, 0, 0, 0), 6, 5, 1, 8, 1, 0, 0) := rfl
theorem bu_230_21 : mm_at mt_P 230 21 = some ((21, 1, .iload_n 2, 0, 0, 0, 0), 6, 5, 1, 8, 1, 0, 0) := rfl
theorem bu_230_22 : mm_at mt_P 230 22 = some ((22, 3, .invokevirtual 79, 220, 0, 0, 470), 6, 5, 1, 8, 1, 0, 0) := rfl
theorem bu_230_25 : mm_at mt_P 230 25 = some ((25, 1, .aload_n 0, 0, 0, 0, 0), 6, 5, 1, 8, 1, 0, 0) := rfl
theorem bu_230_26 : mm_at mt_P 230 26 = some ((26, 1, .iload_n 3, 0, 0, 0, 0), 6, 5, 1, 8, 1, 0, 0) := rfl
theorem bu_230_27 : mm_at mt_P 230 27 = some ((27, 3, .invokevirtual 79, 220, 0, 0, 470), 6, 5, 1, 8, 1, 0, 0) := rfl
theorem bu_230_30 : mm_at mt_P 230 30 = some ((30, 1, .aload_n 0, 0, 0, 0, 0), 6, 5, 1, 8, 1, 0, 0) := rfl
theorem bu_230_31 : mm_at mt_P 230 31 = some ((31, 2, .iload 4, 0, 0, 0, 0), 6, 5, 1, 8, 1, 0, 0) := rfl
theorem bu_230_33 : mm_at mt_P 230 33 = some ((33, 3, .invokevirtual 79, 220, 0, 0, 470), 6, 5, 1, 8, 1, 0, 0) := rfl
theorem bu_230_36 : mm_at mt_P 230 36 = some ((36, 1, .aload_n 0, 0, 0, 0, 0), 6, 5, 1, 8, 1, 0, 0) := rfl
theorem bu_230_37 : mm_at mt_P 230 37 = some ((37, 2, .iload 5, 0, 0, 0, 0), 6, 5, 1, 8, 1, 0, 0) := rfl
theorem bu_230_39 : mm_at mt_P 230 39 = some ((39, 3, .invokevirtual 79, 220, 0, 0, 470), 6, 5, 1, 8, 1, 0, 0) := rfl
theorem bu_230_42 : mm_at mt_P 230 42 = some ((42, 1, .aload_n 0, 0, 0, 0, 0), 6, 5, 1, 8, 1, 0, 0) := rfl
theorem bu_230_43 : mm_at mt_P 230 43 = some ((43, 3, .getfield 13, 8, 1, 0, 433), 6, 5, 1, 8, 1, 0, 0) := rfl
theorem bu_230_46 : mm_at mt_P 230 46 = some ((46, 1, .ireturn, 0, 0, 0, 0), 6, 5, 1, 8, 1, 0, 0) := rfl
section FBQ
variable {E : mm_E} {PO : mm_C → Prop} {NN : Nat} {h0 h : mm_H} {s : Nat → Int32} {A : Nat → Nat → Int32} {L : Nat → Nat → Int64} {gs : List mm_F} {n : Nat}
theorem bf_bk {w : Int32} (hP : bm_P bf_T E h0 h s A L) (kk : ∀ (h' : mm_H) (s' : Nat → Int32) (r : Int32), bm_P bf_T E h0 h' s' A L → bp_G E PO NN (mm_back (some (.int r)) gs h')) : bp_G E PO NN ((221, 0, [(0, .ref (E.1 + 0)), (1, .int w)], [], 0, 0) :: gs, h, none) := by
  refine bp_ld (pc' := 1) bu_221_0 rfl rfl (fun _ _ _ => rfl) rfl rfl ?_
  refine bp_i0 (pc' := 4) (pt := 12) bu_221_1 rfl rfl (fun k5547 => ?_) (fun k5547 => ?_)
  · replace k5547 : (w).toInt < 0 := k5547
    refine bp_c (pc' := 13) (n := -1) bu_221_12 rfl rfl (fun _ _ _ => rfl) (by decide) (fun c5548 e5549 => ?_)
    refine bp_ri bu_221_13 ?_
    exact kk _ _ _ hP
  · replace k5547 : ¬ ((w).toInt < 0) := k5547
    refine bp_ld (pc' := 5) bu_221_4 rfl rfl (fun _ _ _ => rfl) rfl rfl ?_
    refine bp_ld (pc' := 6) bu_221_5 rfl rfl (fun _ _ _ => rfl) rfl rfl ?_
    refine bn_gi (pc' := 9) (K := 1) bu_221_6 rfl rfl (fun _ _ _ => rfl) hP bf_o0 bf_i0_1 rfl rfl ?_
    refine bp_ic (pc' := 12) (pt := 14) bu_221_9 rfl rfl (fun k5550 => ?_) (fun k5550 => ?_)
    · replace k5550 : (w).toInt ≤ ((s 1)).toInt := k5550
      refine bp_ld (pc' := 15) bu_221_14 rfl rfl (fun _ _ _ => rfl) rfl rfl ?_
      refine bp_dup (pc' := 16) bu_221_15 rfl rfl ?_
      refine bn_gi (pc' := 19) (K := 1) bu_221_16 rfl rfl (fun _ _ _ => rfl) hP bf_o0 bf_i0_1 rfl rfl ?_
      refine bp_ld (pc' := 20) bu_221_19 rfl rfl (fun _ _ _ => rfl) rfl rfl ?_
      refine bp_subA (pc' := 21) bu_221_20 rfl (fun v5551 => ?_)
      refine bn_pf (pc' := 24) (K := 1) bu_221_21 rfl rfl (fun _ _ _ => rfl) hP bf_o0 bf_i0_1 rfl rfl (fun h5552 s5553 hP5554 e5555 f5556 => ?_)
      refine bp_ld (pc' := 25) bu_221_24 rfl rfl (fun _ _ _ => rfl) rfl rfl ?_
      refine bn_gi (pc' := 28) (K := 1) bu_221_25 rfl rfl (fun _ _ _ => rfl) hP5554 bf_o0 bf_i0_1 rfl e5555 ?_
      refine bp_ri bu_221_28 ?_
      exact kk _ _ _ hP5554
    · replace k5550 : ¬ ((w).toInt ≤ ((s 1)).toInt) := k5550
      refine bp_c (pc' := 13) (n := -1) bu_221_12 rfl rfl (fun _ _ _ => rfl) (by decide) (fun c5557 e5558 => ?_)
      refine bp_ri bu_221_13 ?_
      exact kk _ _ _ hP
theorem bg_bk {w : Int32} (hP : bm_P bg_T E h0 h s A L) (kk : ∀ (h' : mm_H) (s' : Nat → Int32) (r : Int32), bm_P bg_T E h0 h' s' A L → bp_G E PO NN (mm_back (some (.int r)) gs h')) : bp_G E PO NN ((5, 0, [(0, .ref (E.1 + 88)), (1, .int w)], [], 0, 0) :: gs, h, none) := by
  refine bp_ld (pc' := 1) bu_5_0 rfl rfl (fun _ _ _ => rfl) rfl rfl ?_
  refine bp_i0 (pc' := 4) (pt := 12) bu_5_1 rfl rfl (fun k5559 => ?_) (fun k5559 => ?_)
  · replace k5559 : (w).toInt < 0 := k5559
    refine bp_c (pc' := 13) (n := -1) bu_5_12 rfl rfl (fun _ _ _ => rfl) (by decide) (fun c5560 e5561 => ?_)
    refine bp_ri bu_5_13 ?_
    exact kk _ _ _ hP
  · replace k5559 : ¬ ((w).toInt < 0) := k5559
    refine bp_ld (pc' := 5) bu_5_4 rfl rfl (fun _ _ _ => rfl) rfl rfl ?_
    refine bp_ld (pc' := 6) bu_5_5 rfl rfl (fun _ _ _ => rfl) rfl rfl ?_
    refine bn_gi (pc' := 9) (K := 8802) bu_5_6 rfl rfl (fun _ _ _ => rfl) hP bg_o88 bg_i88_2 rfl rfl ?_
    refine bp_ic (pc' := 12) (pt := 14) bu_5_9 rfl rfl (fun k5562 => ?_) (fun k5562 => ?_)
    · replace k5562 : (w).toInt ≤ ((s 8802)).toInt := k5562
      refine bp_ld (pc' := 15) bu_5_14 rfl rfl (fun _ _ _ => rfl) rfl rfl ?_
      refine bp_dup (pc' := 16) bu_5_15 rfl rfl ?_
      refine bn_gi (pc' := 19) (K := 8802) bu_5_16 rfl rfl (fun _ _ _ => rfl) hP bg_o88 bg_i88_2 rfl rfl ?_
      refine bp_ld (pc' := 20) bu_5_19 rfl rfl (fun _ _ _ => rfl) rfl rfl ?_
      refine bp_subA (pc' := 21) bu_5_20 rfl (fun v5563 => ?_)
      refine bn_pf (pc' := 24) (K := 8802) bu_5_21 rfl rfl (fun _ _ _ => rfl) hP bg_o88 bg_i88_2 rfl rfl (fun h5564 s5565 hP5566 e5567 f5568 => ?_)
      refine bp_ld (pc' := 25) bu_5_24 rfl rfl (fun _ _ _ => rfl) rfl rfl ?_
      refine bn_gi (pc' := 28) (K := 8802) bu_5_25 rfl rfl (fun _ _ _ => rfl) hP5566 bg_o88 bg_i88_2 rfl e5567 ?_
      refine bp_ri bu_5_28 ?_
      exact kk _ _ _ hP5566
    · replace k5562 : ¬ ((w).toInt ≤ ((s 8802)).toInt) := k5562
      refine bp_c (pc' := 13) (n := -1) bu_5_12 rfl rfl (fun _ _ _ => rfl) (by decide) (fun c5569 e5570 => ?_)
      refine bp_ri bu_5_13 ?_
      exact kk _ _ _ hP
theorem bf_ap {w : Int32} (hP : bm_P bf_T E h0 h s A L) (htl : (s 1).toInt = (n : Int)) (hn : n ≤ 1996) (kk : ∀ (h' : mm_H) (s' : Nat → Int32) (A' : Nat → Nat → Int32), bm_P bf_T E h0 h' s' A' L → (s' 1).toInt = ((n + 4 : Nat) : Int) → fb_P n w (A 1) (A' 1) → bp_G E PO NN (mm_back none gs h')) : bp_G E PO NN ((220, 0, [(0, .ref (E.1 + 0)), (1, .int w)], [], 0, 0) :: gs, h, none) := by
  refine bp_c (pc' := 2) (n := 24) bu_220_0 rfl rfl (fun _ _ _ => rfl) (by decide) (fun c5571 e5572 => ?_)
  refine bp_st (pc' := 3) bu_220_2 rfl rfl (fun _ _ _ => rfl) rfl (by decide) (by decide) (fun lv5573 F5574 g5575 => ?_)
  have g5576 := F5574 0 (.ref (E.1 + 0)) rfl (by decide) (Or.inl rfl)
  have g5577 := F5574 1 (.int w) rfl (by decide) (Or.inl rfl)
  refine bp_ld (pc' := 4) bu_220_3 rfl rfl (fun _ _ _ => rfl) g5575 rfl ?_
  refine bp_i0 (pc' := 7) (pt := 46) bu_220_4 rfl rfl (fun k5578 => ?_) (fun k5578 => ?_)
  · replace k5578 : (c5571).toInt < 0 := k5578
    omega
  · replace k5578 : ¬ ((c5571).toInt < 0) := k5578
    refine bp_ld (pc' := 8) bu_220_7 rfl rfl (fun _ _ _ => rfl) g5576 rfl ?_
    refine bn_gi (pc' := 11) (K := 1) bu_220_8 rfl rfl (fun _ _ _ => rfl) hP bf_o0 bf_i0_1 rfl rfl ?_
    refine bp_c (pc' := 14) (n := 2000) bu_220_11 rfl rfl (fun _ _ _ => rfl) (by decide) (fun c5579 e5580 => ?_)
    refine bp_ic (pc' := 17) (pt := 46) bu_220_14 rfl rfl (fun k5581 => ?_) (fun k5581 => ?_)
    · replace k5581 : (c5579).toInt ≤ ((s 1)).toInt := k5581
      refine bp_rv bu_220_46 ?_
      exfalso
      omega
    · replace k5581 : ¬ ((c5579).toInt ≤ ((s 1)).toInt) := k5581
      refine bp_ld (pc' := 18) bu_220_17 rfl rfl (fun _ _ _ => rfl) g5576 rfl ?_
      refine bn_gr (pc' := 21) (t := 1) bu_220_18 rfl rfl (fun _ _ _ => rfl) hP bf_o0 bf_r0_0 ?_
      refine bp_ld (pc' := 22) bu_220_21 rfl rfl (fun _ _ _ => rfl) g5576 rfl ?_
      refine bn_gi (pc' := 25) (K := 1) bu_220_22 rfl rfl (fun _ _ _ => rfl) hP bf_o0 bf_i0_1 rfl rfl ?_
      refine bp_ld (pc' := 26) bu_220_25 rfl rfl (fun _ _ _ => rfl) g5577 rfl ?_
      refine bp_ld (pc' := 27) bu_220_26 rfl rfl (fun _ _ _ => rfl) g5575 rfl ?_
      refine bp_bin (pc' := 28) (f := (fun x y => some (x.toUInt32 >>> (y.toUInt32 &&& Int32.toUInt32 31)).toInt32)) (v := (w.toUInt32 >>> (c5571.toUInt32 &&& Int32.toUInt32 31)).toInt32) bu_220_27 rfl rfl (fun _ _ _ => rfl) rfl ?_
      refine bp_i2b (pc' := 29) bu_220_28 rfl ?_
      refine bn_iasF (pc' := 30) bu_220_29 rfl rfl (fun _ _ _ => rfl) hP bf_a1 (Or.inl rfl) (fun b5584 b5585 h5582 hP5583 => ?_)
      refine bp_ld (pc' := 31) bu_220_30 rfl rfl (fun _ _ _ => rfl) g5576 rfl ?_
      refine bp_dup (pc' := 32) bu_220_31 rfl rfl ?_
      refine bn_gi (pc' := 35) (K := 1) bu_220_32 rfl rfl (fun _ _ _ => rfl) hP5583 bf_o0 bf_i0_1 rfl rfl ?_
      refine bp_c (pc' := 36) (n := 1) bu_220_35 rfl rfl (fun _ _ _ => rfl) (by decide) (fun c5586 e5587 => ?_)
      refine bp_add (pc' := 37) bu_220_36 rfl (by omega) (by omega) (fun v5588 e5589 => ?_)
      refine bn_pf (pc' := 40) (K := 1) bu_220_37 rfl rfl (fun _ _ _ => rfl) hP5583 bf_o0 bf_i0_1 rfl rfl (fun h5590 s5591 hP5592 e5593 f5594 => ?_)
      refine bp_inc (pc' := 43) bu_220_40 rfl (by decide) g5575 (by decide) (by omega) (by omega) (fun lv5595 y5598 F5596 g5597 e5599 => ?_)
      have g5600 := F5596 0 (.ref (E.1 + 0)) g5576 (by decide) (Or.inl rfl)
      have g5601 := F5596 1 (.int w) g5577 (by decide) (Or.inl rfl)
      have e5602 : y5598.toInt = 16 := by omega
      refine bp_go (pc' := 3) bu_220_43 rfl ?_
      refine bp_ld (pc' := 4) bu_220_3 rfl rfl (fun _ _ _ => rfl) g5597 rfl ?_
      refine bp_i0 (pc' := 7) (pt := 46) bu_220_4 rfl rfl (fun k5603 => ?_) (fun k5603 => ?_)
      · replace k5603 : (y5598).toInt < 0 := k5603
        omega
      · replace k5603 : ¬ ((y5598).toInt < 0) := k5603
        refine bp_ld (pc' := 8) bu_220_7 rfl rfl (fun _ _ _ => rfl) g5600 rfl ?_
        refine bn_gi (pc' := 11) (K := 1) bu_220_8 rfl rfl (fun _ _ _ => rfl) hP5592 bf_o0 bf_i0_1 rfl e5593 ?_
        refine bp_c (pc' := 14) (n := 2000) bu_220_11 rfl rfl (fun _ _ _ => rfl) (by decide) (fun c5604 e5605 => ?_)
        refine bp_ic (pc' := 17) (pt := 46) bu_220_14 rfl rfl (fun k5606 => ?_) (fun k5606 => ?_)
        · replace k5606 : (c5604).toInt ≤ (v5588).toInt := k5606
          refine bp_rv bu_220_46 ?_
          have z0 := congrArg Int32.toInt e5593
          exfalso
          omega
        · replace k5606 : ¬ ((c5604).toInt ≤ (v5588).toInt) := k5606
          refine bp_ld (pc' := 18) bu_220_17 rfl rfl (fun _ _ _ => rfl) g5600 rfl ?_
          refine bn_gr (pc' := 21) (t := 1) bu_220_18 rfl rfl (fun _ _ _ => rfl) hP5592 bf_o0 bf_r0_0 ?_
          refine bp_ld (pc' := 22) bu_220_21 rfl rfl (fun _ _ _ => rfl) g5600 rfl ?_
          refine bn_gi (pc' := 25) (K := 1) bu_220_22 rfl rfl (fun _ _ _ => rfl) hP5592 bf_o0 bf_i0_1 rfl e5593 ?_
          refine bp_ld (pc' := 26) bu_220_25 rfl rfl (fun _ _ _ => rfl) g5601 rfl ?_
          refine bp_ld (pc' := 27) bu_220_26 rfl rfl (fun _ _ _ => rfl) g5597 rfl ?_
          refine bp_bin (pc' := 28) (f := (fun x y => some (x.toUInt32 >>> (y.toUInt32 &&& Int32.toUInt32 31)).toInt32)) (v := (w.toUInt32 >>> (y5598.toUInt32 &&& Int32.toUInt32 31)).toInt32) bu_220_27 rfl rfl (fun _ _ _ => rfl) rfl ?_
          refine bp_i2b (pc' := 29) bu_220_28 rfl ?_
          refine bn_iasF (pc' := 30) bu_220_29 rfl rfl (fun _ _ _ => rfl) hP5592 bf_a1 (Or.inl rfl) (fun b5609 b5610 h5607 hP5608 => ?_)
          refine bp_ld (pc' := 31) bu_220_30 rfl rfl (fun _ _ _ => rfl) g5600 rfl ?_
          refine bp_dup (pc' := 32) bu_220_31 rfl rfl ?_
          refine bn_gi (pc' := 35) (K := 1) bu_220_32 rfl rfl (fun _ _ _ => rfl) hP5608 bf_o0 bf_i0_1 rfl e5593 ?_
          refine bp_c (pc' := 36) (n := 1) bu_220_35 rfl rfl (fun _ _ _ => rfl) (by decide) (fun c5611 e5612 => ?_)
          refine bp_add (pc' := 37) bu_220_36 rfl (by omega) (by omega) (fun v5613 e5614 => ?_)
          refine bn_pf (pc' := 40) (K := 1) bu_220_37 rfl rfl (fun _ _ _ => rfl) hP5608 bf_o0 bf_i0_1 rfl rfl (fun h5615 s5616 hP5617 e5618 f5619 => ?_)
          refine bp_inc (pc' := 43) bu_220_40 rfl (by decide) g5597 (by decide) (by omega) (by omega) (fun lv5620 y5623 F5621 g5622 e5624 => ?_)
          have g5625 := F5621 0 (.ref (E.1 + 0)) g5600 (by decide) (Or.inl rfl)
          have g5626 := F5621 1 (.int w) g5601 (by decide) (Or.inl rfl)
          have e5627 : y5623.toInt = 8 := by omega
          refine bp_go (pc' := 3) bu_220_43 rfl ?_
          refine bp_ld (pc' := 4) bu_220_3 rfl rfl (fun _ _ _ => rfl) g5622 rfl ?_
          refine bp_i0 (pc' := 7) (pt := 46) bu_220_4 rfl rfl (fun k5628 => ?_) (fun k5628 => ?_)
          · replace k5628 : (y5623).toInt < 0 := k5628
            omega
          · replace k5628 : ¬ ((y5623).toInt < 0) := k5628
            refine bp_ld (pc' := 8) bu_220_7 rfl rfl (fun _ _ _ => rfl) g5625 rfl ?_
            refine bn_gi (pc' := 11) (K := 1) bu_220_8 rfl rfl (fun _ _ _ => rfl) hP5617 bf_o0 bf_i0_1 rfl e5618 ?_
            refine bp_c (pc' := 14) (n := 2000) bu_220_11 rfl rfl (fun _ _ _ => rfl) (by decide) (fun c5629 e5630 => ?_)
            refine bp_ic (pc' := 17) (pt := 46) bu_220_14 rfl rfl (fun k5631 => ?_) (fun k5631 => ?_)
            · replace k5631 : (c5629).toInt ≤ (v5613).toInt := k5631
              refine bp_rv bu_220_46 ?_
              have z0 := congrArg Int32.toInt e5618
              have z1 := congrArg Int32.toInt e5593
              exfalso
              omega
            · replace k5631 : ¬ ((c5629).toInt ≤ (v5613).toInt) := k5631
              refine bp_ld (pc' := 18) bu_220_17 rfl rfl (fun _ _ _ => rfl) g5625 rfl ?_
              refine bn_gr (pc' := 21) (t := 1) bu_220_18 rfl rfl (fun _ _ _ => rfl) hP5617 bf_o0 bf_r0_0 ?_
              refine bp_ld (pc' := 22) bu_220_21 rfl rfl (fun _ _ _ => rfl) g5625 rfl ?_
              refine bn_gi (pc' := 25) (K := 1) bu_220_22 rfl rfl (fun _ _ _ => rfl) hP5617 bf_o0 bf_i0_1 rfl e5618 ?_
              refine bp_ld (pc' := 26) bu_220_25 rfl rfl (fun _ _ _ => rfl) g5626 rfl ?_
              refine bp_ld (pc' := 27) bu_220_26 rfl rfl (fun _ _ _ => rfl) g5622 rfl ?_
              refine bp_bin (pc' := 28) (f := (fun x y => some (x.toUInt32 >>> (y.toUInt32 &&& Int32.toUInt32 31)).toInt32)) (v := (w.toUInt32 >>> (y5623.toUInt32 &&& Int32.toUInt32 31)).toInt32) bu_220_27 rfl rfl (fun _ _ _ => rfl) rfl ?_
              refine bp_i2b (pc' := 29) bu_220_28 rfl ?_
              refine bn_iasF (pc' := 30) bu_220_29 rfl rfl (fun _ _ _ => rfl) hP5617 bf_a1 (Or.inl rfl) (fun b5634 b5635 h5632 hP5633 => ?_)
              refine bp_ld (pc' := 31) bu_220_30 rfl rfl (fun _ _ _ => rfl) g5625 rfl ?_
              refine bp_dup (pc' := 32) bu_220_31 rfl rfl ?_
              refine bn_gi (pc' := 35) (K := 1) bu_220_32 rfl rfl (fun _ _ _ => rfl) hP5633 bf_o0 bf_i0_1 rfl e5618 ?_
              refine bp_c (pc' := 36) (n := 1) bu_220_35 rfl rfl (fun _ _ _ => rfl) (by decide) (fun c5636 e5637 => ?_)
              refine bp_add (pc' := 37) bu_220_36 rfl (by omega) (by omega) (fun v5638 e5639 => ?_)
              refine bn_pf (pc' := 40) (K := 1) bu_220_37 rfl rfl (fun _ _ _ => rfl) hP5633 bf_o0 bf_i0_1 rfl rfl (fun h5640 s5641 hP5642 e5643 f5644 => ?_)
              refine bp_inc (pc' := 43) bu_220_40 rfl (by decide) g5622 (by decide) (by omega) (by omega) (fun lv5645 y5648 F5646 g5647 e5649 => ?_)
              have g5650 := F5646 0 (.ref (E.1 + 0)) g5625 (by decide) (Or.inl rfl)
              have g5651 := F5646 1 (.int w) g5626 (by decide) (Or.inl rfl)
              have e5652 : y5648.toInt = 0 := by omega
              refine bp_go (pc' := 3) bu_220_43 rfl ?_
              refine bp_ld (pc' := 4) bu_220_3 rfl rfl (fun _ _ _ => rfl) g5647 rfl ?_
              refine bp_i0 (pc' := 7) (pt := 46) bu_220_4 rfl rfl (fun k5653 => ?_) (fun k5653 => ?_)
              · replace k5653 : (y5648).toInt < 0 := k5653
                omega
              · replace k5653 : ¬ ((y5648).toInt < 0) := k5653
                refine bp_ld (pc' := 8) bu_220_7 rfl rfl (fun _ _ _ => rfl) g5650 rfl ?_
                refine bn_gi (pc' := 11) (K := 1) bu_220_8 rfl rfl (fun _ _ _ => rfl) hP5642 bf_o0 bf_i0_1 rfl e5643 ?_
                refine bp_c (pc' := 14) (n := 2000) bu_220_11 rfl rfl (fun _ _ _ => rfl) (by decide) (fun c5654 e5655 => ?_)
                refine bp_ic (pc' := 17) (pt := 46) bu_220_14 rfl rfl (fun k5656 => ?_) (fun k5656 => ?_)
                · replace k5656 : (c5654).toInt ≤ (v5638).toInt := k5656
                  refine bp_rv bu_220_46 ?_
                  have z0 := congrArg Int32.toInt e5643
                  have z1 := congrArg Int32.toInt e5618
                  have z2 := congrArg Int32.toInt e5593
                  exfalso
                  omega
                · replace k5656 : ¬ ((c5654).toInt ≤ (v5638).toInt) := k5656
                  refine bp_ld (pc' := 18) bu_220_17 rfl rfl (fun _ _ _ => rfl) g5650 rfl ?_
                  refine bn_gr (pc' := 21) (t := 1) bu_220_18 rfl rfl (fun _ _ _ => rfl) hP5642 bf_o0 bf_r0_0 ?_
                  refine bp_ld (pc' := 22) bu_220_21 rfl rfl (fun _ _ _ => rfl) g5650 rfl ?_
                  refine bn_gi (pc' := 25) (K := 1) bu_220_22 rfl rfl (fun _ _ _ => rfl) hP5642 bf_o0 bf_i0_1 rfl e5643 ?_
                  refine bp_ld (pc' := 26) bu_220_25 rfl rfl (fun _ _ _ => rfl) g5651 rfl ?_
                  refine bp_ld (pc' := 27) bu_220_26 rfl rfl (fun _ _ _ => rfl) g5647 rfl ?_
                  refine bp_bin (pc' := 28) (f := (fun x y => some (x.toUInt32 >>> (y.toUInt32 &&& Int32.toUInt32 31)).toInt32)) (v := (w.toUInt32 >>> (y5648.toUInt32 &&& Int32.toUInt32 31)).toInt32) bu_220_27 rfl rfl (fun _ _ _ => rfl) rfl ?_
                  refine bp_i2b (pc' := 29) bu_220_28 rfl ?_
                  refine bn_iasF (pc' := 30) bu_220_29 rfl rfl (fun _ _ _ => rfl) hP5642 bf_a1 (Or.inl rfl) (fun b5659 b5660 h5657 hP5658 => ?_)
                  refine bp_ld (pc' := 31) bu_220_30 rfl rfl (fun _ _ _ => rfl) g5650 rfl ?_
                  refine bp_dup (pc' := 32) bu_220_31 rfl rfl ?_
                  refine bn_gi (pc' := 35) (K := 1) bu_220_32 rfl rfl (fun _ _ _ => rfl) hP5658 bf_o0 bf_i0_1 rfl e5643 ?_
                  refine bp_c (pc' := 36) (n := 1) bu_220_35 rfl rfl (fun _ _ _ => rfl) (by decide) (fun c5661 e5662 => ?_)
                  refine bp_add (pc' := 37) bu_220_36 rfl (by omega) (by omega) (fun v5663 e5664 => ?_)
                  refine bn_pf (pc' := 40) (K := 1) bu_220_37 rfl rfl (fun _ _ _ => rfl) hP5658 bf_o0 bf_i0_1 rfl rfl (fun h5665 s5666 hP5667 e5668 f5669 => ?_)
                  refine bp_inc (pc' := 43) bu_220_40 rfl (by decide) g5647 (by decide) (by omega) (by omega) (fun lv5670 y5673 F5671 g5672 e5674 => ?_)
                  have g5675 := F5671 0 (.ref (E.1 + 0)) g5650 (by decide) (Or.inl rfl)
                  have g5676 := F5671 1 (.int w) g5651 (by decide) (Or.inl rfl)
                  have e5677 : y5673.toInt = -8 := by omega
                  refine bp_go (pc' := 3) bu_220_43 rfl ?_
                  refine bp_ld (pc' := 4) bu_220_3 rfl rfl (fun _ _ _ => rfl) g5672 rfl ?_
                  refine bp_i0 (pc' := 7) (pt := 46) bu_220_4 rfl rfl (fun k5678 => ?_) (fun k5678 => ?_)
                  · replace k5678 : (y5673).toInt < 0 := k5678
                    refine bp_rv bu_220_46 ?_
                    have z0 := congrArg Int32.toInt e5668
                    have z1 := congrArg Int32.toInt e5643
                    have z2 := congrArg Int32.toInt e5618
                    have z3 := congrArg Int32.toInt e5593
                    exact kk _ _ _ hP5667 (by omega) (fb_4 (by omega) (by omega) (by omega) (by omega) (fb_c0 (e5572)) (fb_c1 (e5602)) (fb_c2 (e5627)) (fb_c3 (e5652)))
                  · replace k5678 : ¬ ((y5673).toInt < 0) := k5678
                    omega
theorem bf_fe {w1 w2 w3 w4 w5 : Int32} (hP : bm_P bf_T E h0 h s A L) (htl : (s 1).toInt = (n : Int)) (hn : n ≤ 2000) (kk : ∀ (h' : mm_H) (s' : Nat → Int32) (A' : Nat → Nat → Int32) (r : Int32), bm_P bf_T E h0 h' s' A' L → (n ≤ 1980 → r.toInt = ((n + 20 : Nat) : Int) ∧ (s' 1).toInt = ((n + 20 : Nat) : Int) ∧ fb_5 n w1 w2 w3 w4 w5 (A 1) (A' 1)) → (1980 < n → r.toInt = -1 ∧ s' = s ∧ A' = A) → bp_G E PO NN (mm_back (some (.int r)) gs h')) : bp_G E PO NN ((230, 0, [(0, .ref (E.1 + 0)), (1, .int w1), (2, .int w2), (3, .int w3), (4, .int w4), (5, .int w5)], [], 0, 0) :: gs, h, none) := by
  refine bp_ld (pc' := 1) bu_230_0 rfl rfl (fun _ _ _ => rfl) rfl rfl ?_
  refine bn_gi (pc' := 4) (K := 1) bu_230_1 rfl rfl (fun _ _ _ => rfl) hP bf_o0 bf_i0_1 rfl rfl ?_
  refine bp_c (pc' := 6) (n := 20) bu_230_4 rfl rfl (fun _ _ _ => rfl) (by decide) (fun c5679 e5680 => ?_)
  refine bp_add (pc' := 7) bu_230_6 rfl (by omega) (by omega) (fun v5681 e5682 => ?_)
  refine bp_c (pc' := 10) (n := 2000) bu_230_7 rfl rfl (fun _ _ _ => rfl) (by decide) (fun c5683 e5684 => ?_)
  refine bp_ic (pc' := 13) (pt := 15) bu_230_10 rfl rfl (fun k5685 => ?_) (fun k5685 => ?_)
  · replace k5685 : (v5681).toInt ≤ (c5683).toInt := k5685
    refine bp_ld (pc' := 16) bu_230_15 rfl rfl (fun _ _ _ => rfl) rfl rfl ?_
    refine bp_ld (pc' := 17) bu_230_16 rfl rfl (fun _ _ _ => rfl) rfl rfl ?_
    refine bn_cvF (pc' := 20) (st := []) (args := [.int w1]) bu_230_17 rfl rfl rfl (by decide) hP bf_o0 (by decide) rfl (Nat.le_of_ble_eq_true rfl) (Nat.le_of_ble_eq_true rfl) ?_
    have hn5 : n ≤ 1980 := by omega
    refine bf_ap (n := n + 0) hP (by have ee := htl; omega) (by omega) (fun h5686 s5687 A5688 hP5689 e5690 f5691 => ?_)
    show bp_G E PO NN ((230, 20, _, [], 0, 0) :: gs, h5686, none)
    refine bp_ld (pc' := 21) bu_230_20 rfl rfl (fun _ _ _ => rfl) rfl rfl ?_
    refine bp_ld (pc' := 22) bu_230_21 rfl rfl (fun _ _ _ => rfl) rfl rfl ?_
    refine bn_cvF (pc' := 25) (st := []) (args := [.int w2]) bu_230_22 rfl rfl rfl (by decide) hP5689 bf_o0 (by decide) rfl (Nat.le_of_ble_eq_true rfl) (Nat.le_of_ble_eq_true rfl) ?_
    refine bf_ap (n := n + 4) hP5689 (by have ee := e5690; omega) (by omega) (fun h5692 s5693 A5694 hP5695 e5696 f5697 => ?_)
    show bp_G E PO NN ((230, 25, _, [], 0, 0) :: gs, h5692, none)
    refine bp_ld (pc' := 26) bu_230_25 rfl rfl (fun _ _ _ => rfl) rfl rfl ?_
    refine bp_ld (pc' := 27) bu_230_26 rfl rfl (fun _ _ _ => rfl) rfl rfl ?_
    refine bn_cvF (pc' := 30) (st := []) (args := [.int w3]) bu_230_27 rfl rfl rfl (by decide) hP5695 bf_o0 (by decide) rfl (Nat.le_of_ble_eq_true rfl) (Nat.le_of_ble_eq_true rfl) ?_
    refine bf_ap (n := n + 8) hP5695 (by have ee := e5696; omega) (by omega) (fun h5698 s5699 A5700 hP5701 e5702 f5703 => ?_)
    show bp_G E PO NN ((230, 30, _, [], 0, 0) :: gs, h5698, none)
    refine bp_ld (pc' := 31) bu_230_30 rfl rfl (fun _ _ _ => rfl) rfl rfl ?_
    refine bp_ld (pc' := 33) bu_230_31 rfl rfl (fun _ _ _ => rfl) rfl rfl ?_
    refine bn_cvF (pc' := 36) (st := []) (args := [.int w4]) bu_230_33 rfl rfl rfl (by decide) hP5701 bf_o0 (by decide) rfl (Nat.le_of_ble_eq_true rfl) (Nat.le_of_ble_eq_true rfl) ?_
    refine bf_ap (n := n + 12) hP5701 (by have ee := e5702; omega) (by omega) (fun h5704 s5705 A5706 hP5707 e5708 f5709 => ?_)
    show bp_G E PO NN ((230, 36, _, [], 0, 0) :: gs, h5704, none)
    refine bp_ld (pc' := 37) bu_230_36 rfl rfl (fun _ _ _ => rfl) rfl rfl ?_
    refine bp_ld (pc' := 39) bu_230_37 rfl rfl (fun _ _ _ => rfl) rfl rfl ?_
    refine bn_cvF (pc' := 42) (st := []) (args := [.int w5]) bu_230_39 rfl rfl rfl (by decide) hP5707 bf_o0 (by decide) rfl (Nat.le_of_ble_eq_true rfl) (Nat.le_of_ble_eq_true rfl) ?_
    refine bf_ap (n := n + 16) hP5707 (by have ee := e5708; omega) (by omega) (fun h5710 s5711 A5712 hP5713 e5714 f5715 => ?_)
    show bp_G E PO NN ((230, 42, _, [], 0, 0) :: gs, h5710, none)
    refine bp_ld (pc' := 43) bu_230_42 rfl rfl (fun _ _ _ => rfl) rfl rfl ?_
    refine bn_gi (pc' := 46) (K := 1) bu_230_43 rfl rfl (fun _ _ _ => rfl) hP5713 bf_o0 bf_i0_1 rfl rfl ?_
    refine bp_ri bu_230_46 ?_
    have ee := e5714
    exact kk _ _ _ _ hP5713 (fun _ => ⟨by omega, by omega, _, _, _, _, f5691, f5697, f5703, f5709, f5715⟩) (fun h9 => by omega)
  · replace k5685 : ¬ ((v5681).toInt ≤ (c5683).toInt) := k5685
    refine bp_c (pc' := 14) (n := -1) bu_230_13 rfl rfl (fun _ _ _ => rfl) (by decide) (fun c5716 e5717 => ?_)
    refine bp_ri bu_230_14 ?_
    exact kk _ _ _ _ hP (fun h9 => by omega) (fun _ => ⟨by omega, rfl, rfl⟩)
theorem bg_ap {w : Int32} (hP : bm_P bg_T E h0 h s A L) (htl : (s 8802).toInt = (n : Int)) (hn : n ≤ 1996) (kk : ∀ (h' : mm_H) (s' : Nat → Int32) (A' : Nat → Nat → Int32), bm_P bg_T E h0 h' s' A' L → (s' 8802).toInt = ((n + 4 : Nat) : Int) → fb_P n w (A 89) (A' 89) → bp_G E PO NN (mm_back none gs h')) : bp_G E PO NN ((76, 0, [(0, .ref (E.1 + 88)), (1, .int w)], [], 0, 0) :: gs, h, none) := by
  refine bp_c (pc' := 2) (n := 24) bu_76_0 rfl rfl (fun _ _ _ => rfl) (by decide) (fun c5718 e5719 => ?_)
  refine bp_st (pc' := 3) bu_76_2 rfl rfl (fun _ _ _ => rfl) rfl (by decide) (by decide) (fun lv5720 F5721 g5722 => ?_)
  have g5723 := F5721 0 (.ref (E.1 + 88)) rfl (by decide) (Or.inl rfl)
  have g5724 := F5721 1 (.int w) rfl (by decide) (Or.inl rfl)
  refine bp_ld (pc' := 4) bu_76_3 rfl rfl (fun _ _ _ => rfl) g5722 rfl ?_
  refine bp_i0 (pc' := 7) (pt := 36) bu_76_4 rfl rfl (fun k5725 => ?_) (fun k5725 => ?_)
  · replace k5725 : (c5718).toInt < 0 := k5725
    omega
  · replace k5725 : ¬ ((c5718).toInt < 0) := k5725
    refine bp_ld (pc' := 8) bu_76_7 rfl rfl (fun _ _ _ => rfl) g5723 rfl ?_
    refine bn_gr (pc' := 11) (t := 89) bu_76_8 rfl rfl (fun _ _ _ => rfl) hP bg_o88 bg_r88_1 ?_
    refine bp_ld (pc' := 12) bu_76_11 rfl rfl (fun _ _ _ => rfl) g5723 rfl ?_
    refine bn_gi (pc' := 15) (K := 8802) bu_76_12 rfl rfl (fun _ _ _ => rfl) hP bg_o88 bg_i88_2 rfl rfl ?_
    refine bp_ld (pc' := 16) bu_76_15 rfl rfl (fun _ _ _ => rfl) g5724 rfl ?_
    refine bp_ld (pc' := 17) bu_76_16 rfl rfl (fun _ _ _ => rfl) g5722 rfl ?_
    refine bp_bin (pc' := 18) (f := (fun x y => some (x >>> (y &&& 31)))) (v := (w >>> (c5718 &&& 31))) bu_76_17 rfl rfl (fun _ _ _ => rfl) rfl ?_
    refine bp_i2b (pc' := 19) bu_76_18 rfl ?_
    refine bn_iasF (pc' := 20) bu_76_19 rfl rfl (fun _ _ _ => rfl) hP bg_a89 (Or.inl rfl) (fun b5728 b5729 h5726 hP5727 => ?_)
    refine bp_ld (pc' := 21) bu_76_20 rfl rfl (fun _ _ _ => rfl) g5723 rfl ?_
    refine bp_dup (pc' := 22) bu_76_21 rfl rfl ?_
    refine bn_gi (pc' := 25) (K := 8802) bu_76_22 rfl rfl (fun _ _ _ => rfl) hP5727 bg_o88 bg_i88_2 rfl rfl ?_
    refine bp_c (pc' := 26) (n := 1) bu_76_25 rfl rfl (fun _ _ _ => rfl) (by decide) (fun c5730 e5731 => ?_)
    refine bp_add (pc' := 27) bu_76_26 rfl (by omega) (by omega) (fun v5732 e5733 => ?_)
    refine bn_pf (pc' := 30) (K := 8802) bu_76_27 rfl rfl (fun _ _ _ => rfl) hP5727 bg_o88 bg_i88_2 rfl rfl (fun h5734 s5735 hP5736 e5737 f5738 => ?_)
    refine bp_inc (pc' := 33) bu_76_30 rfl (by decide) g5722 (by decide) (by omega) (by omega) (fun lv5739 y5742 F5740 g5741 e5743 => ?_)
    have g5744 := F5740 0 (.ref (E.1 + 88)) g5723 (by decide) (Or.inl rfl)
    have g5745 := F5740 1 (.int w) g5724 (by decide) (Or.inl rfl)
    have e5746 : y5742.toInt = 16 := by omega
    refine bp_go (pc' := 3) bu_76_33 rfl ?_
    refine bp_ld (pc' := 4) bu_76_3 rfl rfl (fun _ _ _ => rfl) g5741 rfl ?_
    refine bp_i0 (pc' := 7) (pt := 36) bu_76_4 rfl rfl (fun k5747 => ?_) (fun k5747 => ?_)
    · replace k5747 : (y5742).toInt < 0 := k5747
      omega
    · replace k5747 : ¬ ((y5742).toInt < 0) := k5747
      refine bp_ld (pc' := 8) bu_76_7 rfl rfl (fun _ _ _ => rfl) g5744 rfl ?_
      refine bn_gr (pc' := 11) (t := 89) bu_76_8 rfl rfl (fun _ _ _ => rfl) hP5736 bg_o88 bg_r88_1 ?_
      refine bp_ld (pc' := 12) bu_76_11 rfl rfl (fun _ _ _ => rfl) g5744 rfl ?_
      refine bn_gi (pc' := 15) (K := 8802) bu_76_12 rfl rfl (fun _ _ _ => rfl) hP5736 bg_o88 bg_i88_2 rfl e5737 ?_
      refine bp_ld (pc' := 16) bu_76_15 rfl rfl (fun _ _ _ => rfl) g5745 rfl ?_
      refine bp_ld (pc' := 17) bu_76_16 rfl rfl (fun _ _ _ => rfl) g5741 rfl ?_
      refine bp_bin (pc' := 18) (f := (fun x y => some (x >>> (y &&& 31)))) (v := (w >>> (y5742 &&& 31))) bu_76_17 rfl rfl (fun _ _ _ => rfl) rfl ?_
      refine bp_i2b (pc' := 19) bu_76_18 rfl ?_
      refine bn_iasF (pc' := 20) bu_76_19 rfl rfl (fun _ _ _ => rfl) hP5736 bg_a89 (Or.inl rfl) (fun b5750 b5751 h5748 hP5749 => ?_)
      refine bp_ld (pc' := 21) bu_76_20 rfl rfl (fun _ _ _ => rfl) g5744 rfl ?_
      refine bp_dup (pc' := 22) bu_76_21 rfl rfl ?_
      refine bn_gi (pc' := 25) (K := 8802) bu_76_22 rfl rfl (fun _ _ _ => rfl) hP5749 bg_o88 bg_i88_2 rfl e5737 ?_
      refine bp_c (pc' := 26) (n := 1) bu_76_25 rfl rfl (fun _ _ _ => rfl) (by decide) (fun c5752 e5753 => ?_)
      refine bp_add (pc' := 27) bu_76_26 rfl (by omega) (by omega) (fun v5754 e5755 => ?_)
      refine bn_pf (pc' := 30) (K := 8802) bu_76_27 rfl rfl (fun _ _ _ => rfl) hP5749 bg_o88 bg_i88_2 rfl rfl (fun h5756 s5757 hP5758 e5759 f5760 => ?_)
      refine bp_inc (pc' := 33) bu_76_30 rfl (by decide) g5741 (by decide) (by omega) (by omega) (fun lv5761 y5764 F5762 g5763 e5765 => ?_)
      have g5766 := F5762 0 (.ref (E.1 + 88)) g5744 (by decide) (Or.inl rfl)
      have g5767 := F5762 1 (.int w) g5745 (by decide) (Or.inl rfl)
      have e5768 : y5764.toInt = 8 := by omega
      refine bp_go (pc' := 3) bu_76_33 rfl ?_
      refine bp_ld (pc' := 4) bu_76_3 rfl rfl (fun _ _ _ => rfl) g5763 rfl ?_
      refine bp_i0 (pc' := 7) (pt := 36) bu_76_4 rfl rfl (fun k5769 => ?_) (fun k5769 => ?_)
      · replace k5769 : (y5764).toInt < 0 := k5769
        omega
      · replace k5769 : ¬ ((y5764).toInt < 0) := k5769
        refine bp_ld (pc' := 8) bu_76_7 rfl rfl (fun _ _ _ => rfl) g5766 rfl ?_
        refine bn_gr (pc' := 11) (t := 89) bu_76_8 rfl rfl (fun _ _ _ => rfl) hP5758 bg_o88 bg_r88_1 ?_
        refine bp_ld (pc' := 12) bu_76_11 rfl rfl (fun _ _ _ => rfl) g5766 rfl ?_
        refine bn_gi (pc' := 15) (K := 8802) bu_76_12 rfl rfl (fun _ _ _ => rfl) hP5758 bg_o88 bg_i88_2 rfl e5759 ?_
        refine bp_ld (pc' := 16) bu_76_15 rfl rfl (fun _ _ _ => rfl) g5767 rfl ?_
        refine bp_ld (pc' := 17) bu_76_16 rfl rfl (fun _ _ _ => rfl) g5763 rfl ?_
        refine bp_bin (pc' := 18) (f := (fun x y => some (x >>> (y &&& 31)))) (v := (w >>> (y5764 &&& 31))) bu_76_17 rfl rfl (fun _ _ _ => rfl) rfl ?_
        refine bp_i2b (pc' := 19) bu_76_18 rfl ?_
        refine bn_iasF (pc' := 20) bu_76_19 rfl rfl (fun _ _ _ => rfl) hP5758 bg_a89 (Or.inl rfl) (fun b5772 b5773 h5770 hP5771 => ?_)
        refine bp_ld (pc' := 21) bu_76_20 rfl rfl (fun _ _ _ => rfl) g5766 rfl ?_
        refine bp_dup (pc' := 22) bu_76_21 rfl rfl ?_
        refine bn_gi (pc' := 25) (K := 8802) bu_76_22 rfl rfl (fun _ _ _ => rfl) hP5771 bg_o88 bg_i88_2 rfl e5759 ?_
        refine bp_c (pc' := 26) (n := 1) bu_76_25 rfl rfl (fun _ _ _ => rfl) (by decide) (fun c5774 e5775 => ?_)
        refine bp_add (pc' := 27) bu_76_26 rfl (by omega) (by omega) (fun v5776 e5777 => ?_)
        refine bn_pf (pc' := 30) (K := 8802) bu_76_27 rfl rfl (fun _ _ _ => rfl) hP5771 bg_o88 bg_i88_2 rfl rfl (fun h5778 s5779 hP5780 e5781 f5782 => ?_)
        refine bp_inc (pc' := 33) bu_76_30 rfl (by decide) g5763 (by decide) (by omega) (by omega) (fun lv5783 y5786 F5784 g5785 e5787 => ?_)
        have g5788 := F5784 0 (.ref (E.1 + 88)) g5766 (by decide) (Or.inl rfl)
        have g5789 := F5784 1 (.int w) g5767 (by decide) (Or.inl rfl)
        have e5790 : y5786.toInt = 0 := by omega
        refine bp_go (pc' := 3) bu_76_33 rfl ?_
        refine bp_ld (pc' := 4) bu_76_3 rfl rfl (fun _ _ _ => rfl) g5785 rfl ?_
        refine bp_i0 (pc' := 7) (pt := 36) bu_76_4 rfl rfl (fun k5791 => ?_) (fun k5791 => ?_)
        · replace k5791 : (y5786).toInt < 0 := k5791
          omega
        · replace k5791 : ¬ ((y5786).toInt < 0) := k5791
          refine bp_ld (pc' := 8) bu_76_7 rfl rfl (fun _ _ _ => rfl) g5788 rfl ?_
          refine bn_gr (pc' := 11) (t := 89) bu_76_8 rfl rfl (fun _ _ _ => rfl) hP5780 bg_o88 bg_r88_1 ?_
          refine bp_ld (pc' := 12) bu_76_11 rfl rfl (fun _ _ _ => rfl) g5788 rfl ?_
          refine bn_gi (pc' := 15) (K := 8802) bu_76_12 rfl rfl (fun _ _ _ => rfl) hP5780 bg_o88 bg_i88_2 rfl e5781 ?_
          refine bp_ld (pc' := 16) bu_76_15 rfl rfl (fun _ _ _ => rfl) g5789 rfl ?_
          refine bp_ld (pc' := 17) bu_76_16 rfl rfl (fun _ _ _ => rfl) g5785 rfl ?_
          refine bp_bin (pc' := 18) (f := (fun x y => some (x >>> (y &&& 31)))) (v := (w >>> (y5786 &&& 31))) bu_76_17 rfl rfl (fun _ _ _ => rfl) rfl ?_
          refine bp_i2b (pc' := 19) bu_76_18 rfl ?_
          refine bn_iasF (pc' := 20) bu_76_19 rfl rfl (fun _ _ _ => rfl) hP5780 bg_a89 (Or.inl rfl) (fun b5794 b5795 h5792 hP5793 => ?_)
          refine bp_ld (pc' := 21) bu_76_20 rfl rfl (fun _ _ _ => rfl) g5788 rfl ?_
          refine bp_dup (pc' := 22) bu_76_21 rfl rfl ?_
          refine bn_gi (pc' := 25) (K := 8802) bu_76_22 rfl rfl (fun _ _ _ => rfl) hP5793 bg_o88 bg_i88_2 rfl e5781 ?_
          refine bp_c (pc' := 26) (n := 1) bu_76_25 rfl rfl (fun _ _ _ => rfl) (by decide) (fun c5796 e5797 => ?_)
          refine bp_add (pc' := 27) bu_76_26 rfl (by omega) (by omega) (fun v5798 e5799 => ?_)
          refine bn_pf (pc' := 30) (K := 8802) bu_76_27 rfl rfl (fun _ _ _ => rfl) hP5793 bg_o88 bg_i88_2 rfl rfl (fun h5800 s5801 hP5802 e5803 f5804 => ?_)
          refine bp_inc (pc' := 33) bu_76_30 rfl (by decide) g5785 (by decide) (by omega) (by omega) (fun lv5805 y5808 F5806 g5807 e5809 => ?_)
          have g5810 := F5806 0 (.ref (E.1 + 88)) g5788 (by decide) (Or.inl rfl)
          have g5811 := F5806 1 (.int w) g5789 (by decide) (Or.inl rfl)
          have e5812 : y5808.toInt = -8 := by omega
          refine bp_go (pc' := 3) bu_76_33 rfl ?_
          refine bp_ld (pc' := 4) bu_76_3 rfl rfl (fun _ _ _ => rfl) g5807 rfl ?_
          refine bp_i0 (pc' := 7) (pt := 36) bu_76_4 rfl rfl (fun k5813 => ?_) (fun k5813 => ?_)
          · replace k5813 : (y5808).toInt < 0 := k5813
            refine bp_rv bu_76_36 ?_
            have z0 := congrArg Int32.toInt e5803
            have z1 := congrArg Int32.toInt e5781
            have z2 := congrArg Int32.toInt e5759
            have z3 := congrArg Int32.toInt e5737
            exact kk _ _ _ hP5802 (by omega) (fb_4 (by omega) (by omega) (by omega) (by omega) (fb_m0 (e5719)) (fb_m1 (e5746)) (fb_m2 (e5768)) (fb_m3 (e5790)))
          · replace k5813 : ¬ ((y5808).toInt < 0) := k5813
            omega
theorem bg_fe {w1 w2 w3 w4 w5 : Int32} (hP : bm_P bg_T E h0 h s A L) (htl : (s 8802).toInt = (n : Int)) (hn : n ≤ 2000) (kk : ∀ (h' : mm_H) (s' : Nat → Int32) (A' : Nat → Nat → Int32) (r : Int32), bm_P bg_T E h0 h' s' A' L → (n ≤ 1980 → r.toInt = ((n + 20 : Nat) : Int) ∧ (s' 8802).toInt = ((n + 20 : Nat) : Int) ∧ fb_5 n w1 w2 w3 w4 w5 (A 89) (A' 89)) → (1980 < n → r.toInt = -1 ∧ s' = s ∧ A' = A) → bp_G E PO NN (mm_back (some (.int r)) gs h')) : bp_G E PO NN ((28, 0, [(0, .ref (E.1 + 88)), (1, .int w1), (2, .int w2), (3, .int w3), (4, .int w4), (5, .int w5)], [], 0, 0) :: gs, h, none) := by
  refine bp_ld (pc' := 1) bu_28_0 rfl rfl (fun _ _ _ => rfl) rfl rfl ?_
  refine bn_gi (pc' := 4) (K := 8802) bu_28_1 rfl rfl (fun _ _ _ => rfl) hP bg_o88 bg_i88_2 rfl rfl ?_
  refine bp_c (pc' := 6) (n := 20) bu_28_4 rfl rfl (fun _ _ _ => rfl) (by decide) (fun c5814 e5815 => ?_)
  refine bp_add (pc' := 7) bu_28_6 rfl (by omega) (by omega) (fun v5816 e5817 => ?_)
  refine bp_c (pc' := 10) (n := 2000) bu_28_7 rfl rfl (fun _ _ _ => rfl) (by decide) (fun c5818 e5819 => ?_)
  refine bp_ic (pc' := 13) (pt := 15) bu_28_10 rfl rfl (fun k5820 => ?_) (fun k5820 => ?_)
  · replace k5820 : (v5816).toInt ≤ (c5818).toInt := k5820
    refine bp_ld (pc' := 16) bu_28_15 rfl rfl (fun _ _ _ => rfl) rfl rfl ?_
    refine bp_ld (pc' := 17) bu_28_16 rfl rfl (fun _ _ _ => rfl) rfl rfl ?_
    refine bn_cvF (pc' := 20) (st := []) (args := [.int w1]) bu_28_17 rfl rfl rfl (by decide) hP bg_o88 (by decide) rfl (Nat.le_of_ble_eq_true rfl) (Nat.le_of_ble_eq_true rfl) ?_
    have hn5 : n ≤ 1980 := by omega
    refine bg_ap (n := n + 0) hP (by have ee := htl; omega) (by omega) (fun h5821 s5822 A5823 hP5824 e5825 f5826 => ?_)
    show bp_G E PO NN ((28, 20, _, [], 0, 0) :: gs, h5821, none)
    refine bp_ld (pc' := 21) bu_28_20 rfl rfl (fun _ _ _ => rfl) rfl rfl ?_
    refine bp_ld (pc' := 22) bu_28_21 rfl rfl (fun _ _ _ => rfl) rfl rfl ?_
    refine bn_cvF (pc' := 25) (st := []) (args := [.int w2]) bu_28_22 rfl rfl rfl (by decide) hP5824 bg_o88 (by decide) rfl (Nat.le_of_ble_eq_true rfl) (Nat.le_of_ble_eq_true rfl) ?_
    refine bg_ap (n := n + 4) hP5824 (by have ee := e5825; omega) (by omega) (fun h5827 s5828 A5829 hP5830 e5831 f5832 => ?_)
    show bp_G E PO NN ((28, 25, _, [], 0, 0) :: gs, h5827, none)
    refine bp_ld (pc' := 26) bu_28_25 rfl rfl (fun _ _ _ => rfl) rfl rfl ?_
    refine bp_ld (pc' := 27) bu_28_26 rfl rfl (fun _ _ _ => rfl) rfl rfl ?_
    refine bn_cvF (pc' := 30) (st := []) (args := [.int w3]) bu_28_27 rfl rfl rfl (by decide) hP5830 bg_o88 (by decide) rfl (Nat.le_of_ble_eq_true rfl) (Nat.le_of_ble_eq_true rfl) ?_
    refine bg_ap (n := n + 8) hP5830 (by have ee := e5831; omega) (by omega) (fun h5833 s5834 A5835 hP5836 e5837 f5838 => ?_)
    show bp_G E PO NN ((28, 30, _, [], 0, 0) :: gs, h5833, none)
    refine bp_ld (pc' := 31) bu_28_30 rfl rfl (fun _ _ _ => rfl) rfl rfl ?_
    refine bp_ld (pc' := 33) bu_28_31 rfl rfl (fun _ _ _ => rfl) rfl rfl ?_
    refine bn_cvF (pc' := 36) (st := []) (args := [.int w4]) bu_28_33 rfl rfl rfl (by decide) hP5836 bg_o88 (by decide) rfl (Nat.le_of_ble_eq_true rfl) (Nat.le_of_ble_eq_true rfl) ?_
    refine bg_ap (n := n + 12) hP5836 (by have ee := e5837; omega) (by omega) (fun h5839 s5840 A5841 hP5842 e5843 f5844 => ?_)
    show bp_G E PO NN ((28, 36, _, [], 0, 0) :: gs, h5839, none)
    refine bp_ld (pc' := 37) bu_28_36 rfl rfl (fun _ _ _ => rfl) rfl rfl ?_
    refine bp_ld (pc' := 39) bu_28_37 rfl rfl (fun _ _ _ => rfl) rfl rfl ?_
    refine bn_cvF (pc' := 42) (st := []) (args := [.int w5]) bu_28_39 rfl rfl rfl (by decide) hP5842 bg_o88 (by decide) rfl (Nat.le_of_ble_eq_true rfl) (Nat.le_of_ble_eq_true rfl) ?_
    refine bg_ap (n := n + 16) hP5842 (by have ee := e5843; omega) (by omega) (fun h5845 s5846 A5847 hP5848 e5849 f5850 => ?_)
    show bp_G E PO NN ((28, 42, _, [], 0, 0) :: gs, h5845, none)
    refine bp_ld (pc' := 43) bu_28_42 rfl rfl (fun _ _ _ => rfl) rfl rfl ?_
    refine bn_gi (pc' := 46) (K := 8802) bu_28_43 rfl rfl (fun _ _ _ => rfl) hP5848 bg_o88 bg_i88_2 rfl rfl ?_
    refine bp_ri bu_28_46 ?_
    have ee := e5849
    exact kk _ _ _ _ hP5848 (fun _ => ⟨by omega, by omega, _, _, _, _, f5826, f5832, f5838, f5844, f5850⟩) (fun h9 => by omega)
  · replace k5820 : ¬ ((v5816).toInt ≤ (c5818).toInt) := k5820
    refine bp_c (pc' := 14) (n := -1) bu_28_13 rfl rfl (fun _ _ _ => rfl) (by decide) (fun c5851 e5852 => ?_)
    refine bp_ri bu_28_14 ?_
    exact kk _ _ _ _ hP (fun h9 => by omega) (fun _ => ⟨by omega, rfl, rfl⟩)
end FBQ
