/-! THE ENGINE IS SOUND, 7: every instruction of the table, every run -/
theorem en_b8 {x : Int} (h1 : -128 ≤ x) (h2 : x < 128) : (Int8.ofInt x).toInt32 = Int32.ofInt x := by
  apply Int32.toInt_inj.mp
  rw [Int8.toInt_toInt32, Int8.toInt_ofInt_of_le (by omega) (by omega), Int32.toInt_ofInt_of_le (by omega) (by omega)]
theorem en_b16 {x : Int} (h1 : -32768 ≤ x) (h2 : x < 32768) : (Int16.ofInt x).toInt32 = Int32.ofInt x := by
  apply Int32.toInt_inj.mp
  rw [Int16.toInt_toInt32, Int16.toInt_ofInt_of_le (by omega) (by omega), Int32.toInt_ofInt_of_le (by omega) (by omega)]
theorem en_nar_b : ∀ k, k < 256 → vp_nar .byte (en_d (2147483520 + k)) = en_d (2147483520 + k) := by decide +kernel
theorem en_nar_z : ∀ k, k < 2 → vp_nar .boolean (en_d (2147483648 + k)) = en_d (2147483648 + k) := by decide +kernel
section ENX
variable {E : mm_E} {kds : List (List Nat)} {P : mm_T} {L : Nat} {ρ : Nat → Int32} {ω : Nat → Value} {h0 : mm_H} {fsC : List mm_F} {FIN : mm_C → Prop}
theorem en_c_v {x : Int} (h1 : -2147483648 ≤ x) (h2 : x < 2147483648) : en_v E ρ ω (en_c x) (.int (Int32.ofInt x)) := by
  unfold en_c
  rw [en_v_const (by omega)]
  unfold en_d
  exact congrArg (fun z => Value.int (Int32.ofInt z)) (by omega)
theorem en_tgt_v {q : Nat} {off : Int} (h : en_tgt (q % 65536) off = true) : 0 ≤ ((q % 65536 : Nat) : Int) + off ∧ (q / 65536 * 65536 + (((q % 65536 : Nat) : Int) + off).toNat) / 65536 = q / 65536 ∧ (q / 65536 * 65536 + (((q % 65536 : Nat) : Int) + off).toNat) % 65536 = (((q % 65536 : Nat) : Int) + off).toNat := by
  unfold en_tgt at h
  simp only [Bool.and_eq_true, decide_eq_true_eq] at h
  omega
/-- loads and stores of rows, by kind -/
theorem en_ald_X {kd kd2 n : Nat} {N : Nat} {I : Int32} {a : Nat} {r : List Value} {cb sb : Nat} {h : mm_H} {lv : mm_V} (hkd : en_kind N = kd + 1 ∨ en_kind N = kd2 + 1) (hlt : kd < 3 ∧ kd2 < 3) (hc : en_cr E ρ ω N h[a]?) (hin : mm_inr I (en_len N) = true) (hj : I.toNatClampNeg < en_len N) : ∃ v, mm_ald E lv (.int I :: .ref (E.1 + a) :: r) cb sb h n kd kd2 = some (n, lv, v :: r, cb, sb, h) ∧ en_v E ρ ω (en_elt N I.toNatClampNeg) v := by
  rcases hc with ⟨t, f, q1, q2, q3, q4⟩ | ⟨f, q1, -⟩ | ⟨f, q1, -⟩ | ⟨c2, fs2, q1, -⟩
  · refine ⟨.int (f I.toNatClampNeg), ?_, q4 _ hj⟩
    unfold mm_ald
    simp only [en_mmcell, q3]
    rw [if_pos ⟨show (t : Nat) = kd ∨ (t : Nat) = kd2 by omega, hin⟩]
  · omega
  · omega
  · omega
theorem en_fit_1 {v : Nat} {V : Value} {k : Nat → Bool} {kind : Nat} (hk : kind = 1 ∨ kind = 2 ∨ kind = 3) (hv : en_v E ρ ω v V) (h : en_fit kind v k = true) : ∃ x v', V = .int x ∧ k v' = true ∧ en_v E ρ ω v' (.int (mm_nar (kind - 1) x)) := by
  unfold en_fit at h
  rcases en_if_or.mp h with ⟨a1, k1⟩ | ⟨a1, k1⟩
  · obtain ⟨a2, k2⟩ := en_if_and.mp k1
    obtain ⟨x, rfl⟩ := en_isI_int a2 hv
    refine ⟨x, v, rfl, k2, ?_⟩
    rw [en_beq_t.mp a1]
    exact hv
  · have a1 := en_beq_f.mp a1
    rcases en_if_or.mp k1 with ⟨a2, k2⟩ | ⟨-, k2⟩
    · have := en_beq_t.mp a2
      omega
    · rcases en_if_or.mp k2 with ⟨a3, k3⟩ | ⟨a3, k3⟩
      · have a3 := en_beq_t.mp a3
        subst a3
        rcases en_if_or.mp k3 with ⟨a4, k4⟩ | ⟨a4, k4⟩
        · obtain ⟨b1, k5⟩ := en_if_and.mp k4
          obtain ⟨b2, k6⟩ := en_if_and.mp k5
          have a4 := en_ble_t.mp a4
          have b1 := en_ble_t.mp b1
          have b2 := en_ble_t.mp b2
          have e := (en_v_const (by omega)).mp hv
          refine ⟨_, v, e, k6, ?_⟩
          rw [en_v_const (by omega)]
          have := en_nar_z (v - 2147483648) (by omega)
          rw [show 2147483648 + (v - 2147483648) = v by omega] at this
          exact congrArg Value.int this
        · obtain ⟨b1, k5⟩ := en_if_and.mp k4
          obtain ⟨x, rfl⟩ := en_isI_int b1 hv
          exact ⟨x, _, rfl, k5, en_any_v _⟩
      · obtain ⟨a5, k4⟩ := en_if_and.mp k3
        have a5 := en_beq_t.mp a5
        subst a5
        rcases en_if_or.mp k4 with ⟨a4, k4⟩ | ⟨a4, k4⟩
        · obtain ⟨b1, k5⟩ := en_if_and.mp k4
          obtain ⟨b2, k6⟩ := en_if_and.mp k5
          have a4 := en_ble_t.mp a4
          have b1 := en_ble_t.mp b1
          have b2 := en_ble_t.mp b2
          have e := (en_v_const (by omega)).mp hv
          refine ⟨_, v, e, k6, ?_⟩
          rw [en_v_const (by omega)]
          have := en_nar_b (v - 2147483520) (by omega)
          rw [show 2147483520 + (v - 2147483520) = v by omega] at this
          exact congrArg Value.int this
        · obtain ⟨b1, k5⟩ := en_if_and.mp k4
          obtain ⟨x, rfl⟩ := en_isI_int b1 hv
          exact ⟨x, _, rfl, k5, en_any_v _⟩
theorem en_ast_X {kd kd2 n : Nat} {lv : mm_V} {V : Value} {v : Nat} {k : Nat → Bool} {I : Int32} {a : Nat} {r : List Value} {cb sb : Nat} {h : mm_H} {N : Nat} (hkd : en_kind N = kd + 1 ∨ en_kind N = kd2 + 1) (hlt : kd < 3 ∧ kd2 < 3) (hc : en_cr E ρ ω N h[a]?) (hv : en_v E ρ ω v V) (hf : en_fit (en_kind N) v k = true) : ∃ v', k v' = true ∧ (mm_inr I (en_len N) = true → I.toNatClampNeg < en_len N → ∃ e', mm_ast E lv (V :: .int I :: .ref (E.1 + a) :: r) cb sb h n kd kd2 = some (n, lv, r, cb, sb, h.set a e') ∧ en_cr E ρ ω (en_eset N I.toNatClampNeg v') (some e')) := by
  obtain ⟨x, v', rfl, h1, h2⟩ := en_fit_1 (by omega) hv hf
  refine ⟨v', h1, fun hin hj => ?_⟩
  rcases hc with ⟨t, f, q1, q2, q3, q4⟩ | ⟨f, q1, -⟩ | ⟨f, q1, -⟩ | ⟨c2, fs2, q1, -⟩
  · refine ⟨.inl (t, en_len N, .inl (upd f I.toNatClampNeg (mm_nar t x))), ?_, Or.inl ⟨t, upd f I.toNatClampNeg (mm_nar t x), by rw [en_eset_kind]; exact q1, q2, by rw [en_eset_len], fun j hj2 => ?_⟩⟩
    · unfold mm_ast
      simp only [en_mmcell, q3]
      rw [if_pos ⟨show (t : Nat) = kd ∨ (t : Nat) = kd2 by omega, hin⟩, Nat.add_sub_cancel_left]
    · rw [en_eset_len] at hj2
      rw [en_elt_eset (en_v_68 h2)]
      by_cases hji : j = I.toNatClampNeg
      · rw [if_pos hji]
        have e : upd f I.toNatClampNeg (mm_nar t x) j = mm_nar t x := by rw [hji]; exact pk_us
        rw [e]
        rw [q1] at h2
        exact h2
      · rw [if_neg hji, pk_un hji]
        exact q4 j hj2
  · omega
  · omega
  · omega
theorem en_last_X {n : Nat} {lv : mm_V} {V : Value} {v : Nat} {k : Nat → Bool} {I : Int32} {a : Nat} {r : List Value} {cb sb : Nat} {h : mm_H} {N : Nat} (hkd : en_kind N = 4) (hc : en_cr E ρ ω N h[a]?) (hv : en_v E ρ ω v V) (hf : en_fit (en_kind N) v k = true) : ∃ v', k v' = true ∧ (mm_inr I (en_len N) = true → I.toNatClampNeg < en_len N → ∃ e', mm_last E lv (V :: .int I :: .ref (E.1 + a) :: r) cb sb h n = some (n, lv, r, cb, sb, h.set a e') ∧ en_cr E ρ ω (en_eset N I.toNatClampNeg v') (some e')) := by
  rw [hkd] at hf
  have hf2 : en_if (en_isL v) (k v) false = true := hf
  obtain ⟨a1, k1⟩ := en_if_and.mp hf2
  obtain ⟨x, rfl⟩ := en_isL_long a1 hv
  refine ⟨v, k1, fun hin hj => ?_⟩
  rcases hc with ⟨t, f, q1, q2, q3, q4⟩ | ⟨f, q1, q3, q4⟩ | ⟨f, q1, -⟩ | ⟨c2, fs2, q1, -⟩
  · omega
  · refine ⟨.inl (3, en_len N, .inr (.inl (vp_updL f I.toNatClampNeg x))), ?_, Or.inr (Or.inl ⟨vp_updL f I.toNatClampNeg x, by rw [en_eset_kind]; exact q1, by rw [en_eset_len], fun j hj2 => ?_⟩)⟩
    · unfold mm_last
      simp only [en_mmcell, q3]
      rw [if_pos ⟨trivial, hin⟩, Nat.add_sub_cancel_left]
    · rw [en_eset_len] at hj2
      rw [en_elt_eset (en_v_68 hv)]
      by_cases hji : j = I.toNatClampNeg
      · rw [if_pos hji, hji, pk_uLs]
        exact hv
      · rw [if_neg hji, pk_uLn hji]
        exact q4 j hj2
  · omega
  · omega
theorem en_lald_X {n : Nat} {N : Nat} {I : Int32} {a : Nat} {r : List Value} {cb sb : Nat} {h : mm_H} {lv : mm_V} (hkd : en_kind N = 4) (hc : en_cr E ρ ω N h[a]?) (hin : mm_inr I (en_len N) = true) (hj : I.toNatClampNeg < en_len N) : ∃ v, mm_lald E lv (.int I :: .ref (E.1 + a) :: r) cb sb h n = some (n, lv, v :: r, cb, sb, h) ∧ en_v E ρ ω (en_elt N I.toNatClampNeg) v := by
  rcases hc with ⟨t, f, q1, q2, q3, q4⟩ | ⟨f, q1, q3, q4⟩ | ⟨f, q1, -⟩ | ⟨c2, fs2, q1, -⟩
  · omega
  · refine ⟨.long (f I.toNatClampNeg), ?_, q4 _ hj⟩
    unfold mm_lald
    simp only [en_mmcell, q3]
    rw [if_pos ⟨trivial, hin⟩]
  · omega
  · omega
theorem en_aald_X {n : Nat} {N : Nat} {I : Int32} {a : Nat} {r : List Value} {cb sb : Nat} {h : mm_H} {lv : mm_V} (hkd : en_kind N = 5) (hc : en_cr E ρ ω N h[a]?) (hin : mm_inr I (en_len N) = true) (hj : I.toNatClampNeg < en_len N) : ∃ v, mm_aald E lv (.int I :: .ref (E.1 + a) :: r) cb sb h n = some (n, lv, v :: r, cb, sb, h) ∧ en_v E ρ ω (en_elt N I.toNatClampNeg) v := by
  rcases hc with ⟨t, f, q1, q2, q3, q4⟩ | ⟨f, q1, q3, q4⟩ | ⟨f, q1, q3, q4⟩ | ⟨c2, fs2, q1, -⟩
  · omega
  · omega
  · refine ⟨va_rf (f I.toNatClampNeg), ?_, q4 _ hj⟩
    unfold mm_aald
    simp only [en_mmcell, q3]
    rw [if_pos ⟨trivial, hin⟩]
  · omega
set_option maxHeartbeats 4000000 in
set_option maxRecDepth 100000 in
theorem en_comp_v {SA : List (Nat × Nat)} (hSA : en_SA E ρ ω SA) {fin : List Nat → en_H → en_W → Bool} (hfin : en_FS E kds P L ρ ω h0 fsC FIN fin) (hPn : ∀ (k : Nat) (cs : List (List mm_I)) (nL : Nat) (dd : mm_M), P[k]? = some (cs, nL, dd) → nL < 16777216) {q len a b wd nL np kd ci rk mc ms : Nat} {z : Int} {ins : Instr} {q0 : Nat} (hat : mm_at P (q / 65536) (q % 65536) = some ((q0, len, ins, a, b, z, wd), nL, (np, kd, ci, rk, mc, ms))) (hlen : q % 65536 + len < 65536) {o : en_O}
    (hc : en_comp SA fin kds P (q / 65536) (q % 65536) nL rk ins len a b z q (q + len) (fun off => q / 65536 * 65536 + (((q % 65536 : Nat) : Int) + off).toNat) = some o) : en_OS E kds P L ρ ω h0 fsC FIN q o := by
  obtain ⟨cs, hP, -, -⟩ := rf_mmat hat
  have hn1 : (q + len) / 65536 = q / 65536 := by omega
  have hn2 : (q + len) % 65536 = q % 65536 + len := by omega
  cases ins
  case iconst x =>
    simp only [en_comp] at hc
    split at hc <;> cases hc
    rename_i hr
    exact en_O_push hP (en_step1 hat rfl rfl) hn1 (en_c_v hr.1 hr.2) (fun lv sv cb sb h => by simp only [mm_ex, hn2])
  case bipush x =>
    simp only [en_comp] at hc
    split at hc <;> cases hc
    rename_i hr
    exact en_O_push hP (en_step1 hat rfl rfl) hn1 (en_c_v (by omega) (by omega)) (fun lv sv cb sb h => by simp only [mm_ex, hn2, en_b8 hr.1 hr.2])
  case sipush x =>
    simp only [en_comp] at hc
    split at hc <;> cases hc
    rename_i hr
    exact en_O_push hP (en_step1 hat rfl rfl) hn1 (en_c_v (by omega) (by omega)) (fun lv sv cb sb h => by simp only [mm_ex, hn2, en_b16 hr.1 hr.2])
  case ldc x =>
    simp only [en_comp] at hc
    split at hc
    · rename_i ha
      split at hc <;> cases hc
      rename_i hr
      exact en_O_push hP (en_step1 hat rfl rfl) hn1 (en_c_v hr.1 hr.2) (fun lv sv cb sb h => by simp only [mm_ex, hn2, if_pos ha])
    · obtain ⟨q4, q5, q6, q7, e4, e5, e6, e7, -⟩ := hSA.1
      split at hc
      · rename_i ha
        cases hc
        subst ha
        exact en_O_push (v := .ref q4.1) hP (en_step1 hat rfl rfl) hn1 ((en_v_stat (by decide) (by decide)).mpr ⟨q4, e4, rfl⟩) (fun lv sv cb sb h => by
          have e4 : E.2[2 + 2 * 1]? = some q4 := e4
          simp only [mm_ex, hn2, e4]
          rfl)
      · split at hc
        · rename_i ha
          cases hc
          subst ha
          exact en_O_push (v := .ref q6.1) hP (en_step1 hat rfl rfl) hn1 ((en_v_stat (by decide) (by decide)).mpr ⟨q6, e6, rfl⟩) (fun lv sv cb sb h => by
            have e6 : E.2[2 + 2 * 2]? = some q6 := e6
            simp only [mm_ex, hn2, e6]
            rfl)
        · cases hc
  case ldc_w x =>
    simp only [en_comp] at hc
    split at hc <;> cases hc
    rename_i hr
    exact en_O_push hP (en_step1 hat rfl rfl) hn1 (en_c_v hr.1 hr.2) (fun lv sv cb sb h => by simp only [mm_ex, hn2])
  case lconst x =>
    cases hc
    have hx := x.isLt
    refine en_O_push (v := .long (Int64.ofNat (x : Nat))) hP (en_step1 hat rfl rfl) hn1 ?_ (fun lv sv cb sb h => by simp only [mm_ex, hn2])
    rw [en_v_long (by omega) (by omega), Nat.add_sub_cancel_left]
  case ldc2_w x =>
    simp only [en_comp] at hc
    split at hc <;> cases hc
    rename_i hr
    refine en_O_push (v := .long (Int64.ofInt z)) hP (en_step1 hat rfl rfl) hn1 ?_ (fun lv sv cb sb h => by simp only [mm_ex, hn2])
    rw [en_v_long (by omega) (by omega), Nat.add_sub_cancel_left]
    have e : z = ((z.toNat : Nat) : Int) := (Int.toNat_of_nonneg hr.1).symm
    have e2 : Int64.ofInt ((z.toNat : Nat) : Int) = Int64.ofNat z.toNat := Int64.ofInt_eq_ofNat
    rw [← e2, ← e]
  case iload_n k =>
    simp only [en_comp] at hc
    split at hc <;> cases hc
    rename_i hr
    exact en_O_load hP (en_step1 hat rfl rfl) hn1 hr (fun c v h1 h2 => by obtain ⟨x, rfl⟩ := en_isI_int h1 h2; rfl) (by decide) (fun lv sv cb sb h => by simp only [mm_ex, hn2])
  case iload k =>
    simp only [en_comp] at hc
    split at hc <;> cases hc
    rename_i hr
    exact en_O_load hP (en_step1 hat rfl rfl) hn1 hr (fun c v h1 h2 => by obtain ⟨x, rfl⟩ := en_isI_int h1 h2; rfl) (by decide) (fun lv sv cb sb h => by simp only [mm_ex, hn2])
  case lload_n k =>
    simp only [en_comp] at hc
    split at hc <;> cases hc
    rename_i hr
    exact en_O_load hP (en_step1 hat rfl rfl) hn1 hr (fun c v h1 h2 => by obtain ⟨x, rfl⟩ := en_isL_long h1 h2; rfl) (by decide) (fun lv sv cb sb h => by simp only [mm_ex, hn2])
  case lload k =>
    simp only [en_comp] at hc
    split at hc <;> cases hc
    rename_i hr
    exact en_O_load hP (en_step1 hat rfl rfl) hn1 hr (fun c v h1 h2 => by obtain ⟨x, rfl⟩ := en_isL_long h1 h2; rfl) (by decide) (fun lv sv cb sb h => by simp only [mm_ex, hn2])
  case aload_n k =>
    simp only [en_comp] at hc
    split at hc <;> cases hc
    rename_i hr
    exact en_O_load hP (en_step1 hat rfl rfl) hn1 hr (fun c v h1 h2 => by obtain ⟨x, rfl⟩ := en_isR_ref h1 h2; rfl) (by decide) (fun lv sv cb sb h => by simp only [mm_ex, hn2])
  case aload k =>
    simp only [en_comp] at hc
    split at hc <;> cases hc
    rename_i hr
    exact en_O_load hP (en_step1 hat rfl rfl) hn1 hr (fun c v h1 h2 => by obtain ⟨x, rfl⟩ := en_isR_ref h1 h2; rfl) (by decide) (fun lv sv cb sb h => by simp only [mm_ex, hn2])
  case istore_n k =>
    simp only [en_comp] at hc
    split at hc <;> cases hc
    rename_i hr
    exact en_O_store (kd := 0) hP (en_step1 hat rfl rfl) hn1 hr (by decide) (fun c v h1 h2 => by obtain ⟨x, rfl⟩ := en_isI_int h1 h2; rfl) (fun lv sv cb sb h => by simp only [mm_ex, hn2])
  case istore k =>
    simp only [en_comp] at hc
    split at hc <;> cases hc
    rename_i hr
    exact en_O_store (kd := 0) hP (en_step1 hat rfl rfl) hn1 hr (by decide) (fun c v h1 h2 => by obtain ⟨x, rfl⟩ := en_isI_int h1 h2; rfl) (fun lv sv cb sb h => by simp only [mm_ex, hn2])
  case astore_n k =>
    simp only [en_comp] at hc
    split at hc <;> cases hc
    rename_i hr
    exact en_O_store (kd := 2) hP (en_step1 hat rfl rfl) hn1 hr (by decide) (fun c v h1 h2 => by obtain ⟨x, rfl⟩ := en_isR_ref h1 h2; rfl) (fun lv sv cb sb h => by simp only [mm_ex, hn2])
  case astore k =>
    simp only [en_comp] at hc
    split at hc <;> cases hc
    rename_i hr
    exact en_O_store (kd := 2) hP (en_step1 hat rfl rfl) hn1 hr (by decide) (fun c v h1 h2 => by obtain ⟨x, rfl⟩ := en_isR_ref h1 h2; rfl) (fun lv sv cb sb h => by simp only [mm_ex, hn2])
  case lstore_n k =>
    simp only [en_comp] at hc
    split at hc <;> cases hc
    rename_i hr
    exact en_O_storeL hP (en_step1 hat rfl rfl) hn1 hr (fun lv sv cb sb h => by simp only [mm_ex, hn2])
  case lstore k =>
    simp only [en_comp] at hc
    split at hc <;> cases hc
    rename_i hr
    exact en_O_storeL hP (en_step1 hat rfl rfl) hn1 hr (fun lv sv cb sb h => by simp only [mm_ex, hn2])
  case iinc i x =>
    simp only [en_comp] at hc
    split at hc <;> cases hc
    rename_i hr
    exact en_O_iinc hP (en_step1 hat rfl rfl) hn1 hr.1 hr.2.1 hr.2.2 (fun lv sv cb sb h => by simp only [mm_ex, hn2]; cases mm_get lv i with
      | none => rfl
      | some v => cases v <;> rfl)
  case iadd => cases hc; exact en_O_bin hP (en_step1 hat rfl rfl) hn1 en_add_G (fun lv sv cb sb h => by simp only [mm_ex, hn2])
  case isub => cases hc; exact en_O_bin hP (en_step1 hat rfl rfl) hn1 en_sub_G (fun lv sv cb sb h => by simp only [mm_ex, hn2])
  case imul => cases hc; exact en_O_bin hP (en_step1 hat rfl rfl) hn1 en_mulX_G (fun lv sv cb sb h => by simp only [mm_ex, hn2])
  case idiv => cases hc; exact en_O_bin hP (en_step1 hat rfl rfl) hn1 en_divX_G (fun lv sv cb sb h => by simp only [mm_ex, hn2])
  case irem => cases hc; exact en_O_bin hP (en_step1 hat rfl rfl) hn1 en_remX_G (fun lv sv cb sb h => by simp only [mm_ex, hn2])
  case iand => cases hc; exact en_O_bin hP (en_step1 hat rfl rfl) hn1 en_andX_G (fun lv sv cb sb h => by simp only [mm_ex, hn2])
  case ior => cases hc; exact en_O_bin hP (en_step1 hat rfl rfl) hn1 en_or_G (fun lv sv cb sb h => by simp only [mm_ex, hn2])
  case ishl => cases hc; exact en_O_bin hP (en_step1 hat rfl rfl) hn1 en_shl_G (fun lv sv cb sb h => by simp only [mm_ex, hn2])
  case ishr => cases hc; exact en_O_bin hP (en_step1 hat rfl rfl) hn1 en_shr_G (fun lv sv cb sb h => by simp only [mm_ex, hn2])
  case iushr => cases hc; exact en_O_bin hP (en_step1 hat rfl rfl) hn1 en_ushr_G (fun lv sv cb sb h => by simp only [mm_ex, hn2])
  case ixor => cases hc; exact en_O_bin hP (en_step1 hat rfl rfl) hn1 en_xor_G (fun lv sv cb sb h => by simp only [mm_ex, hn2])
  case ineg => cases hc; exact en_O_un (r := fun x => -x) hP (en_step1 hat rfl rfl) hn1 (fun lv sv cb sb h => by simp only [mm_ex, hn2])
  case i2b => cases hc; exact en_O_unR (r := fun x => x.toInt8.toInt32) (lo := 2147483520) (hi := 2147483775) (hr := en_b_rng) (hhi := by decide) hP (en_step1 hat rfl rfl) hn1 (fun lv sv cb sb h => by simp only [mm_ex, hn2])
  case i2c => cases hc; exact en_O_unR (r := fun x => (x.toUInt32 % 65536).toInt32) (lo := 2147483648) (hi := 2147549183) (hr := en_c_rng) (hhi := by decide) hP (en_step1 hat rfl rfl) hn1 (fun lv sv cb sb h => by simp only [mm_ex, hn2])
  case i2l => cases hc; exact en_O_i2l hP (en_step1 hat rfl rfl) hn1 (fun lv sv cb sb h => by simp only [mm_ex, hn2])
  case ladd => cases hc; exact en_O_binL (r := fun x y => x + y) hP (en_step1 hat rfl rfl) hn1 (fun a b => lN_add a b) (fun lv sv cb sb h => by simp only [mm_ex, hn2])
  case lmul => cases hc; exact en_O_binL (r := fun x y => x * y) hP (en_step1 hat rfl rfl) hn1 (fun a b => lN_mul a b) (fun lv sv cb sb h => by simp only [mm_ex, hn2])
  case lcmp => cases hc; exact en_O_lcmp (r := fun x y => lg_cmp x y) hP (en_step1 hat rfl rfl) hn1 (fun lv sv cb sb h => by simp only [mm_ex, hn2])
  case l2i => cases hc; exact en_O_l2i hP (en_step1 hat rfl rfl) hn1 (fun lv x sv cb sb h => by simp only [mm_ex, hn2])
  case dup => cases hc; exact en_O_dup hP (en_step1 hat rfl rfl) hn1 (fun lv v sv cb sb h hv => by simp only [mm_ex, hn2]; rw [if_pos hv])
  case pop => cases hc; exact en_O_drop hP (en_step1 hat rfl rfl) hn1 (fun lv v sv cb sb h hv => by simp only [mm_ex, hn2]; rw [if_pos hv])
  case dup2 => cases hc; exact en_O_dup2 hP (en_step1 hat rfl rfl) hn1 (fun lv v u sv cb sb h hv => by simp only [mm_ex, hn2]; rw [if_pos hv])
  case if_icmp k off =>
    simp only [en_comp] at hc
    split at hc <;> cases hc
    rename_i hr
    obtain ⟨t1, t2, t3⟩ := en_tgt_v hr
    exact en_O_icmp hP (en_step1 hat rfl rfl) hn1 t2 (fun lv x y sv cb sb h => by simp only [mm_ex, mm_jump, hn2, t3]; rw [if_pos t1])
  case ifCond k off =>
    simp only [en_comp] at hc
    split at hc <;> cases hc
    rename_i hr
    obtain ⟨t1, t2, t3⟩ := en_tgt_v hr
    exact en_O_if0 hP (en_step1 hat rfl rfl) hn1 t2 (fun lv x sv cb sb h => by simp only [mm_ex, mm_jump, hn2, t3]; rw [if_pos t1])
  case goto off =>
    simp only [en_comp] at hc
    split at hc <;> cases hc
    rename_i hr
    obtain ⟨t1, t2, t3⟩ := en_tgt_v hr
    exact en_O_goto hP (en_step1 hat rfl rfl) t2 (fun lv sv cb sb h => by simp only [mm_ex, mm_jump, t3]; rw [if_pos t1])
  case tableswitch dflt lo hi offs =>
    simp only [en_comp] at hc
    split at hc <;> cases hc
    rename_i hr
    obtain ⟨r1, r2, r3, r4, r5, r6⟩ := hr
    obtain ⟨t1, t2, t3⟩ := en_tgt_v r5
    have r6 := List.all_eq_true.mp r6
    have ecl : ((en_c lo : Nat) : Int) = lo + 2147483648 := by unfold en_c; omega
    refine en_O_sw hP (en_step1 hat rfl rfl) t2 (fun x hx => ?_) (by omega) (by simp; omega) (fun lv I sv cb sb h hI => ?_) (fun lv I sv cb sb h t h1 h2 ht => ?_)
    · obtain ⟨off, ho, rfl⟩ := List.mem_map.mp hx
      exact (en_tgt_v (r6 off ho)).2.1
    · have hz := en_z_int I
      simp only [mm_ex, mm_sw, mm_jump, t3]
      rw [if_pos (by omega), if_pos t1]
    · have hz := en_z_int I
      simp only [mm_ex, mm_sw]
      rw [if_neg (by omega)]
      rw [List.getElem?_map] at ht
      have ei : en_z I - en_c lo = (I.toInt - lo).toNat := by omega
      rw [ei] at ht
      cases hof : offs.toList[(I.toInt - lo).toNat]? with
      | none => rw [hof] at ht; cases ht
      | some off =>
        rw [hof] at ht
        cases ht
        rw [Array.getElem?_toList] at hof
        obtain ⟨u1, u2, u3⟩ := en_tgt_v (r6 off (List.mem_of_getElem? (by rw [Array.getElem?_toList]; exact hof)))
        rw [hof]
        simp only [mm_jump]
        rw [if_pos u1, u3]
  case getstatic i =>
    simp only [en_comp] at hc
    split at hc
    · rename_i h9
      cases hc
      exact en_O_push (v := .int 1) hP (en_step1 hat rfl rfl) hn1 ((en_v_const (by decide)).mpr rfl) (fun lv sv cb sb h => by simp only [mm_ex, hn2, if_pos h9])
    rename_i h9
    split at hc <;> cases hc
    rename_i hr
    have hsa : SA[a]? = some SA[a] := List.getElem?_eq_getElem hr.2
    obtain ⟨qq, q', g1, -⟩ := hSA.2 a SA[a].1 SA[a].2 hsa
    have h8 : ¬ a = 8 := by omega
    refine en_O_push (v := .ref qq.1) hP (en_step1 hat rfl rfl) hn1 ?_ (fun lv sv cb sb h => by simp only [mm_ex, hn2, if_neg h9, if_neg h8, g1])
    rw [en_v_stat (by omega) (by omega), Nat.add_sub_cancel_left]
    exact ⟨qq, g1, rfl⟩
  case iaload =>
    cases hc
    refine en_O_aloadX hP (en_step1 hat rfl rfl) hn1 hSA (by decide) (fun lv I a2 r cb sb h N ht hcr hin hj => ?_) (fun _ lv I a2 r cb sb h q' hlt hst hin => ?_)
    · simp only [mm_ex, ← hn2]
      exact en_ald_X (Or.inl (by have := en_beq_t.mp ht; omega)) (by decide) hcr hin hj
    · have e1 : mm_cell E h a2 = none := by unfold mm_cell; rw [if_neg (by omega)]
      simp only [mm_ex, mm_ald, e1, if_true, hst, hn2]
      rw [if_pos hin]
  case baload =>
    cases hc
    have hold : en_OS E kds P L ρ ω h0 fsC FIN q (en_aloadX SA (fun k => en_if (Nat.beq k 2) true (Nat.beq k 3)) q (q + len)) := by
      refine en_O_aloadX hP (en_step1 hat rfl rfl) hn1 hSA (by decide) (fun lv I a2 r cb sb h N ht hcr hin hj => ?_) (fun ht => absurd ht (by decide))
      simp only [mm_ex, ← hn2]
      refine en_ald_X ?_ (by decide) hcr hin hj
      rcases en_if_or.mp ht with ⟨a1, -⟩ | ⟨-, a1⟩
      · have := en_beq_t.mp a1; omega
      · have := en_beq_t.mp a1; omega
    intro loc st hp w ih c0 hih hk hR
    rcases en_if_or.mp (show en_if (en_isB st) (en_balB (q + len) loc st hp w ih) (en_aloadX SA (fun k => en_if (Nat.beq k 2) true (Nat.beq k 3)) q (q + len) loc st hp w ih) = true from hk) with ⟨-, hk⟩ | ⟨-, hk⟩
    · exact en_O_balB hP (en_step1 hat rfl rfl) hn1 hSA.1 (fun lv sv cb sb h => by simp only [mm_ex, hn2]) loc st hp w ih c0 hih hk hR
    · exact hold loc st hp w ih c0 hih hk hR
  case laload =>
    cases hc
    refine en_O_aloadX hP (en_step1 hat rfl rfl) hn1 hSA (by decide) (fun lv I a2 r cb sb h N ht hcr hin hj => ?_) (fun ht => absurd ht (by decide))
    simp only [mm_ex, ← hn2]
    exact en_lald_X (en_beq_t.mp ht) hcr hin hj
  case aaload =>
    cases hc
    refine en_O_aloadX hP (en_step1 hat rfl rfl) hn1 hSA (by decide) (fun lv I a2 r cb sb h N ht hcr hin hj => ?_) (fun ht => absurd ht (by decide))
    simp only [mm_ex, ← hn2]
    exact en_aald_X (en_beq_t.mp ht) hcr hin hj
  case iastore =>
    cases hc
    refine en_O_astoreX hP (en_step1 hat rfl rfl) hn1 (by decide) (fun lv V v k I a2 r cb sb h N ht hcr hv hf => ?_)
    simp only [mm_ex, ← hn2]
    exact en_ast_X (Or.inl (by have := en_beq_t.mp ht; omega)) (by decide) hcr hv hf
  case bastore =>
    cases hc
    refine en_O_astoreX hP (en_step1 hat rfl rfl) hn1 (by decide) (fun lv V v k I a2 r cb sb h N ht hcr hv hf => ?_)
    simp only [mm_ex, ← hn2]
    refine en_ast_X ?_ (by decide) hcr hv hf
    rcases en_if_or.mp ht with ⟨a1, -⟩ | ⟨-, a1⟩
    · have := en_beq_t.mp a1; omega
    · have := en_beq_t.mp a1; omega
  case lastore =>
    cases hc
    refine en_O_astoreX hP (en_step1 hat rfl rfl) hn1 (by decide) (fun lv V v k I a2 r cb sb h N ht hcr hv hf => ?_)
    simp only [mm_ex, ← hn2]
    exact en_last_X (en_beq_t.mp ht) hcr hv hf
  case arraylength =>
    simp only [en_comp] at hc
    split at hc
    · rename_i ha
      cases hc
      subst ha
      exact en_O_alen hP (en_step1 hat rfl rfl) hn1 hSA (fun lv sv cb sb h => by simp only [mm_ex, hn2])
    · rename_i ha
      cases hc
      exact en_O_alenB hP (en_step1 hat rfl rfl) hn1 hSA.1 ha (fun lv sv cb sb h => by simp only [mm_ex, hn2])
  case getfield i =>
    simp only [en_comp] at hc
    split at hc
    · rename_i ha
      cases hc
      exact en_O_gets hP (en_step1 hat rfl rfl) hn1 hSA.1 (fun lv sv cb sb h => by simp only [mm_ex, hn2, if_pos ha])
    · rename_i ha
      cases hc
      exact en_O_getf hP (en_step1 hat rfl rfl) hn1 (fun lv sv cb sb h => by simp only [mm_ex, hn2, if_neg ha])
  case putfield i =>
    simp only [en_comp] at hc
    split at hc
    · rename_i l hl
      split at hc
      · rename_i kd2 hkd2
        cases hc
        exact en_O_putf hP (en_step1 hat rfl rfl) hn1 (fun lv sv cb sb h => by simp only [mm_ex, hn2, hl, hkd2])
      · cases hc
    · cases hc
  case new i =>
    simp only [en_comp] at hc
    split at hc
    · rename_i ha
      split at hc
      · rename_i l hl
        split at hc
        · rename_i hll
          cases hc
          exact en_O_newo hP (en_step1 hat rfl rfl) hn1 ha hll (fun lv sv cb sb h => by simp only [mm_ex, hn2, hl])
        · cases hc
      · cases hc
    · cases hc
  case newarray t =>
    cases t <;> simp only [en_comp, reduceCtorEq] at hc <;> cases hc
    · refine en_O_newa (mk := fun m => .inl (2, m, .inl (fun _ => 0))) hP (en_step1 hat rfl rfl) hn1 (by decide) (by decide) (fun N m hm h1 h2 h3 => Or.inl ⟨2, fun _ => 0, h1, by decide, by rw [h2], fun j hj => ?_⟩) (fun lv I sv cb sb h hI => by simp only [mm_ex, mm_newa, hn2]; rw [if_pos hI])
      rw [h3 j (by omega), en_v_const (by decide), en_d_zero]
    · refine en_O_newa (mk := fun m => .inl (1, m, .inl (fun _ => 0))) hP (en_step1 hat rfl rfl) hn1 (by decide) (by decide) (fun N m hm h1 h2 h3 => Or.inl ⟨1, fun _ => 0, h1, by decide, by rw [h2], fun j hj => ?_⟩) (fun lv I sv cb sb h hI => by simp only [mm_ex, mm_newa, hn2]; rw [if_pos hI])
      rw [h3 j (by omega), en_v_const (by decide), en_d_zero]
    · refine en_O_newa (mk := fun m => .inl (0, m, .inl (fun _ => 0))) hP (en_step1 hat rfl rfl) hn1 (by decide) (by decide) (fun N m hm h1 h2 h3 => Or.inl ⟨0, fun _ => 0, h1, by decide, by rw [h2], fun j hj => ?_⟩) (fun lv I sv cb sb h hI => by simp only [mm_ex, mm_newa, hn2]; rw [if_pos hI])
      rw [h3 j (by omega), en_v_const (by decide), en_d_zero]
    · refine en_O_newa (mk := fun m => .inl (3, m, .inr (.inl (fun _ => 0)))) hP (en_step1 hat rfl rfl) hn1 (by decide) (by decide) (fun N m hm h1 h2 h3 => Or.inr (Or.inl ⟨fun _ => 0, h1, by rw [h2], fun j hj => ?_⟩)) (fun lv I sv cb sb h hI => by simp only [mm_ex, mm_newa, hn2]; rw [if_pos hI])
      rw [h3 j (by omega), en_v_long (by decide) (by decide)]
      rfl
  case multianewarray i dims =>
    rcases dims with _ | _ | _ | dims
    · cases hc
    · cases hc
    · cases hc
      exact en_O_mna hP (en_step1 hat rfl rfl) hn1 (fun lv sv cb sb h => by simp only [mm_ex, hn2])
    · cases hc
  case return_ => cases hc; exact en_O_ret hP hat rfl rfl hfin
  case ireturn => cases hc; exact en_O_ret hP hat rfl rfl hfin
  case lreturn => cases hc; exact en_O_ret hP hat rfl rfl hfin
  case invokestatic i =>
    simp only [en_comp] at hc
    split at hc
    · rename_i ha
      cases hc
      subst ha
      exact en_O_copy hP hat rfl hn1 hn2
    · split at hc
      · cases hc
      · rename_i ha
        split at hc
        · rename_i cs1 nL1 np1 kd1 ci1 rk1 mc1 ms1 hPa
          split at hc
          · rename_i hkd
            cases hc
            subst hkd
            exact en_O_call hP hat rfl ha hn1 hn2 hPa (hPn _ _ _ _ hPa) hSA.1
          · cases hc
        · cases hc
  case invokevirtual i =>
    simp only [en_comp] at hc
    split at hc
    · cases hc
    · rename_i ha
      split at hc
      · rename_i cs1 nL1 np1 kd1 ci1 rk1 mc1 ms1 hPa
        split at hc
        · rename_i hkd
          cases hc
          subst hkd
          exact en_O_call hP hat rfl ha hn1 hn2 hPa (hPn _ _ _ _ hPa) hSA.1
        · cases hc
      · cases hc
  case invokespecial i =>
    simp only [en_comp] at hc
    split at hc
    · rename_i ha
      cases hc
      subst ha
      exact en_O_oinit hP hat rfl hn1 hn2
    · split at hc
      · cases hc
      · rename_i ha
        split at hc
        · rename_i cs1 nL1 np1 kd1 ci1 rk1 mc1 ms1 hPa
          split at hc
          · rename_i hkd
            cases hc
            subst hkd
            exact en_O_call hP hat rfl ha hn1 hn2 hPa (hPn _ _ _ _ hPa) hSA.1
          · cases hc
        · cases hc
  all_goals (exact absurd hc (by simp [en_comp]))
theorem en_run_v {SA : List (Nat × Nat)} (hSA : en_SA E ρ ω SA) {fin : List Nat → en_H → en_W → Bool} (hfin : en_FS E kds P L ρ ω h0 fsC FIN fin) (hPn : ∀ (k : Nat) (cs : List (List mm_I)) (nL : Nat) (dd : mm_M), P[k]? = some (cs, nL, dd) → nL < 16777216) {tb : en_T} (htb : ∀ q hk o, tb q = some hk → en_OS E kds P L ρ ω h0 fsC FIN q o → en_OS E kds P L ρ ω h0 fsC FIN q (hk o)) (n : Nat) : en_S E kds P L ρ ω h0 fsC FIN (en_run SA fin kds P tb n) := by
  induction n with
  | zero => intro q loc st hp w c h; cases h
  | succ n ih =>
    intro q loc st hp w c h hR
    cases q with
    | zero => cases h
    | succ q =>
      have h9 : (Option.rec (motive := fun _ => Bool) false (fun o => o loc st hp w (en_run SA fin kds P tb n)) (en_fetch SA fin kds P tb (Nat.succ q)) : Bool) = true := h
      cases hf : en_fetch SA fin kds P tb (Nat.succ q) with
      | none => rw [hf] at h9; cases h9
      | some o =>
        rw [hf] at h9
        have hos : en_OS E kds P L ρ ω h0 fsC FIN (Nat.succ q) o := by
          unfold en_fetch at hf
          split at hf
          · cases hf
          · rename_i q0 len ins a b z wd nL np kd ci rk mc ms hat
            split at hf
            · cases hf
            · rename_i hlen
              split at hf
              · cases hf
              · rename_i o1 hc
                have h1 := en_comp_v (h0 := h0) hSA hfin hPn hat (by omega) hc
                split at hf
                · cases hf
                  exact h1
                · rename_i hk htq
                  cases hf
                  exact htb _ hk o1 htq h1
        exact hos loc st hp w _ c ih h9 hR
end ENX
