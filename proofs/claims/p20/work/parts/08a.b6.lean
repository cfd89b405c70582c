/-! THE ENGINE IS SOUND, 6: rows of rows, copies, calls, returns -/
section ENU
variable {E : mm_E} {kds : List (List Nat)} {P : mm_T} {L : Nat} {ρ : Nat → Int32} {ω : Nat → Value} {h0 : mm_H} {fsC : List mm_F} {FIN : mm_C → Prop}
theorem en_refs_v : ∀ (n N j c : Nat), c + n < 2 ^ 68 → en_kind (en_refs n N j c) = en_kind N ∧ en_len (en_refs n N j c) = en_len N ∧ ∀ i, en_elt (en_refs n N j c) i = if j ≤ i ∧ i < j + n then c + (i - j) else en_elt N i := by
  intro n
  induction n with
  | zero => intro N j c _; refine ⟨rfl, rfl, fun i => ?_⟩; rw [if_neg (by omega)]; rfl
  | succ n ih =>
    intro N j c hc
    obtain ⟨h1, h2, h3⟩ := ih (en_eset N j c) (Nat.succ j) (Nat.succ c) (by omega)
    refine ⟨h1.trans (en_eset_kind _ _ _), h2.trans (en_eset_len _ _ _), fun i => ?_⟩
    show en_elt (en_refs n (en_eset N j c) (Nat.succ j) (Nat.succ c)) i = _
    rw [h3, en_elt_eset (by omega)]
    by_cases hi : i = j
    · subst hi
      rw [if_neg (by omega), if_pos rfl, if_pos (by omega)]
      omega
    · by_cases hr : Nat.succ j ≤ i ∧ i < Nat.succ j + n
      · rw [if_pos hr, if_pos (by omega)]
        omega
      · rw [if_neg hr, if_neg hi, if_neg (by omega)]
theorem en_rows_h {N : Nat} {e : va_E} (hc : en_cr E ρ ω N (some e)) : ∀ (n : Nat) (hp : en_H) (h : mm_H), en_h E ρ ω h0 hp h → h.length + n ≤ 136 → en_h E ρ ω h0 (en_rows n hp h.length N) (h ++ List.replicate n e) := by
  intro n
  induction n with
  | zero => intro hp h hh _; rw [List.replicate_zero, List.append_nil]; exact hh
  | succ n ih =>
    intro hp h hh hl
    have h1 := en_h_push hh (by omega) hc
    have h2 := ih (en_put hp h.length N) (h ++ [e]) h1 (by simp; omega)
    rw [List.length_append, List.length_singleton, List.append_assoc] at h2
    exact h2
section OPU
variable {q n : Nat} {X : mm_V → List Value → Nat → Nat → mm_H → mm_O} {cs : List (List mm_I)} {nL : Nat} {dd : mm_M}
set_option maxRecDepth 10000 in
theorem en_O_mna (hP : P[q / 65536]? = some (cs, nL, dd)) (hS : en_St E kds P L FIN q X) (hn : n / 65536 = q / 65536) (hX : ∀ lv sv cb sb h, X lv sv cb sb h = mm_newm E lv sv cb sb h (n % 65536)) : en_OS E kds P L ρ ω h0 fsC FIN q (en_mna n) := by
  intro loc st hp w ih c0 hih hk hR
  obtain ⟨lv, sv, gs, h, o, rfl, ⟨cs', nL', dd', hP', hl⟩, hs, hh, he, hx, hd, hf⟩ := hR
  cases hP.symm.trans hP'
  unfold en_mna at hk
  obtain ⟨y, st1, rfl, hk1⟩ := en_pop_t hk
  obtain ⟨x, st2, rfl, hk2⟩ := en_pop_t hk1
  obtain ⟨vy, sv1, rfl, h3, hs1⟩ := en_sr_cons hs
  obtain ⟨vx, sv2, rfl, h4, hs2⟩ := en_sr_cons hs1
  obtain ⟨a1, hk3⟩ := en_if_and.mp hk2
  obtain ⟨a2, hk4⟩ := en_if_and.mp hk3
  obtain ⟨a3, hk5⟩ := en_if_and.mp hk4
  obtain ⟨a4, hk6⟩ := en_if_and.mp hk5
  obtain ⟨a5, hk7⟩ := en_if_and.mp hk6
  obtain ⟨a6, hk8⟩ := en_if_and.mp hk7
  obtain ⟨a7, hk9⟩ := en_if_and.mp hk8
  have a1 := en_ble_t.mp a1
  have a2 := en_ble_t.mp a2
  have a3 := en_ble_t.mp a3
  have a4 := en_ble_t.mp a4
  have ex := (en_v_const (by omega)).mp h4
  have ey := (en_v_const (by omega)).mp h3
  subst ex
  subst ey
  have ix := en_d_int (c := x) (by omega)
  have iy := en_d_int (c := y) (by omega)
  obtain ⟨m, rfl⟩ : ∃ m, x = 2147483648 + m := ⟨x - 2147483648, by omega⟩
  obtain ⟨k, rfl⟩ : ∃ k, y = 2147483648 + k := ⟨y - 2147483648, by omega⟩
  have ex2 : Nat.sub (2147483648 + m) 2147483648 = m := Nat.add_sub_cancel_left 2147483648 m
  have ey2 : Nat.sub (2147483648 + k) 2147483648 = k := Nat.add_sub_cancel_left 2147483648 k
  have cx : (en_d (2147483648 + m)).toNatClampNeg = m := by show (en_d (2147483648 + m)).toInt.toNat = _; omega
  have cy : (en_d (2147483648 + k)).toNatClampNeg = k := by show (en_d (2147483648 + k)).toInt.toNat = _; omega
  rw [ex2] at a5
  rw [ex2, ey2] at a6
  rw [ex2] at a7
  rw [ex2, ey2, ← hx] at hk9
  have a5 : m + 1 ≤ w.1 := en_ble_t.mp a5
  have a6 : m + m * k ≤ w.2.1 := en_ble_t.mp a6
  have a7 : (w.2.2.2.2.1 + 1) + m ≤ 136 := en_ble_t.mp a7
  rw [← hx] at a7
  have hrow : en_cr E ρ ω (en_rep 1 k 2147483648) (some (.inl (0, k, .inl (fun _ => 0)))) := by
    have hkl : k < 16777216 := by omega
    refine Or.inl ⟨0, fun _ => 0, en_rep_kind (by decide), by decide, ?_, fun j hj => ?_⟩
    · rw [en_rep_len (by decide) hkl]
    · rw [en_rep_len (by decide) hkl] at hj
      rw [en_rep_elt (by decide) hkl (by decide) hj, en_v_const (by decide), en_d_zero]
  obtain ⟨b1, b2, b3⟩ := en_refs_v m (5 + 256 * m) 0 (8589934592 + (h.length + 1)) (by omega)
  have hkm : en_kind (5 + 256 * m) = 5 := by show (5 + 256 * m) % 256 = 5; omega
  have hlm : en_len (5 + 256 * m) = m := by show (5 + 256 * m) / 256 % 16777216 = m; omega
  have hout : en_cr E ρ ω (en_refs m (5 + 256 * m) 0 (8589934592 + (h.length + 1))) (some (.inl (4, m, .inr (.inr (.inr (.inr (fun i => if i < m then some (E.1 + h.length + 1 + i) else none))))))) := by
    refine Or.inr (Or.inr (Or.inl ⟨_, b1.trans hkm, by rw [b2, hlm], fun j hj => ?_⟩))
    rw [b2, hlm] at hj
    rw [b3, if_pos (by omega), if_pos hj]
    show en_v E ρ ω _ (.ref _)
    rw [en_v_ref (by omega) (by omega)]
    have e9 : (E.1 + h.length + 1 + j : Nat) = E.1 + (8589934592 + (h.length + 1) + (j - 0) - 8589934592) := by omega
    exact congrArg Value.ref e9
  have hh1 := en_h_push hh (by omega) hout
  have hh2 := en_rows_h hrow m _ _ hh1 (by simp; omega)
  rw [List.length_append, List.length_singleton, List.append_assoc] at hh2
  have hv : en_v E ρ ω (8589934592 + h.length) (.ref (E.1 + h.length)) := by
    rw [en_v_ref (by omega) (by omega), Nat.add_sub_cancel_left]
  refine hS lv _ _ _ h gs o (n % 65536) lv (.ref (E.1 + h.length) :: sv2) (w.1 - (1 + m)) (w.2.1 - (m + m * k)) _ ?_ (en_go_on hih hk9 hn hP hl ⟨hv, hs2⟩ hh2 he ?_ hd hf ?_ rfl)
  · rw [hX]
    unfold mm_newm
    simp only [cx, cy]
    rw [if_pos ⟨by omega, by omega, by omega, by omega, by omega, by omega⟩]
    rfl
  · show (h ++ _).length = (h.length + 1) + m
    simp
    omega
  · show w.1 - (1 + m) = w.1 - (m + 1)
    omega
theorem en_frs_len : ∀ (fs : List en_F) (gs : List mm_F), en_frs E P L ρ ω fsC fs gs → gs.length = fs.length + fsC.length := by
  intro fs
  induction fs with
  | nil => intro gs h; rw [show gs = fsC from h]; simp
  | cons f fs ih =>
    intro gs h
    cases gs with
    | nil => exact h.elim
    | cons g gs => rw [List.length_cons, List.length_cons, ih gs h.2.2]; omega
theorem en_cat_v : ∀ (st : List Nat) (sv : List Value), en_sr E ρ ω st sv → (sv.map fun v => v.category).sum ≤ en_cat st := by
  intro st
  induction st with
  | nil => intro sv h; rw [en_sr_nil h]; exact Nat.le_refl 0
  | cons c r ih =>
    intro sv h
    obtain ⟨v, vs, rfl, h1, h2⟩ := en_sr_cons h
    have h3 := ih vs h2
    rw [List.map_cons, List.sum_cons]
    show _ ≤ en_if (en_one c) (Nat.succ (en_cat r)) (Nat.succ (Nat.succ (en_cat r)))
    cases ho : en_one c with
    | true => rw [en_if_t, en_one_cat ho h1]; omega
    | false => rw [en_if_f]; have := en_cat_le v; omega
/-- a special callee -/
theorem en_step_sp {len a b wd ik : Nat} {z : Int} {ins : Instr} {q0 : Nat} (hat : mm_at P (q / 65536) (q % 65536) = some ((q0, len, ins, a, b, z, wd), nL, dd)) (hi : mm_inv ins = some ik) (ha : a < 2) {lv : mm_V} {sv : List Value} {cb sb : Nat} {h : mm_H} {gs : List mm_F} {o : Option Value} (hg : gs.length + 1 < L) {pc' : Nat} {lv' : mm_V} {sv' : List Value} {cb' sb' : Nat} {h' : mm_H} (hx : mm_sp E a ik lv sv cb sb h (q % 65536 + len) = some (pc', lv', sv', cb', sb', h')) (g : en_Good E kds P L FIN ((q / 65536, pc', lv', sv', cb', sb') :: gs, h', none)) : en_Good E kds P L FIN ((q / 65536, q % 65536, lv, sv, cb, sb) :: gs, h, o) := by
  refine en_good_step ?_ g
  obtain ⟨d1, d2, d3, d4, d5, d6⟩ := dd
  simp only [mm_stp, hat, hi, if_pos ha, if_pos hg, hx]
theorem en_O_oinit (hP : P[q / 65536]? = some (cs, nL, dd)) {len b wd : Nat} {z : Int} {ins : Instr} {q0 : Nat} (hat : mm_at P (q / 65536) (q % 65536) = some ((q0, len, ins, 0, b, z, wd), nL, dd)) (hi : mm_inv ins = some 2) (hn : n / 65536 = q / 65536) (hn2 : n % 65536 = q % 65536 + len) : en_OS E kds P L ρ ω h0 fsC FIN q (en_oinit n) := by
  intro loc st hp w ih c0 hih hk hR
  obtain ⟨lv, sv, gs, h, o, rfl, ⟨cs', nL', dd', hP', hl⟩, hs, hh, he, hx, hd, hf⟩ := hR
  cases hP.symm.trans hP'
  unfold en_oinit at hk
  obtain ⟨a, st1, rfl, hk1⟩ := en_pop_t hk
  obtain ⟨va, sv1, rfl, h3, hs1⟩ := en_sr_cons hs
  obtain ⟨a1, hk2⟩ := en_if_and.mp hk1
  obtain ⟨a2, hk3⟩ := en_if_and.mp hk2
  obtain ⟨a3, hk4⟩ := en_if_and.mp hk3
  have a2 := en_ble_t.mp a2
  have a3 := en_ble_t.mp a3
  obtain ⟨x, rfl⟩ := en_isR_ref a1 h3
  have hlen := en_frs_len _ _ hf
  refine en_step_sp hat hi (by decide) (by omega) (pc' := n % 65536) (lv' := lv) (sv' := sv1) (cb' := w.1) (sb' := w.2.1) (h' := h) ?_ (en_go_on hih hk4 hn hP hl hs1 hh he hx hd hf rfl rfl)
  unfold mm_sp
  rw [if_pos rfl]
  have hc := en_cat_v _ _ hs1
  simp only []
  rw [if_pos ⟨trivial, by omega⟩, hn2]
theorem en_O_copy (hP : P[q / 65536]? = some (cs, nL, dd)) {len b wd : Nat} {z : Int} {ins : Instr} {q0 : Nat} (hat : mm_at P (q / 65536) (q % 65536) = some ((q0, len, ins, 1, b, z, wd), nL, dd)) (hi : mm_inv ins = some 0) (hn : n / 65536 = q / 65536) (hn2 : n % 65536 = q % 65536 + len) : en_OS E kds P L ρ ω h0 fsC FIN q (en_copy n) := by
  intro loc st hp w ih c0 hih hk hR
  obtain ⟨lv, sv, gs, h, o, rfl, ⟨cs', nL', dd', hP', hl⟩, hs, hh, he, hx, hd, hf⟩ := hR
  cases hP.symm.trans hP'
  unfold en_copy at hk
  obtain ⟨m, st1, rfl, hk1⟩ := en_pop_t hk
  obtain ⟨p1, st2, rfl, hk2⟩ := en_pop_t hk1
  obtain ⟨d1, st3, rfl, hk3⟩ := en_pop_t hk2
  obtain ⟨p2, st4, rfl, hk4⟩ := en_pop_t hk3
  obtain ⟨s1, st5, rfl, hk5⟩ := en_pop_t hk4
  obtain ⟨vm, sv1, rfl, g1, hs1⟩ := en_sr_cons hs
  obtain ⟨vp1, sv2, rfl, g2, hs2⟩ := en_sr_cons hs1
  obtain ⟨vd, sv3, rfl, g3, hs3⟩ := en_sr_cons hs2
  obtain ⟨vp2, sv4, rfl, g4, hs4⟩ := en_sr_cons hs3
  obtain ⟨vs, sv5, rfl, g5, hs5⟩ := en_sr_cons hs4
  obtain ⟨a1, hk6⟩ := en_if_and.mp hk5
  obtain ⟨a2, hk7⟩ := en_if_and.mp hk6
  obtain ⟨a3, hk8⟩ := en_if_and.mp hk7
  obtain ⟨a4, hk9⟩ := en_if_and.mp hk8
  have a3 := en_ble_t.mp a3
  have a4 := en_ble_t.mp a4
  rw [en_beq_t.mp a1] at g2
  rw [en_beq_t.mp a2] at g4
  have e2 := (en_v_const (by decide)).mp g2
  have e4 := (en_v_const (by decide)).mp g4
  rw [en_d_zero] at e2 e4
  subst e2
  subst e4
  rcases en_cell_v g5 hk9 with ⟨i, hi1, rfl, hk10⟩ | ⟨i, qs, -, -, hk10⟩
  · rcases en_cell_v g3 hk10 with ⟨j, hj1, rfl, hk11⟩ | ⟨j, qs, -, -, hk11⟩
    · obtain ⟨b1, hk12⟩ := en_if_and.mp hk11
      obtain ⟨b2, hk13⟩ := en_if_and.mp hk12
      obtain ⟨b3, hk14⟩ := en_if_and.mp hk13
      obtain ⟨b4, hk15⟩ := en_if_and.mp hk14
      have b1 := en_beq_t.mp b1
      have b2 := en_beq_t.mp b2
      have b3 : m = 2147483648 + en_len (en_get hp i) := en_beq_t.mp b3
      have b4 : m = 2147483648 + en_len (en_get hp j) := en_beq_t.mp b4
      have hl1 : en_len (en_get hp i) < 16777216 := Nat.mod_lt _ (by decide)
      have e1 := (en_v_const (by omega)).mp g1
      have im := en_d_int (c := m) (by omega)
      have cm : (en_d m).toNatClampNeg = en_len (en_get hp i) := by show (en_d m).toInt.toNat = _; omega
      subst e1
      have hci := en_h_get hh hi1 (by omega)
      have hcj := en_h_get hh hj1 (by omega)
      have hjl := en_cr_lt hcj
      have hlen := en_frs_len _ _ hf
      have hcat := en_cat_v _ _ hs5
      rcases hci with ⟨t, f, q1, q2, q3, q4⟩ | ⟨f, q1, -⟩ | ⟨f, q1, -⟩ | ⟨c2, fs2, q1, -⟩
      · rcases hcj with ⟨t', g, q1', q2', q3', q4'⟩ | ⟨f, q1', -⟩ | ⟨f, q1', -⟩ | ⟨c2, fs2, q1', -⟩
        · have ht : t = 0 := by omega
          have ht' : t' = 0 := by omega
          subst ht
          subst ht'
          have hnew : en_cr E ρ ω (en_get hp i) (some (.inl (0, en_len (en_get hp j), .inl (va_cpy f g (0 : Int32).toNatClampNeg (0 : Int32).toNatClampNeg (en_d m).toNatClampNeg)))) := by
            refine Or.inl ⟨0, va_cpy f g (0 : Int32).toNatClampNeg (0 : Int32).toNatClampNeg (en_d m).toNatClampNeg, q1, q2, ?_, fun k hk => ?_⟩
            · rw [show en_len (en_get hp j) = en_len (en_get hp i) by omega]
            · have ez : (0 : Int32).toNatClampNeg = 0 := by decide
              rw [ez, cm]
              have e9 : va_cpy f g 0 0 (en_len (en_get hp i)) k = f k := by
                unfold va_cpy
                rw [if_pos (by omega), Nat.sub_zero, Nat.zero_add]
              rw [e9]
              exact q4 k hk
          refine en_step_sp hat hi (by decide) (by omega) (pc' := n % 65536) (lv' := lv) (sv' := sv5) (cb' := w.1) (sb' := w.2.1) ?_ (en_go_on hih hk15 hn hP hl hs5 (en_h_put hh hj1 hjl hnew) he (by rw [List.length_set]; exact hx) hd hf rfl rfl)
          unfold mm_sp
          rw [if_neg (by decide), if_pos rfl]
          unfold mm_copy
          simp only [en_mmcell, q3, q3']
          have ez : (0 : Int32).toNatClampNeg = 0 := by decide
          have ez2 : (0 : Int32).toInt = 0 := by decide
          rw [if_pos ⟨trivial, trivial, by omega, by omega, by omega, by rw [cm, ez]; omega, by rw [cm, ez]; omega, by omega⟩, Nat.add_sub_cancel_left, hn2]
        · omega
        · omega
        · omega
      · omega
      · omega
      · omega
    · cases hk11
  · cases hk10
theorem en_take_v : ∀ (np : Nat) (acc st : List Nat) (k : List Nat → List Nat → Bool), en_take np acc st k = true → np ≤ st.length ∧ k ((st.take np).reverse ++ acc) (st.drop np) = true := by
  intro np
  induction np with
  | zero => intro acc st k h; exact ⟨Nat.zero_le _, h⟩
  | succ np ih =>
    intro acc st k h
    have h9 : en_pop st (fun a r => en_take np (a :: acc) r k) = true := h
    obtain ⟨a, r, rfl, h1⟩ := en_pop_t h9
    obtain ⟨h2, h3⟩ := ih _ _ _ h1
    refine ⟨by rw [List.length_cons]; omega, ?_⟩
    rw [List.take_succ_cons, List.reverse_cons, List.append_assoc, List.drop_succ_cons]
    exact h3
theorem en_sr_take : ∀ (np : Nat) (st : List Nat) (sv : List Value), en_sr E ρ ω st sv → en_sr E ρ ω (st.take np) (sv.take np) ∧ en_sr E ρ ω (st.drop np) (sv.drop np) := by
  intro np
  induction np with
  | zero => intro st sv h; exact ⟨trivial, h⟩
  | succ np ih =>
    intro st sv h
    cases st with
    | nil => rw [en_sr_nil h]; exact ⟨trivial, trivial⟩
    | cons c r =>
      obtain ⟨v, vs, rfl, h1, h2⟩ := en_sr_cons h
      obtain ⟨h3, h4⟩ := ih r vs h2
      exact ⟨⟨h1, h3⟩, h4⟩
theorem en_sr_app : ∀ (a : List Nat) (x : List Value) (b : List Nat) (y : List Value), en_sr E ρ ω a x → en_sr E ρ ω b y → en_sr E ρ ω (a ++ b) (x ++ y) := by
  intro a
  induction a with
  | nil => intro x b y h1 h2; rw [en_sr_nil h1]; exact h2
  | cons c r ih =>
    intro x b y h1 h2
    obtain ⟨v, vs, rfl, h3, h4⟩ := en_sr_cons h1
    exact ⟨h3, ih vs b y h4 h2⟩
theorem en_sr_rev : ∀ (a : List Nat) (x : List Value), en_sr E ρ ω a x → en_sr E ρ ω a.reverse x.reverse := by
  intro a
  induction a with
  | nil => intro x h; rw [en_sr_nil h]; exact trivial
  | cons c r ih =>
    intro x h
    obtain ⟨v, vs, rfl, h3, h4⟩ := en_sr_cons h
    rw [List.reverse_cons, List.reverse_cons]
    exact en_sr_app _ _ _ _ (ih vs h4) ⟨h3, trivial⟩
theorem en_sr_len : ∀ (a : List Nat) (x : List Value), en_sr E ρ ω a x → x.length = a.length := by
  intro a
  induction a with
  | nil => intro x h; rw [en_sr_nil h]; rfl
  | cons c r ih =>
    intro x h
    obtain ⟨v, vs, rfl, h3, h4⟩ := en_sr_cons h
    rw [List.length_cons, List.length_cons, ih vs h4]
theorem en_get_cons {i j : Nat} {v : Value} {l : mm_V} : mm_get ((j, v) :: l) i = if j = i then some v else mm_get l i := by
  unfold mm_get
  by_cases h : j = i
  · subst h; simp
  · rw [List.find?_cons_of_neg (by simpa using h), if_neg h]
theorem en_args_v : ∀ (l : List Nat) (vs : List Value) (j loc : Nat) (k : Nat → Nat → Bool), en_sr E ρ ω l vs → en_args l j loc k = true → ∃ loc', k (j + (lg_sl vs).length) loc' = true ∧ (∀ i, i < j → en_elt loc' i = en_elt loc i) ∧ ∀ i, (∃ v, mm_get (lv_args j vs) i = some v ∧ en_v E ρ ω (en_elt loc' i) v) ∨ en_elt loc' i = en_elt loc i := by
  intro l
  induction l with
  | nil =>
    intro vs j loc k hs h
    rw [en_sr_nil hs]
    exact ⟨loc, h, fun _ _ => rfl, fun _ => Or.inr rfl⟩
  | cons c r ih =>
    intro vs j loc k hs h
    obtain ⟨v, vs, rfl, h1, h2⟩ := en_sr_cons hs
    have h9 : en_if (en_one c) (en_args r (Nat.succ j) (en_eset loc j c) k) (en_if (en_isL c) (en_args r (Nat.succ (Nat.succ j)) (en_eset loc j c) k) false) = true := h
    have key : ∀ j', j < j' → (if v.category = 2 then j + 2 else j + 1) = j' → en_args r j' (en_eset loc j c) k = true → (lg_sl (v :: vs)).length = (j' - j) + (lg_sl vs).length → ∃ loc', k (j + (lg_sl (v :: vs)).length) loc' = true ∧ (∀ i, i < j → en_elt loc' i = en_elt loc i) ∧ ∀ i, (∃ u, mm_get (lv_args j (v :: vs)) i = some u ∧ en_v E ρ ω (en_elt loc' i) u) ∨ en_elt loc' i = en_elt loc i := by
      intro j' hj hj2 hk hlen
      obtain ⟨loc', k1, k2, k3⟩ := ih vs j' (en_eset loc j c) k h2 hk
      refine ⟨loc', ?_, fun i hi => ?_, fun i => ?_⟩
      · rw [hlen, show j + (j' - j + (lg_sl vs).length) = j' + (lg_sl vs).length by omega]
        exact k1
      · rw [k2 i (by omega), en_elt_eset (en_v_68 h1), if_neg (by omega)]
      · show (∃ u, mm_get ((j, v) :: lv_args (if v.category = 2 then j + 2 else j + 1) vs) i = some u ∧ _) ∨ _
        rw [hj2, en_get_cons]
        by_cases hji : j = i
        · subst hji
          left
          refine ⟨v, by rw [if_pos rfl], ?_⟩
          rw [k2 j hj, en_elt_eset (en_v_68 h1), if_pos rfl]
          exact h1
        · rw [if_neg hji]
          rcases k3 i with h5 | h5
          · exact Or.inl h5
          · right
            rw [h5, en_elt_eset (en_v_68 h1), if_neg (fun e => hji e.symm)]
    rcases en_if_or.mp h9 with ⟨a1, h3⟩ | ⟨-, h3⟩
    · have hc := en_one_cat a1 h1
      refine key (j + 1) (by omega) (by rw [if_neg (by omega)]) h3 ?_
      simp [lg_sl, hc]
      omega
    · obtain ⟨a2, h3⟩ := en_if_and.mp h3
      obtain ⟨x, rfl⟩ := en_isL_long a2 h1
      refine key (j + 2) (by omega) (if_pos rfl) h3 ?_
      simp [lg_sl, Value.category]
      omega
theorem en_step_call {len a b wd ik : Nat} {z : Int} {ins : Instr} {q0 : Nat} (hat : mm_at P (q / 65536) (q % 65536) = some ((q0, len, ins, a, b, z, wd), nL, dd)) (hi : mm_inv ins = some ik) (ha : ¬ a < 2) {lv : mm_V} {sv : List Value} {cb sb : Nat} {h : mm_H} {gs : List mm_F} {o : Option Value} {c' : mm_C} (hx : mm_call E L P a ik (q / 65536) (q % 65536 + len) lv sv cb sb gs h = some c') (g : en_Good E kds P L FIN c') : en_Good E kds P L FIN ((q / 65536, q % 65536, lv, sv, cb, sb) :: gs, h, o) := by
  refine en_good_step ?_ g
  obtain ⟨d1, d2, d3, d4, d5, d6⟩ := dd
  simp only [mm_stp, hat, hi, if_neg ha, hx]
theorem en_O_call (hP : P[q / 65536]? = some (cs, nL, dd)) {len a b wd kd : Nat} {z : Int} {ins : Instr} {q0 : Nat} (hat : mm_at P (q / 65536) (q % 65536) = some ((q0, len, ins, a, b, z, wd), nL, dd)) (hi : mm_inv ins = some kd) (ha : ¬ a < 2) (hn : n / 65536 = q / 65536) (hn2 : n % 65536 = q % 65536 + len) {cs1 : List (List mm_I)} {nL1 np ci rk mc ms : Nat} (hPa : P[a]? = some (cs1, nL1, np, kd, ci, rk, mc, ms)) (hnL1 : nL1 < 16777216) (hT : en_ST E) : en_OS E kds P L ρ ω h0 fsC FIN q (en_call n (65536 * a) nL1 np kd ci mc ms) := by
  intro loc st hp w ih c0 hih hk hR
  obtain ⟨lv, sv, gs, h, o, rfl, ⟨cs', nL', dd', hP', hl⟩, hs, hh, he, hx, hd, hf⟩ := hR
  cases hP.symm.trans hP'
  unfold en_call at hk
  obtain ⟨hnp, hk1⟩ := en_take_v _ _ _ _ hk
  rw [List.append_nil] at hk1
  obtain ⟨a1, hk2⟩ := en_if_and.mp hk1
  obtain ⟨a2, hk3⟩ := en_if_and.mp hk2
  obtain ⟨a3, hk4⟩ := en_if_and.mp hk3
  have a1 := en_ble_t.mp a1
  have a2 := en_ble_t.mp a2
  have a3 := en_ble_t.mp a3
  obtain ⟨hs1, hs2⟩ := en_sr_take np _ _ hs
  have hs3 := en_sr_rev _ _ hs1
  have hlen := en_frs_len _ _ hf
  have hsl := en_sr_len _ _ hs
  have go : ∀ (as r : List Nat) (av rv : List Value), en_go n (65536 * a) nL1 mc ms as r loc st hp w ih = true → en_sr E ρ ω as av → en_sr E ρ ω r rv → ((rv.map fun v => v.category).sum ≤ 8 ∧ (lg_sl av).length ≤ nL1) ∧ en_Good E kds P L FIN ((a, 0, lv_args 0 av, [], mc, ms) :: (q / 65536, q % 65536 + len, lv, rv, w.1 - mc, w.2.1 - ms) :: gs, h, none) := by
    intro as r av rv hg h1 h2
    unfold en_go at hg
    obtain ⟨b1, hg⟩ := en_if_and.mp hg
    have b1 := en_ble_t.mp b1
    obtain ⟨loc', k1, -, k3⟩ := en_args_v as av 0 _ _ h1 hg
    obtain ⟨b2, k4⟩ := en_if_and.mp k1
    have b2 := en_ble_t.mp b2
    rw [Nat.zero_add] at b2
    have hcat := en_cat_v _ _ h2
    refine ⟨⟨by omega, b2⟩, ?_⟩
    refine hih _ _ _ _ _ _ k4 ⟨lv_args 0 av, [], (q / 65536, q % 65536 + len, lv, rv, w.1 - mc, w.2.1 - ms) :: gs, h, none, ?_, ⟨cs1, nL1, (np, kd, ci, rk, mc, ms), ?_, fun i hi => ?_⟩, trivial, hh, he, hx, ?_, ⟨?_, ?_, hf⟩⟩
    · rw [show 65536 * a / 65536 = a by omega, show 65536 * a % 65536 = 0 by omega]
    · rw [show 65536 * a / 65536 = a by omega]
      exact hPa
    · rcases k3 i with ⟨v, h5, h6⟩ | h5
      · exact Or.inr ⟨v, h5, h6⟩
      · left
        rw [h5, en_rep_elt (by decide) hnL1 (by decide) hi]
    · show fsC.length + (_ :: w.2.2.2.1).length + 1 + (w.2.2.1 - 1) ≤ L
      rw [List.length_cons]
      omega
    · exact ⟨hn.symm, hn2.symm, ⟨cs, nL, dd, hP, hl⟩, h2, rfl, rfl⟩
    · exact hd
  rcases en_if_or.mp hk4 with ⟨a4, hk5⟩ | ⟨a4, hk5⟩
  · have a4 := en_beq_t.mp a4
    subst a4
    obtain ⟨⟨g1, g2⟩, g3⟩ := go _ _ _ _ hk5 hs3 hs2
    refine en_step_call hat hi ha ?_ g3
    unfold mm_call
    rw [hPa]
    simp only []
    rw [if_pos ⟨trivial, by omega, a2, a3, by omega⟩]
    unfold mm_recv
    rw [if_pos rfl]
    simp only [List.nil_append]
    rw [if_pos ⟨g1, g2⟩]
  · have a4 := en_beq_f.mp a4
    obtain ⟨c, r, hdr, hk6⟩ := en_pop_t hk5
    rw [hdr] at hs2
    obtain ⟨v, rv, hdv, g4, hs4⟩ := en_sr_cons hs2
    rcases en_if_or.mp hk6 with ⟨c90, hk6⟩ | ⟨c90, hk6⟩
    · have c90 := en_beq_t.mp c90
      obtain ⟨b1, hk8⟩ := en_if_and.mp hk6
      obtain ⟨x, i2, hx1, hx2⟩ : ∃ x i2, v = .ref x ∧ mm_str E x = some i2 := by
        obtain ⟨q4, q5, q6, q7, e4, e5, e6, e7, l4, l5, l6, l7, n46, -⟩ := hT
        rcases en_if_or.mp b1 with ⟨b2, -⟩ | ⟨-, b2⟩
        · have b2 := en_beq_t.mp b2
          subst b2
          obtain ⟨qq, g9, rfl⟩ := (en_v_stat (by decide) (by decide)).mp g4
          have g9 : E.2[4]? = some qq := g9
          cases g9.symm.trans e4
          refine ⟨_, 0, rfl, ?_⟩
          unfold mm_str
          rw [if_neg (by omega), e4, e6]
          simp only []
          rw [if_pos trivial]
        · have b2 := en_beq_t.mp b2
          subst b2
          obtain ⟨qq, g9, rfl⟩ := (en_v_stat (by decide) (by decide)).mp g4
          have g9 : E.2[6]? = some qq := g9
          cases g9.symm.trans e6
          refine ⟨_, 1, rfl, ?_⟩
          unfold mm_str
          rw [if_neg (by omega), e4, e6]
          simp only []
          rw [if_neg n46, if_pos trivial]
      subst hx1
      obtain ⟨⟨g1, g2⟩, g3⟩ := go _ _ (.ref x :: (sv.take np).reverse) rv hk8 ⟨g4, hs3⟩ hs4
      refine en_step_call hat hi ha ?_ g3
      unfold mm_call
      rw [hPa]
      simp only []
      rw [if_pos ⟨trivial, by omega, a2, a3, by omega⟩]
      unfold mm_recv
      rw [if_neg a4, hdv]
      simp only []
      rw [if_pos c90, hx2]
      simp only []
      rw [if_pos ⟨g1, g2⟩]
      rfl
    have c90 := en_beq_f.mp c90
    rcases en_cell_v g4 hk6 with ⟨i, hi1, rfl, hk7⟩ | ⟨i, qs, -, -, hk7⟩
    · obtain ⟨b1, hk8⟩ := en_if_and.mp hk7
      have b1 : en_kind (en_get hp i) = 6 + ci := en_beq_t.mp b1
      obtain ⟨⟨g1, g2⟩, g3⟩ := go _ _ (.ref (E.1 + i) :: (sv.take np).reverse) rv hk8 ⟨g4, hs3⟩ hs4
      rcases en_h_get hh hi1 (by omega) with ⟨t, f, q1, q2, -⟩ | ⟨f, q1, -⟩ | ⟨f, q1, -⟩ | ⟨c2, fs2, q1, e, -⟩
      · omega
      · omega
      · omega
      · have hc2 : c2 = ci := by omega
        subst hc2
        refine en_step_call hat hi ha ?_ g3
        unfold mm_call
        rw [hPa]
        simp only []
        rw [if_pos ⟨trivial, by omega, a2, a3, by omega⟩]
        unfold mm_recv
        rw [if_neg a4, hdv]
        simp only [en_mmcell, e, if_true, if_neg c90]
        rw [if_pos ⟨g1, g2⟩]
        rfl
    · cases hk7
/-- what the lowest frame answers -/
def en_vo (E : mm_E) (ρ : Nat → Int32) (ω : Nat → Value) (v : List Nat) (vo : Option Value) : Prop := (v = [] ∧ vo = none) ∨ ∃ c V, v = [c] ∧ vo = some V ∧ en_v E ρ ω c V
def en_FS (E : mm_E) (kds : List (List Nat)) (P : mm_T) (L : Nat) (ρ : Nat → Int32) (ω : Nat → Value) (h0 : mm_H) (fsC : List mm_F) (FIN : mm_C → Prop) (fin : List Nat → en_H → en_W → Bool) : Prop := ∀ (v : List Nat) (vo : Option Value) (hp : en_H) (w : en_W) (h : mm_H), fin v hp w = true → en_vo E ρ ω v vo → en_h E ρ ω h0 hp h → en_e ρ (en_ev w) → h.length = w.2.2.2.2.1 → en_Good E kds P L FIN (mm_back vo fsC h)
theorem en_O_ret (hP : P[q / 65536]? = some (cs, nL, dd)) {len a b wd ik : Nat} {z : Int} {ins : Instr} {q0 np kd ci rk mc ms : Nat} (hat : mm_at P (q / 65536) (q % 65536) = some ((q0, len, ins, a, b, z, wd), nL, (np, kd, ci, rk, mc, ms))) (hi : mm_inv ins = none) (hr : mm_rtn ins = some ik) {fin : List Nat → en_H → en_W → Bool} (hfin : en_FS E kds P L ρ ω h0 fsC FIN fin) : en_OS E kds P L ρ ω h0 fsC FIN q (en_ret fin rk ik) := by
  intro loc st hp w ih c0 hih hk hR
  obtain ⟨lv, sv, gs, h, o, rfl, -, hs, hh, he, hx, hd, hf⟩ := hR
  have key : ∀ (v : List Nat) (vo : Option Value), en_back fin v loc st hp w ih = true → en_vo E ρ ω v vo → mm_ans rk ik sv = some vo → en_Good E kds P L FIN ((q / 65536, q % 65536, lv, sv, w.1, w.2.1) :: gs, h, o) := by
    intro v vo hb hv ha
    refine en_good_step (c' := mm_back vo gs h) ?_ ?_
    · simp only [mm_stp, hat, hi, hr, ha]
    · unfold en_back at hb
      generalize hfs : w.2.2.2.1 = fs at hb hf
      cases fs with
      | nil =>
        have hg : gs = fsC := hf
        rw [hg]
        exact hfin v vo hp w h hb hv hh he hx
      | cons f fs =>
        cases gs with
        | nil => exact hf.elim
        | cons g gs =>
          obtain ⟨⟨r1, r2, ⟨cs2, nL2, dd2, r3, r4⟩, r5, r6, r7⟩, r8, r9⟩ := hf
          refine hih _ _ _ _ _ _ hb ⟨g.2.2.1, vo.toList ++ g.2.2.2.1, gs, h, none, ?_, ⟨cs2, nL2, dd2, by rw [← r1]; exact r3, r4⟩, ?_, hh, he, hx, r8, r9⟩
          · show mm_back vo (g :: gs) h = _
            obtain ⟨g1, g2, g3, g4, g5, g6⟩ := g
            simp only [mm_back] at *
            rw [r1, r2, r6, r7]
          · rcases hv with ⟨rfl, rfl⟩ | ⟨c, V, rfl, rfl, hv⟩
            · exact r5
            · exact ⟨hv, r5⟩
  unfold en_ret at hk
  cases st with
  | nil =>
    rw [en_sr_nil hs] at key ⊢
    obtain ⟨a1, hk⟩ := en_if_and.mp (show en_if (Nat.beq rk 0) (en_if (Nat.beq ik 0) (en_back fin [] loc [] hp w ih) false) false = true from hk)
    obtain ⟨a2, hk⟩ := en_if_and.mp hk
    refine key [] none hk (Or.inl ⟨rfl, rfl⟩) ?_
    unfold mm_ans
    rw [if_pos ⟨en_beq_t.mp a1, en_beq_t.mp a2⟩]
  | cons c r =>
    obtain ⟨V, vs, rfl, h1, h2⟩ := en_sr_cons hs
    cases r with
    | cons c2 r2 => cases hk
    | nil =>
      rw [en_sr_nil h2] at key ⊢
      rcases en_if_or.mp (show en_if (Nat.beq ik 1) _ _ = true from hk) with ⟨a1, hk⟩ | ⟨-, hk⟩
      · have a1 := en_beq_t.mp a1
        obtain ⟨a2, hk⟩ := en_if_and.mp hk
        obtain ⟨x, rfl⟩ := en_isI_int a2 h1
        rcases en_if_or.mp hk with ⟨a3, hk⟩ | ⟨-, hk⟩
        · refine key [c] _ hk (Or.inr ⟨c, _, rfl, rfl, h1⟩) ?_
          show (if ik = 1 ∧ (rk = 1 ∨ _) then some (some (Value.int x)) else none) = _
          rw [if_pos ⟨a1, Or.inl (en_beq_t.mp a3)⟩]
        · obtain ⟨a3, hk⟩ := en_if_and.mp hk
          obtain ⟨lo, hi, z1, z2, z3, z4⟩ := en_iv_v he h1
          rw [z4] at a3
          have hz := en_z_int x
          refine key [c] _ hk (Or.inr ⟨c, _, rfl, rfl, h1⟩) ?_
          show (if ik = 1 ∧ (rk = 1 ∨ (rk = 2 ∧ (x = 0 ∨ x = 1)) ∨ (rk = 4 ∧ -128 ≤ x.toInt ∧ x.toInt ≤ 127) ∨ (rk = 5 ∧ 0 ≤ x.toInt ∧ x.toInt ≤ 65535)) then some (some (Value.int x)) else none) = _
          unfold en_rkr at a3
          rcases en_if_or.mp a3 with ⟨b1, a3⟩ | ⟨-, a3⟩
          · obtain ⟨b2, b3⟩ := en_if_and.mp a3
            have b2 := en_ble_t.mp b2
            have b3 := en_ble_t.mp b3
            have hx01 : x = 0 ∨ x = 1 := by
              rcases Nat.lt_or_ge 2147483648 (en_z x) with q9 | q9
              · right; rw [← en_d_z x, show en_z x = 2147483649 by omega]; decide
              · left; rw [← en_d_z x, show en_z x = 2147483648 by omega]; decide
            rw [if_pos ⟨a1, Or.inr (Or.inl ⟨en_beq_t.mp b1, hx01⟩)⟩]
          · rcases en_if_or.mp a3 with ⟨b1, a3⟩ | ⟨-, a3⟩
            · obtain ⟨b2, b3⟩ := en_if_and.mp a3
              have b2 := en_ble_t.mp b2
              have b3 := en_ble_t.mp b3
              rw [if_pos ⟨a1, Or.inr (Or.inr (Or.inl ⟨en_beq_t.mp b1, by omega, by omega⟩))⟩]
            · obtain ⟨b1, a3⟩ := en_if_and.mp a3
              obtain ⟨b2, b3⟩ := en_if_and.mp a3
              have b2 := en_ble_t.mp b2
              have b3 := en_ble_t.mp b3
              rw [if_pos ⟨a1, Or.inr (Or.inr (Or.inr ⟨en_beq_t.mp b1, by omega, by omega⟩))⟩]
      · obtain ⟨a1, hk⟩ := en_if_and.mp hk
        obtain ⟨a2, hk⟩ := en_if_and.mp hk
        obtain ⟨a3, hk⟩ := en_if_and.mp hk
        obtain ⟨x, rfl⟩ := en_isL_long a2 h1
        refine key [c] _ hk (Or.inr ⟨c, _, rfl, rfl, h1⟩) ?_
        show (if ik = 3 ∧ rk = 3 then some (some (Value.long x)) else none) = _
        rw [if_pos ⟨en_beq_t.mp a1, en_beq_t.mp a3⟩]
end OPU
end ENU
