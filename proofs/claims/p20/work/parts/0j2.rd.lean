/-! READING, BETWEEN THE LAW'S CALLS (wip/p3/mkj2.py) -/
def br_A (h : mm_H) : Nat → Nat → Int32 := fun k => match h[k]? with
  | some (.inl (_, _, .inl f)) => f
  | _ => fun _ => 0
def br_L (h : mm_H) : Nat → Nat → Int64 := fun k => match h[k]? with
  | some (.inl (_, _, .inr (.inl f))) => f
  | _ => fun _ => 0
theorem br_A_eq {h : mm_H} {k t n : Nat} {f : Nat → Int32} (e : h[k]? = some (.inl (t, n, .inl f))) : br_A h k = f := by
  unfold br_A
  rw [e]
theorem br_L_eq {h : mm_H} {k t n : Nat} {f : Nat → Int64} (e : h[k]? = some (.inl (t, n, .inr (.inl f)))) : br_L h k = f := by
  unfold br_L
  rw [e]
theorem br_l4 {E : mm_E} {ω : Nat → Value} {h0 h : mm_H} {H : en_H} {ρ : Nat → Int32} {k n : Nat} (hk0 : k < 136) (hk : en_kind (en_get H k) = 4) (hn : en_len (en_get H k) = n) (hh : en_h E ρ ω h0 H h) : ∃ f : Nat → Int64, h[k]? = some (.inl (3, n, .inr (.inl f))) := by
  rcases (hh k).1 hk0 (by rw [hk]; decide) with ⟨t2, f, d1, d2, d3, d4⟩ | ⟨f, d1, d2, d3⟩ | ⟨f, d1, d2, d3⟩ | ⟨ci, fs, d1, d2, d3, d4⟩
  · omega
  · rw [hn] at d2
    exact ⟨f, d2⟩
  · omega
  · omega
theorem wl_k1 : en_kind (en_get wl_H 88) = 15 := by decide +kernel
theorem wl_k2 : en_len (en_get wl_H 88) = 73 := by decide +kernel
theorem wl_k3 : ∀ p ∈ bx_T.1, en_elt (en_get wl_H 88) p.1 = 8589934592 + p.2 ∧ p.2 < 136 ∧ p.1 < 73 := by decide +kernel
theorem wl_k4 : ∀ k ∈ bx_T.2.1, k = 2 ∨ (k < 73 ∧ en_isI (en_elt (en_get wl_H 88) k) = true ∧ en_iv (sf_w0 0 0) (en_elt (en_get wl_H 88) k) (fun a b => en_if (Nat.ble 0 a) (Nat.ble b 4294967295) false) = true) := by decide +kernel
theorem wl_k5 : en_elt (en_get wl_H 88) 2 = 17179869185 := by decide +kernel
theorem wl_k6 : ∀ q ∈ bx_T.2.2.1, q ∈ rd_XT ∨ (q.1 < 136 ∧ en_kind (en_get wl_H q.1) = q.2.1 + 1 ∧ q.2.1 < 3 ∧ en_len (en_get wl_H q.1) = q.2.2) := by decide +kernel
theorem wl_k7 : ∀ q ∈ bx_T.2.2.2, q.1 < 136 ∧ en_kind (en_get wl_H q.1) = 4 ∧ en_len (en_get wl_H q.1) = q.2 := by decide +kernel
theorem wl_k8 : ∀ j, j < 73 → j = 2 ∨ en_elt (en_get wl_H 88) j < 17179869184 ∨ 18446744073709551616 ≤ en_elt (en_get wl_H 88) j := by decide +kernel
theorem wl_k9 : ∀ q ∈ rd_XT, en_kind (en_get wl_H q.1) = 0 := by decide +kernel
theorem wl_a89 : en_get wl_H 89 = en_rep 2 2000 73786976299133173759 := by decide +kernel
theorem wl_a90 : en_get wl_H 90 = en_rep 2 2000 73786976299133173759 := by decide +kernel
theorem wl_a91 : en_get wl_H 91 = en_rep 1 403 83010348333840465963 := by decide +kernel
theorem wl_a92 : en_get wl_H 92 = en_rep 1 403 73786976299133173759 := by decide +kernel
theorem wl_a93 : en_get wl_H 93 = en_rep 1 403 73786976299133173759 := by decide +kernel
theorem wl_a97 : en_get wl_H 97 = en_rep 1 2 83010348333840465926 := by decide +kernel
theorem wl_a98 : en_get wl_H 98 = en_rep 1 48 73786976299133173759 := by decide +kernel
theorem wl_a99 : en_get wl_H 99 = en_rep 1 12 73786976299133173759 := by decide +kernel
theorem wl_a100 : en_get wl_H 100 = en_rep 1 2 73786976299133173759 := by decide +kernel
theorem wl_a101 : en_get wl_H 101 = en_rep 1 2 73786976299133173759 := by decide +kernel
theorem wl_a102 : en_get wl_H 102 = en_rep 1 2 73786976299133173759 := by decide +kernel
theorem wl_a103 : en_get wl_H 103 = en_rep 1 2 73786976299133173759 := by decide +kernel
theorem wl_a104 : en_get wl_H 104 = en_rep 1 2 73786976299133173759 := by decide +kernel
theorem wl_a105 : en_get wl_H 105 = en_rep 1 2 73786976299133173759 := by decide +kernel
theorem wl_a115 : en_get wl_H 115 = en_rep 1 64 73786976299133173759 := by decide +kernel
theorem wl_l94 : en_get wl_H 94 = en_rep 4 403 12884901890 := by decide +kernel
theorem wl_l95 : en_get wl_H 95 = en_rep 4 24 12884901890 := by decide +kernel
theorem wl_l96 : en_get wl_H 96 = en_rep 4 6 12884901890 := by decide +kernel
/-- the reference's cells, out of the heap between two calls -/
theorem wl_in {E : mm_E} {x y : Int32} {h : mm_H} (hL : wl_W E wl_H x y h) : ∃ (s : Nat → Int32) (A : Nat → Nat → Int32) (L : Nat → Nat → Int64), bh_P bx_T E h h s A L ∧ s 2 = y ∧ (0 ≤ (s 18).toInt ∧ (s 18).toInt ≤ 1) ∧ rd_J A ∧ (0 ≤ (A 97 0).toInt ∧ (A 97 0).toInt ≤ 6) ∧ (0 ≤ (A 97 1).toInt ∧ (A 97 1).toInt ≤ 6) ∧ (∀ j, j < 403 → 0 ≤ (A 91 j).toInt ∧ (A 91 j).toInt ≤ 43) ∧ (0 ≤ (s 4).toInt ∧ (s 4).toInt ≤ 2000 ∧ 0 ≤ (s 10).toInt ∧ (s 10).toInt ≤ 401 ∧ 0 ≤ (s 11).toInt ∧ (s 11).toInt ≤ 400 ∧ 0 ≤ (s 12).toInt ∧ (s 12).toInt ≤ 7 ∧ 0 ≤ (s 19).toInt ∧ (s 19).toInt ≤ 1 ∧ 0 ≤ (s 20).toInt ∧ (s 20).toInt ≤ 6) := by
  obtain ⟨hl, ⟨A0, hA0, hJA⟩, hx, hy, hh⟩ := hL
  have hh := hh (fun _ => 0)
  obtain ⟨fs, f1, f2, f3⟩ := br_o wl_k1 hh
  rw [wl_k2] at f2
  have hcell : ∀ q ∈ bx_T.2.2.1, h[q.1]? = some (.inl (q.2.1, q.2.2, .inl (br_A h q.1))) := by
    intro q hq
    rcases wl_k6 q hq with m | ⟨m1, m2, m3, m4⟩
    · have g := hA0 q m
      rw [br_A_eq g]
      exact g
    · obtain ⟨f, g, -⟩ := br_a m1 m2 m3 m4 hh
      rw [br_A_eq g]
      exact g
  have hlong : ∀ q ∈ bx_T.2.2.2, h[q.1]? = some (.inl (3, q.2, .inr (.inl (br_L h q.1)))) := by
    intro q hq
    obtain ⟨m1, m2, m3⟩ := wl_k7 q hq
    obtain ⟨f, g⟩ := br_l4 m1 m2 m3 hh
    rw [br_L_eq g]
    exact g
  have e2 : fs[2]? = some (.int y) := by
    have h1 : fs[2]? = some fs[2] := List.getElem?_eq_getElem (by rw [f2]; decide)
    have h2 := f3 2 _ h1
    rw [wl_k5] at h2
    have h3 := (en_v_opq (by decide) (by decide)).mp h2
    rw [h1, h3]
    rfl
  have s2 : br_s fs 2 = y := by
    unfold br_s
    rw [e2]
  have hP : bh_P bx_T E h h (br_s fs) (br_A h) (br_L h) := by
    refine ⟨bx_W, hl, ⟨fs, fs, f1, f1, rfl, fun _ _ => rfl, fun p hpp => ?_, fun k hk => ?_⟩, hcell, hlong, fun _ _ _ _ => rfl⟩
    · obtain ⟨q1, q2, q3⟩ := wl_k3 p hpp
      exact br_ref (by rw [f2]; exact q3) f3 q1 q2
    · rcases wl_k4 k hk with rfl | ⟨m1, m2, m3⟩
      · rw [e2, s2]
      · exact (br_int (by rw [f2]; exact m1) f3 m2 m3).1
  have eX : ∀ q ∈ rd_XT, br_A h q.1 = A0 q.1 := fun q hq => br_A_eq (hA0 q hq)
  have hJ2 : rd_J (br_A h) := by
    have key : ∀ σ bh hi, rd_S A0 σ bh hi → rd_S (br_A h) σ bh hi := fun σ bh hi hS => rd_S_congr (Nat.le_refl _) (Nat.le_refl _) (fun j _ _ => ⟨congrFun (eX (113, 0, 840) (by decide)) j, congrFun (eX (114, 0, 840) (by decide)) j⟩) (fun b _ _ k k1 k2 => by
      have hm : k = 108 ∨ k = 109 ∨ k = 110 ∨ k = 111 ∨ k = 112 := by omega
      rcases hm with rfl | rfl | rfl | rfl | rfl
      · exact congrFun (eX (108, 2, 260) (by decide)) b
      · exact congrFun (eX (109, 0, 260) (by decide)) b
      · exact congrFun (eX (110, 0, 260) (by decide)) b
      · exact congrFun (eX (111, 0, 260) (by decide)) b
      · exact congrFun (eX (112, 0, 260) (by decide)) b) (fun k _ _ => ⟨congrFun (eX (106, 0, 14) (by decide)) k, congrFun (eX (107, 0, 14) (by decide)) k⟩) hS
    exact ⟨key _ _ _ hJA.1, key _ _ _ hJA.2⟩
  have el : ∀ (k t n D lo hi : Nat), k < 136 → en_get wl_H k = en_rep (t + 1) n D → t < 3 → n < 16777216 → D < 2 ^ 68 → en_isI D = true → en_iv (sf_w0 0 0) D (fun a b => en_if (Nat.ble lo a) (Nat.ble b hi) false) = true → ∀ j, j < n → (lo : Int) ≤ (br_A h k j).toInt + 2147483648 ∧ (br_A h k j).toInt + 2147483648 ≤ (hi : Int) := by
    intro k t n D lo hi hk e ht hn hD hI hc j hj
    obtain ⟨f, g, g2⟩ := br_a hk (by rw [e, en_rep_kind (by omega)]) ht (by rw [e, en_rep_len (by omega) hn]) hh
    have g3 := g2 j hj
    rw [e, en_rep_elt (by omega) hn hD hj] at g3
    obtain ⟨z, hz, b1, b2⟩ := br_i hI hc g3
    rw [br_A_eq g]
    injection hz with hz
    rw [hz]
    exact ⟨b1, b2⟩
  have r97 := el 97 0 2 _ 2147483648 2147483654 (by decide) wl_a97 (by decide) (by decide) (by decide) (by decide +kernel) (by decide +kernel)
  have r91 := el 91 0 403 _ 2147483648 2147483691 (by decide) wl_a91 (by decide) (by decide) (by decide) (by decide +kernel) (by decide +kernel)
  have t0 := r97 0 (by decide)
  have t1 := r97 1 (by decide)
  obtain ⟨-, l4, u4⟩ := br_int (j := 4) (lo := 2147483648) (hi := 2147485648) (by rw [f2]; decide) f3 (by decide +kernel) (by decide +kernel)
  obtain ⟨-, l10, u10⟩ := br_int (j := 10) (lo := 2147483648) (hi := 2147484049) (by rw [f2]; decide) f3 (by decide +kernel) (by decide +kernel)
  obtain ⟨-, l11, u11⟩ := br_int (j := 11) (lo := 2147483648) (hi := 2147484048) (by rw [f2]; decide) f3 (by decide +kernel) (by decide +kernel)
  obtain ⟨-, l12, u12⟩ := br_int (j := 12) (lo := 2147483648) (hi := 2147483655) (by rw [f2]; decide) f3 (by decide +kernel) (by decide +kernel)
  obtain ⟨-, l18, u18⟩ := br_int (j := 18) (lo := 2147483648) (hi := 2147483649) (by rw [f2]; decide) f3 (by decide +kernel) (by decide +kernel)
  obtain ⟨-, l19, u19⟩ := br_int (j := 19) (lo := 2147483648) (hi := 2147483649) (by rw [f2]; decide) f3 (by decide +kernel) (by decide +kernel)
  obtain ⟨-, l20, u20⟩ := br_int (j := 20) (lo := 2147483648) (hi := 2147483654) (by rw [f2]; decide) f3 (by decide +kernel) (by decide +kernel)
  exact ⟨br_s fs, br_A h, br_L h, hP, s2, ⟨by omega, by omega⟩, hJ2, ⟨by omega, by omega⟩, ⟨by omega, by omega⟩, fun j hj => by have := r91 j hj; exact ⟨by omega, by omega⟩, ⟨by omega, by omega, by omega, by omega, by omega, by omega, by omega, by omega, by omega, by omega, by omega, by omega⟩⟩
theorem wl_rg43 {E : mm_E} {ρ : Nat → Int32} {ω : Nat → Value} {v : Int32} (h : 0 ≤ v.toInt ∧ v.toInt ≤ 43) : en_v E ρ ω 83010348333840465963 (.int v) := by
  have hz := en_z_int v
  exact (en_v_rng (by decide) (by decide)).mpr ⟨_, rfl, by omega, by omega⟩
theorem wl_rg6 {E : mm_E} {ρ : Nat → Int32} {ω : Nat → Value} {v : Int32} (h : 0 ≤ v.toInt ∧ v.toInt ≤ 6) : en_v E ρ ω 83010348333840465926 (.int v) := by
  have hz := en_z_int v
  exact (en_v_rng (by decide) (by decide)).mpr ⟨_, rfl, by omega, by omega⟩
theorem wl_ar {E : mm_E} {ρ : Nat → Int32} {ω : Nat → Value} {k t n D : Nat} {f : Nat → Int32} {h' : mm_H} (e : en_get wl_H k = en_rep (t + 1) n D) (ht : t < 3) (hn : n < 16777216) (hD : D < 2 ^ 68) (g : h'[k]? = some (.inl (t, n, .inl f))) (hf : ∀ j, j < n → en_v E ρ ω D (.int (f j))) : en_cr E ρ ω (en_get wl_H k) h'[k]? := by
  refine Or.inl ⟨t, f, by rw [e, en_rep_kind (by omega)], ht, by rw [e, en_rep_len (by omega) hn]; exact g, fun j hj => ?_⟩
  rw [e, en_rep_len (by omega) hn] at hj
  rw [e, en_rep_elt (by omega) hn hD hj]
  exact hf j hj
theorem wl_lr {E : mm_E} {ρ : Nat → Int32} {ω : Nat → Value} {k n : Nat} {f : Nat → Int64} {h' : mm_H} (e : en_get wl_H k = en_rep 4 n 12884901890) (hn : n < 16777216) (g : h'[k]? = some (.inl (3, n, .inr (.inl f)))) : en_cr E ρ ω (en_get wl_H k) h'[k]? := by
  refine Or.inr (Or.inl ⟨f, by rw [e, en_rep_kind (by omega)], by rw [e, en_rep_len (by omega) hn]; exact g, fun j hj => ?_⟩)
  rw [e, en_rep_len (by omega) hn] at hj
  rw [e, en_rep_elt (by omega) hn (by decide) hj]
  exact en_v_anyL.mpr ⟨_, rfl⟩
/-- .. and back -/
theorem wl_out {E : mm_E} {x y y' : Int32} {h h' : mm_H} {s' : Nat → Int32} {A' : Nat → Nat → Int32} {L' : Nat → Nat → Int64} (hL : wl_W E wl_H x y h) (hP : bh_P bx_T E h h' s' A' L') (hy2 : s' 2 = y') (hy0 : 0 ≤ y'.toInt ∧ y'.toInt ≤ 2000) (c4 : 0 ≤ (s' 4).toInt ∧ (s' 4).toInt ≤ 2000) (c10 : 0 ≤ (s' 10).toInt ∧ (s' 10).toInt ≤ 401) (c11 : 0 ≤ (s' 11).toInt ∧ (s' 11).toInt ≤ 400) (c12 : 0 ≤ (s' 12).toInt ∧ (s' 12).toInt ≤ 7) (c18 : 0 ≤ (s' 18).toInt ∧ (s' 18).toInt ≤ 1) (c19 : 0 ≤ (s' 19).toInt ∧ (s' 19).toInt ≤ 1) (c20 : 0 ≤ (s' 20).toInt ∧ (s' 20).toInt ≤ 6) (hJ : rd_J A') (m0 : 0 ≤ (A' 97 0).toInt ∧ (A' 97 0).toInt ≤ 6) (m1 : 0 ≤ (A' 97 1).toInt ∧ (A' 97 1).toInt ≤ 6) (q91 : ∀ j, j < 403 → 0 ≤ (A' 91 j).toInt ∧ (A' 91 j).toInt ≤ 43) : wl_W E wl_H x y' h' := by
  obtain ⟨hl, -, hx, hy, hh⟩ := hL
  obtain ⟨-, hl', ⟨fs0, fs, a1, a2, a3, a4, a5, a6⟩, hA, hLo, hF⟩ := hP
  refine ⟨hl', ⟨A', fun q hq => hA q ((by decide : ∀ q ∈ rd_XT, q ∈ bx_T.2.2.1) q hq), hJ⟩, hx, hy0, fun ρ k => ⟨fun hk hkd => ?_, fun _ => rfl⟩⟩
  by_cases e88 : k = 88
  · subst e88
    obtain ⟨fsr, b1, b2, b3⟩ := br_o wl_k1 (hh ρ)
    have e9 : fsr = fs0 := by
      have h9 := b1.symm.trans a1
      cases h9
      rfl
    subst e9
    rw [wl_k2] at b2
    refine Or.inr (Or.inr (Or.inr ⟨9, fs, wl_k1, a2, by rw [a3, b2, wl_k2], fun j v hv => ?_⟩))
    by_cases hj : j ∈ bx_T.2.1
    · have g1 := a6 j hj
      rw [hv] at g1
      cases g1
      have hz := en_z_int (s' j)
      have hz2 := en_z_lt (s' j)
      rcases List.mem_cons.mp hj with rfl | hj
      · rw [wl_k5]
        refine (en_v_opq (by decide) (by decide)).mpr ?_
        rw [hy2]
        rfl
      · rcases List.mem_cons.mp hj with rfl | hj
        · rw [show en_elt (en_get wl_H 88) 4 = 83010348333840467920 from by decide +kernel]
          exact (en_v_rng (by decide) (by decide)).mpr ⟨_, rfl, by omega, by omega⟩
        · rcases List.mem_cons.mp hj with rfl | hj
          · rw [show en_elt (en_get wl_H 88) 10 = 83010348333840466321 from by decide +kernel]
            exact (en_v_rng (by decide) (by decide)).mpr ⟨_, rfl, by omega, by omega⟩
          · rcases List.mem_cons.mp hj with rfl | hj
            · rw [show en_elt (en_get wl_H 88) 11 = 83010348333840466320 from by decide +kernel]
              exact (en_v_rng (by decide) (by decide)).mpr ⟨_, rfl, by omega, by omega⟩
            · rcases List.mem_cons.mp hj with rfl | hj
              · rw [show en_elt (en_get wl_H 88) 12 = 83010348333840465927 from by decide +kernel]
                exact (en_v_rng (by decide) (by decide)).mpr ⟨_, rfl, by omega, by omega⟩
              · rcases List.mem_cons.mp hj with rfl | hj
                · rw [show en_elt (en_get wl_H 88) 13 = 73786976299133173759 from by decide +kernel]
                  exact en_any_v _
                · rcases List.mem_cons.mp hj with rfl | hj
                  · rw [show en_elt (en_get wl_H 88) 14 = 73786976299133173759 from by decide +kernel]
                    exact en_any_v _
                  · rcases List.mem_cons.mp hj with rfl | hj
                    · rw [show en_elt (en_get wl_H 88) 15 = 73786976299133173759 from by decide +kernel]
                      exact en_any_v _
                    · rcases List.mem_cons.mp hj with rfl | hj
                      · rw [show en_elt (en_get wl_H 88) 16 = 73786976299133173759 from by decide +kernel]
                        exact en_any_v _
                      · rcases List.mem_cons.mp hj with rfl | hj
                        · rw [show en_elt (en_get wl_H 88) 17 = 73786976299133173759 from by decide +kernel]
                          exact en_any_v _
                        · rcases List.mem_cons.mp hj with rfl | hj
                          · rw [show en_elt (en_get wl_H 88) 18 = 83010348333840465921 from by decide +kernel]
                            exact (en_v_rng (by decide) (by decide)).mpr ⟨_, rfl, by omega, by omega⟩
                          · rcases List.mem_cons.mp hj with rfl | hj
                            · rw [show en_elt (en_get wl_H 88) 19 = 83010348333840465921 from by decide +kernel]
                              exact (en_v_rng (by decide) (by decide)).mpr ⟨_, rfl, by omega, by omega⟩
                            · rcases List.mem_cons.mp hj with rfl | hj
                              · rw [show en_elt (en_get wl_H 88) 20 = 83010348333840465926 from by decide +kernel]
                                exact (en_v_rng (by decide) (by decide)).mpr ⟨_, rfl, by omega, by omega⟩
                              · rcases List.mem_cons.mp hj with rfl | hj
                                · rw [show en_elt (en_get wl_H 88) 33 = 73786976299133173759 from by decide +kernel]
                                  exact en_any_v _
                                · rcases List.mem_cons.mp hj with rfl | hj
                                  · rw [show en_elt (en_get wl_H 88) 39 = 73786976299133173759 from by decide +kernel]
                                    exact en_any_v _
                                  · rcases List.mem_cons.mp hj with rfl | hj
                                    · rw [show en_elt (en_get wl_H 88) 43 = 73786976299133173759 from by decide +kernel]
                                      exact en_any_v _
                                    · cases hj
    · rw [a4 j hj] at hv
      have hj73 : j < 73 := by
        rw [← b2]
        exact (List.getElem?_eq_some_iff.mp hv).1
      have g2 := b3 j v hv
      rcases wl_k8 j hj73 with rfl | g3 | g3
      · exact absurd (by decide) hj
      · exact wl_om (ω := wl_o x y) (Or.inl g3) g2
      · exact wl_om (ω := wl_o x y) (Or.inr (Or.inl g3)) g2
  · by_cases hq : ∃ q ∈ bx_T.2.2.1, q.1 = k
    · obtain ⟨q, q1, q2⟩ := hq
      subst q2
      have g1 := hA q q1
      rcases List.mem_cons.mp q1 with rfl | q1
      · exact wl_ar (t := 1) (n := 2000) wl_a89 (by decide) (by decide) (by decide) g1 (fun j hj => (en_any_v _))
      · rcases List.mem_cons.mp q1 with rfl | q1
        · exact wl_ar (t := 1) (n := 2000) wl_a90 (by decide) (by decide) (by decide) g1 (fun j hj => (en_any_v _))
        · rcases List.mem_cons.mp q1 with rfl | q1
          · exact wl_ar (t := 0) (n := 403) wl_a91 (by decide) (by decide) (by decide) g1 (fun j hj => (wl_rg43 (q91 j hj)))
          · rcases List.mem_cons.mp q1 with rfl | q1
            · exact wl_ar (t := 0) (n := 403) wl_a92 (by decide) (by decide) (by decide) g1 (fun j hj => (en_any_v _))
            · rcases List.mem_cons.mp q1 with rfl | q1
              · exact wl_ar (t := 0) (n := 403) wl_a93 (by decide) (by decide) (by decide) g1 (fun j hj => (en_any_v _))
              · rcases List.mem_cons.mp q1 with rfl | q1
                · exact wl_ar (t := 0) (n := 2) wl_a97 (by decide) (by decide) (by decide) g1 (fun j hj => (wl_rg6 (by rcases (show j = 0 ∨ j = 1 by omega) with rfl | rfl; exact m0; exact m1)))
                · rcases List.mem_cons.mp q1 with rfl | q1
                  · exact wl_ar (t := 0) (n := 48) wl_a98 (by decide) (by decide) (by decide) g1 (fun j hj => (en_any_v _))
                  · rcases List.mem_cons.mp q1 with rfl | q1
                    · exact wl_ar (t := 0) (n := 12) wl_a99 (by decide) (by decide) (by decide) g1 (fun j hj => (en_any_v _))
                    · rcases List.mem_cons.mp q1 with rfl | q1
                      · exact wl_ar (t := 0) (n := 2) wl_a100 (by decide) (by decide) (by decide) g1 (fun j hj => (en_any_v _))
                      · rcases List.mem_cons.mp q1 with rfl | q1
                        · exact wl_ar (t := 0) (n := 2) wl_a101 (by decide) (by decide) (by decide) g1 (fun j hj => (en_any_v _))
                        · rcases List.mem_cons.mp q1 with rfl | q1
                          · exact wl_ar (t := 0) (n := 2) wl_a102 (by decide) (by decide) (by decide) g1 (fun j hj => (en_any_v _))
                          · rcases List.mem_cons.mp q1 with rfl | q1
                            · exact wl_ar (t := 0) (n := 2) wl_a103 (by decide) (by decide) (by decide) g1 (fun j hj => (en_any_v _))
                            · rcases List.mem_cons.mp q1 with rfl | q1
                              · exact wl_ar (t := 0) (n := 2) wl_a104 (by decide) (by decide) (by decide) g1 (fun j hj => (en_any_v _))
                              · rcases List.mem_cons.mp q1 with rfl | q1
                                · exact wl_ar (t := 0) (n := 2) wl_a105 (by decide) (by decide) (by decide) g1 (fun j hj => (en_any_v _))
                                · rcases List.mem_cons.mp q1 with rfl | q1
                                  · exact absurd (wl_k9 (106, 0, 14) (by decide)) hkd
                                  · rcases List.mem_cons.mp q1 with rfl | q1
                                    · exact absurd (wl_k9 (107, 0, 14) (by decide)) hkd
                                    · rcases List.mem_cons.mp q1 with rfl | q1
                                      · exact absurd (wl_k9 (108, 2, 260) (by decide)) hkd
                                      · rcases List.mem_cons.mp q1 with rfl | q1
                                        · exact absurd (wl_k9 (109, 0, 260) (by decide)) hkd
                                        · rcases List.mem_cons.mp q1 with rfl | q1
                                          · exact absurd (wl_k9 (110, 0, 260) (by decide)) hkd
                                          · rcases List.mem_cons.mp q1 with rfl | q1
                                            · exact absurd (wl_k9 (111, 0, 260) (by decide)) hkd
                                            · rcases List.mem_cons.mp q1 with rfl | q1
                                              · exact absurd (wl_k9 (112, 0, 260) (by decide)) hkd
                                              · rcases List.mem_cons.mp q1 with rfl | q1
                                                · exact absurd (wl_k9 (113, 0, 840) (by decide)) hkd
                                                · rcases List.mem_cons.mp q1 with rfl | q1
                                                  · exact absurd (wl_k9 (114, 0, 840) (by decide)) hkd
                                                  · rcases List.mem_cons.mp q1 with rfl | q1
                                                    · exact wl_ar (t := 0) (n := 64) wl_a115 (by decide) (by decide) (by decide) g1 (fun j hj => (en_any_v _))
                                                    · cases q1
    · by_cases hq2 : ∃ q ∈ bx_T.2.2.2, q.1 = k
      · obtain ⟨q, q1, q2⟩ := hq2
        subst q2
        have g1 := hLo q q1
        rcases List.mem_cons.mp q1 with rfl | q1
        · exact wl_lr (n := 403) wl_l94 (by decide) g1
        · rcases List.mem_cons.mp q1 with rfl | q1
          · exact wl_lr (n := 24) wl_l95 (by decide) g1
          · rcases List.mem_cons.mp q1 with rfl | q1
            · exact wl_lr (n := 6) wl_l96 (by decide) g1
            · cases q1
      · rw [hF k e88 (fun q q1 q2 => hq ⟨q, q1, q2⟩) (fun q q1 q2 => hq2 ⟨q, q1, q2⟩)]
        exact wl_cr1 wl_nd1 hk e88 ((hh ρ k).1 hk hkd)
theorem wl_tc : sf_cells (sf_w0 0 0) wl_H zb_m488.2.2.1 zb_m488.2.2.2.2.1 = true := by decide +kernel
theorem wl_td : sf_cells (sf_w0 0 0) zb_m488.2.2.2.1 wl_H zb_m488.2.2.2.2.1 = true := by decide +kernel
/-- the reference reads -/
theorem wl_read {E : mm_E} {x y : Int32} {h : mm_H} {gs : List mm_F} {FIN : mm_C → Prop} (hS : ∀ ρ, en_SA E ρ (wl_o x 0) mt_SB) (hL : wl_W E wl_H x y h) (hd : gs.length + 8 ≤ 999) (kk : ∀ (h' : mm_H) (r : Int32), wl_W E wl_H x 0 h' → bh_G E FIN (mm_back (some (.int r)) gs h')) : bh_G E FIN ((77, 0, [(0, .ref (E.1 + 88))], [], 0, 0) :: gs, h, none) := by
  obtain ⟨s, A, L, hP, e2, h18, hJ, m0, m1, q91, hr⟩ := wl_in hL
  obtain ⟨hl, hJ0, hx, hy, hh⟩ := hL
  have hLL : wl_W E wl_H x y h := ⟨hl, hJ0, hx, hy, hh⟩
  refine sp_77 hP hd (by rw [e2]; exact hy.1) (by rw [e2]; exact hy.2) h18.1 h18.2 hJ m0 m1 q91 (fun h' s' A' L' lv o hP' f18 z2 z4 z10 z11 z12 z19 z20 hJ' m0' m1' q91' g0 => ?_)
  have hz : s' 2 = 0 := Int32.toInt_inj.mp (by rw [z2]; rfl)
  have hL2 : wl_W E wl_H x 0 h' := wl_out hLL hP' hz ⟨by decide, by decide⟩ z4 z10 z11 z12 (by rw [f18]; exact h18) z19 z20 hJ' m0' m1' q91'
  have hloc : ∀ ρ, en_lr E ρ (wl_o x 0) 2 zb_m488.2.1 lv := by
    intro ρ i hi
    rcases (show i = 0 ∨ i = 1 by omega) with rfl | rfl
    · refine Or.inr ⟨_, g0, ?_⟩
      rw [show en_elt zb_m488.2.1 0 = 8589934680 from by decide +kernel]
      exact (en_v_ref (by decide) (by decide)).mpr rfl
    · exact Or.inl (by decide +kernel)
  exact wl_call (M := zb_m488) (Hi := wl_H) (Ho := wl_H) (zb_k488 hS rd_JX rd_MnB) wl_tc wl_td (fun _ _ _ => rfl) (by decide) wl_H_n wl_H_n (cs := mt_77.1) (nL := 2) (dd := mt_77.2.2) rfl hL2 hloc (by omega) (fun vo h2 hL3 hv => by
    rcases hv (fun _ => 0) with ⟨e, -⟩ | ⟨c, V, e, rfl, hv⟩
    · cases e
    · cases e
      obtain ⟨r, rfl⟩ := en_isI_int (by decide +kernel) hv
      exact kk h2 r hL3)
