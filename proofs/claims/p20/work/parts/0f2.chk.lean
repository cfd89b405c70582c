/-! BY HAND: String.checkIndex, which takes a static of the JDK's along -/
section SFH
variable {E : mm_E} {ω : Nat → Value} {J : mm_H → Prop} {FIN : mm_C → Prop}
theorem sf_s1 {k pc pc0 len a b wd nL np kd ci rk mc ms : Nat} {z : Int} {ins : Instr} {lv lv' : mm_V} {st st' : List Value} {cb sb cb' sb' pc' : Nat} {h h' : mm_H} {gs : List mm_F} {o : Option Value} (hat : mm_at mt_P k pc = some ((pc0, len, ins, a, b, z, wd), nL, (np, kd, ci, rk, mc, ms))) (hi : mm_inv ins = none) (hr : mm_rtn ins = none) (hx : mm_ex E mt_kds nL ins len a b z pc lv st cb sb h = some (pc', lv', st', cb', sb', h')) (g : en_Good E mt_kds mt_P 1000 FIN ((k, pc', lv', st', cb', sb') :: gs, h', none)) : en_Good E mt_kds mt_P 1000 FIN ((k, pc, lv, st, cb, sb) :: gs, h, o) :=
  en_good_step (by simp only [mm_stp, hat, hi, hr, hx]) g
theorem sf_s2 {k pc pc0 len a b wd nL np kd ci rk mc ms ik : Nat} {z : Int} {ins : Instr} {lv : mm_V} {st : List Value} {cb sb : Nat} {h : mm_H} {gs : List mm_F} {o : Option Value} {c' : mm_C} (hat : mm_at mt_P k pc = some ((pc0, len, ins, a, b, z, wd), nL, (np, kd, ci, rk, mc, ms))) (hi : mm_inv ins = some ik) (ha : ¬ a < 2) (hx : mm_call E 1000 mt_P a ik k (pc + len) lv st cb sb gs h = some c') (g : en_Good E mt_kds mt_P 1000 FIN c') : en_Good E mt_kds mt_P 1000 FIN ((k, pc, lv, st, cb, sb) :: gs, h, o) :=
  en_good_step (by simp only [mm_stp, hat, hi, if_neg ha, hx]) g
theorem sf_s3 {k pc pc0 len a b wd nL np kd ci rk mc ms ik : Nat} {z : Int} {ins : Instr} {lv : mm_V} {st : List Value} {cb sb : Nat} {h : mm_H} {gs : List mm_F} {o v : Option Value} (hat : mm_at mt_P k pc = some ((pc0, len, ins, a, b, z, wd), nL, (np, kd, ci, rk, mc, ms))) (hi : mm_inv ins = none) (hr : mm_rtn ins = some ik) (hx : mm_ans rk ik st = some v) (g : en_Good E mt_kds mt_P 1000 FIN (mm_back v gs h)) : en_Good E mt_kds mt_P 1000 FIN ((k, pc, lv, st, cb, sb) :: gs, h, o) :=
  en_good_step (by simp only [mm_stp, hat, hi, hr, hx]) g
theorem sf_ld {lv : mm_V} {st : List Value} {cb sb pc' kd i : Nat} {h : mm_H} {v : Value} (h1 : mm_get lv i = some v) (h2 : mm_kind v = kd) : mm_load lv st cb sb h pc' kd i = some (pc', lv, v :: st, cb, sb, h) := by
  unfold mm_load
  rw [h1]
  simp only []
  rw [if_pos h2]
theorem sf_chk (h8 : ∃ q, E.2[8]? = some q) : sf_K E ω J 4 133 sa_m0 := by
  intro h0 fsC FIN c hJ hR hp
  obtain ⟨lv, sv, gs, h, o, rfl, ⟨cs, nL, dd, hP, hl⟩, hs, hh, he, hx, hd, hf⟩ := hR (fun _ => 0)
  have hg : gs = fsC := hf
  subst hg
  have hs0 := en_sr_nil hs
  subst hs0
  have hnl : nL = 2 := sf_nL (m := 276) (n := 2) (by decide +kernel) cs nL dd hP
  subst hnl
  have e0 : en_elt sa_m0.2.1 0 = 83010348333840466111 := by decide +kernel
  have e1 : en_elt sa_m0.2.1 1 = 2147483840 := by decide +kernel
  obtain ⟨x, hx0, hx1, hx2⟩ : ∃ x : Int32, mm_get lv 0 = some (.int x) ∧ 2147483648 ≤ en_z x ∧ en_z x ≤ 2147483839 := by
    rcases hl 0 (by decide) with h1 | ⟨v, h1, h2⟩
    · rw [e0] at h1; exact absurd h1 (by decide)
    · rw [e0, en_v_rng (by decide) (by decide)] at h2
      obtain ⟨x, rfl, h3, h4⟩ := h2
      exact ⟨x, h1, h3, h4⟩
  have hy : mm_get lv 1 = some (.int 192) := by
    rcases hl 1 (by decide) with h1 | ⟨v, h1, h2⟩
    · rw [e1] at h1; exact absurd h1 (by decide)
    · rw [e1, en_v_const (by decide)] at h2
      rw [h1, h2]
      rfl
  have hz := en_z_int x
  have hd : gs.length + 0 + 1 + 4 ≤ 1000 := hd
  have c1 : ¬ mm_cond .lt x 0 = true := by
    intro h9
    have h9 : x < 0 := of_decide_eq_true h9
    rw [en_z_lt_iff] at h9
    have e9 : en_z 0 = 2147483648 := by decide
    omega
  have c2 : mm_cond .lt x 192 = true := by
    refine decide_eq_true ?_
    rw [en_z_lt_iff]
    have e9 : en_z 192 = 2147483840 := by decide
    omega
  obtain ⟨q, hq⟩ := h8
  have go : ∀ F : Value, (F = .null ∨ ∃ r, F = .ref r) → (if q.2.1 = 0 then Value.null else Value.ref q.1) = F → en_Good E mt_kds mt_P 1000 FIN ((276, 0, lv, [], 0, 0) :: gs, h, o) := by
    intro F hF1 hF
    refine sf_s1 (pc' := 1) (lv' := lv) (st' := [.int x]) (cb' := 0) (sb' := 0) (h' := h) rfl rfl rfl (sf_ld hx0 rfl) ?_
    refine sf_s1 (pc' := 2) (lv' := lv) (st' := [.int 192, .int x]) (cb' := 0) (sb' := 0) (h' := h) rfl rfl rfl (sf_ld hy rfl) ?_
    refine sf_s1 (pc' := 5) (lv' := lv) (st' := [F, .int 192, .int x]) (cb' := 0) (sb' := 0) (h' := h) rfl rfl rfl ?_ ?_
    · simp only [mm_ex]
      rw [if_neg (by decide), if_pos trivial, hq]
      simp only [hF]
    refine sf_s2 (c' := ((286, 0, [(0, .int x), (1, .int 192), (2, F)], [], 0, 0) :: (276, 8, lv, [], 0, 0) :: gs, h, none)) rfl rfl (by decide) ?_ ?_
    · have hlg : (gs.length + 1 < 1000) := by omega
      unfold mm_call
      rw [show mt_P[286]? = some (mt_286.1, 3, 3, 0, 0, 1, 0, 0) from rfl]
      simp only []
      rw [if_pos ⟨trivial, hlg, Nat.le_refl _, Nat.le_refl _, Nat.le_refl 3⟩]
      unfold mm_recv
      rw [if_pos rfl]
      rcases hF1 with rfl | ⟨r, rfl⟩ <;> rfl
    refine sf_s1 (pc' := 1) (lv' := [(0, .int x), (1, .int 192), (2, F)]) (st' := [.int x]) (cb' := 0) (sb' := 0) (h' := h) rfl rfl rfl (sf_ld (lv := [(0, .int x), (1, .int 192), (2, F)]) (i := 0) (v := .int x) rfl rfl) ?_
    refine sf_s1 (pc' := 4) (lv' := [(0, .int x), (1, .int 192), (2, F)]) (st' := []) (cb' := 0) (sb' := 0) (h' := h) rfl rfl rfl ?_ ?_
    · simp only [mm_ex]
      rw [if_neg c1]
    refine sf_s1 (pc' := 5) (lv' := [(0, .int x), (1, .int 192), (2, F)]) (st' := [.int x]) (cb' := 0) (sb' := 0) (h' := h) rfl rfl rfl (sf_ld (lv := [(0, .int x), (1, .int 192), (2, F)]) (i := 0) (v := .int x) rfl rfl) ?_
    refine sf_s1 (pc' := 6) (lv' := [(0, .int x), (1, .int 192), (2, F)]) (st' := [.int 192, .int x]) (cb' := 0) (sb' := 0) (h' := h) rfl rfl rfl (sf_ld (lv := [(0, .int x), (1, .int 192), (2, F)]) (i := 1) (v := .int 192) rfl rfl) ?_
    refine sf_s1 (pc' := 16) (lv' := [(0, .int x), (1, .int 192), (2, F)]) (st' := []) (cb' := 0) (sb' := 0) (h' := h) rfl rfl rfl ?_ ?_
    · simp only [mm_ex]
      rw [if_pos c2]
      rfl
    refine sf_s1 (pc' := 17) (lv' := [(0, .int x), (1, .int 192), (2, F)]) (st' := [.int x]) (cb' := 0) (sb' := 0) (h' := h) rfl rfl rfl (sf_ld (lv := [(0, .int x), (1, .int 192), (2, F)]) (i := 0) (v := .int x) rfl rfl) ?_
    refine sf_s3 (v := some (.int x)) rfl rfl rfl ?_ ?_
    · unfold mm_ans
      simp
    refine sf_s1 (k := 276) (pc := 8) (lv := lv) (st := [.int x]) (cb := 0) (sb := 0) (o := none) (gs := gs) (pc' := 9) (lv' := lv) (st' := []) (cb' := 0) (sb' := 0) (h' := h) rfl rfl rfl ?_ ?_
    · simp only [mm_ex]
      rfl
    refine sf_s3 (v := none) rfl rfl rfl rfl ?_
    refine hp none h (fun ρ => ⟨Or.inl ⟨rfl, rfl⟩, ?_⟩) hx
    obtain ⟨_, _, _, h2, _, e9, _, _, hh2, _⟩ := hR ρ
    cases e9
    exact hh2
  by_cases hn0 : q.2.1 = 0
  · exact go .null (Or.inl rfl) (by rw [if_pos hn0])
  · exact go (.ref q.1) (Or.inr ⟨_, rfl⟩) (by rw [if_neg hn0])
theorem sf_MnA_ok (h8 : ∃ q, E.2[8]? = some q) : sf_MnA E ω J := by
  intro M hM
  rcases List.mem_cons.mp hM with rfl | hM
  · exact ⟨sf_nL (by decide +kernel), by decide +kernel, by decide +kernel, by decide +kernel, (fun k hk => by cases hk), sf_chk h8⟩
  · cases hM
end SFH
