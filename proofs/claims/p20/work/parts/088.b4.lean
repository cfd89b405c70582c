/-! THE ENGINE IS SOUND, 4: states, and instructions that touch no heap -/
section ENS
variable (E : mm_E) (kds : List (List Nat)) (P : mm_T) (L : Nat) (ρ : Nat → Int32) (ω : Nat → Value) (h0 : mm_H) (fsC : List mm_F) (FIN : mm_C → Prop)
/-- what a row says of a cell -/
def en_cr (N : Nat) (x : Option va_E) : Prop :=
  (∃ (t : Nat) (f : Nat → Int32), en_kind N = t + 1 ∧ t < 3 ∧ x = some (.inl (t, en_len N, .inl f)) ∧ ∀ j, j < en_len N → en_v E ρ ω (en_elt N j) (.int (f j))) ∨
  (∃ f : Nat → Int64, en_kind N = 4 ∧ x = some (.inl (3, en_len N, .inr (.inl f))) ∧ ∀ j, j < en_len N → en_v E ρ ω (en_elt N j) (.long (f j))) ∨
  (∃ f : Nat → Option Nat, en_kind N = 5 ∧ x = some (.inl (4, en_len N, .inr (.inr (.inr (.inr f))))) ∧ ∀ j, j < en_len N → en_v E ρ ω (en_elt N j) (va_rf (f j))) ∨
  (∃ (ci : Nat) (fs : List Value), en_kind N = 6 + ci ∧ x = some (.inr (ci, fs)) ∧ fs.length = en_len N ∧ ∀ (j : Nat) (v : Value), fs[j]? = some v → en_v E ρ ω (en_elt N j) v)
def en_h (hp : en_H) (h : mm_H) : Prop := ∀ k : Nat, (k < 136 → en_kind (en_get hp k) ≠ 0 → en_cr E ρ ω (en_get hp k) h[k]?) ∧ (¬ (k < 136 ∧ en_kind (en_get hp k) ≠ 0) → h[k]? = h0[k]?)
def en_lr (nL loc : Nat) (lv : mm_V) : Prop := ∀ i, i < nL → en_elt loc i = 12884901891 ∨ ∃ v, mm_get lv i = some v ∧ en_v E ρ ω (en_elt loc i) v
def en_sr : List Nat → List Value → Prop
  | [], [] => True
  | c :: cs, v :: vs => en_v E ρ ω c v ∧ en_sr cs vs
  | _, _ => False
def en_fr (f : en_F) (g : mm_F) : Prop := g.1 = f.1 / 65536 ∧ g.2.1 = f.1 % 65536 ∧ (∃ cs nL dd, P[g.1]? = some (cs, nL, dd) ∧ en_lr E ρ ω nL f.2.1 g.2.2.1) ∧ en_sr E ρ ω f.2.2.1 g.2.2.2.1 ∧ g.2.2.2.2.1 = f.2.2.2.1 ∧ g.2.2.2.2.2 = f.2.2.2.2.1
def en_frs : List en_F → List mm_F → Prop
  | [], gs => gs = fsC
  | f :: fs, g :: gs => en_fr E P ρ ω f g ∧ fsC.length + fs.length + 1 + f.2.2.2.2.2 ≤ L ∧ en_frs fs gs
  | _ :: _, [] => False
def en_R (q loc : Nat) (st : List Nat) (hp : en_H) (w : en_W) (c : mm_C) : Prop := ∃ (lv : mm_V) (sv : List Value) (gs : List mm_F) (h : mm_H) (o : Option Value), c = ((q / 65536, q % 65536, lv, sv, w.1, w.2.1) :: gs, h, o) ∧
  (∃ cs nL dd, P[q / 65536]? = some (cs, nL, dd) ∧ en_lr E ρ ω nL loc lv) ∧ en_sr E ρ ω st sv ∧ en_h E ρ ω h0 hp h ∧ en_e ρ (en_ev w) ∧ h.length = w.2.2.2.2.1 ∧ fsC.length + w.2.2.2.1.length + 1 + w.2.2.1 ≤ L ∧ en_frs E P L ρ ω fsC w.2.2.2.1 gs
def en_Good (c : mm_C) : Prop := ∃ n c', mm_run E kds P L n c = some c' ∧ FIN c'
def en_S (ih : en_C) : Prop := ∀ q loc st hp w c, ih q loc st hp w = true → en_R E P L ρ ω h0 fsC q loc st hp w c → en_Good E kds P L FIN c
def en_OS (q : Nat) (o : en_O) : Prop := ∀ loc st hp w ih c, en_S E kds P L ρ ω h0 fsC FIN ih → o loc st hp w ih = true → en_R E P L ρ ω h0 fsC q loc st hp w c → en_Good E kds P L FIN c
/-- the instruction at q does X -/
def en_St (q : Nat) (X : mm_V → List Value → Nat → Nat → mm_H → mm_O) : Prop := ∀ (lv : mm_V) (sv : List Value) (cb sb : Nat) (h : mm_H) (gs : List mm_F) (o : Option Value) (pc' : Nat) (lv' : mm_V) (sv' : List Value) (cb' sb' : Nat) (h' : mm_H), X lv sv cb sb h = some (pc', lv', sv', cb', sb', h') → en_Good E kds P L FIN ((q / 65536, pc', lv', sv', cb', sb') :: gs, h', none) → en_Good E kds P L FIN ((q / 65536, q % 65536, lv, sv, cb, sb) :: gs, h, o)
variable {E kds P L ρ ω h0 fsC FIN}
theorem en_good_step {c c' : mm_C} (h : mm_stp E kds P L c = some c') (g : en_Good E kds P L FIN c') : en_Good E kds P L FIN c := by
  obtain ⟨n, c2, h1, h2⟩ := g
  refine ⟨n + 1, c2, ?_, h2⟩
  show (match mm_stp E kds P L c with
    | some c' => mm_run E kds P L n c'
    | none => none) = some c2
  rw [h]
  exact h1
theorem en_step1 {q len a b wd nL : Nat} {z : Int} {ins : Instr} {q0 : Nat} {dd : mm_M} (hat : mm_at P (q / 65536) (q % 65536) = some ((q0, len, ins, a, b, z, wd), nL, dd)) (hi : mm_inv ins = none) (hr : mm_rtn ins = none) : en_St E kds P L FIN q (fun lv sv cb sb h => mm_ex E kds nL ins len a b z (q % 65536) lv sv cb sb h) := by
  intro lv sv cb sb h gs o pc' lv' sv' cb' sb' h' hx g
  refine en_good_step ?_ g
  obtain ⟨d1, d2, d3, d4, d5, d6⟩ := dd
  simp only [mm_stp, hat, hi, hr, hx]
theorem en_sr_cons {c : Nat} {r : List Nat} {sv : List Value} (h : en_sr E ρ ω (c :: r) sv) : ∃ v vs, sv = v :: vs ∧ en_v E ρ ω c v ∧ en_sr E ρ ω r vs := by
  cases sv with
  | nil => exact h.elim
  | cons v vs => exact ⟨v, vs, rfl, h.1, h.2⟩
theorem en_sr_nil {sv : List Value} (h : en_sr E ρ ω [] sv) : sv = [] := by
  cases sv with
  | nil => rfl
  | cons v vs => exact h.elim
/-- going on at the place n, a state later -/
theorem en_go_on {ih : en_C} (hih : en_S E kds P L ρ ω h0 fsC FIN ih) {q n loc : Nat} {st : List Nat} {hp : en_H} {w : en_W} (hk : ih n loc st hp w = true) (hn : n / 65536 = q / 65536) {lv : mm_V} {sv : List Value} {gs : List mm_F} {h : mm_H} {o : Option Value} {cb sb : Nat} {cs : List (List mm_I)} {nL : Nat} {dd : mm_M}
    (hP : P[q / 65536]? = some (cs, nL, dd)) (hl : en_lr E ρ ω nL loc lv) (hs : en_sr E ρ ω st sv) (hh : en_h E ρ ω h0 hp h) (he : en_e ρ (en_ev w)) (hx : h.length = w.2.2.2.2.1) (hd : fsC.length + w.2.2.2.1.length + 1 + w.2.2.1 ≤ L) (hf : en_frs E P L ρ ω fsC w.2.2.2.1 gs) (hc : cb = w.1) (hb : sb = w.2.1) : en_Good E kds P L FIN ((q / 65536, n % 65536, lv, sv, cb, sb) :: gs, h, o) := by
  refine hih n loc st hp w _ hk ⟨lv, sv, gs, h, o, ?_, ⟨cs, nL, dd, by rw [hn]; exact hP, hl⟩, hs, hh, he, hx, hd, hf⟩
  rw [hn, hc, hb]
section OPS
variable {q n : Nat} {X : mm_V → List Value → Nat → Nat → mm_H → mm_O} {cs : List (List mm_I)} {nL : Nat} {dd : mm_M}
theorem en_O_push (hP : P[q / 65536]? = some (cs, nL, dd)) (hS : en_St E kds P L FIN q X) (hn : n / 65536 = q / 65536) {c : Nat} {v : Value} (hv : en_v E ρ ω c v) (hX : ∀ lv sv cb sb h, X lv sv cb sb h = some (n % 65536, lv, v :: sv, cb, sb, h)) : en_OS E kds P L ρ ω h0 fsC FIN q (en_push n c) := by
  intro loc st hp w ih c0 hih hk hR
  obtain ⟨lv, sv, gs, h, o, rfl, ⟨cs', nL', dd', hP', hl⟩, hs, hh, he, hx, hd, hf⟩ := hR
  cases hP.symm.trans hP'
  exact hS _ _ _ _ _ _ _ _ _ _ _ _ _ (hX _ _ _ _ _) (en_go_on hih hk hn hP hl (show en_sr E ρ ω (c :: st) (v :: sv) from ⟨hv, hs⟩) hh he hx hd hf rfl rfl)
theorem en_O_load (hP : P[q / 65536]? = some (cs, nL, dd)) (hS : en_St E kds P L FIN q X) (hn : n / 65536 = q / 65536) {t : Nat → Bool} {kd i : Nat} (hi : i < nL) (ht : ∀ c v, t c = true → en_v E ρ ω c v → mm_kind v = kd) (hu : t 12884901891 = false) (hX : ∀ lv sv cb sb h, X lv sv cb sb h = mm_load lv sv cb sb h (n % 65536) kd i) : en_OS E kds P L ρ ω h0 fsC FIN q (en_load t n i) := by
  intro loc st hp w ih c0 hih hk hR
  obtain ⟨lv, sv, gs, h, o, rfl, ⟨cs', nL', dd', hP', hl⟩, hs, hh, he, hx, hd, hf⟩ := hR
  cases hP.symm.trans hP'
  unfold en_load at hk
  obtain ⟨h1, hk⟩ := en_if_and.mp hk
  rcases hl i hi with h2 | ⟨v, h2, h3⟩
  · rw [h2, hu] at h1; cases h1
  · refine hS lv sv _ _ h gs o (n % 65536) lv (v :: sv) _ _ h ?_ (en_go_on hih hk hn hP hl (show en_sr E ρ ω (en_elt loc i :: st) (v :: sv) from ⟨h3, hs⟩) hh he hx hd hf rfl rfl)
    rw [hX]
    unfold mm_load
    rw [h2]
    simp only []
    rw [if_pos (ht _ _ h1 h3)]
theorem en_free_v {loc i : Nat} {lv : mm_V} (hi : i < nL) (hl : en_lr E ρ ω nL loc lv) (h : en_free loc i = true) : ∀ (j : Nat) (v : Value), j + 1 = i → mm_get lv j = some v → en_elt loc j ≠ 12884901891 → v.category ≠ 2 := by
  intro j v hj hg hu
  subst hj
  have h9 : en_if (Nat.ble (en_elt loc j) 12884902911) (en_if (Nat.beq (en_elt loc j) 12884901890) false true) (Nat.ble 73786976294838206464 (en_elt loc j)) = true := h
  rcases hl j (by omega) with h2 | ⟨v', h2, h3⟩
  · exact absurd h2 hu
  · cases hg.symm.trans h2
    have h1 : en_one (en_elt loc j) = true := by
      rw [en_one_iff]
      simp only [en_if_or, en_ble_t, en_ble_f, en_beq_t, en_beq_f, Bool.false_eq_true, and_false, false_or, and_true] at h9
      omega
    rw [en_one_cat h1 h3]
    decide
theorem en_get_p1 {lv : mm_V} {i j : Nat} {v : Value} : mm_get (mm_p1 lv i v) j = if j = i then some v else ((lv.filter (fun q => !(q.1 == i) && !(q.1 + 1 == i && q.2.category == 2))).find? (fun q => q.1 == j)).map (fun q => q.2) := by
  unfold mm_get mm_p1
  by_cases h : j = i
  · subst h
    simp
  · rw [List.find?_cons_of_neg (by simpa using fun e => h e.symm), if_neg h]
theorem en_find_filter {α : Type} (l : List α) (p f : α → Bool) {a : α} (h : l.find? p = some a) (ha : f a = true) : (l.filter f).find? p = some a := by
  induction l with
  | nil => cases h
  | cons b r ih =>
    by_cases hb : p b = true
    · rw [List.find?_cons_of_pos hb] at h
      cases h
      rw [List.filter_cons_of_pos ha, List.find?_cons_of_pos hb]
    · rw [List.find?_cons_of_neg hb] at h
      by_cases hf : f b = true
      · rw [List.filter_cons_of_pos hf, List.find?_cons_of_neg hb]
        exact ih h
      · rw [List.filter_cons_of_neg hf]
        exact ih h
theorem en_keep {lv : mm_V} {j : Nat} {v : Value} {f : Nat × Value → Bool} (h : mm_get lv j = some v) (hf : ∀ q : Nat × Value, q.1 = j → q.2 = v → f q = true) : ((lv.filter f).find? (fun q => q.1 == j)).map (fun q => q.2) = some v := by
  unfold mm_get at h
  cases hq : lv.find? (fun q => q.1 == j) with
  | none => rw [hq] at h; cases h
  | some q =>
    rw [hq] at h
    cases h
    have h1 : q.1 = j := by simpa using List.find?_some hq
    rw [en_find_filter lv _ f hq (hf q h1 rfl)]
    rfl
theorem en_lr_store {loc i c : Nat} {lv : mm_V} {v : Value} (hi : i < nL) (hl : en_lr E ρ ω nL loc lv) (hf : en_free loc i = true) (hv : en_v E ρ ω c v) : en_lr E ρ ω nL (en_eset loc i c) (mm_p1 lv i v) := by
  intro j hj
  rw [en_elt_eset (en_v_68 hv)]
  by_cases hij : j = i
  · subst hij
    rw [if_pos rfl]
    right
    exact ⟨v, by rw [en_get_p1, if_pos rfl], hv⟩
  · rw [if_neg hij]
    rcases hl j hj with h2 | ⟨v', h2, h3⟩
    · exact Or.inl h2
    · by_cases hu : en_elt loc j = 12884901891
      · exact Or.inl hu
      right
      refine ⟨v', ?_, h3⟩
      rw [en_get_p1, if_neg hij]
      refine en_keep h2 (fun q h4 h5 => ?_)
      subst h4
      subst h5
      have hc : q.1 + 1 = i → q.2.category ≠ 2 := fun e => en_free_v hi hl hf q.1 q.2 e h2 hu
      simp only [Bool.and_eq_true, Bool.not_eq_true', beq_eq_false_iff_ne, Bool.and_eq_false_imp, beq_iff_eq]
      exact ⟨hij, fun e => by simpa using hc e⟩
theorem en_O_store (hP : P[q / 65536]? = some (cs, nL, dd)) (hS : en_St E kds P L FIN q X) (hn : n / 65536 = q / 65536) {t : Nat → Bool} {kd i : Nat} (hi : i < nL) (hkd : kd ≠ 1) (ht : ∀ c v, t c = true → en_v E ρ ω c v → mm_kind v = kd) (hX : ∀ lv sv cb sb h, X lv sv cb sb h = mm_store nL lv sv cb sb h (n % 65536) kd i) : en_OS E kds P L ρ ω h0 fsC FIN q (en_store t n i) := by
  intro loc st hp w ih c0 hih hk hR
  obtain ⟨lv, sv, gs, h, o, rfl, ⟨cs', nL', dd', hP', hl⟩, hs, hh, he, hx, hd, hf⟩ := hR
  cases hP.symm.trans hP'
  unfold en_store at hk
  obtain ⟨c, r, rfl, hk1⟩ := en_pop_t hk
  obtain ⟨h1, hk1⟩ := en_if_and.mp hk1
  obtain ⟨h2, hk1⟩ := en_if_and.mp hk1
  obtain ⟨v, vs, rfl, h3, h4⟩ := en_sr_cons hs
  refine hS lv (v :: vs) _ _ h gs o (n % 65536) (mm_p1 lv i v) vs _ _ h ?_ (en_go_on hih hk1 hn hP (en_lr_store hi hl h2 h3) h4 hh he hx hd hf rfl rfl)
  rw [hX]
  unfold mm_store
  simp only []
  rw [if_pos (ht _ _ h1 h3), if_neg hkd, if_pos hi]
theorem en_O_storeL (hP : P[q / 65536]? = some (cs, nL, dd)) (hS : en_St E kds P L FIN q X) (hn : n / 65536 = q / 65536) {i : Nat} (hi : i + 1 < nL) (hX : ∀ lv sv cb sb h, X lv sv cb sb h = mm_store nL lv sv cb sb h (n % 65536) 1 i) : en_OS E kds P L ρ ω h0 fsC FIN q (en_storeL n i) := by
  intro loc st hp w ih c0 hih hk hR
  obtain ⟨lv, sv, gs, h, o, rfl, ⟨cs', nL', dd', hP', hl⟩, hs, hh, he, hx, hd, hf⟩ := hR
  cases hP.symm.trans hP'
  unfold en_storeL at hk
  obtain ⟨c, r, rfl, hk1⟩ := en_pop_t hk
  obtain ⟨h1, hk1⟩ := en_if_and.mp hk1
  obtain ⟨h2, hk1⟩ := en_if_and.mp hk1
  obtain ⟨v, vs, rfl, h3, h4⟩ := en_sr_cons hs
  obtain ⟨x, rfl⟩ := en_isL_long h1 h3
  have hl2 : en_lr E ρ ω nL (en_eset (en_eset loc i c) (Nat.succ i) 12884901891) (mm_p2 lv i (.long x)) := by
    intro j hj
    rw [en_elt_eset (by decide), en_elt_eset (en_v_68 h3)]
    by_cases hj1 : j = Nat.succ i
    · left; rw [if_pos hj1]
    · rw [if_neg hj1]
      by_cases hij : j = i
      · subst hij
        rw [if_pos rfl]
        right
        refine ⟨.long x, ?_, h3⟩
        unfold mm_get mm_p2
        simp
      · rw [if_neg hij]
        rcases hl j hj with h5 | ⟨v', h5, h6⟩
        · exact Or.inl h5
        · by_cases hu : en_elt loc j = 12884901891
          · exact Or.inl hu
          right
          refine ⟨v', ?_, h6⟩
          unfold mm_get mm_p2
          rw [List.find?_cons_of_neg (by simpa using fun e => hij e.symm)]
          refine en_keep h5 (fun q h7 h8 => ?_)
          subst h7
          subst h8
          have hc : q.1 + 1 = i → q.2.category ≠ 2 := fun e => en_free_v (by omega) hl h2 q.1 q.2 e h5 hu
          simp only [Bool.and_eq_true, Bool.not_eq_true', beq_eq_false_iff_ne, Bool.and_eq_false_imp, beq_iff_eq]
          exact ⟨hij, hj1, fun e => by simpa using hc e⟩
  refine hS lv (.long x :: vs) _ _ h gs o (n % 65536) (mm_p2 lv i (.long x)) vs _ _ h ?_ (en_go_on hih hk1 hn hP hl2 h4 hh he hx hd hf rfl rfl)
  rw [hX]
  unfold mm_store
  show (if mm_kind (Value.long x) = 1 then (if (1 : Nat) = 1 then (if i + 1 < nL then _ else _) else _) else _) = _
  rw [if_pos (show mm_kind (Value.long x) = 1 from rfl), if_pos rfl, if_pos hi]
theorem en_O_bin (hP : P[q / 65536]? = some (cs, nL, dd)) (hS : en_St E kds P L FIN q X) (hn : n / 65536 = q / 65536) {g : en_W → Nat → Nat → (Nat → Bool) → Bool} {r : Int32 → Int32 → Option Int32} (hg : en_G E ρ ω g r) (hX : ∀ lv sv cb sb h, X lv sv cb sb h = mm_bin lv sv cb sb h (n % 65536) r) : en_OS E kds P L ρ ω h0 fsC FIN q (en_bin g n) := by
  intro loc st hp w ih c0 hih hk hR
  obtain ⟨lv, sv, gs, h, o, rfl, ⟨cs', nL', dd', hP', hl⟩, hs, hh, he, hx, hd, hf⟩ := hR
  cases hP.symm.trans hP'
  unfold en_bin at hk
  obtain ⟨y, st1, rfl, hk1⟩ := en_pop_t hk
  obtain ⟨x, st2, rfl, hk2⟩ := en_pop_t hk1
  obtain ⟨h1, hk2⟩ := en_if_and.mp hk2
  obtain ⟨h2, hk2⟩ := en_if_and.mp hk2
  obtain ⟨vy, sv3, rfl, h3, hs3⟩ := en_sr_cons hs
  obtain ⟨vx, sv4, rfl, h4, hs4⟩ := en_sr_cons hs3
  obtain ⟨Y, rfl⟩ := en_isI_int h2 h3
  obtain ⟨Xx, rfl⟩ := en_isI_int h1 h4
  obtain ⟨Z, hr, c, hk2, hv⟩ := hg w x y _ Xx Y he h4 h3 hk2
  refine hS lv _ _ _ h gs o (n % 65536) lv (.int Z :: sv4) _ _ h ?_ (en_go_on hih hk2 hn hP hl (show en_sr E ρ ω (c :: st2) (.int Z :: sv4) from ⟨hv, hs4⟩) hh he hx hd hf rfl rfl)
  rw [hX]
  unfold mm_bin
  simp only [hr, Option.map_some]
theorem en_O_un (hP : P[q / 65536]? = some (cs, nL, dd)) (hS : en_St E kds P L FIN q X) (hn : n / 65536 = q / 65536) {r : Int32 → Int32} (hX : ∀ lv sv cb sb h, X lv sv cb sb h = mm_un lv sv cb sb h (n % 65536) (fun x => .int (r x))) : en_OS E kds P L ρ ω h0 fsC FIN q (en_un 73786976299133173759 n) := by
  intro loc st hp w ih c0 hih hk hR
  obtain ⟨lv, sv, gs, h, o, rfl, ⟨cs', nL', dd', hP', hl⟩, hs, hh, he, hx, hd, hf⟩ := hR
  cases hP.symm.trans hP'
  unfold en_un at hk
  obtain ⟨x, st1, rfl, hk1⟩ := en_pop_t hk
  obtain ⟨h1, hk1⟩ := en_if_and.mp hk1
  obtain ⟨vx, sv2, rfl, h4, hs2⟩ := en_sr_cons hs
  obtain ⟨Xx, rfl⟩ := en_isI_int h1 h4
  refine hS lv _ _ _ h gs o (n % 65536) lv (.int (r Xx) :: sv2) _ _ h ?_ (en_go_on hih hk1 hn hP hl (show en_sr E ρ ω (_ :: st1) (.int (r Xx) :: sv2) from ⟨en_any_v _, hs2⟩) hh he hx hd hf rfl rfl)
  rw [hX]
  rfl
theorem en_O_i2l (hP : P[q / 65536]? = some (cs, nL, dd)) (hS : en_St E kds P L FIN q X) (hn : n / 65536 = q / 65536) (hX : ∀ lv sv cb sb h, X lv sv cb sb h = mm_un lv sv cb sb h (n % 65536) (fun x => .long x.toInt64)) : en_OS E kds P L ρ ω h0 fsC FIN q (en_i2l n) := by
  intro loc st hp w ih c0 hih hk hR
  obtain ⟨lv, sv, gs, h, o, rfl, ⟨cs', nL', dd', hP', hl⟩, hs, hh, he, hx, hd, hf⟩ := hR
  cases hP.symm.trans hP'
  unfold en_i2l at hk
  obtain ⟨x, st1, rfl, hk1⟩ := en_pop_t hk
  obtain ⟨vx, sv2, rfl, h4, hs2⟩ := en_sr_cons hs
  have hI : en_isI x = true := by
    rcases en_if_or.mp hk1 with ⟨a1, -⟩ | ⟨-, hk1⟩
    · rw [en_isI_iff]; have := en_ble_t.mp a1; omega
    · exact (en_if_and.mp hk1).1
  obtain ⟨Xx, rfl⟩ := en_isI_int hI h4
  have fin : ∀ c, en_v E ρ ω c (.long Xx.toInt64) → ih n loc (c :: st1) hp w = true → en_Good E kds P L FIN ((q / 65536, q % 65536, lv, .int Xx :: sv2, w.1, w.2.1) :: gs, h, o) := by
    intro c hv hk1
    refine hS lv _ _ _ h gs o (n % 65536) lv (.long Xx.toInt64 :: sv2) _ _ h ?_ (en_go_on hih hk1 hn hP hl (show en_sr E ρ ω (c :: st1) (_ :: sv2) from ⟨hv, hs2⟩) hh he hx hd hf rfl rfl)
    rw [hX]
    rfl
  rcases en_if_or.mp hk1 with ⟨a1, hk1⟩ | ⟨-, hk1⟩
  · rcases en_if_or.mp hk1 with ⟨a2, hk1⟩ | ⟨-, hk1⟩
    · have a1 := en_ble_t.mp a1
      have a2 := en_ble_t.mp a2
      refine fin _ ?_ hk1
      have e : Xx = nI (x - 2147483648) := by rw [← en_d_nI a2]; simpa using (en_v_const (by omega)).mp h4
      show en_v E ρ ω (36893488147419103232 + (x - 2147483648)) _
      rw [en_v_long (by omega) (by omega), e, nI_l (by omega), Nat.add_sub_cancel_left]
      rfl
    · exact fin _ (en_v_anyL.mpr ⟨_, rfl⟩) hk1
  · exact fin _ (en_v_anyL.mpr ⟨_, rfl⟩) (en_if_and.mp hk1).2
theorem en_O_binL (hP : P[q / 65536]? = some (cs, nL, dd)) (hS : en_St E kds P L FIN q X) (hn : n / 65536 = q / 65536) {f : Nat → Nat → Nat} {r : Int64 → Int64 → Int64} (hf0 : ∀ a b, r (lN a) (lN b) = lN (f a b)) (hX : ∀ lv sv cb sb h, X lv sv cb sb h = mm_binL lv sv cb sb h (n % 65536) (fun x y => .long (r x y))) : en_OS E kds P L ρ ω h0 fsC FIN q (en_binL f n) := by
  intro loc st hp w ih c0 hih hk hR
  obtain ⟨lv, sv, gs, h, o, rfl, ⟨cs', nL', dd', hP', hl⟩, hs, hh, he, hx, hd, hf⟩ := hR
  cases hP.symm.trans hP'
  unfold en_binL at hk
  obtain ⟨y, st1, rfl, hk1⟩ := en_pop_t hk
  obtain ⟨x, st2, rfl, hk2⟩ := en_pop_t hk1
  obtain ⟨h1, hk2⟩ := en_if_and.mp hk2
  obtain ⟨h2, hk2⟩ := en_if_and.mp hk2
  obtain ⟨vy, sv3, rfl, h3, hs3⟩ := en_sr_cons hs
  obtain ⟨vx, sv4, rfl, h4, hs4⟩ := en_sr_cons hs3
  obtain ⟨Y, rfl⟩ := en_isL_long h2 h3
  obtain ⟨Xx, rfl⟩ := en_isL_long h1 h4
  have fin : ∀ c, en_v E ρ ω c (.long (r Xx Y)) → ih n loc (c :: st2) hp w = true → en_Good E kds P L FIN ((q / 65536, q % 65536, lv, .long Y :: .long Xx :: sv4, w.1, w.2.1) :: gs, h, o) := by
    intro c hv hk2
    refine hS lv _ _ _ h gs o (n % 65536) lv (.long (r Xx Y) :: sv4) _ _ h ?_ (en_go_on hih hk2 hn hP hl (show en_sr E ρ ω (c :: st2) (_ :: sv4) from ⟨hv, hs4⟩) hh he hx hd hf rfl rfl)
    rw [hX]
    rfl
  rcases en_if_or.mp hk2 with ⟨a1, hk2⟩ | ⟨-, hk2⟩
  · rcases en_if_or.mp hk2 with ⟨a2, hk2⟩ | ⟨-, hk2⟩
    · rcases en_if_or.mp hk2 with ⟨a3, hk2⟩ | ⟨-, hk2⟩
      · have a1 := en_ble_t.mp a1
        have a2 := en_ble_t.mp a2
        have a3 : f (x - 36893488147419103232) (y - 36893488147419103232) ≤ 9223372036854775807 := en_ble_t.mp a3
        have b1 : x < 73786976294838206464 := by
          rcases en_isL_iff.mp h1 with h9 | h9 <;> omega
        have b2 : y < 73786976294838206464 := by
          rcases en_isL_iff.mp h2 with h9 | h9 <;> omega
        have ex : Xx = lN (x - 36893488147419103232) := Value.long.inj ((en_v_long a1 b1).mp h4)
        have ey : Y = lN (y - 36893488147419103232) := Value.long.inj ((en_v_long a2 b2).mp h3)
        refine fin _ ?_ hk2
        show en_v E ρ ω (36893488147419103232 + f (x - 36893488147419103232) (y - 36893488147419103232)) _
        rw [en_v_long (by omega) (by omega), ex, ey, hf0, Nat.add_sub_cancel_left]
        rfl
      · exact fin _ (en_v_anyL.mpr ⟨_, rfl⟩) hk2
    · exact fin _ (en_v_anyL.mpr ⟨_, rfl⟩) hk2
  · exact fin _ (en_v_anyL.mpr ⟨_, rfl⟩) hk2
theorem en_O_iinc (hP : P[q / 65536]? = some (cs, nL, dd)) (hS : en_St E kds P L FIN q X) (hn : n / 65536 = q / 65536) {i : Nat} {x : Int} (hi : i < nL) (hx1 : -2147483648 ≤ x) (hx2 : x < 2147483648) (hX : ∀ lv sv cb sb h, X lv sv cb sb h = (match mm_get lv i with
    | some (.int y) => if i < nL then some (n % 65536, mm_p1 lv i (.int (y + Int32.ofInt x)), sv, cb, sb, h) else none
    | _ => none)) : en_OS E kds P L ρ ω h0 fsC FIN q (en_iinc n i (en_c x)) := by
  intro loc st hp w ih c0 hih hk hR
  obtain ⟨lv, sv, gs, h, o, rfl, ⟨cs', nL', dd', hP', hl⟩, hs, hh, he, hx, hd, hf⟩ := hR
  cases hP.symm.trans hP'
  unfold en_iinc at hk
  obtain ⟨h1, hk⟩ := en_if_and.mp hk
  obtain ⟨h2, hk⟩ := en_if_and.mp hk
  rcases hl i hi with h3 | ⟨v, h3, h4⟩
  · rw [h3] at h1; exact absurd h1 (by decide)
  · obtain ⟨Y, rfl⟩ := en_isI_int h1 h4
    have hc : en_v E ρ ω (en_c x) (.int (Int32.ofInt x)) := by
      unfold en_c
      rw [en_v_const (by omega)]
      unfold en_d
      exact congrArg (fun z => Value.int (Int32.ofInt z)) (by omega)
    obtain ⟨c, hk, hv⟩ := en_add_v he h4 hc hk
    refine hS lv sv _ _ h gs o (n % 65536) (mm_p1 lv i (.int (Y + Int32.ofInt x))) sv _ _ h ?_ (en_go_on hih hk hn hP (en_lr_store hi hl h2 hv) hs hh he hx hd hf rfl rfl)
    rw [hX, h3]
    simp only [hi, if_true]
theorem en_O_dup (hP : P[q / 65536]? = some (cs, nL, dd)) (hS : en_St E kds P L FIN q X) (hn : n / 65536 = q / 65536) (hX : ∀ lv v sv cb sb h, v.category = 1 → X lv (v :: sv) cb sb h = some (n % 65536, lv, v :: v :: sv, cb, sb, h)) : en_OS E kds P L ρ ω h0 fsC FIN q (en_dup n) := by
  intro loc st hp w ih c0 hih hk hR
  obtain ⟨lv, sv, gs, h, o, rfl, ⟨cs', nL', dd', hP', hl⟩, hs, hh, he, hx, hd, hf⟩ := hR
  cases hP.symm.trans hP'
  unfold en_dup at hk
  obtain ⟨x, st1, rfl, hk1⟩ := en_pop_t hk
  obtain ⟨h1, hk1⟩ := en_if_and.mp hk1
  obtain ⟨v, sv2, rfl, h4, hs2⟩ := en_sr_cons hs
  exact hS lv _ _ _ h gs o (n % 65536) lv (v :: v :: sv2) _ _ h (hX _ _ _ _ _ _ (en_one_cat h1 h4)) (en_go_on hih hk1 hn hP hl (show en_sr E ρ ω (x :: x :: st1) (v :: v :: sv2) from ⟨h4, h4, hs2⟩) hh he hx hd hf rfl rfl)
theorem en_O_drop (hP : P[q / 65536]? = some (cs, nL, dd)) (hS : en_St E kds P L FIN q X) (hn : n / 65536 = q / 65536) (hX : ∀ lv v sv cb sb h, v.category = 1 → X lv (v :: sv) cb sb h = some (n % 65536, lv, sv, cb, sb, h)) : en_OS E kds P L ρ ω h0 fsC FIN q (en_drop n) := by
  intro loc st hp w ih c0 hih hk hR
  obtain ⟨lv, sv, gs, h, o, rfl, ⟨cs', nL', dd', hP', hl⟩, hs, hh, he, hx, hd, hf⟩ := hR
  cases hP.symm.trans hP'
  unfold en_drop at hk
  obtain ⟨x, st1, rfl, hk1⟩ := en_pop_t hk
  obtain ⟨h1, hk1⟩ := en_if_and.mp hk1
  obtain ⟨v, sv2, rfl, h4, hs2⟩ := en_sr_cons hs
  exact hS lv _ _ _ h gs o (n % 65536) lv sv2 _ _ h (hX _ _ _ _ _ _ (en_one_cat h1 h4)) (en_go_on hih hk1 hn hP hl hs2 hh he hx hd hf rfl rfl)
theorem en_O_dup2 (hP : P[q / 65536]? = some (cs, nL, dd)) (hS : en_St E kds P L FIN q X) (hn : n / 65536 = q / 65536) (hX : ∀ lv v u sv cb sb h, v.category = 1 ∧ u.category = 1 → X lv (v :: u :: sv) cb sb h = some (n % 65536, lv, v :: u :: v :: u :: sv, cb, sb, h)) : en_OS E kds P L ρ ω h0 fsC FIN q (en_dup2 n) := by
  intro loc st hp w ih c0 hih hk hR
  obtain ⟨lv, sv, gs, h, o, rfl, ⟨cs', nL', dd', hP', hl⟩, hs, hh, he, hx, hd, hf⟩ := hR
  cases hP.symm.trans hP'
  unfold en_dup2 at hk
  obtain ⟨x, st1, rfl, hk1⟩ := en_pop_t hk
  obtain ⟨y, st2, rfl, hk2⟩ := en_pop_t hk1
  obtain ⟨h1, hk2⟩ := en_if_and.mp hk2
  obtain ⟨h2, hk2⟩ := en_if_and.mp hk2
  obtain ⟨v, sv3, rfl, h4, hs3⟩ := en_sr_cons hs
  obtain ⟨u, sv4, rfl, h5, hs4⟩ := en_sr_cons hs3
  exact hS lv _ _ _ h gs o (n % 65536) lv (v :: u :: v :: u :: sv4) _ _ h (hX _ _ _ _ _ _ _ ⟨en_one_cat h1 h4, en_one_cat h2 h5⟩) (en_go_on hih hk2 hn hP hl (show en_sr E ρ ω (x :: y :: x :: y :: st2) (v :: u :: v :: u :: sv4) from ⟨h4, h5, h4, h5, hs4⟩) hh he hx hd hf rfl rfl)
/-- the rest of a state moves with its ranges -/
theorem en_go_w {ih : en_C} (hih : en_S E kds P L ρ ω h0 fsC FIN ih) {loc n : Nat} {st : List Nat} {hp : en_H} {w w' : en_W} (hk : ih n loc st hp w' = true) (hw : en_wq w w') (he' : en_e ρ (en_ev w')) (hn : n / 65536 = q / 65536) {lv : mm_V} {sv : List Value} {gs : List mm_F} {h : mm_H} {o : Option Value} (hP : P[q / 65536]? = some (cs, nL, dd)) (hl : en_lr E ρ ω nL loc lv) (hs : en_sr E ρ ω st sv) (hh : en_h E ρ ω h0 hp h) (hx : h.length = w.2.2.2.2.1) (hd : fsC.length + w.2.2.2.1.length + 1 + w.2.2.1 ≤ L) (hf : en_frs E P L ρ ω fsC w.2.2.2.1 gs) : en_Good E kds P L FIN ((q / 65536, n % 65536, lv, sv, w.1, w.2.1) :: gs, h, o) := by
  obtain ⟨w1, w2, w3, w4, w5⟩ := hw
  exact en_go_on hih hk hn hP hl hs hh he' (by rw [w5]; exact hx) (by rw [w3, w4]; exact hd) (by rw [w4]; exact hf) w1.symm w2.symm
theorem en_O_icmp (hP : P[q / 65536]? = some (cs, nL, dd)) (hS : en_St E kds P L FIN q X) {qt : Nat} (hn : n / 65536 = q / 65536) (ht : qt / 65536 = q / 65536) {k : Jvm.ClassFile.Cond} (hX : ∀ lv x y sv cb sb h, X lv (.int y :: .int x :: sv) cb sb h = if mm_cond k x y = true then some (qt % 65536, lv, sv, cb, sb, h) else some (n % 65536, lv, sv, cb, sb, h)) : en_OS E kds P L ρ ω h0 fsC FIN q (en_icmp k qt n) := by
  intro loc st hp w ih c0 hih hk hR
  obtain ⟨lv, sv, gs, h, o, rfl, ⟨cs', nL', dd', hP', hl⟩, hs, hh, he, hx, hd, hf⟩ := hR
  cases hP.symm.trans hP'
  unfold en_icmp at hk
  obtain ⟨y, st1, rfl, hk1⟩ := en_pop_t hk
  obtain ⟨x, st2, rfl, hk2⟩ := en_pop_t hk1
  obtain ⟨h1, hk2⟩ := en_if_and.mp hk2
  obtain ⟨h2, hk2⟩ := en_if_and.mp hk2
  obtain ⟨vy, sv3, rfl, h3, hs3⟩ := en_sr_cons hs
  obtain ⟨vx, sv4, rfl, h4, hs4⟩ := en_sr_cons hs3
  obtain ⟨Y, rfl⟩ := en_isI_int h2 h3
  obtain ⟨Xx, rfl⟩ := en_isI_int h1 h4
  obtain ⟨k1, k2⟩ := en_cmp_v he h4 h3 hk2
  by_cases hc : mm_cond k Xx Y = true
  · obtain ⟨w', hk2, hw, he'⟩ := k1 hc
    exact hS lv _ _ _ h gs o (qt % 65536) lv sv4 _ _ h (by rw [hX, if_pos hc]) (en_go_w hih hk2 hw he' ht hP hl hs4 hh hx hd hf)
  · obtain ⟨w', hk2, hw, he'⟩ := k2 hc
    exact hS lv _ _ _ h gs o (n % 65536) lv sv4 _ _ h (by rw [hX, if_neg hc]) (en_go_w hih hk2 hw he' hn hP hl hs4 hh hx hd hf)
theorem en_O_if0 (hP : P[q / 65536]? = some (cs, nL, dd)) (hS : en_St E kds P L FIN q X) {qt : Nat} (hn : n / 65536 = q / 65536) (ht : qt / 65536 = q / 65536) {k : Jvm.ClassFile.Cond} (hX : ∀ lv x sv cb sb h, X lv (.int x :: sv) cb sb h = if mm_cond k x 0 = true then some (qt % 65536, lv, sv, cb, sb, h) else some (n % 65536, lv, sv, cb, sb, h)) : en_OS E kds P L ρ ω h0 fsC FIN q (en_if0 k qt n) := by
  intro loc st hp w ih c0 hih hk hR
  obtain ⟨lv, sv, gs, h, o, rfl, ⟨cs', nL', dd', hP', hl⟩, hs, hh, he, hx, hd, hf⟩ := hR
  cases hP.symm.trans hP'
  unfold en_if0 at hk
  obtain ⟨x, st1, rfl, hk1⟩ := en_pop_t hk
  obtain ⟨h1, hk1⟩ := en_if_and.mp hk1
  obtain ⟨vx, sv2, rfl, h4, hs2⟩ := en_sr_cons hs
  obtain ⟨Xx, rfl⟩ := en_isI_int h1 h4
  have hz : en_v E ρ ω 2147483648 (.int 0) := by rw [en_v_const (by decide), en_d_zero]
  obtain ⟨k1, k2⟩ := en_cmp_v he h4 hz hk1
  by_cases hc : mm_cond k Xx 0 = true
  · obtain ⟨w', hk1, hw, he'⟩ := k1 hc
    exact hS lv _ _ _ h gs o (qt % 65536) lv sv2 _ _ h (by rw [hX, if_pos hc]) (en_go_w hih hk1 hw he' ht hP hl hs2 hh hx hd hf)
  · obtain ⟨w', hk1, hw, he'⟩ := k2 hc
    exact hS lv _ _ _ h gs o (n % 65536) lv sv2 _ _ h (by rw [hX, if_neg hc]) (en_go_w hih hk1 hw he' hn hP hl hs2 hh hx hd hf)
theorem en_O_goto (hP : P[q / 65536]? = some (cs, nL, dd)) (hS : en_St E kds P L FIN q X) (hn : n / 65536 = q / 65536) (hX : ∀ lv sv cb sb h, X lv sv cb sb h = some (n % 65536, lv, sv, cb, sb, h)) : en_OS E kds P L ρ ω h0 fsC FIN q (en_goto n) := by
  intro loc st hp w ih c0 hih hk hR
  obtain ⟨lv, sv, gs, h, o, rfl, ⟨cs', nL', dd', hP', hl⟩, hs, hh, he, hx, hd, hf⟩ := hR
  cases hP.symm.trans hP'
  exact hS lv _ _ _ h gs o (n % 65536) lv sv _ _ h (hX _ _ _ _ _) (en_go_on hih hk hn hP hl hs hh he hx hd hf rfl rfl)
end OPS
end ENS
