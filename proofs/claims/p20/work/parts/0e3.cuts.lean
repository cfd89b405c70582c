/-! CUTS, 2: what comes to a cut with a lower measure is good; contracts, and calls by them -/
noncomputable def sf_nmd (ct p : Nat) : Bool := en_if (Nat.ble 4294967296 ct) (en_if (Nat.ble ct 8589934591) (Nat.beq (Nat.div (Nat.sub ct 4294967296) 65536) p) false) false
noncomputable def sf_lt1 (n : Nat) (w : en_W) (loc : Nat) (hp : en_H) (pos : List (Nat × Nat)) (s t : Nat × Nat) : Bool :=
  en_if (Nat.beq s.1 0) (en_if (Nat.beq t.1 0) (en_if (Nat.ble s.2 1000000) (Nat.ble (Nat.succ t.2) s.2) false) false)
    (en_if (sf_pk n hp (en_nth (0, 0) pos t.2)) (en_if (sf_nmd (sf_cd loc hp (en_nth (0, 0) pos t.2)) s.2)
      (en_if (Nat.beq s.1 1) (en_if (Nat.beq t.1 1) (en_if (Nat.ble 32769 (Nat.mod (sf_cd loc hp (en_nth (0, 0) pos t.2)) 65536)) (Nat.ble (Nat.add (en_nth (0, 4294967295) (en_ev w) s.2).2 (Nat.mod (sf_cd loc hp (en_nth (0, 0) pos t.2)) 65536)) 4295000063) false) false)
        (en_if (Nat.beq s.1 2) (en_if (Nat.beq t.1 2) (en_if (Nat.ble (Nat.mod (sf_cd loc hp (en_nth (0, 0) pos t.2)) 65536) 32767) (Nat.ble 32768 (Nat.add (en_nth (0, 4294967295) (en_ev w) s.2).1 (Nat.mod (sf_cd loc hp (en_nth (0, 0) pos t.2)) 65536))) false) false) false)) false) false)
noncomputable def sf_eq1 (n loc : Nat) (hp : en_H) (pos : List (Nat × Nat)) (s t : Nat × Nat) : Bool :=
  en_if (Nat.beq s.1 t.1) (en_if (Nat.beq s.1 0) (Nat.beq s.2 t.2) (en_if (sf_pk n hp (en_nth (0, 0) pos t.2)) (en_if (Nat.ble s.2 60000) (Nat.beq (sf_cd loc hp (en_nth (0, 0) pos t.2)) (sf_nc s.2)) false) false)) false
noncomputable def sf_lex (n : Nat) (w : en_W) (loc : Nat) (hp : en_H) (pos : List (Nat × Nat)) (ms : List (Nat × Nat)) : List (Nat × Nat) → Bool := List.rec (motive := fun _ => List (Nat × Nat) → Bool) (fun _ => false) (fun s _ ih tl => List.rec (motive := fun _ => Bool) false (fun t r _ => en_if (sf_lt1 n w loc hp pos s t) true (en_if (sf_eq1 n loc hp pos s t) (ih r) false)) tl) ms
section SFL
variable {E : mm_E} {ρ : Nat → Int32} {ω : Nat → Value} {h0 : mm_H} {fsC : List mm_F} {q loc n : Nat} {st : List Nat} {hp : en_H} {w : en_W} {c c2 : mm_C} {pos posS : List (Nat × Nat)}
/-- the machine's int at a place whose code is a named one -/
theorem sf_nmd_v {p : Nat × Nat} {k : Nat} (hn : ∀ cs nL dd, mt_P[q / 65536]? = some (cs, nL, dd) → nL = n) (hR : en_R E mt_P 1000 ρ ω h0 fsC q loc st hp w c2) (h1 : sf_pk n hp p = true) (h2 : sf_nmd (sf_cd loc hp p) k = true) : sf_iv c2 p = ρ k + en_off (sf_cd loc hp p) := by
  unfold sf_nmd at h2
  obtain ⟨a1, h2⟩ := en_if_and.mp h2
  obtain ⟨a2, a3⟩ := en_if_and.mp h2
  have b1 := en_ble_t.mp a1
  have b2 := en_ble_t.mp a2
  have b3 := en_beq_t.mp a3
  have b3 : (sf_cd loc hp p - 4294967296) / 65536 = k := b3
  obtain ⟨x, g1, g2⟩ := sf_pos_v hn hR h1 (en_isI_iff.mpr (Or.inl (by omega)))
  rw [en_v_name b1 (by omega), b3] at g2
  have e : sf_iv c2 p = x := by unfold sf_iv; rw [g1]
  rw [e]
  injection g2
theorem sf_lt1_v {s t : Nat × Nat} (hn : ∀ cs nL dd, mt_P[q / 65536]? = some (cs, nL, dd) → nL = n) (hR : en_R E mt_P 1000 ρ ω h0 fsC q loc st hp w c2) (hρ : ∀ p, ρ p = sf_iv c (en_nth (0, 0) posS p)) (h : sf_lt1 n w loc hp pos s t = true) : sf_cm c2 pos t < sf_cm c posS s := by
  have he : en_e ρ (en_ev w) := by
    obtain ⟨_, _, _, _, _, -, -, -, -, he, -⟩ := hR
    exact he
  unfold sf_lt1 at h
  unfold sf_cm
  rcases en_if_or.mp h with ⟨a1, h⟩ | ⟨a1, h⟩
  · obtain ⟨a2, h⟩ := en_if_and.mp h
    obtain ⟨a3, h⟩ := en_if_and.mp h
    have b3 := en_ble_t.mp a3
    have b4 := en_ble_t.mp h
    rw [if_pos (en_beq_t.mp a1), if_pos (en_beq_t.mp a2)]
    have e1 : t.2 % 1099511627776 = t.2 := Nat.mod_eq_of_lt (by omega)
    have e2 : s.2 % 1099511627776 = s.2 := Nat.mod_eq_of_lt (by omega)
    rw [e1, e2]
    exact b4
  · obtain ⟨a2, h⟩ := en_if_and.mp h
    obtain ⟨a3, h⟩ := en_if_and.mp h
    have hv := sf_nmd_v hn hR a2 a3
    have hE := he s.2
    have hz := en_z_lt (ρ s.2)
    have hz2 := en_z_lt (sf_iv c2 (en_nth (0, 0) pos t.2))
    generalize sf_cd loc hp (en_nth (0, 0) pos t.2) = ct at h hv
    rcases en_if_or.mp h with ⟨b1, h⟩ | ⟨b1, h⟩
    · obtain ⟨b2, h⟩ := en_if_and.mp h
      obtain ⟨b3, b4⟩ := en_if_and.mp h
      have d3 : 32769 ≤ ct % 65536 := en_ble_t.mp b3
      have d4 : (en_nth (0, 4294967295) (en_ev w) s.2).2 + ct % 65536 ≤ 4295000063 := en_ble_t.mp b4
      have s1 : s.1 = 1 := en_beq_t.mp b1
      have t1 : t.1 = 1 := en_beq_t.mp b2
      have h9 := en_z_off (x := ρ s.2) (c := ct) (by omega) (by omega)
      rw [← hv] at h9
      have t0 : ¬ t.1 = 0 := by omega
      have s0 : ¬ s.1 = 0 := by omega
      rw [if_neg t0, if_pos t1, if_neg s0, if_pos s1, ← hρ]
      omega
    · obtain ⟨b0, h⟩ := en_if_and.mp h
      obtain ⟨b2, h⟩ := en_if_and.mp h
      obtain ⟨b3, b4⟩ := en_if_and.mp h
      have d3 : ct % 65536 ≤ 32767 := en_ble_t.mp b3
      have d4 : 32768 ≤ (en_nth (0, 4294967295) (en_ev w) s.2).1 + ct % 65536 := en_ble_t.mp b4
      have s1 : s.1 = 2 := en_beq_t.mp b0
      have t1 : t.1 = 2 := en_beq_t.mp b2
      have h9 := en_z_off (x := ρ s.2) (c := ct) (by omega) (by omega)
      rw [← hv] at h9
      have t0 : ¬ t.1 = 0 := by omega
      have s0 : ¬ s.1 = 0 := by omega
      have t2 : ¬ t.1 = 1 := by omega
      have s2 : ¬ s.1 = 1 := by omega
      rw [if_neg t0, if_neg t2, if_neg s0, if_neg s2, ← hρ]
      omega
theorem sf_eq1_v {s t : Nat × Nat} (hn : ∀ cs nL dd, mt_P[q / 65536]? = some (cs, nL, dd) → nL = n) (hR : en_R E mt_P 1000 ρ ω h0 fsC q loc st hp w c2) (hρ : ∀ p, ρ p = sf_iv c (en_nth (0, 0) posS p)) (h : sf_eq1 n loc hp pos s t = true) : sf_cm c2 pos t = sf_cm c posS s := by
  unfold sf_eq1 at h
  obtain ⟨a1, h⟩ := en_if_and.mp h
  have e1 := en_beq_t.mp a1
  unfold sf_cm
  rw [← e1]
  rcases en_if_or.mp h with ⟨a2, h⟩ | ⟨a2, h⟩
  · rw [if_pos (en_beq_t.mp a2), if_pos (en_beq_t.mp a2), en_beq_t.mp h]
  · obtain ⟨a3, h⟩ := en_if_and.mp h
    obtain ⟨a4, a5⟩ := en_if_and.mp h
    have k1 : s.2 ≤ 60000 := en_ble_t.mp a4
    have e2 := en_beq_t.mp a5
    have hI : en_isI (sf_cd loc hp (en_nth (0, 0) pos t.2)) = true := by
      rw [e2]
      have e : sf_nc s.2 = 4294967296 + 32768 + 65536 * s.2 := rfl
      exact en_isI_iff.mpr (Or.inl (by omega))
    obtain ⟨x, g1, g2⟩ := sf_pos_v hn hR a3 hI
    rw [e2] at g2
    have g3 := sf_nc_v (E := E) (ω := ω) (ρ := ρ) (i := s.2) rfl k1
    have e5 : (sf_nc s.2 - 4294967296) / 65536 = s.2 := by
      have e : sf_nc s.2 = 4294967296 + 32768 + 65536 * s.2 := rfl
      omega
    have e6 : 4294967296 ≤ sf_nc s.2 ∧ sf_nc s.2 < 8589934592 := by
      have e : sf_nc s.2 = 4294967296 + 32768 + 65536 * s.2 := rfl
      omega
    rw [en_v_name e6.1 e6.2] at g2 g3
    have e3 : sf_iv c2 (en_nth (0, 0) pos t.2) = x := by unfold sf_iv; rw [g1]
    have e4 : x = ρ s.2 := by
      have h9 : Value.int x = Value.int (ρ s.2) := g2.trans g3.symm
      injection h9
    have a6 : ¬ s.1 = 0 := en_beq_f.mp a2
    rw [if_neg a6, if_neg a6, e3, e4, hρ]
theorem sf_lex_v (hn : ∀ cs nL dd, mt_P[q / 65536]? = some (cs, nL, dd) → nL = n) (hR : en_R E mt_P 1000 ρ ω h0 fsC q loc st hp w c2) (hρ : ∀ p, ρ p = sf_iv c (en_nth (0, 0) posS p)) : ∀ (ms mt : List (Nat × Nat)) (d : Nat), ms.length ≤ d → sf_lex n w loc hp pos ms mt = true → sf_mu c2 pos d mt < sf_mu c posS d ms
  | [], _, _, _, h => by cases h
  | _ :: _, [], _, _, h => by cases h
  | s :: ms, t :: mt, 0, hd, _ => by cases hd
  | s :: ms, t :: mt, d + 1, hd, h => by
    rcases en_if_or.mp (show en_if (sf_lt1 n w loc hp pos s t) true (en_if (sf_eq1 n loc hp pos s t) (sf_lex n w loc hp pos ms mt) false) = true from h) with ⟨h1, -⟩ | ⟨-, h1⟩
    · exact sf_mu_less (sf_lt1_v hn hR hρ h1)
    · obtain ⟨h2, h3⟩ := en_if_and.mp h1
      have h4 := sf_lex_v hn hR hρ ms mt d (Nat.le_of_succ_le_succ hd) h3
      have h5 := sf_eq1_v hn hR hρ h2
      show sf_cm c2 pos t * 1099511627776 ^ d + sf_mu c2 pos d mt < sf_cm c posS s * 1099511627776 ^ d + sf_mu c posS d ms
      rw [h5]
      omega
end SFL
noncomputable def sf_w (dp nx : Nat) (w : en_W) : Bool := en_if (Nat.beq w.1 0) (en_if (Nat.beq w.2.1 0) (en_if (Nat.ble dp w.2.2.1) (en_if (Nat.beq w.2.2.2.2.1 nx) (List.rec (motive := fun _ => Bool) true (fun _ _ _ => false) w.2.2.2.1) false) false) false) false
noncomputable def sf_hit (n dp nx : Nat) (ms : List (Nat × Nat)) (T : sf_T) (loc : Nat) (st : List Nat) (hp : en_H) (w : en_W) : Bool := en_if (sf_w dp nx w) (en_if (sf_st w st T.2.2.1) (en_if (sf_loc w loc T.2.1 n) (en_if (sf_lex n w loc hp T.2.2.2.2.1 ms T.2.2.2.2.2) (sf_heap w hp T.2.2.2.1 136) false) false) false) false
/-- at a place: the cuts of a list, one by one, then what else is done there -/
noncomputable def sf_tb (n dp nx : Nat) (tb : en_T) (ms : List (Nat × Nat)) (Ts : List sf_T) : en_T := fun q => List.rec (motive := fun _ => Option (en_O → en_O)) (tb q) (fun T _ r => en_if (Nat.beq q T.1) (some (fun o loc st hp w ih => en_if (sf_hit n dp nx ms T loc st hp w) true (Option.rec (motive := fun _ => Bool) (o loc st hp w ih) (fun hk => hk o loc st hp w ih) r))) r) Ts
noncomputable def sf_go (fin : List Nat → en_H → en_W → Bool) (tb : en_T) (n dp nx N : Nat) (Ts : List sf_T) (T : sf_T) : Bool := sf_names n T.2.2.2.2.1 0 T.2.1 T.2.2.2.1 (sf_w0 dp nx) (fun loc hp w => en_run mt_SB fin mt_kds mt_P (sf_tb n dp nx tb T.2.2.2.2.2 Ts) N T.1 loc T.2.2.1 hp w)
/-- cells that hold the laws of a text: what is said of them holds from one reading to the next -/
def sf_X : List Nat := [106, 107, 108, 109, 110, 111, 112, 113, 114]
noncomputable def sf_jx (hp : en_H) : Bool := List.rec (motive := fun _ => Bool) true (fun k _ ih => en_if (Nat.beq (en_kind (en_get hp k)) 0) ih false) sf_X
def sf_JX (J : mm_H → Prop) : Prop := ∀ h h' : mm_H, (∀ k ∈ sf_X, h[k]? = h'[k]?) → J h → J h'
theorem sf_jx_t {hp : en_H} (h : sf_jx hp = true) : ∀ k ∈ sf_X, en_kind (en_get hp k) = 0 := by
  have key : ∀ l : List Nat, (List.rec (motive := fun _ => Bool) true (fun k _ ih => en_if (Nat.beq (en_kind (en_get hp k)) 0) ih false) l : Bool) = true → ∀ k ∈ l, en_kind (en_get hp k) = 0 := by
    intro l
    induction l with
    | nil => intro _ k hk; cases hk
    | cons a l ih =>
      intro h k hk
      obtain ⟨h1, h2⟩ := en_if_and.mp h
      rcases List.mem_cons.mp hk with rfl | hk
      · exact en_beq_t.mp h1
      · exact ih h2 k hk
  exact key sf_X h
def sf_TS (E : mm_E) (ω : Nat → Value) (J : mm_H → Prop) (tb : en_T) : Prop := ∀ (ρ : Nat → Int32) (h0 : mm_H) (fsC : List mm_F) (FIN : mm_C → Prop) (q : Nat) (hk : en_O → en_O) (o : en_O), J h0 → tb q = some hk → en_OS E mt_kds mt_P 1000 ρ ω h0 fsC FIN q o → en_OS E mt_kds mt_P 1000 ρ ω h0 fsC FIN q (hk o)
/-- a cut whose piece runs well -/
def sf_ok (fin : List Nat → en_H → en_W → Bool) (tb : en_T) (m n dp nx : Nat) (Ts : List sf_T) (T : sf_T) : Prop := T.1 / 65536 = m ∧ T.2.2.2.2.2.length ≤ 8 ∧ sf_nlh T.2.2.2.1 136 = true ∧ ∃ N L, (∀ T' ∈ L, T' ∈ Ts) ∧ sf_go fin tb n dp nx N L T = true
noncomputable def sf_okb (fin : List Nat → en_H → en_W → Bool) (tb : en_T) (m n dp nx N : Nat) (Ts : List sf_T) (idx : List Nat) (T : sf_T) : Bool := en_if (Nat.beq (Nat.div T.1 65536) m) (en_if (Nat.ble T.2.2.2.2.2.length 8) (en_if (idx.all (fun i => Nat.ble (Nat.succ i) Ts.length)) (sf_go fin tb n dp nx N (idx.map (fun i => en_nth T Ts i)) T) false) false) false
theorem sf_nth_mem {α : Type} (d : α) : ∀ (l : List α) (i : Nat), i < l.length → en_nth d l i ∈ l
  | [], _, h => absurd h (Nat.not_lt_zero _)
  | a :: l, 0, _ => List.mem_cons_self
  | a :: l, i + 1, h => List.mem_cons_of_mem _ (sf_nth_mem d l i (Nat.lt_of_succ_lt_succ h))
theorem sf_okb_t {fin : List Nat → en_H → en_W → Bool} {tb : en_T} {m n dp nx N : Nat} {Ts : List sf_T} {idx : List Nat} {T : sf_T} (hnl : sf_nlh T.2.2.2.1 136 = true) (h : sf_okb fin tb m n dp nx N Ts idx T = true) : sf_ok fin tb m n dp nx Ts T := by
  unfold sf_okb at h
  obtain ⟨h1, h⟩ := en_if_and.mp h
  obtain ⟨h2, h⟩ := en_if_and.mp h
  obtain ⟨h4, h5⟩ := en_if_and.mp h
  refine ⟨en_beq_t.mp h1, en_ble_t.mp h2, hnl, N, _, fun T' hT => ?_, h5⟩
  obtain ⟨i, hi, rfl⟩ := List.mem_map.mp hT
  exact sf_nth_mem T Ts i (en_ble_t.mp (List.all_eq_true.mp h4 i hi))
theorem sf_nL {m n : Nat} (h : (mt_P[m]?).map (fun q => q.2.1) = some n) : ∀ cs nL dd, mt_P[m]? = some (cs, nL, dd) → nL = n := by
  intro cs nL dd e
  rw [e] at h
  exact Option.some.inj h
theorem sf_fn {α : Type} {P : α → Prop} : ∀ x ∈ ([] : List α), P x := fun x h => by cases h
theorem sf_fc {α : Type} {P : α → Prop} {a : α} {l : List α} (h : P a) (t : ∀ x ∈ l, P x) : ∀ x ∈ a :: l, P x := fun x hx => by
  rcases List.mem_cons.mp hx with rfl | hx
  · exact h
  · exact t x hx
theorem sf_nth {α : Type} (d : α) : ∀ (l : List α) (j : Nat) (a : α), l[j]? = some a → en_nth d l j = a
  | [], _, _, h => by cases h
  | b :: l, 0, a, h => by cases h; rfl
  | b :: l, j + 1, a, h => sf_nth d l j a h
section SFC
variable {E : mm_E} {ω : Nat → Value} {h0 : mm_H} {fsC : List mm_F} {FIN : mm_C → Prop}
theorem sf_hit_v {ρ : Nat → Int32} (ρ' : Nat → Int32) {n dp nx q loc : Nat} {ms : List (Nat × Nat)} {posS : List (Nat × Nat)} {T : sf_T} {st : List Nat} {hp : en_H} {w : en_W} {c c2 : mm_C} (hn : ∀ cs nL dd, mt_P[q / 65536]? = some (cs, nL, dd) → nL = n) (hR : en_R E mt_P 1000 ρ ω h0 fsC q loc st hp w c2) (hρ : ∀ p, ρ p = sf_iv c (en_nth (0, 0) posS p)) (hl : ms.length ≤ 8) (hnl : sf_nlh T.2.2.2.1 136 = true) (h : sf_hit n dp nx ms T loc st hp w = true) : en_R E mt_P 1000 ρ' ω h0 fsC q T.2.1 T.2.2.1 T.2.2.2.1 (sf_w0 dp nx) c2 ∧ sf_mu c2 T.2.2.2.2.1 8 T.2.2.2.2.2 < sf_mu c posS 8 ms := by
  unfold sf_hit at h
  obtain ⟨a1, h⟩ := en_if_and.mp h
  obtain ⟨a2, h⟩ := en_if_and.mp h
  obtain ⟨a3, h⟩ := en_if_and.mp h
  obtain ⟨a4, a5⟩ := en_if_and.mp h
  refine ⟨?_, sf_lex_v hn hR hρ ms _ 8 hl a4⟩
  unfold sf_w at a1
  obtain ⟨b1, a1⟩ := en_if_and.mp a1
  obtain ⟨b2, a1⟩ := en_if_and.mp a1
  obtain ⟨b3, a1⟩ := en_if_and.mp a1
  obtain ⟨b4, b5⟩ := en_if_and.mp a1
  have b1 := en_beq_t.mp b1
  have b2 := en_beq_t.mp b2
  have b3 := en_ble_t.mp b3
  have b4 := en_beq_t.mp b4
  obtain ⟨lv, sv, gs, hm, o, rfl, ⟨cs, nL, dd, hP, hlr⟩, hs, hh, he, hx, hd, hf⟩ := hR
  have b6 : w.2.2.2.1 = [] := by
    generalize w.2.2.2.1 = fs at b5
    cases fs with
    | nil => rfl
    | cons _ _ => cases b5
  rw [b6] at hd hf
  rw [b1, b2]
  refine ⟨lv, sv, gs, hm, o, rfl, ⟨cs, nL, dd, hP, ?_⟩, sf_st_v ρ' he _ _ _ a2 hs, sf_heap_v ρ' he hnl a5 hh, sf_full_e ρ' 40, ?_, ?_, hf⟩
  · exact sf_loc_v ρ' he (Nat.le_of_eq (hn cs nL dd hP)) a3 hlr
  · show hm.length = nx
    rw [hx, b4]
  · show fsC.length + 0 + 1 + dp ≤ 1000
    have hd : fsC.length + 0 + 1 + w.2.2.1 ≤ 1000 := hd
    omega
theorem sf_cuts {J : mm_H → Prop} {fin : List Nat → en_H → en_W → Bool} {tb : en_T} {m n dp nx : Nat} {Ts : List sf_T} (hJ : J h0) (hSA : ∀ ρ, en_SA E ρ ω mt_SB) (htb : sf_TS E ω J tb) (hfin : ∀ ρ, en_FS E mt_kds mt_P 1000 ρ ω h0 fsC FIN fin) (hn : ∀ cs nL dd, mt_P[m]? = some (cs, nL, dd) → nL = n) (hG : ∀ T ∈ Ts, sf_ok fin tb m n dp nx Ts T) : ∀ (M : Nat), ∀ T ∈ Ts, ∀ (c : mm_C), (∀ ρ, en_R E mt_P 1000 ρ ω h0 fsC T.1 T.2.1 T.2.2.1 T.2.2.2.1 (sf_w0 dp nx) c) → sf_mu c T.2.2.2.2.1 8 T.2.2.2.2.2 < M → en_Good E mt_kds mt_P 1000 FIN c := by
  intro M
  induction M with
  | zero => intro T _ c _ h; exact absurd h (Nat.not_lt_zero _)
  | succ M ihM =>
    intro T hT c hR1 hM
    obtain ⟨e2, hl, hnl, N, L, hL, hgo⟩ := hG T hT
    have hn1 : ∀ cs nL dd, mt_P[T.1 / 65536]? = some (cs, nL, dd) → nL = n := by rw [e2]; exact hn
    unfold sf_go at hgo
    obtain ⟨loc', hp', w', hk, hR'⟩ := sf_names_v (ρ := fun p => sf_iv c (en_nth (0, 0) T.2.2.2.2.1 p)) hn1 _ 0 _ _ _ _ (fun j p hp => by rw [Nat.zero_add]; exact congrArg (sf_iv c) (sf_nth (0, 0) _ j p hp)) (hR1 _) hgo
    refine en_run_v (hSA _) (hfin _) mt_Pn (tb := sf_tb n dp nx tb T.2.2.2.2.2 L) ?_ N _ _ _ _ _ c hk hR'
    intro q hk2 o hq ho
    have key : ∀ (l : List sf_T), (∀ T' ∈ l, T' ∈ Ts) → ∀ hk2, (List.rec (motive := fun _ => Option (en_O → en_O)) (tb q) (fun T' _ r => en_if (Nat.beq q T'.1) (some (fun o loc st hp w ih => en_if (sf_hit n dp nx T.2.2.2.2.2 T' loc st hp w) true (Option.rec (motive := fun _ => Bool) (o loc st hp w ih) (fun hk => hk o loc st hp w ih) r))) r) l : Option (en_O → en_O)) = some hk2 → en_OS E mt_kds mt_P 1000 (fun p => sf_iv c (en_nth (0, 0) T.2.2.2.2.1 p)) ω h0 fsC FIN q (hk2 o) := by
      intro l
      induction l with
      | nil => intro _ hk2 h; exact htb _ h0 fsC FIN q hk2 o hJ h ho
      | cons T' l ihl =>
        intro hs hk2 h
        have ihl2 := ihl (fun a ha => hs a (List.mem_cons_of_mem _ ha))
        revert h
        show en_if (Nat.beq q T'.1) (some _) (List.rec (motive := fun _ => Option (en_O → en_O)) (tb q) (fun T' _ r => en_if (Nat.beq q T'.1) (some (fun o loc st hp w ih => en_if (sf_hit n dp nx T.2.2.2.2.2 T' loc st hp w) true (Option.rec (motive := fun _ => Bool) (o loc st hp w ih) (fun hk => hk o loc st hp w ih) r))) r) l) = some hk2 → _
        generalize (List.rec (motive := fun _ => Option (en_O → en_O)) (tb q) (fun T' _ r => en_if (Nat.beq q T'.1) (some (fun o loc st hp w ih => en_if (sf_hit n dp nx T.2.2.2.2.2 T' loc st hp w) true (Option.rec (motive := fun _ => Bool) (o loc st hp w ih) (fun hk => hk o loc st hp w ih) r))) r) l : Option (en_O → en_O)) = r at ihl2
        intro h
        cases hb : Nat.beq q T'.1 with
        | false =>
          rw [hb, en_if_f] at h
          exact ihl2 hk2 h
        | true =>
          rw [hb, en_if_t] at h
          cases h
          have eq := en_beq_t.mp hb
          intro loc st hp w ih c2 hih hrun hR2
          rcases en_if_or.mp hrun with ⟨h1, -⟩ | ⟨-, h1⟩
          · have hT2 := hs T' List.mem_cons_self
            obtain ⟨f2, f3, f4, -⟩ := hG T' hT2
            have hn2 : ∀ cs nL dd, mt_P[q / 65536]? = some (cs, nL, dd) → nL = n := by rw [eq, f2]; exact hn
            refine ihM T' hT2 c2 (fun ρ' => ?_) ?_
            · have h9 := (sf_hit_v ρ' hn2 hR2 (fun _ => rfl) hl f4 h1).1
              rw [eq] at h9
              exact h9
            · have h9 := (sf_hit_v (fun _ => 0) hn2 hR2 (fun _ => rfl) hl f4 h1).2
              omega
          · cases r with
            | none => exact ho loc st hp w ih c2 hih h1 hR2
            | some hk3 => exact ihl2 hk3 rfl loc st hp w ih c2 hih h1 hR2
    exact key L hL hk2 hq
end SFC
