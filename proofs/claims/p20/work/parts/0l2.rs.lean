/-! PARTIAL: the reference's reader, exact, 2: terms, laws, men, one thing told (wip/p5/mkr2.py) -/
theorem py_ifs_n {K : Nat → Int} {σ : py_S} {c : Nat} (h : ¬ (σ.2.1 = 0 ∧ K σ.1 = 32)) : py_ifs K c σ = σ := by
  cases c with
  | zero => exact if_neg h
  | succ c => exact if_neg h
theorem py_ifs_s {K : Nat → Int} {σ : py_S} {c : Nat} (h : σ.2.1 = 0 ∧ K σ.1 = 32) : py_ifs K (c + 1) σ = py_ifs K c (py_mu K 34 (py_x K true 0 (py_mu K 33 (py_x K true 0 (py_mu K 13 (py_x K true 0 (py_go σ))))))) := if_pos h
theorem py_mu_f {K : Nat → Int} {k : Int} {σ : py_S} (h : σ.2.1 ≠ 0) : py_mu K k σ = σ := by
  unfold py_mu
  rw [if_neg (fun e => h e.1)]
  exact if_neg h
theorem py_ad_go {σ : py_S} {t : Nat} : py_go (py_ad t σ) = py_ad t (py_go σ) := by
  by_cases h : σ.2.1 = 0
  · by_cases e : σ.1 = 400
    · rw [py_go_e h e, py_go_e (σ := py_ad t σ) h e]
      rfl
    · rw [py_go_s h e, py_go_s (σ := py_ad t σ) h e]
      rfl
  · rw [py_go_f h, py_go_f (σ := py_ad t σ) h]
theorem py_ad_fl {σ : py_S} {t k : Nat} : py_fl k (py_ad t σ) = py_ad t (py_fl k σ) := by
  by_cases h : σ.2.1 = 0
  · have e1 : py_fl k σ = (σ.1, k, σ.2.2) := if_pos h
    have e2 : py_fl k (py_ad t σ) = (σ.1, k, (py_ad t σ).2.2) := if_pos h
    rw [e1, e2]
    rfl
  · have e1 : py_fl k σ = σ := if_neg h
    have e2 : py_fl k (py_ad t σ) = py_ad t σ := if_neg h
    rw [e1, e2]
theorem py_ad_wr {σ : py_S} {t k u : Nat} : py_wr k u (py_ad t σ) = py_ad t (py_wr k u σ) := by
  by_cases h : σ.2.1 = 0 ∧ σ.2.2.1 = 0
  · have e1 : py_wr k u σ = (σ.1, σ.2.1, k, u, σ.2.2.2.2) := if_pos h
    have e2 : py_wr k u (py_ad t σ) = (σ.1, σ.2.1, k, u, (py_ad t σ).2.2.2.2) := if_pos h
    rw [e1, e2]
    rfl
  · have e1 : py_wr k u σ = σ := if_neg h
    have e2 : py_wr k u (py_ad t σ) = py_ad t σ := if_neg h
    rw [e1, e2]
theorem py_ad_mu {K : Nat → Int} {k : Int} {σ : py_S} {t : Nat} : py_mu K k (py_ad t σ) = py_ad t (py_mu K k σ) := by
  by_cases h : σ.2.1 = 0 ∧ K σ.1 = k
  · have e1 : py_mu K k σ = py_go σ := if_pos h
    have e2 : py_mu K k (py_ad t σ) = py_go (py_ad t σ) := if_pos h
    rw [e1, e2, py_ad_go]
  · have e1 : py_mu K k σ = py_fl 1 σ := if_neg h
    have e2 : py_mu K k (py_ad t σ) = py_fl 1 (py_ad t σ) := if_neg h
    rw [e1, e2, py_ad_fl]
theorem py_ad_nu {K V : Nat → Int} {lo hi : Int} {σ : py_S} {t : Nat} : py_nu K V lo hi (py_ad t σ) = py_ad t (py_nu K V lo hi σ) := by
  by_cases h : σ.2.1 = 0 ∧ K σ.1 = 2
  · have e1 : py_nu K V lo hi σ = py_go (if V σ.1 < lo ∨ hi < V σ.1 then py_wr 5 σ.1 σ else σ) := if_pos h
    have e2 : py_nu K V lo hi (py_ad t σ) = py_go (if V σ.1 < lo ∨ hi < V σ.1 then py_wr 5 σ.1 (py_ad t σ) else py_ad t σ) := if_pos h
    rw [e1, e2]
    by_cases g : V σ.1 < lo ∨ hi < V σ.1
    · rw [if_pos g, if_pos g, py_ad_wr, py_ad_go]
    · rw [if_neg g, if_neg g, py_ad_go]
  · have e1 : py_nu K V lo hi σ = py_fl 1 σ := if_neg h
    have e2 : py_nu K V lo hi (py_ad t σ) = py_fl 1 (py_ad t σ) := if_neg h
    rw [e1, e2, py_ad_fl]
/-- the names stay -/
theorem py_n_go {σ : py_S} : (py_go σ).2.2.2.2 = σ.2.2.2.2 := by
  unfold py_go
  split
  · split
    · rfl
    · rfl
  · rfl
theorem py_n_fl {σ : py_S} {k : Nat} : (py_fl k σ).2.2.2.2 = σ.2.2.2.2 := by
  unfold py_fl
  split
  · rfl
  · rfl
theorem py_n_wr {σ : py_S} {k u : Nat} : (py_wr k u σ).2.2.2.2 = σ.2.2.2.2 := (py_wr_t).2.2
theorem py_n_mu {K : Nat → Int} {k : Int} {σ : py_S} : (py_mu K k σ).2.2.2.2 = σ.2.2.2.2 := by
  unfold py_mu
  split
  · exact py_n_go
  · exact py_n_fl
theorem py_n_nu {K V : Nat → Int} {lo hi : Int} {σ : py_S} : (py_nu K V lo hi σ).2.2.2.2 = σ.2.2.2.2 := by
  unfold py_nu
  split
  · rw [py_n_go]
    split
    · exact py_n_wr
    · rfl
  · exact py_n_fl
theorem py_n_nm {Q : Nat → Nat → Bool} {σ : py_S} {t : Nat} : (py_nm Q t σ).2.2.2.2 = σ.2.2.2.2 := by
  unfold py_nm
  split
  · exact py_n_wr
  · rfl
theorem py_n_ex {K : Nat → Int} : ∀ (r : Nat) (m : Bool) (o : Nat) (σ : py_S), (py_ex K r m o σ).2.2.2.2 = σ.2.2.2.2 := by
  intro r
  induction r with
  | zero => exact fun _ _ _ => rfl
  | succ r ih =>
    intro m o σ
    cases m with
    | true =>
      show (if σ.2.1 ≠ 0 then σ else if K σ.1 = 2 ∨ (35 ≤ K σ.1 ∧ K σ.1 ≤ 43) then py_ex K r false o (py_go σ) else if K σ.1 = 6 then (if o = 6 then py_fl 2 σ else py_ex K r true (o + 1) (py_go σ)) else py_fl 1 σ).2.2.2.2 = σ.2.2.2.2
      split
      · rfl
      split
      · rw [ih, py_n_go]
      split
      · split
        · exact py_n_fl
        · rw [ih, py_n_go]
      · exact py_n_fl
    | false =>
      show (if σ.2.1 ≠ 0 then σ else if K σ.1 = 7 ∧ 0 < o then py_ex K r false (o - 1) (py_go σ) else if K σ.1 = 8 ∨ K σ.1 = 9 ∨ K σ.1 = 10 ∨ K σ.1 = 15 then py_ex K r true o (py_go σ) else if 0 < o then py_fl 1 σ else σ).2.2.2.2 = σ.2.2.2.2
      split
      · rfl
      split
      · rw [ih, py_n_go]
      split
      · rw [ih, py_n_go]
      split
      · exact py_n_fl
      · rfl
theorem py_n_ifs {K : Nat → Int} : ∀ (c : Nat) (σ : py_S), (py_ifs K c σ).2.2.2.2 = σ.2.2.2.2 := by
  intro c
  induction c with
  | zero =>
    intro σ
    show (if σ.2.1 = 0 ∧ K σ.1 = 32 then py_fl 2 σ else σ).2.2.2.2 = σ.2.2.2.2
    split
    · exact py_n_fl
    · rfl
  | succ c ih =>
    intro σ
    by_cases h : σ.2.1 = 0 ∧ K σ.1 = 32
    · rw [py_ifs_s h, ih, py_n_mu]
      unfold py_x
      rw [py_n_ex, py_n_mu, py_n_ex, py_n_mu, py_n_ex, py_n_go]
    · rw [py_ifs_n h]
theorem py_n_law {K : Nat → Int} {σ : py_S} : (py_law K σ).2.2.2.2 = σ.2.2.2.2 := by
  unfold py_law
  rw [py_n_mu]
  unfold py_x
  rw [py_n_ex, py_n_ifs, py_n_mu, py_n_go]
theorem bu_97_0 : mm_at mt_P 97 0 = some ((0, 1, .aload_n 0, 0, 0, 0, 0), 4, 1, 1, 9, 0, 0, 0) := rfl
theorem bu_97_1 : mm_at mt_P 97 1 = some ((1, 1, .iconst 5, 0, 0, 0, 0), 4, 1, 1, 9, 0, 0, 0) := rfl
theorem bu_97_2 : mm_at mt_P 97 2 = some ((2, 3, .invokevirtual 267, 67, 0, 0, 1495), 4, 1, 1, 9, 0, 0, 0) := rfl
theorem bu_97_5 : mm_at mt_P 97 5 = some ((5, 1, .aload_n 0, 0, 0, 0, 0), 4, 1, 1, 9, 0, 0, 0) := rfl
theorem bu_97_6 : mm_at mt_P 97 6 = some ((6, 3, .getfield 242, 9, 33, 0, 1250), 4, 1, 1, 9, 0, 0, 0) := rfl
theorem bu_97_9 : mm_at mt_P 97 9 = some ((9, 1, .istore_n 2, 0, 0, 0, 0), 4, 1, 1, 9, 0, 0, 0) := rfl
theorem bu_97_10 : mm_at mt_P 97 10 = some ((10, 1, .iconst 0, 0, 0, 0, 0), 4, 1, 1, 9, 0, 0, 0) := rfl
theorem bu_97_11 : mm_at mt_P 97 11 = some ((11, 1, .istore_n 3, 0, 0, 0, 0), 4, 1, 1, 9, 0, 0, 0) := rfl
theorem bu_97_12 : mm_at mt_P 97 12 = some ((12, 1, .aload_n 0, 0, 0, 0, 0), 4, 1, 1, 9, 0, 0, 0) := rfl
theorem bu_97_13 : mm_at mt_P 97 13 = some ((13, 3, .getfield 203, 9, 13, 0, 1230), 4, 1, 1, 9, 0, 0, 0) := rfl
theorem bu_97_16 : mm_at mt_P 97 16 = some ((16, 3, .ifCond .ne 113, 0, 0, 0, 0), 4, 1, 1, 9, 0, 0, 0) := rfl
theorem bu_97_19 : mm_at mt_P 97 19 = some ((19, 1, .aload_n 0, 0, 0, 0, 0), 4, 1, 1, 9, 0, 0, 0) := rfl
theorem bu_97_20 : mm_at mt_P 97 20 = some ((20, 2, .bipush 32, 0, 0, 0, 0), 4, 1, 1, 9, 0, 0, 0) := rfl
theorem bu_97_22 : mm_at mt_P 97 22 = some ((22, 3, .invokevirtual 221, 45, 0, 0, 1475), 4, 1, 1, 9, 0, 0, 0) := rfl
theorem bu_97_25 : mm_at mt_P 97 25 = some ((25, 3, .ifCond .eq 104, 0, 0, 0, 0), 4, 1, 1, 9, 0, 0, 0) := rfl
theorem bu_97_28 : mm_at mt_P 97 28 = some ((28, 1, .iload_n 3, 0, 0, 0, 0), 4, 1, 1, 9, 0, 0, 0) := rfl
theorem bu_97_29 : mm_at mt_P 97 29 = some ((29, 1, .iconst 4, 0, 0, 0, 0), 4, 1, 1, 9, 0, 0, 0) := rfl
theorem bu_97_30 : mm_at mt_P 97 30 = some ((30, 3, .if_icmp .ne 8, 0, 0, 0, 0), 4, 1, 1, 9, 0, 0, 0) := rfl
theorem bu_97_33 : mm_at mt_P 97 33 = some ((33, 1, .aload_n 0, 0, 0, 0, 0), 4, 1, 1, 9, 0, 0, 0) := rfl
theorem bu_97_34 : mm_at mt_P 97 34 = some ((34, 1, .iconst 2, 0, 0, 0, 0), 4, 1, 1, 9, 0, 0, 0) := rfl
theorem bu_97_35 : mm_at mt_P 97 35 = some ((35, 3, .invokevirtual 218, 27, 0, 0, 1483), 4, 1, 1, 9, 0, 0, 0) := rfl
theorem bu_97_38 : mm_at mt_P 97 38 = some ((38, 1, .aload_n 0, 0, 0, 0, 0), 4, 1, 1, 9, 0, 0, 0) := rfl
theorem bu_97_39 : mm_at mt_P 97 39 = some ((39, 3, .getfield 203, 9, 13, 0, 1230), 4, 1, 1, 9, 0, 0, 0) := rfl
theorem bu_97_42 : mm_at mt_P 97 42 = some ((42, 3, .ifCond .le 4, 0, 0, 0, 0), 4, 1, 1, 9, 0, 0, 0) := rfl
theorem bu_97_45 : mm_at mt_P 97 45 = some ((45, 1, .return_, 0, 0, 0, 0), 4, 1, 1, 9, 0, 0, 0) := rfl
theorem bu_97_46 : mm_at mt_P 97 46 = some ((46, 3, .iinc 3 1, 0, 0, 0, 0), 4, 1, 1, 9, 0, 0, 0) := rfl
theorem bu_97_49 : mm_at mt_P 97 49 = some ((49, 1, .aload_n 0, 0, 0, 0, 0), 4, 1, 1, 9, 0, 0, 0) := rfl
theorem bu_97_50 : mm_at mt_P 97 50 = some ((50, 3, .invokevirtual 224, 37, 0, 0, 1491), 4, 1, 1, 9, 0, 0, 0) := rfl
theorem bu_97_53 : mm_at mt_P 97 53 = some ((53, 1, .aload_n 0, 0, 0, 0, 0), 4, 1, 1, 9, 0, 0, 0) := rfl
theorem bu_97_54 : mm_at mt_P 97 54 = some ((54, 3, .getfield 76, 9, 34, 0, 1251), 4, 1, 1, 9, 0, 0, 0) := rfl
theorem bu_97_57 : mm_at mt_P 97 57 = some ((57, 1, .aload_n 0, 0, 0, 0, 0), 4, 1, 1, 9, 0, 0, 0) := rfl
theorem bu_97_58 : mm_at mt_P 97 58 = some ((58, 3, .getfield 242, 9, 33, 0, 1250), 4, 1, 1, 9, 0, 0, 0) := rfl
theorem bu_97_61 : mm_at mt_P 97 61 = some ((61, 1, .iconst 1, 0, 0, 0, 0), 4, 1, 1, 9, 0, 0, 0) := rfl
theorem bu_97_62 : mm_at mt_P 97 62 = some ((62, 1, .bastore, 0, 0, 0, 0), 4, 1, 1, 9, 0, 0, 0) := rfl
theorem bu_97_63 : mm_at mt_P 97 63 = some ((63, 1, .aload_n 0, 0, 0, 0, 0), 4, 1, 1, 9, 0, 0, 0) := rfl
theorem bu_97_64 : mm_at mt_P 97 64 = some ((64, 3, .getfield 80, 9, 35, 0, 1252), 4, 1, 1, 9, 0, 0, 0) := rfl
theorem bu_97_67 : mm_at mt_P 97 67 = some ((67, 1, .aload_n 0, 0, 0, 0, 0), 4, 1, 1, 9, 0, 0, 0) := rfl
theorem bu_97_68 : mm_at mt_P 97 68 = some ((68, 3, .getfield 242, 9, 33, 0, 1250), 4, 1, 1, 9, 0, 0, 0) := rfl
theorem bu_97_71 : mm_at mt_P 97 71 = some ((71, 1, .aload_n 0, 0, 0, 0, 0), 4, 1, 1, 9, 0, 0, 0) := rfl
theorem bu_97_72 : mm_at mt_P 97 72 = some ((72, 3, .getfield 245, 9, 39, 0, 1256), 4, 1, 1, 9, 0, 0, 0) := rfl
theorem bu_97_75 : mm_at mt_P 97 75 = some ((75, 1, .iastore, 0, 0, 0, 0), 4, 1, 1, 9, 0, 0, 0) := rfl
theorem bu_97_76 : mm_at mt_P 97 76 = some ((76, 1, .aload_n 0, 0, 0, 0, 0), 4, 1, 1, 9, 0, 0, 0) := rfl
theorem bu_97_77 : mm_at mt_P 97 77 = some ((77, 3, .invokevirtual 277, 26, 0, 0, 1511), 4, 1, 1, 9, 0, 0, 0) := rfl
theorem bu_97_80 : mm_at mt_P 97 80 = some ((80, 1, .aload_n 0, 0, 0, 0, 0), 4, 1, 1, 9, 0, 0, 0) := rfl
theorem bu_97_81 : mm_at mt_P 97 81 = some ((81, 2, .bipush 13, 0, 0, 0, 0), 4, 1, 1, 9, 0, 0, 0) := rfl
theorem bu_97_83 : mm_at mt_P 97 83 = some ((83, 3, .invokevirtual 267, 67, 0, 0, 1495), 4, 1, 1, 9, 0, 0, 0) := rfl
theorem bu_97_86 : mm_at mt_P 97 86 = some ((86, 1, .aload_n 0, 0, 0, 0, 0), 4, 1, 1, 9, 0, 0, 0) := rfl
theorem bu_97_87 : mm_at mt_P 97 87 = some ((87, 3, .getfield 83, 9, 36, 0, 1253), 4, 1, 1, 9, 0, 0, 0) := rfl
theorem bu_97_90 : mm_at mt_P 97 90 = some ((90, 1, .aload_n 0, 0, 0, 0, 0), 4, 1, 1, 9, 0, 0, 0) := rfl
theorem bu_97_91 : mm_at mt_P 97 91 = some ((91, 3, .getfield 242, 9, 33, 0, 1250), 4, 1, 1, 9, 0, 0, 0) := rfl
theorem bu_97_94 : mm_at mt_P 97 94 = some ((94, 1, .aload_n 0, 0, 0, 0, 0), 4, 1, 1, 9, 0, 0, 0) := rfl
theorem bu_97_95 : mm_at mt_P 97 95 = some ((95, 3, .getfield 245, 9, 39, 0, 1256), 4, 1, 1, 9, 0, 0, 0) := rfl
theorem bu_97_98 : mm_at mt_P 97 98 = some ((98, 1, .iastore, 0, 0, 0, 0), 4, 1, 1, 9, 0, 0, 0) := rfl
theorem bu_97_99 : mm_at mt_P 97 99 = some ((99, 1, .aload_n 0, 0, 0, 0, 0), 4, 1, 1, 9, 0, 0, 0) := rfl
theorem bu_97_100 : mm_at mt_P 97 100 = some ((100, 3, .getfield 203, 9, 13, 0, 1230), 4, 1, 1, 9, 0, 0, 0) := rfl
theorem bu_97_103 : mm_at mt_P 97 103 = some ((103, 3, .ifCond .ne 7, 0, 0, 0, 0), 4, 1, 1, 9, 0, 0, 0) := rfl
theorem bu_97_106 : mm_at mt_P 97 106 = some ((106, 1, .aload_n 0, 0, 0, 0, 0), 4, 1, 1, 9, 0, 0, 0) := rfl
theorem bu_97_107 : mm_at mt_P 97 107 = some ((107, 3, .invokevirtual 277, 26, 0, 0, 1511), 4, 1, 1, 9, 0, 0, 0) := rfl
theorem bu_97_110 : mm_at mt_P 97 110 = some ((110, 1, .aload_n 0, 0, 0, 0, 0), 4, 1, 1, 9, 0, 0, 0) := rfl
theorem bu_97_111 : mm_at mt_P 97 111 = some ((111, 2, .bipush 33, 0, 0, 0, 0), 4, 1, 1, 9, 0, 0, 0) := rfl
theorem bu_97_113 : mm_at mt_P 97 113 = some ((113, 3, .invokevirtual 267, 67, 0, 0, 1495), 4, 1, 1, 9, 0, 0, 0) := rfl
theorem bu_97_116 : mm_at mt_P 97 116 = some ((116, 1, .aload_n 0, 0, 0, 0, 0), 4, 1, 1, 9, 0, 0, 0) := rfl
theorem bu_97_117 : mm_at mt_P 97 117 = some ((117, 3, .invokevirtual 280, 100, 0, 0, 1527), 4, 1, 1, 9, 0, 0, 0) := rfl
theorem bu_97_120 : mm_at mt_P 97 120 = some ((120, 1, .aload_n 0, 0, 0, 0, 0), 4, 1, 1, 9, 0, 0, 0) := rfl
theorem bu_97_121 : mm_at mt_P 97 121 = some ((121, 2, .bipush 34, 0, 0, 0, 0), 4, 1, 1, 9, 0, 0, 0) := rfl
theorem bu_97_123 : mm_at mt_P 97 123 = some ((123, 3, .invokevirtual 267, 67, 0, 0, 1495), 4, 1, 1, 9, 0, 0, 0) := rfl
theorem bu_97_126 : mm_at mt_P 97 126 = some ((126, 3, .goto (-114), 0, 0, 0, 0), 4, 1, 1, 9, 0, 0, 0) := rfl
theorem bu_97_129 : mm_at mt_P 97 129 = some ((129, 1, .aload_n 0, 0, 0, 0, 0), 4, 1, 1, 9, 0, 0, 0) := rfl
theorem bu_97_130 : mm_at mt_P 97 130 = some ((130, 3, .getfield 76, 9, 34, 0, 1251), 4, 1, 1, 9, 0, 0, 0) := rfl
theorem bu_97_133 : mm_at mt_P 97 133 = some ((133, 1, .aload_n 0, 0, 0, 0, 0), 4, 1, 1, 9, 0, 0, 0) := rfl
theorem bu_97_134 : mm_at mt_P 97 134 = some ((134, 3, .getfield 242, 9, 33, 0, 1250), 4, 1, 1, 9, 0, 0, 0) := rfl
theorem bu_97_137 : mm_at mt_P 97 137 = some ((137, 1, .iconst 0, 0, 0, 0, 0), 4, 1, 1, 9, 0, 0, 0) := rfl
theorem bu_97_138 : mm_at mt_P 97 138 = some ((138, 1, .bastore, 0, 0, 0, 0), 4, 1, 1, 9, 0, 0, 0) := rfl
theorem bu_97_139 : mm_at mt_P 97 139 = some ((139, 1, .aload_n 0, 0, 0, 0, 0), 4, 1, 1, 9, 0, 0, 0) := rfl
theorem bu_97_140 : mm_at mt_P 97 140 = some ((140, 3, .invokevirtual 280, 100, 0, 0, 1527), 4, 1, 1, 9, 0, 0, 0) := rfl
theorem bu_97_143 : mm_at mt_P 97 143 = some ((143, 1, .aload_n 0, 0, 0, 0, 0), 4, 1, 1, 9, 0, 0, 0) := rfl
theorem bu_97_144 : mm_at mt_P 97 144 = some ((144, 1, .iconst 4, 0, 0, 0, 0), 4, 1, 1, 9, 0, 0, 0) := rfl
theorem bu_97_145 : mm_at mt_P 97 145 = some ((145, 3, .invokevirtual 267, 67, 0, 0, 1495), 4, 1, 1, 9, 0, 0, 0) := rfl
theorem bu_97_148 : mm_at mt_P 97 148 = some ((148, 1, .aload_n 0, 0, 0, 0, 0), 4, 1, 1, 9, 0, 0, 0) := rfl
theorem bu_97_149 : mm_at mt_P 97 149 = some ((149, 3, .getfield 203, 9, 13, 0, 1230), 4, 1, 1, 9, 0, 0, 0) := rfl
theorem bu_97_152 : mm_at mt_P 97 152 = some ((152, 3, .ifCond .le 4, 0, 0, 0, 0), 4, 1, 1, 9, 0, 0, 0) := rfl
theorem bu_97_155 : mm_at mt_P 97 155 = some ((155, 1, .return_, 0, 0, 0, 0), 4, 1, 1, 9, 0, 0, 0) := rfl
theorem bu_97_156 : mm_at mt_P 97 156 = some ((156, 1, .aload_n 0, 0, 0, 0, 0), 4, 1, 1, 9, 0, 0, 0) := rfl
theorem bu_97_157 : mm_at mt_P 97 157 = some ((157, 3, .getfield 70, 9, 31, 0, 1248), 4, 1, 1, 9, 0, 0, 0) := rfl
theorem bu_97_160 : mm_at mt_P 97 160 = some ((160, 2, .bipush 7, 0, 0, 0, 0), 4, 1, 1, 9, 0, 0, 0) := rfl
theorem bu_97_162 : mm_at mt_P 97 162 = some ((162, 1, .aload_n 0, 0, 0, 0, 0), 4, 1, 1, 9, 0, 0, 0) := rfl
theorem bu_97_163 : mm_at mt_P 97 163 = some ((163, 3, .getfield 236, 9, 19, 0, 1236), 4, 1, 1, 9, 0, 0, 0) := rfl
theorem bu_97_166 : mm_at mt_P 97 166 = some ((166, 1, .imul, 0, 0, 0, 0), 4, 1, 1, 9, 0, 0, 0) := rfl
theorem bu_97_167 : mm_at mt_P 97 167 = some ((167, 1, .iload_n 1, 0, 0, 0, 0), 4, 1, 1, 9, 0, 0, 0) := rfl
theorem bu_97_168 : mm_at mt_P 97 168 = some ((168, 1, .iadd, 0, 0, 0, 0), 4, 1, 1, 9, 0, 0, 0) := rfl
theorem bu_97_169 : mm_at mt_P 97 169 = some ((169, 1, .iload_n 2, 0, 0, 0, 0), 4, 1, 1, 9, 0, 0, 0) := rfl
theorem bu_97_170 : mm_at mt_P 97 170 = some ((170, 1, .iastore, 0, 0, 0, 0), 4, 1, 1, 9, 0, 0, 0) := rfl
theorem bu_97_171 : mm_at mt_P 97 171 = some ((171, 1, .aload_n 0, 0, 0, 0, 0), 4, 1, 1, 9, 0, 0, 0) := rfl
theorem bu_97_172 : mm_at mt_P 97 172 = some ((172, 3, .getfield 73, 9, 32, 0, 1249), 4, 1, 1, 9, 0, 0, 0) := rfl
theorem bu_97_175 : mm_at mt_P 97 175 = some ((175, 2, .bipush 7, 0, 0, 0, 0), 4, 1, 1, 9, 0, 0, 0) := rfl
theorem bu_97_177 : mm_at mt_P 97 177 = some ((177, 1, .aload_n 0, 0, 0, 0, 0), 4, 1, 1, 9, 0, 0, 0) := rfl
theorem bu_97_178 : mm_at mt_P 97 178 = some ((178, 3, .getfield 236, 9, 19, 0, 1236), 4, 1, 1, 9, 0, 0, 0) := rfl
theorem bu_97_181 : mm_at mt_P 97 181 = some ((181, 1, .imul, 0, 0, 0, 0), 4, 1, 1, 9, 0, 0, 0) := rfl
theorem bu_97_182 : mm_at mt_P 97 182 = some ((182, 1, .iload_n 1, 0, 0, 0, 0), 4, 1, 1, 9, 0, 0, 0) := rfl
theorem bu_97_183 : mm_at mt_P 97 183 = some ((183, 1, .iadd, 0, 0, 0, 0), 4, 1, 1, 9, 0, 0, 0) := rfl
theorem bu_97_184 : mm_at mt_P 97 184 = some ((184, 1, .aload_n 0, 0, 0, 0, 0), 4, 1, 1, 9, 0, 0, 0) := rfl
theorem bu_97_185 : mm_at mt_P 97 185 = some ((185, 3, .getfield 242, 9, 33, 0, 1250), 4, 1, 1, 9, 0, 0, 0) := rfl
theorem bu_97_188 : mm_at mt_P 97 188 = some ((188, 1, .iastore, 0, 0, 0, 0), 4, 1, 1, 9, 0, 0, 0) := rfl
theorem bu_97_189 : mm_at mt_P 97 189 = some ((189, 1, .return_, 0, 0, 0, 0), 4, 1, 1, 9, 0, 0, 0) := rfl
theorem bu_100_0 : mm_at mt_P 100 0 = some ((0, 1, .aload_n 0, 0, 0, 0, 0), 1, 0, 1, 9, 0, 0, 0) := rfl
theorem bu_100_1 : mm_at mt_P 100 1 = some ((1, 3, .getfield 86, 9, 37, 0, 1254), 1, 0, 1, 9, 0, 0, 0) := rfl
theorem bu_100_4 : mm_at mt_P 100 4 = some ((4, 1, .aload_n 0, 0, 0, 0, 0), 1, 0, 1, 9, 0, 0, 0) := rfl
theorem bu_100_5 : mm_at mt_P 100 5 = some ((5, 3, .getfield 242, 9, 33, 0, 1250), 1, 0, 1, 9, 0, 0, 0) := rfl
theorem bu_100_8 : mm_at mt_P 100 8 = some ((8, 1, .aload_n 0, 0, 0, 0, 0), 1, 0, 1, 9, 0, 0, 0) := rfl
theorem bu_100_9 : mm_at mt_P 100 9 = some ((9, 3, .getfield 245, 9, 39, 0, 1256), 1, 0, 1, 9, 0, 0, 0) := rfl
theorem bu_100_12 : mm_at mt_P 100 12 = some ((12, 1, .iastore, 0, 0, 0, 0), 1, 0, 1, 9, 0, 0, 0) := rfl
theorem bu_100_13 : mm_at mt_P 100 13 = some ((13, 1, .aload_n 0, 0, 0, 0, 0), 1, 0, 1, 9, 0, 0, 0) := rfl
theorem bu_100_14 : mm_at mt_P 100 14 = some ((14, 3, .getfield 203, 9, 13, 0, 1230), 1, 0, 1, 9, 0, 0, 0) := rfl
theorem bu_100_17 : mm_at mt_P 100 17 = some ((17, 3, .ifCond .ne 7, 0, 0, 0, 0), 1, 0, 1, 9, 0, 0, 0) := rfl
theorem bu_100_20 : mm_at mt_P 100 20 = some ((20, 1, .aload_n 0, 0, 0, 0, 0), 1, 0, 1, 9, 0, 0, 0) := rfl
theorem bu_100_21 : mm_at mt_P 100 21 = some ((21, 3, .invokevirtual 277, 26, 0, 0, 1511), 1, 0, 1, 9, 0, 0, 0) := rfl
theorem bu_100_24 : mm_at mt_P 100 24 = some ((24, 1, .aload_n 0, 0, 0, 0, 0), 1, 0, 1, 9, 0, 0, 0) := rfl
theorem bu_100_25 : mm_at mt_P 100 25 = some ((25, 3, .getfield 89, 9, 38, 0, 1255), 1, 0, 1, 9, 0, 0, 0) := rfl
theorem bu_100_28 : mm_at mt_P 100 28 = some ((28, 1, .aload_n 0, 0, 0, 0, 0), 1, 0, 1, 9, 0, 0, 0) := rfl
theorem bu_100_29 : mm_at mt_P 100 29 = some ((29, 3, .getfield 242, 9, 33, 0, 1250), 1, 0, 1, 9, 0, 0, 0) := rfl
theorem bu_100_32 : mm_at mt_P 100 32 = some ((32, 1, .aload_n 0, 0, 0, 0, 0), 1, 0, 1, 9, 0, 0, 0) := rfl
theorem bu_100_33 : mm_at mt_P 100 33 = some ((33, 3, .getfield 245, 9, 39, 0, 1256), 1, 0, 1, 9, 0, 0, 0) := rfl
theorem bu_100_36 : mm_at mt_P 100 36 = some ((36, 1, .iastore, 0, 0, 0, 0), 1, 0, 1, 9, 0, 0, 0) := rfl
theorem bu_100_37 : mm_at mt_P 100 37 = some ((37, 1, .aload_n 0, 0, 0, 0, 0), 1, 0, 1, 9, 0, 0, 0) := rfl
theorem bu_100_38 : mm_at mt_P 100 38 = some ((38, 1, .dup, 0, 0, 0, 0), 1, 0, 1, 9, 0, 0, 0) := rfl
theorem bu_100_39 : mm_at mt_P 100 39 = some ((39, 3, .getfield 242, 9, 33, 0, 1250), 1, 0, 1, 9, 0, 0, 0) := rfl
theorem bu_100_42 : mm_at mt_P 100 42 = some ((42, 1, .iconst 1, 0, 0, 0, 0), 1, 0, 1, 9, 0, 0, 0) := rfl
theorem bu_100_43 : mm_at mt_P 100 43 = some ((43, 1, .iadd, 0, 0, 0, 0), 1, 0, 1, 9, 0, 0, 0) := rfl
theorem bu_100_44 : mm_at mt_P 100 44 = some ((44, 3, .putfield 242, 9, 33, 0, 1250), 1, 0, 1, 9, 0, 0, 0) := rfl
theorem bu_100_47 : mm_at mt_P 100 47 = some ((47, 1, .return_, 0, 0, 0, 0), 1, 0, 1, 9, 0, 0, 0) := rfl
section RQB
variable {K V P : Nat → Int} {Q : Nat → Nat → Bool} {σ : py_S} {M : Nat} {ns : List Nat} {oo e : Nat} {E : mm_E} {PO : mm_C → Prop} {NN : Nat} {h0 h : mm_H} {s : Nat → Int32} {A : Nat → Nat → Int32} {L : Nat → Nat → Int64} {gs : List mm_F}
theorem rr_100 (hP : bm_P rz_T E h0 h s A L) (hR : rq_R K P M σ ns 0 0 s A L) (hT : rq_T K V P M A) (kk : ∀ (h' : mm_H) (s' : Nat → Int32) (A' : Nat → Nat → Int32) (L' : Nat → Nat → Int64), bm_P rz_T E h0 h' s' A' L' → rq_F s A L s' A' L' → rq_R K P M (py_x K true 0 σ) ns 0 0 s' A' L' → bp_G E PO NN (mm_back (none) gs h')) : bp_G E PO NN ((100, 0, [(0, .ref (E.1 + 88))], [], 0, 0) :: gs, h, none) := by
  have q1 := hR.1
  refine bp_ld (pc' := 1) bu_100_0 rfl rfl (fun _ _ _ => rfl) rfl rfl ?_
  refine bn_gr (pc' := 4) (t := 111) bu_100_1 rfl rfl (fun _ _ _ => rfl) hP rz_o88 rz_r88_37 ?_
  refine bp_ld (pc' := 5) bu_100_4 rfl rfl (fun _ _ _ => rfl) rfl rfl ?_
  refine bn_gi (pc' := 8) (K := 8833) bu_100_5 rfl rfl (fun _ _ _ => rfl) hP rz_o88 rz_i88_33 rfl rfl ?_
  refine bp_ld (pc' := 9) bu_100_8 rfl rfl (fun _ _ _ => rfl) rfl rfl ?_
  refine bn_gi (pc' := 12) (K := 8839) bu_100_9 rfl rfl (fun _ _ _ => rfl) hP rz_o88 rz_i88_39 rfl rfl ?_
  refine bn_iasF (pc' := 13) bu_100_12 rfl rfl (fun _ _ _ => rfl) hP rz_a111 (Or.inl rfl) (fun b1843 b1844 h1841 hP1842 => ?_)
  refine bp_ld (pc' := 14) bu_100_13 rfl rfl (fun _ _ _ => rfl) rfl rfl ?_
  refine bn_gi (pc' := 17) (K := 8813) bu_100_14 rfl rfl (fun _ _ _ => rfl) hP1842 rz_o88 rz_i88_13 rfl rfl ?_
  refine bp_i0 (pc' := 20) (pt := 24) bu_100_17 rfl rfl (fun k1845 => ?_) (fun k1845 => ?_)
  · replace k1845 : ((s 8813)).toInt ≠ 0 := k1845
    refine bp_ld (pc' := 25) bu_100_24 rfl rfl (fun _ _ _ => rfl) rfl rfl ?_
    refine bn_gr (pc' := 28) (t := 112) bu_100_25 rfl rfl (fun _ _ _ => rfl) hP1842 rz_o88 rz_r88_38 ?_
    refine bp_ld (pc' := 29) bu_100_28 rfl rfl (fun _ _ _ => rfl) rfl rfl ?_
    refine bn_gi (pc' := 32) (K := 8833) bu_100_29 rfl rfl (fun _ _ _ => rfl) hP1842 rz_o88 rz_i88_33 rfl rfl ?_
    refine bp_ld (pc' := 33) bu_100_32 rfl rfl (fun _ _ _ => rfl) rfl rfl ?_
    refine bn_gi (pc' := 36) (K := 8839) bu_100_33 rfl rfl (fun _ _ _ => rfl) hP1842 rz_o88 rz_i88_39 rfl rfl ?_
    refine bn_iasF (pc' := 37) bu_100_36 rfl rfl (fun _ _ _ => rfl) hP1842 rz_a112 (Or.inl rfl) (fun b1848 b1849 h1846 hP1847 => ?_)
    refine bp_ld (pc' := 38) bu_100_37 rfl rfl (fun _ _ _ => rfl) rfl rfl ?_
    refine bp_dup (pc' := 39) bu_100_38 rfl rfl ?_
    refine bn_gi (pc' := 42) (K := 8833) bu_100_39 rfl rfl (fun _ _ _ => rfl) hP1847 rz_o88 rz_i88_33 rfl rfl ?_
    refine bp_c (pc' := 43) (n := 1) bu_100_42 rfl rfl (fun _ _ _ => rfl) (by decide) (fun c1850 e1851 => ?_)
    refine bp_addA (pc' := 44) bu_100_43 rfl (fun v1852 => ?_)
    refine bn_pf (pc' := 47) (K := 8833) bu_100_44 rfl rfl (fun _ _ _ => rfl) hP1847 rz_o88 rz_i88_33 rfl rfl (fun h1853 s1854 hP1855 e1856 f1857 => ?_)
    refine bp_rv bu_100_47 ?_
    have R1858 : rq_R K P M σ ns 0 0 s1854 (bh_up (bh_up A 111 ((s 8833)).toInt.toNat (mm_nar 0 (s 8839))) 112 ((s 8833)).toInt.toNat (mm_nar 0 (s 8839))) L := rq_R_s hR (f1857 8811 (by decide)) (f1857 8813 (by decide)) (f1857 8814 (by decide)) (f1857 8815 (by decide)) (f1857 8816 (by decide)) (f1857 8819 (by decide)) (f1857 8820 (by decide)) (f1857 8812 (by decide)) ((bh_up_ne (by decide)).trans (bh_up_ne (by decide)))
    have F1859 : rq_F s A L s1854 (bh_up (bh_up A 111 ((s 8833)).toInt.toNat (mm_nar 0 (s 8839))) 112 ((s 8833)).toInt.toNat (mm_nar 0 (s 8839))) L := ⟨⟨(f1857 8802 (by decide)), (f1857 8804 (by decide)), (f1857 8810 (by decide)), (f1857 8818 (by decide)), (f1857 8819 (by decide))⟩, ⟨((bh_up_ne (by decide)).trans (bh_up_ne (by decide))), ((bh_up_ne (by decide)).trans (bh_up_ne (by decide))), ((bh_up_ne (by decide)).trans (bh_up_ne (by decide))), ((bh_up_ne (by decide)).trans (bh_up_ne (by decide))), ((bh_up_ne (by decide)).trans (bh_up_ne (by decide)))⟩, rfl, rfl, (f1857 8865 (by decide)), ((bh_up_ne (by decide)).trans (bh_up_ne (by decide))), fun c c1 c2 => ((bh_up_ne (by omega)).trans (bh_up_ne (by omega)))⟩
    have ee : py_x K true 0 σ = σ := py_x_f (by omega)
    exact kk _ _ _ _ hP1855 F1859 (by rw [ee]; exact R1858)
  · replace k1845 : ¬ (((s 8813)).toInt ≠ 0) := k1845
    refine bp_ld (pc' := 21) bu_100_20 rfl rfl (fun _ _ _ => rfl) rfl rfl ?_
    refine bn_cvF (pc' := 24) (st := []) (args := []) bu_100_21 rfl rfl rfl (by decide) hP1842 rz_o88 (by decide) rfl (Nat.le_of_ble_eq_true rfl) (Nat.le_of_ble_eq_true rfl) ?_
    have R1860 : rq_R K P M σ ns 0 0 s (bh_up A 111 ((s 8833)).toInt.toNat (mm_nar 0 (s 8839))) L := rq_R_s hR rfl rfl rfl rfl rfl rfl rfl rfl (bh_up_ne (by decide))
    have F1861 : rq_F s A L s (bh_up A 111 ((s 8833)).toInt.toNat (mm_nar 0 (s 8839))) L := ⟨⟨rfl, rfl, rfl, rfl, rfl⟩, ⟨(bh_up_ne (by decide)), (bh_up_ne (by decide)), (bh_up_ne (by decide)), (bh_up_ne (by decide)), (bh_up_ne (by decide))⟩, rfl, rfl, rfl, (bh_up_ne (by decide)), fun c c1 c2 => (bh_up_ne (by omega))⟩
    refine rr_26 hP1842 R1860 (rq_T_F hT F1861) (fun h1862 s1863 A1864 L1865 hP1866 F1867 R1868 => ?_)
    have F1869 := rq_F_t F1861 F1867
    show bp_G E PO NN ((100, 24, _, [], 0, 0) :: gs, h1862, none)
    refine bp_ld (pc' := 25) bu_100_24 rfl rfl (fun _ _ _ => rfl) rfl rfl ?_
    refine bn_gr (pc' := 28) (t := 112) bu_100_25 rfl rfl (fun _ _ _ => rfl) hP1866 rz_o88 rz_r88_38 ?_
    refine bp_ld (pc' := 29) bu_100_28 rfl rfl (fun _ _ _ => rfl) rfl rfl ?_
    refine bn_gi (pc' := 32) (K := 8833) bu_100_29 rfl rfl (fun _ _ _ => rfl) hP1866 rz_o88 rz_i88_33 rfl rfl ?_
    refine bp_ld (pc' := 33) bu_100_32 rfl rfl (fun _ _ _ => rfl) rfl rfl ?_
    refine bn_gi (pc' := 36) (K := 8839) bu_100_33 rfl rfl (fun _ _ _ => rfl) hP1866 rz_o88 rz_i88_39 rfl rfl ?_
    refine bn_iasF (pc' := 37) bu_100_36 rfl rfl (fun _ _ _ => rfl) hP1866 rz_a112 (Or.inl rfl) (fun b1872 b1873 h1870 hP1871 => ?_)
    refine bp_ld (pc' := 38) bu_100_37 rfl rfl (fun _ _ _ => rfl) rfl rfl ?_
    refine bp_dup (pc' := 39) bu_100_38 rfl rfl ?_
    refine bn_gi (pc' := 42) (K := 8833) bu_100_39 rfl rfl (fun _ _ _ => rfl) hP1871 rz_o88 rz_i88_33 rfl rfl ?_
    refine bp_c (pc' := 43) (n := 1) bu_100_42 rfl rfl (fun _ _ _ => rfl) (by decide) (fun c1874 e1875 => ?_)
    refine bp_addA (pc' := 44) bu_100_43 rfl (fun v1876 => ?_)
    refine bn_pf (pc' := 47) (K := 8833) bu_100_44 rfl rfl (fun _ _ _ => rfl) hP1871 rz_o88 rz_i88_33 rfl rfl (fun h1877 s1878 hP1879 e1880 f1881 => ?_)
    refine bp_rv bu_100_47 ?_
    have R1882 : rq_R K P M (py_x K true 0 σ) ns 0 0 s1878 (bh_up A1864 112 ((s1863 8833)).toInt.toNat (mm_nar 0 (s1863 8839))) L1865 := rq_R_s R1868 (f1881 8811 (by decide)) (f1881 8813 (by decide)) (f1881 8814 (by decide)) (f1881 8815 (by decide)) (f1881 8816 (by decide)) (f1881 8819 (by decide)) (f1881 8820 (by decide)) (f1881 8812 (by decide)) (bh_up_ne (by decide))
    have F1883 : rq_F s1863 A1864 L1865 s1878 (bh_up A1864 112 ((s1863 8833)).toInt.toNat (mm_nar 0 (s1863 8839))) L1865 := ⟨⟨(f1881 8802 (by decide)), (f1881 8804 (by decide)), (f1881 8810 (by decide)), (f1881 8818 (by decide)), (f1881 8819 (by decide))⟩, ⟨(bh_up_ne (by decide)), (bh_up_ne (by decide)), (bh_up_ne (by decide)), (bh_up_ne (by decide)), (bh_up_ne (by decide))⟩, rfl, rfl, (f1881 8865 (by decide)), (bh_up_ne (by decide)), fun c c1 c2 => (bh_up_ne (by omega))⟩
    have F1884 := rq_F_t F1869 F1883
    exact kk _ _ _ _ hP1879 F1884 R1882
set_option maxHeartbeats 4000000 in
theorem rr_97l {k : Int32} {τ : py_S} {s0 : Nat → Int32} {A0 : Nat → Nat → Int32} {L0 : Nat → Nat → Int64} (hT : rq_T K V P M A0) : ∀ NN : Nat, (∀ (h' : mm_H) (s' : Nat → Int32) (A' : Nat → Nat → Int32) (L' : Nat → Nat → Int64), bm_P rz_T E h0 h' s' A' L' → rq_F s0 A0 L0 s' A' L' → rq_R K P M τ ns 0 0 s' A' L' → bp_G E PO NN (mm_back none gs h')) → ∀ (h : mm_H) (s : Nat → Int32) (A : Nat → Nat → Int32) (L : Nat → Nat → Int64) (lv : mm_V) (o : Option Value) (σ : py_S) (q fi : Int32), bm_P rz_T E h0 h s A L → rq_F s0 A0 L0 s A L → rq_R K P M σ ns 0 0 s A L → mm_get lv 0 = some (.ref (E.1 + 88)) → mm_get lv 1 = some (.int k) → mm_get lv 2 = some (.int fi) → mm_get lv 3 = some (.int q) → 0 ≤ q.toInt → q.toInt ≤ 4 → py_mu K 4 (py_x K true 0 (py_ifs K (4 - q.toInt).toNat σ)) = τ → bp_G E PO NN ((97, 12, lv, [], 0, 0) :: gs, h, o) := by
  intro NN
  induction NN with
  | zero => intro kk h s A L lv o σ q fi hP hF hR g0 g1 g2 g3 b0 b4 hx; exact bp_zero bu_97_12
  | succ NN ih =>
    intro kk h s A L lv o σ q fi hP hF hR g0 g1 g2 g3 b0 b4 hx
    have q1 := hR.1
    refine bp_ld (pc' := 13) bu_97_12 rfl rfl (fun _ _ _ => rfl) g0 rfl ?_
    refine bn_gi (pc' := 16) (K := 8813) bu_97_13 rfl rfl (fun _ _ _ => rfl) hP rz_o88 rz_i88_13 rfl rfl ?_
    refine bp_i0 (pc' := 19) (pt := 129) bu_97_16 rfl rfl (fun k1885 => ?_) (fun k1885 => ?_)
    · replace k1885 : ((s 8813)).toInt ≠ 0 := k1885
      refine bp_ld (pc' := 130) bu_97_129 rfl rfl (fun _ _ _ => rfl) g0 rfl ?_
      refine bn_gr (pc' := 133) (t := 108) bu_97_130 rfl rfl (fun _ _ _ => rfl) hP rz_o88 rz_r88_34 ?_
      refine bp_ld (pc' := 134) bu_97_133 rfl rfl (fun _ _ _ => rfl) g0 rfl ?_
      refine bn_gi (pc' := 137) (K := 8833) bu_97_134 rfl rfl (fun _ _ _ => rfl) hP rz_o88 rz_i88_33 rfl rfl ?_
      refine bp_c (pc' := 138) (n := 0) bu_97_137 rfl rfl (fun _ _ _ => rfl) (by decide) (fun c1886 e1887 => ?_)
      refine bn_iasF (pc' := 139) bu_97_138 rfl rfl (fun _ _ _ => rfl) hP rz_a108 (Or.inr rfl) (fun b1890 b1891 h1888 hP1889 => ?_)
      refine bp_ld (pc' := 140) bu_97_139 rfl rfl (fun _ _ _ => rfl) g0 rfl ?_
      refine bn_cvF (pc' := 143) (st := []) (args := []) bu_97_140 rfl rfl rfl (by decide) hP1889 rz_o88 (by decide) rfl (Nat.le_of_ble_eq_true rfl) (Nat.le_of_ble_eq_true rfl) ?_
      have R1892 : rq_R K P M σ ns 0 0 s (bh_up A 108 ((s 8833)).toInt.toNat (mm_nar 2 c1886)) L := rq_R_s hR rfl rfl rfl rfl rfl rfl rfl rfl (bh_up_ne (by decide))
      have F1893 : rq_F s A L s (bh_up A 108 ((s 8833)).toInt.toNat (mm_nar 2 c1886)) L := ⟨⟨rfl, rfl, rfl, rfl, rfl⟩, ⟨(bh_up_ne (by decide)), (bh_up_ne (by decide)), (bh_up_ne (by decide)), (bh_up_ne (by decide)), (bh_up_ne (by decide))⟩, rfl, rfl, rfl, (bh_up_ne (by decide)), fun c c1 c2 => (bh_up_ne (by omega))⟩
      have F1894 := rq_F_t hF F1893
      refine rr_100 hP1889 R1892 (rq_T_F hT F1894) (fun h1895 s1896 A1897 L1898 hP1899 F1900 R1901 => ?_)
      have F1902 := rq_F_t F1894 F1900
      show bp_G E PO (NN + 1) ((97, 143, lv, [], 0, 0) :: gs, h1895, none)
      refine bp_ld (pc' := 144) bu_97_143 rfl rfl (fun _ _ _ => rfl) g0 rfl ?_
      refine bp_c (pc' := 145) (n := 4) bu_97_144 rfl rfl (fun _ _ _ => rfl) (by decide) (fun c1903 e1904 => ?_)
      refine bn_cvF (pc' := 148) (st := []) (args := [.int c1903]) bu_97_145 rfl rfl rfl (by decide) hP1899 rz_o88 (by decide) rfl (Nat.le_of_ble_eq_true rfl) (Nat.le_of_ble_eq_true rfl) ?_
      refine rr_67 (kc := 4) hP1899 (by omega) (by decide) (by decide) R1901 (rq_T_F hT F1902) (fun h1905 s1906 A1907 L1908 hP1909 F1910 R1911 => ?_)
      have F1912 := rq_F_t F1902 F1910
      have u1913 := R1911.1
      show bp_G E PO (NN + 1) ((97, 148, lv, [], 0, 0) :: gs, h1905, none)
      refine bp_ld (pc' := 149) bu_97_148 rfl rfl (fun _ _ _ => rfl) g0 rfl ?_
      refine bn_gi (pc' := 152) (K := 8813) bu_97_149 rfl rfl (fun _ _ _ => rfl) hP1909 rz_o88 rz_i88_13 rfl rfl ?_
      refine bp_i0 (pc' := 155) (pt := 156) bu_97_152 rfl rfl (fun k1914 => ?_) (fun k1914 => ?_)
      · replace k1914 : ((s1906 8813)).toInt ≤ 0 := k1914
        refine bp_ld (pc' := 157) bu_97_156 rfl rfl (fun _ _ _ => rfl) g0 rfl ?_
        refine bn_gr (pc' := 160) (t := 106) bu_97_157 rfl rfl (fun _ _ _ => rfl) hP1909 rz_o88 rz_r88_31 ?_
        refine bp_c (pc' := 162) (n := 7) bu_97_160 rfl rfl (fun _ _ _ => rfl) (by decide) (fun c1915 e1916 => ?_)
        refine bp_ld (pc' := 163) bu_97_162 rfl rfl (fun _ _ _ => rfl) g0 rfl ?_
        refine bn_gi (pc' := 166) (K := 8819) bu_97_163 rfl rfl (fun _ _ _ => rfl) hP1909 rz_o88 rz_i88_19 rfl rfl ?_
        refine bp_mulA (pc' := 167) bu_97_166 rfl (fun v1917 => ?_)
        refine bp_ld (pc' := 168) bu_97_167 rfl rfl (fun _ _ _ => rfl) g1 rfl ?_
        refine bp_addA (pc' := 169) bu_97_168 rfl (fun v1918 => ?_)
        refine bp_ld (pc' := 170) bu_97_169 rfl rfl (fun _ _ _ => rfl) g2 rfl ?_
        refine bn_iasF (pc' := 171) bu_97_170 rfl rfl (fun _ _ _ => rfl) hP1909 rz_a106 (Or.inl rfl) (fun b1921 b1922 h1919 hP1920 => ?_)
        refine bp_ld (pc' := 172) bu_97_171 rfl rfl (fun _ _ _ => rfl) g0 rfl ?_
        refine bn_gr (pc' := 175) (t := 107) bu_97_172 rfl rfl (fun _ _ _ => rfl) hP1920 rz_o88 rz_r88_32 ?_
        refine bp_c (pc' := 177) (n := 7) bu_97_175 rfl rfl (fun _ _ _ => rfl) (by decide) (fun c1923 e1924 => ?_)
        refine bp_ld (pc' := 178) bu_97_177 rfl rfl (fun _ _ _ => rfl) g0 rfl ?_
        refine bn_gi (pc' := 181) (K := 8819) bu_97_178 rfl rfl (fun _ _ _ => rfl) hP1920 rz_o88 rz_i88_19 rfl rfl ?_
        refine bp_mulA (pc' := 182) bu_97_181 rfl (fun v1925 => ?_)
        refine bp_ld (pc' := 183) bu_97_182 rfl rfl (fun _ _ _ => rfl) g1 rfl ?_
        refine bp_addA (pc' := 184) bu_97_183 rfl (fun v1926 => ?_)
        refine bp_ld (pc' := 185) bu_97_184 rfl rfl (fun _ _ _ => rfl) g0 rfl ?_
        refine bn_gi (pc' := 188) (K := 8833) bu_97_185 rfl rfl (fun _ _ _ => rfl) hP1920 rz_o88 rz_i88_33 rfl rfl ?_
        refine bn_iasF (pc' := 189) bu_97_188 rfl rfl (fun _ _ _ => rfl) hP1920 rz_a107 (Or.inl rfl) (fun b1929 b1930 h1927 hP1928 => ?_)
        refine bp_rv bu_97_189 ?_
        have R1931 : rq_R K P M (py_mu K 4 (py_x K true 0 σ)) ns 0 0 s1906 (bh_up (bh_up A1907 106 (v1918).toInt.toNat (mm_nar 0 fi)) 107 (v1926).toInt.toNat (mm_nar 0 (s1906 8833))) L1908 := rq_R_s R1911 rfl rfl rfl rfl rfl rfl rfl rfl ((bh_up_ne (by decide)).trans (bh_up_ne (by decide)))
        have F1932 : rq_F s1906 A1907 L1908 s1906 (bh_up (bh_up A1907 106 (v1918).toInt.toNat (mm_nar 0 fi)) 107 (v1926).toInt.toNat (mm_nar 0 (s1906 8833))) L1908 := ⟨⟨rfl, rfl, rfl, rfl, rfl⟩, ⟨((bh_up_ne (by decide)).trans (bh_up_ne (by decide))), ((bh_up_ne (by decide)).trans (bh_up_ne (by decide))), ((bh_up_ne (by decide)).trans (bh_up_ne (by decide))), ((bh_up_ne (by decide)).trans (bh_up_ne (by decide))), ((bh_up_ne (by decide)).trans (bh_up_ne (by decide)))⟩, rfl, rfl, rfl, ((bh_up_ne (by decide)).trans (bh_up_ne (by decide))), fun c c1 c2 => ((bh_up_ne (by omega)).trans (bh_up_ne (by omega)))⟩
        have F1933 := rq_F_t F1912 F1932
        have ee : py_ifs K (4 - q.toInt).toNat σ = σ := py_ifs_n (by omega)
        rw [ee] at hx
        exact kk _ _ _ _ hP1928 F1933 (by rw [← hx]; exact R1931)
      · replace k1914 : ¬ (((s1906 8813)).toInt ≤ 0) := k1914
        refine bp_rv bu_97_155 ?_
        have ee : py_ifs K (4 - q.toInt).toNat σ = σ := py_ifs_n (by omega)
        rw [ee] at hx
        exact kk _ _ _ _ hP1909 F1912 (by rw [← hx]; exact R1911)
    · replace k1885 : ¬ (((s 8813)).toInt ≠ 0) := k1885
      refine bp_ld (pc' := 20) bu_97_19 rfl rfl (fun _ _ _ => rfl) g0 rfl ?_
      refine bp_c (pc' := 22) (n := 32) bu_97_20 rfl rfl (fun _ _ _ => rfl) (by decide) (fun c1934 e1935 => ?_)
      refine bn_cvF (pc' := 25) (st := []) (args := [.int c1934]) bu_97_22 rfl rfl rfl (by decide) hP rz_o88 (by decide) rfl (Nat.le_of_ble_eq_true rfl) (Nat.le_of_ble_eq_true rfl) ?_
      refine rr_45 (k := c1934) hP hR (rq_T_F hT hF) (fun r1936 p1937 => ?_)
      show bp_G E PO (NN + 1) ((97, 25, lv, [.int r1936], 0, 0) :: gs, h, none)
      refine bp_i0 (pc' := 28) (pt := 129) bu_97_25 rfl rfl (fun k1938 => ?_) (fun k1938 => ?_)
      · replace k1938 : (r1936).toInt = 0 := k1938
        refine bp_ld (pc' := 130) bu_97_129 rfl rfl (fun _ _ _ => rfl) g0 rfl ?_
        refine bn_gr (pc' := 133) (t := 108) bu_97_130 rfl rfl (fun _ _ _ => rfl) hP rz_o88 rz_r88_34 ?_
        refine bp_ld (pc' := 134) bu_97_133 rfl rfl (fun _ _ _ => rfl) g0 rfl ?_
        refine bn_gi (pc' := 137) (K := 8833) bu_97_134 rfl rfl (fun _ _ _ => rfl) hP rz_o88 rz_i88_33 rfl rfl ?_
        refine bp_c (pc' := 138) (n := 0) bu_97_137 rfl rfl (fun _ _ _ => rfl) (by decide) (fun c1939 e1940 => ?_)
        refine bn_iasF (pc' := 139) bu_97_138 rfl rfl (fun _ _ _ => rfl) hP rz_a108 (Or.inr rfl) (fun b1943 b1944 h1941 hP1942 => ?_)
        refine bp_ld (pc' := 140) bu_97_139 rfl rfl (fun _ _ _ => rfl) g0 rfl ?_
        refine bn_cvF (pc' := 143) (st := []) (args := []) bu_97_140 rfl rfl rfl (by decide) hP1942 rz_o88 (by decide) rfl (Nat.le_of_ble_eq_true rfl) (Nat.le_of_ble_eq_true rfl) ?_
        have R1945 : rq_R K P M σ ns 0 0 s (bh_up A 108 ((s 8833)).toInt.toNat (mm_nar 2 c1939)) L := rq_R_s hR rfl rfl rfl rfl rfl rfl rfl rfl (bh_up_ne (by decide))
        have F1946 : rq_F s A L s (bh_up A 108 ((s 8833)).toInt.toNat (mm_nar 2 c1939)) L := ⟨⟨rfl, rfl, rfl, rfl, rfl⟩, ⟨(bh_up_ne (by decide)), (bh_up_ne (by decide)), (bh_up_ne (by decide)), (bh_up_ne (by decide)), (bh_up_ne (by decide))⟩, rfl, rfl, rfl, (bh_up_ne (by decide)), fun c c1 c2 => (bh_up_ne (by omega))⟩
        have F1947 := rq_F_t hF F1946
        refine rr_100 hP1942 R1945 (rq_T_F hT F1947) (fun h1948 s1949 A1950 L1951 hP1952 F1953 R1954 => ?_)
        have F1955 := rq_F_t F1947 F1953
        show bp_G E PO (NN + 1) ((97, 143, lv, [], 0, 0) :: gs, h1948, none)
        refine bp_ld (pc' := 144) bu_97_143 rfl rfl (fun _ _ _ => rfl) g0 rfl ?_
        refine bp_c (pc' := 145) (n := 4) bu_97_144 rfl rfl (fun _ _ _ => rfl) (by decide) (fun c1956 e1957 => ?_)
        refine bn_cvF (pc' := 148) (st := []) (args := [.int c1956]) bu_97_145 rfl rfl rfl (by decide) hP1952 rz_o88 (by decide) rfl (Nat.le_of_ble_eq_true rfl) (Nat.le_of_ble_eq_true rfl) ?_
        refine rr_67 (kc := 4) hP1952 (by omega) (by decide) (by decide) R1954 (rq_T_F hT F1955) (fun h1958 s1959 A1960 L1961 hP1962 F1963 R1964 => ?_)
        have F1965 := rq_F_t F1955 F1963
        have u1966 := R1964.1
        show bp_G E PO (NN + 1) ((97, 148, lv, [], 0, 0) :: gs, h1958, none)
        refine bp_ld (pc' := 149) bu_97_148 rfl rfl (fun _ _ _ => rfl) g0 rfl ?_
        refine bn_gi (pc' := 152) (K := 8813) bu_97_149 rfl rfl (fun _ _ _ => rfl) hP1962 rz_o88 rz_i88_13 rfl rfl ?_
        refine bp_i0 (pc' := 155) (pt := 156) bu_97_152 rfl rfl (fun k1967 => ?_) (fun k1967 => ?_)
        · replace k1967 : ((s1959 8813)).toInt ≤ 0 := k1967
          refine bp_ld (pc' := 157) bu_97_156 rfl rfl (fun _ _ _ => rfl) g0 rfl ?_
          refine bn_gr (pc' := 160) (t := 106) bu_97_157 rfl rfl (fun _ _ _ => rfl) hP1962 rz_o88 rz_r88_31 ?_
          refine bp_c (pc' := 162) (n := 7) bu_97_160 rfl rfl (fun _ _ _ => rfl) (by decide) (fun c1968 e1969 => ?_)
          refine bp_ld (pc' := 163) bu_97_162 rfl rfl (fun _ _ _ => rfl) g0 rfl ?_
          refine bn_gi (pc' := 166) (K := 8819) bu_97_163 rfl rfl (fun _ _ _ => rfl) hP1962 rz_o88 rz_i88_19 rfl rfl ?_
          refine bp_mulA (pc' := 167) bu_97_166 rfl (fun v1970 => ?_)
          refine bp_ld (pc' := 168) bu_97_167 rfl rfl (fun _ _ _ => rfl) g1 rfl ?_
          refine bp_addA (pc' := 169) bu_97_168 rfl (fun v1971 => ?_)
          refine bp_ld (pc' := 170) bu_97_169 rfl rfl (fun _ _ _ => rfl) g2 rfl ?_
          refine bn_iasF (pc' := 171) bu_97_170 rfl rfl (fun _ _ _ => rfl) hP1962 rz_a106 (Or.inl rfl) (fun b1974 b1975 h1972 hP1973 => ?_)
          refine bp_ld (pc' := 172) bu_97_171 rfl rfl (fun _ _ _ => rfl) g0 rfl ?_
          refine bn_gr (pc' := 175) (t := 107) bu_97_172 rfl rfl (fun _ _ _ => rfl) hP1973 rz_o88 rz_r88_32 ?_
          refine bp_c (pc' := 177) (n := 7) bu_97_175 rfl rfl (fun _ _ _ => rfl) (by decide) (fun c1976 e1977 => ?_)
          refine bp_ld (pc' := 178) bu_97_177 rfl rfl (fun _ _ _ => rfl) g0 rfl ?_
          refine bn_gi (pc' := 181) (K := 8819) bu_97_178 rfl rfl (fun _ _ _ => rfl) hP1973 rz_o88 rz_i88_19 rfl rfl ?_
          refine bp_mulA (pc' := 182) bu_97_181 rfl (fun v1978 => ?_)
          refine bp_ld (pc' := 183) bu_97_182 rfl rfl (fun _ _ _ => rfl) g1 rfl ?_
          refine bp_addA (pc' := 184) bu_97_183 rfl (fun v1979 => ?_)
          refine bp_ld (pc' := 185) bu_97_184 rfl rfl (fun _ _ _ => rfl) g0 rfl ?_
          refine bn_gi (pc' := 188) (K := 8833) bu_97_185 rfl rfl (fun _ _ _ => rfl) hP1973 rz_o88 rz_i88_33 rfl rfl ?_
          refine bn_iasF (pc' := 189) bu_97_188 rfl rfl (fun _ _ _ => rfl) hP1973 rz_a107 (Or.inl rfl) (fun b1982 b1983 h1980 hP1981 => ?_)
          refine bp_rv bu_97_189 ?_
          have R1984 : rq_R K P M (py_mu K 4 (py_x K true 0 σ)) ns 0 0 s1959 (bh_up (bh_up A1960 106 (v1971).toInt.toNat (mm_nar 0 fi)) 107 (v1979).toInt.toNat (mm_nar 0 (s1959 8833))) L1961 := rq_R_s R1964 rfl rfl rfl rfl rfl rfl rfl rfl ((bh_up_ne (by decide)).trans (bh_up_ne (by decide)))
          have F1985 : rq_F s1959 A1960 L1961 s1959 (bh_up (bh_up A1960 106 (v1971).toInt.toNat (mm_nar 0 fi)) 107 (v1979).toInt.toNat (mm_nar 0 (s1959 8833))) L1961 := ⟨⟨rfl, rfl, rfl, rfl, rfl⟩, ⟨((bh_up_ne (by decide)).trans (bh_up_ne (by decide))), ((bh_up_ne (by decide)).trans (bh_up_ne (by decide))), ((bh_up_ne (by decide)).trans (bh_up_ne (by decide))), ((bh_up_ne (by decide)).trans (bh_up_ne (by decide))), ((bh_up_ne (by decide)).trans (bh_up_ne (by decide)))⟩, rfl, rfl, rfl, ((bh_up_ne (by decide)).trans (bh_up_ne (by decide))), fun c c1 c2 => ((bh_up_ne (by omega)).trans (bh_up_ne (by omega)))⟩
          have F1986 := rq_F_t F1965 F1985
          have ee : py_ifs K (4 - q.toInt).toNat σ = σ := py_ifs_n (by omega)
          rw [ee] at hx
          exact kk _ _ _ _ hP1981 F1986 (by rw [← hx]; exact R1984)
        · replace k1967 : ¬ (((s1959 8813)).toInt ≤ 0) := k1967
          refine bp_rv bu_97_155 ?_
          have ee : py_ifs K (4 - q.toInt).toNat σ = σ := py_ifs_n (by omega)
          rw [ee] at hx
          exact kk _ _ _ _ hP1962 F1965 (by rw [← hx]; exact R1964)
      · replace k1938 : ¬ ((r1936).toInt = 0) := k1938
        refine bp_ld (pc' := 29) bu_97_28 rfl rfl (fun _ _ _ => rfl) g3 rfl ?_
        refine bp_c (pc' := 30) (n := 4) bu_97_29 rfl rfl (fun _ _ _ => rfl) (by decide) (fun c1987 e1988 => ?_)
        refine bp_ic (pc' := 33) (pt := 38) bu_97_30 rfl rfl (fun k1989 => ?_) (fun k1989 => ?_)
        · replace k1989 : (q).toInt ≠ (c1987).toInt := k1989
          refine bp_ld (pc' := 39) bu_97_38 rfl rfl (fun _ _ _ => rfl) g0 rfl ?_
          refine bn_gi (pc' := 42) (K := 8813) bu_97_39 rfl rfl (fun _ _ _ => rfl) hP rz_o88 rz_i88_13 rfl rfl ?_
          refine bp_i0 (pc' := 45) (pt := 46) bu_97_42 rfl rfl (fun k1990 => ?_) (fun k1990 => ?_)
          · replace k1990 : ((s 8813)).toInt ≤ 0 := k1990
            refine bp_inc (pc' := 49) bu_97_46 rfl (by decide) g3 (by decide) (by omega) (by omega) (fun lv1991 y1994 F1992 g1993 e1995 => ?_)
            have g1996 := F1992 0 (.ref (E.1 + 88)) g0 (by decide) (Or.inl rfl)
            have g1997 := F1992 1 (.int k) g1 (by decide) (Or.inl rfl)
            have g1998 := F1992 2 (.int fi) g2 (by decide) (Or.inl rfl)
            refine bp_ld (pc' := 50) bu_97_49 rfl rfl (fun _ _ _ => rfl) g1996 rfl ?_
            refine bn_cvF (pc' := 53) (st := []) (args := []) bu_97_50 rfl rfl rfl (by decide) hP rz_o88 (by decide) rfl (Nat.le_of_ble_eq_true rfl) (Nat.le_of_ble_eq_true rfl) ?_
            refine rr_37 hP (by decide) hR (rq_T_F hT hF) (fun _ => by omega) (fun h1999 s2000 A2001 L2002 hP2003 F2004 R2005 => ?_)
            have F2006 := rq_F_t hF F2004
            show bp_G E PO (NN + 1) ((97, 53, lv1991, [], 0, 0) :: gs, h1999, none)
            refine bp_ld (pc' := 54) bu_97_53 rfl rfl (fun _ _ _ => rfl) g1996 rfl ?_
            refine bn_gr (pc' := 57) (t := 108) bu_97_54 rfl rfl (fun _ _ _ => rfl) hP2003 rz_o88 rz_r88_34 ?_
            refine bp_ld (pc' := 58) bu_97_57 rfl rfl (fun _ _ _ => rfl) g1996 rfl ?_
            refine bn_gi (pc' := 61) (K := 8833) bu_97_58 rfl rfl (fun _ _ _ => rfl) hP2003 rz_o88 rz_i88_33 rfl rfl ?_
            refine bp_c (pc' := 62) (n := 1) bu_97_61 rfl rfl (fun _ _ _ => rfl) (by decide) (fun c2007 e2008 => ?_)
            refine bn_iasF (pc' := 63) bu_97_62 rfl rfl (fun _ _ _ => rfl) hP2003 rz_a108 (Or.inr rfl) (fun b2011 b2012 h2009 hP2010 => ?_)
            refine bp_ld (pc' := 64) bu_97_63 rfl rfl (fun _ _ _ => rfl) g1996 rfl ?_
            refine bn_gr (pc' := 67) (t := 109) bu_97_64 rfl rfl (fun _ _ _ => rfl) hP2010 rz_o88 rz_r88_35 ?_
            refine bp_ld (pc' := 68) bu_97_67 rfl rfl (fun _ _ _ => rfl) g1996 rfl ?_
            refine bn_gi (pc' := 71) (K := 8833) bu_97_68 rfl rfl (fun _ _ _ => rfl) hP2010 rz_o88 rz_i88_33 rfl rfl ?_
            refine bp_ld (pc' := 72) bu_97_71 rfl rfl (fun _ _ _ => rfl) g1996 rfl ?_
            refine bn_gi (pc' := 75) (K := 8839) bu_97_72 rfl rfl (fun _ _ _ => rfl) hP2010 rz_o88 rz_i88_39 rfl rfl ?_
            refine bn_iasF (pc' := 76) bu_97_75 rfl rfl (fun _ _ _ => rfl) hP2010 rz_a109 (Or.inl rfl) (fun b2015 b2016 h2013 hP2014 => ?_)
            refine bp_ld (pc' := 77) bu_97_76 rfl rfl (fun _ _ _ => rfl) g1996 rfl ?_
            refine bn_cvF (pc' := 80) (st := []) (args := []) bu_97_77 rfl rfl rfl (by decide) hP2014 rz_o88 (by decide) rfl (Nat.le_of_ble_eq_true rfl) (Nat.le_of_ble_eq_true rfl) ?_
            have R2017 : rq_R K P M (py_go σ) ns 0 0 s2000 (bh_up (bh_up A2001 108 ((s2000 8833)).toInt.toNat (mm_nar 2 c2007)) 109 ((s2000 8833)).toInt.toNat (mm_nar 0 (s2000 8839))) L2002 := rq_R_s R2005 rfl rfl rfl rfl rfl rfl rfl rfl ((bh_up_ne (by decide)).trans (bh_up_ne (by decide)))
            have F2018 : rq_F s2000 A2001 L2002 s2000 (bh_up (bh_up A2001 108 ((s2000 8833)).toInt.toNat (mm_nar 2 c2007)) 109 ((s2000 8833)).toInt.toNat (mm_nar 0 (s2000 8839))) L2002 := ⟨⟨rfl, rfl, rfl, rfl, rfl⟩, ⟨((bh_up_ne (by decide)).trans (bh_up_ne (by decide))), ((bh_up_ne (by decide)).trans (bh_up_ne (by decide))), ((bh_up_ne (by decide)).trans (bh_up_ne (by decide))), ((bh_up_ne (by decide)).trans (bh_up_ne (by decide))), ((bh_up_ne (by decide)).trans (bh_up_ne (by decide)))⟩, rfl, rfl, rfl, ((bh_up_ne (by decide)).trans (bh_up_ne (by decide))), fun c c1 c2 => ((bh_up_ne (by omega)).trans (bh_up_ne (by omega)))⟩
            have F2019 := rq_F_t F2006 F2018
            refine rr_26 hP2014 R2017 (rq_T_F hT F2019) (fun h2020 s2021 A2022 L2023 hP2024 F2025 R2026 => ?_)
            have F2027 := rq_F_t F2019 F2025
            show bp_G E PO (NN + 1) ((97, 80, lv1991, [], 0, 0) :: gs, h2020, none)
            refine bp_ld (pc' := 81) bu_97_80 rfl rfl (fun _ _ _ => rfl) g1996 rfl ?_
            refine bp_c (pc' := 83) (n := 13) bu_97_81 rfl rfl (fun _ _ _ => rfl) (by decide) (fun c2028 e2029 => ?_)
            refine bn_cvF (pc' := 86) (st := []) (args := [.int c2028]) bu_97_83 rfl rfl rfl (by decide) hP2024 rz_o88 (by decide) rfl (Nat.le_of_ble_eq_true rfl) (Nat.le_of_ble_eq_true rfl) ?_
            refine rr_67 (kc := 13) hP2024 (by omega) (by decide) (by decide) R2026 (rq_T_F hT F2027) (fun h2030 s2031 A2032 L2033 hP2034 F2035 R2036 => ?_)
            have F2037 := rq_F_t F2027 F2035
            have u2038 := R2036.1
            show bp_G E PO (NN + 1) ((97, 86, lv1991, [], 0, 0) :: gs, h2030, none)
            refine bp_ld (pc' := 87) bu_97_86 rfl rfl (fun _ _ _ => rfl) g1996 rfl ?_
            refine bn_gr (pc' := 90) (t := 110) bu_97_87 rfl rfl (fun _ _ _ => rfl) hP2034 rz_o88 rz_r88_36 ?_
            refine bp_ld (pc' := 91) bu_97_90 rfl rfl (fun _ _ _ => rfl) g1996 rfl ?_
            refine bn_gi (pc' := 94) (K := 8833) bu_97_91 rfl rfl (fun _ _ _ => rfl) hP2034 rz_o88 rz_i88_33 rfl rfl ?_
            refine bp_ld (pc' := 95) bu_97_94 rfl rfl (fun _ _ _ => rfl) g1996 rfl ?_
            refine bn_gi (pc' := 98) (K := 8839) bu_97_95 rfl rfl (fun _ _ _ => rfl) hP2034 rz_o88 rz_i88_39 rfl rfl ?_
            refine bn_iasF (pc' := 99) bu_97_98 rfl rfl (fun _ _ _ => rfl) hP2034 rz_a110 (Or.inl rfl) (fun b2041 b2042 h2039 hP2040 => ?_)
            refine bp_ld (pc' := 100) bu_97_99 rfl rfl (fun _ _ _ => rfl) g1996 rfl ?_
            refine bn_gi (pc' := 103) (K := 8813) bu_97_100 rfl rfl (fun _ _ _ => rfl) hP2040 rz_o88 rz_i88_13 rfl rfl ?_
            refine bp_i0 (pc' := 106) (pt := 110) bu_97_103 rfl rfl (fun k2043 => ?_) (fun k2043 => ?_)
            · replace k2043 : ((s2031 8813)).toInt ≠ 0 := k2043
              have R2044 : rq_R K P M (py_mu K 13 (py_x K true 0 (py_go σ))) ns 0 0 s2031 (bh_up A2032 110 ((s2031 8833)).toInt.toNat (mm_nar 0 (s2031 8839))) L2033 := rq_R_s R2036 rfl rfl rfl rfl rfl rfl rfl rfl (bh_up_ne (by decide))
              have F2045 : rq_F s2031 A2032 L2033 s2031 (bh_up A2032 110 ((s2031 8833)).toInt.toNat (mm_nar 0 (s2031 8839))) L2033 := ⟨⟨rfl, rfl, rfl, rfl, rfl⟩, ⟨(bh_up_ne (by decide)), (bh_up_ne (by decide)), (bh_up_ne (by decide)), (bh_up_ne (by decide)), (bh_up_ne (by decide))⟩, rfl, rfl, rfl, (bh_up_ne (by decide)), fun c c1 c2 => (bh_up_ne (by omega))⟩
              have F2046 := rq_F_t F2037 F2045
              have R2047 : rq_R K P M (py_x K true 0 (py_mu K 13 (py_x K true 0 (py_go σ)))) ns 0 0 s2031 (bh_up A2032 110 ((s2031 8833)).toInt.toNat (mm_nar 0 (s2031 8839))) L2033 := by
                rw [py_x_f (by omega)]
                exact R2044
              refine bp_ld (pc' := 111) bu_97_110 rfl rfl (fun _ _ _ => rfl) g1996 rfl ?_
              refine bp_c (pc' := 113) (n := 33) bu_97_111 rfl rfl (fun _ _ _ => rfl) (by decide) (fun c2048 e2049 => ?_)
              refine bn_cvF (pc' := 116) (st := []) (args := [.int c2048]) bu_97_113 rfl rfl rfl (by decide) hP2040 rz_o88 (by decide) rfl (Nat.le_of_ble_eq_true rfl) (Nat.le_of_ble_eq_true rfl) ?_
              refine rr_67 (kc := 33) hP2040 (by omega) (by decide) (by decide) R2047 (rq_T_F hT F2046) (fun h2050 s2051 A2052 L2053 hP2054 F2055 R2056 => ?_)
              have F2057 := rq_F_t F2046 F2055
              have u2058 := R2056.1
              show bp_G E PO (NN + 1) ((97, 116, lv1991, [], 0, 0) :: gs, h2050, none)
              refine bp_ld (pc' := 117) bu_97_116 rfl rfl (fun _ _ _ => rfl) g1996 rfl ?_
              refine bn_cvF (pc' := 120) (st := []) (args := []) bu_97_117 rfl rfl rfl (by decide) hP2054 rz_o88 (by decide) rfl (Nat.le_of_ble_eq_true rfl) (Nat.le_of_ble_eq_true rfl) ?_
              refine rr_100 hP2054 R2056 (rq_T_F hT F2057) (fun h2059 s2060 A2061 L2062 hP2063 F2064 R2065 => ?_)
              have F2066 := rq_F_t F2057 F2064
              show bp_G E PO (NN + 1) ((97, 120, lv1991, [], 0, 0) :: gs, h2059, none)
              refine bp_ld (pc' := 121) bu_97_120 rfl rfl (fun _ _ _ => rfl) g1996 rfl ?_
              refine bp_c (pc' := 123) (n := 34) bu_97_121 rfl rfl (fun _ _ _ => rfl) (by decide) (fun c2067 e2068 => ?_)
              refine bn_cvF (pc' := 126) (st := []) (args := [.int c2067]) bu_97_123 rfl rfl rfl (by decide) hP2063 rz_o88 (by decide) rfl (Nat.le_of_ble_eq_true rfl) (Nat.le_of_ble_eq_true rfl) ?_
              refine rr_67 (kc := 34) hP2063 (by omega) (by decide) (by decide) R2065 (rq_T_F hT F2066) (fun h2069 s2070 A2071 L2072 hP2073 F2074 R2075 => ?_)
              have F2076 := rq_F_t F2066 F2074
              have u2077 := R2075.1
              show bp_G E PO (NN + 1) ((97, 126, lv1991, [], 0, 0) :: gs, h2069, none)
              refine bp_goD (pc' := 12) bu_97_126 rfl ?_
              exact ih (fun h' s' A' L' hP' F' R' => bp_mono (Nat.le_succ NN) (kk h' s' A' L' hP' F' R')) _ _ _ _ _ _ _ _ _ hP2073 F2076 R2075 g1996 g1997 g1998 g1993 (by omega) (by omega) (by rw [← hx, show (4 - q.toInt).toNat = (4 - (y1994).toInt).toNat + 1 by omega, py_ifs_s ⟨by omega, by omega⟩])
            · replace k2043 : ¬ (((s2031 8813)).toInt ≠ 0) := k2043
              refine bp_ld (pc' := 107) bu_97_106 rfl rfl (fun _ _ _ => rfl) g1996 rfl ?_
              refine bn_cvF (pc' := 110) (st := []) (args := []) bu_97_107 rfl rfl rfl (by decide) hP2040 rz_o88 (by decide) rfl (Nat.le_of_ble_eq_true rfl) (Nat.le_of_ble_eq_true rfl) ?_
              have R2078 : rq_R K P M (py_mu K 13 (py_x K true 0 (py_go σ))) ns 0 0 s2031 (bh_up A2032 110 ((s2031 8833)).toInt.toNat (mm_nar 0 (s2031 8839))) L2033 := rq_R_s R2036 rfl rfl rfl rfl rfl rfl rfl rfl (bh_up_ne (by decide))
              have F2079 : rq_F s2031 A2032 L2033 s2031 (bh_up A2032 110 ((s2031 8833)).toInt.toNat (mm_nar 0 (s2031 8839))) L2033 := ⟨⟨rfl, rfl, rfl, rfl, rfl⟩, ⟨(bh_up_ne (by decide)), (bh_up_ne (by decide)), (bh_up_ne (by decide)), (bh_up_ne (by decide)), (bh_up_ne (by decide))⟩, rfl, rfl, rfl, (bh_up_ne (by decide)), fun c c1 c2 => (bh_up_ne (by omega))⟩
              have F2080 := rq_F_t F2037 F2079
              refine rr_26 hP2040 R2078 (rq_T_F hT F2080) (fun h2081 s2082 A2083 L2084 hP2085 F2086 R2087 => ?_)
              have F2088 := rq_F_t F2080 F2086
              show bp_G E PO (NN + 1) ((97, 110, lv1991, [], 0, 0) :: gs, h2081, none)
              refine bp_ld (pc' := 111) bu_97_110 rfl rfl (fun _ _ _ => rfl) g1996 rfl ?_
              refine bp_c (pc' := 113) (n := 33) bu_97_111 rfl rfl (fun _ _ _ => rfl) (by decide) (fun c2089 e2090 => ?_)
              refine bn_cvF (pc' := 116) (st := []) (args := [.int c2089]) bu_97_113 rfl rfl rfl (by decide) hP2085 rz_o88 (by decide) rfl (Nat.le_of_ble_eq_true rfl) (Nat.le_of_ble_eq_true rfl) ?_
              refine rr_67 (kc := 33) hP2085 (by omega) (by decide) (by decide) R2087 (rq_T_F hT F2088) (fun h2091 s2092 A2093 L2094 hP2095 F2096 R2097 => ?_)
              have F2098 := rq_F_t F2088 F2096
              have u2099 := R2097.1
              show bp_G E PO (NN + 1) ((97, 116, lv1991, [], 0, 0) :: gs, h2091, none)
              refine bp_ld (pc' := 117) bu_97_116 rfl rfl (fun _ _ _ => rfl) g1996 rfl ?_
              refine bn_cvF (pc' := 120) (st := []) (args := []) bu_97_117 rfl rfl rfl (by decide) hP2095 rz_o88 (by decide) rfl (Nat.le_of_ble_eq_true rfl) (Nat.le_of_ble_eq_true rfl) ?_
              refine rr_100 hP2095 R2097 (rq_T_F hT F2098) (fun h2100 s2101 A2102 L2103 hP2104 F2105 R2106 => ?_)
              have F2107 := rq_F_t F2098 F2105
              show bp_G E PO (NN + 1) ((97, 120, lv1991, [], 0, 0) :: gs, h2100, none)
              refine bp_ld (pc' := 121) bu_97_120 rfl rfl (fun _ _ _ => rfl) g1996 rfl ?_
              refine bp_c (pc' := 123) (n := 34) bu_97_121 rfl rfl (fun _ _ _ => rfl) (by decide) (fun c2108 e2109 => ?_)
              refine bn_cvF (pc' := 126) (st := []) (args := [.int c2108]) bu_97_123 rfl rfl rfl (by decide) hP2104 rz_o88 (by decide) rfl (Nat.le_of_ble_eq_true rfl) (Nat.le_of_ble_eq_true rfl) ?_
              refine rr_67 (kc := 34) hP2104 (by omega) (by decide) (by decide) R2106 (rq_T_F hT F2107) (fun h2110 s2111 A2112 L2113 hP2114 F2115 R2116 => ?_)
              have F2117 := rq_F_t F2107 F2115
              have u2118 := R2116.1
              show bp_G E PO (NN + 1) ((97, 126, lv1991, [], 0, 0) :: gs, h2110, none)
              refine bp_goD (pc' := 12) bu_97_126 rfl ?_
              exact ih (fun h' s' A' L' hP' F' R' => bp_mono (Nat.le_succ NN) (kk h' s' A' L' hP' F' R')) _ _ _ _ _ _ _ _ _ hP2114 F2117 R2116 g1996 g1997 g1998 g1993 (by omega) (by omega) (by rw [← hx, show (4 - q.toInt).toNat = (4 - (y1994).toInt).toNat + 1 by omega, py_ifs_s ⟨by omega, by omega⟩])
          · replace k1990 : ¬ (((s 8813)).toInt ≤ 0) := k1990
            omega
        · replace k1989 : ¬ ((q).toInt ≠ (c1987).toInt) := k1989
          refine bp_ld (pc' := 34) bu_97_33 rfl rfl (fun _ _ _ => rfl) g0 rfl ?_
          refine bp_c (pc' := 35) (n := 2) bu_97_34 rfl rfl (fun _ _ _ => rfl) (by decide) (fun c2119 e2120 => ?_)
          refine bn_cvF (pc' := 38) (st := []) (args := [.int c2119]) bu_97_35 rfl rfl rfl (by decide) hP rz_o88 (by decide) rfl (Nat.le_of_ble_eq_true rfl) (Nat.le_of_ble_eq_true rfl) ?_
          refine rr_27 (kn := 2) hP (by omega) (by decide) hR (rq_T_F hT hF) (fun h2121 s2122 A2123 L2124 hP2125 F2126 R2127 => ?_)
          have F2128 := rq_F_t hF F2126
          have u2129 := R2127.1
          have u2130 := py_fl_f (σ := σ) (k := 2) (by decide)
          show bp_G E PO (NN + 1) ((97, 38, lv, [], 0, 0) :: gs, h2121, none)
          refine bp_ld (pc' := 39) bu_97_38 rfl rfl (fun _ _ _ => rfl) g0 rfl ?_
          refine bn_gi (pc' := 42) (K := 8813) bu_97_39 rfl rfl (fun _ _ _ => rfl) hP2125 rz_o88 rz_i88_13 rfl rfl ?_
          refine bp_i0 (pc' := 45) (pt := 46) bu_97_42 rfl rfl (fun k2131 => ?_) (fun k2131 => ?_)
          · replace k2131 : ((s2122 8813)).toInt ≤ 0 := k2131
            refine bp_inc (pc' := 49) bu_97_46 rfl (by decide) g3 (by decide) (by omega) (by omega) (fun lv2132 y2135 F2133 g2134 e2136 => ?_)
            have g2137 := F2133 0 (.ref (E.1 + 88)) g0 (by decide) (Or.inl rfl)
            have g2138 := F2133 1 (.int k) g1 (by decide) (Or.inl rfl)
            have g2139 := F2133 2 (.int fi) g2 (by decide) (Or.inl rfl)
            refine bp_ld (pc' := 50) bu_97_49 rfl rfl (fun _ _ _ => rfl) g2137 rfl ?_
            refine bn_cvF (pc' := 53) (st := []) (args := []) bu_97_50 rfl rfl rfl (by decide) hP2125 rz_o88 (by decide) rfl (Nat.le_of_ble_eq_true rfl) (Nat.le_of_ble_eq_true rfl) ?_
            refine rr_37 hP2125 (by decide) R2127 (rq_T_F hT F2128) (fun _ => by omega) (fun h2140 s2141 A2142 L2143 hP2144 F2145 R2146 => ?_)
            have F2147 := rq_F_t F2128 F2145
            show bp_G E PO (NN + 1) ((97, 53, lv2132, [], 0, 0) :: gs, h2140, none)
            refine bp_ld (pc' := 54) bu_97_53 rfl rfl (fun _ _ _ => rfl) g2137 rfl ?_
            refine bn_gr (pc' := 57) (t := 108) bu_97_54 rfl rfl (fun _ _ _ => rfl) hP2144 rz_o88 rz_r88_34 ?_
            refine bp_ld (pc' := 58) bu_97_57 rfl rfl (fun _ _ _ => rfl) g2137 rfl ?_
            refine bn_gi (pc' := 61) (K := 8833) bu_97_58 rfl rfl (fun _ _ _ => rfl) hP2144 rz_o88 rz_i88_33 rfl rfl ?_
            refine bp_c (pc' := 62) (n := 1) bu_97_61 rfl rfl (fun _ _ _ => rfl) (by decide) (fun c2148 e2149 => ?_)
            refine bn_iasF (pc' := 63) bu_97_62 rfl rfl (fun _ _ _ => rfl) hP2144 rz_a108 (Or.inr rfl) (fun b2152 b2153 h2150 hP2151 => ?_)
            refine bp_ld (pc' := 64) bu_97_63 rfl rfl (fun _ _ _ => rfl) g2137 rfl ?_
            refine bn_gr (pc' := 67) (t := 109) bu_97_64 rfl rfl (fun _ _ _ => rfl) hP2151 rz_o88 rz_r88_35 ?_
            refine bp_ld (pc' := 68) bu_97_67 rfl rfl (fun _ _ _ => rfl) g2137 rfl ?_
            refine bn_gi (pc' := 71) (K := 8833) bu_97_68 rfl rfl (fun _ _ _ => rfl) hP2151 rz_o88 rz_i88_33 rfl rfl ?_
            refine bp_ld (pc' := 72) bu_97_71 rfl rfl (fun _ _ _ => rfl) g2137 rfl ?_
            refine bn_gi (pc' := 75) (K := 8839) bu_97_72 rfl rfl (fun _ _ _ => rfl) hP2151 rz_o88 rz_i88_39 rfl rfl ?_
            refine bn_iasF (pc' := 76) bu_97_75 rfl rfl (fun _ _ _ => rfl) hP2151 rz_a109 (Or.inl rfl) (fun b2156 b2157 h2154 hP2155 => ?_)
            refine bp_ld (pc' := 77) bu_97_76 rfl rfl (fun _ _ _ => rfl) g2137 rfl ?_
            refine bn_cvF (pc' := 80) (st := []) (args := []) bu_97_77 rfl rfl rfl (by decide) hP2155 rz_o88 (by decide) rfl (Nat.le_of_ble_eq_true rfl) (Nat.le_of_ble_eq_true rfl) ?_
            have R2158 : rq_R K P M (py_go (py_fl 2 σ)) ns 0 0 s2141 (bh_up (bh_up A2142 108 ((s2141 8833)).toInt.toNat (mm_nar 2 c2148)) 109 ((s2141 8833)).toInt.toNat (mm_nar 0 (s2141 8839))) L2143 := rq_R_s R2146 rfl rfl rfl rfl rfl rfl rfl rfl ((bh_up_ne (by decide)).trans (bh_up_ne (by decide)))
            have F2159 : rq_F s2141 A2142 L2143 s2141 (bh_up (bh_up A2142 108 ((s2141 8833)).toInt.toNat (mm_nar 2 c2148)) 109 ((s2141 8833)).toInt.toNat (mm_nar 0 (s2141 8839))) L2143 := ⟨⟨rfl, rfl, rfl, rfl, rfl⟩, ⟨((bh_up_ne (by decide)).trans (bh_up_ne (by decide))), ((bh_up_ne (by decide)).trans (bh_up_ne (by decide))), ((bh_up_ne (by decide)).trans (bh_up_ne (by decide))), ((bh_up_ne (by decide)).trans (bh_up_ne (by decide))), ((bh_up_ne (by decide)).trans (bh_up_ne (by decide)))⟩, rfl, rfl, rfl, ((bh_up_ne (by decide)).trans (bh_up_ne (by decide))), fun c c1 c2 => ((bh_up_ne (by omega)).trans (bh_up_ne (by omega)))⟩
            have F2160 := rq_F_t F2147 F2159
            refine rr_26 hP2155 R2158 (rq_T_F hT F2160) (fun h2161 s2162 A2163 L2164 hP2165 F2166 R2167 => ?_)
            have F2168 := rq_F_t F2160 F2166
            show bp_G E PO (NN + 1) ((97, 80, lv2132, [], 0, 0) :: gs, h2161, none)
            refine bp_ld (pc' := 81) bu_97_80 rfl rfl (fun _ _ _ => rfl) g2137 rfl ?_
            refine bp_c (pc' := 83) (n := 13) bu_97_81 rfl rfl (fun _ _ _ => rfl) (by decide) (fun c2169 e2170 => ?_)
            refine bn_cvF (pc' := 86) (st := []) (args := [.int c2169]) bu_97_83 rfl rfl rfl (by decide) hP2165 rz_o88 (by decide) rfl (Nat.le_of_ble_eq_true rfl) (Nat.le_of_ble_eq_true rfl) ?_
            refine rr_67 (kc := 13) hP2165 (by omega) (by decide) (by decide) R2167 (rq_T_F hT F2168) (fun h2171 s2172 A2173 L2174 hP2175 F2176 R2177 => ?_)
            have F2178 := rq_F_t F2168 F2176
            have u2179 := R2177.1
            show bp_G E PO (NN + 1) ((97, 86, lv2132, [], 0, 0) :: gs, h2171, none)
            refine bp_ld (pc' := 87) bu_97_86 rfl rfl (fun _ _ _ => rfl) g2137 rfl ?_
            refine bn_gr (pc' := 90) (t := 110) bu_97_87 rfl rfl (fun _ _ _ => rfl) hP2175 rz_o88 rz_r88_36 ?_
            refine bp_ld (pc' := 91) bu_97_90 rfl rfl (fun _ _ _ => rfl) g2137 rfl ?_
            refine bn_gi (pc' := 94) (K := 8833) bu_97_91 rfl rfl (fun _ _ _ => rfl) hP2175 rz_o88 rz_i88_33 rfl rfl ?_
            refine bp_ld (pc' := 95) bu_97_94 rfl rfl (fun _ _ _ => rfl) g2137 rfl ?_
            refine bn_gi (pc' := 98) (K := 8839) bu_97_95 rfl rfl (fun _ _ _ => rfl) hP2175 rz_o88 rz_i88_39 rfl rfl ?_
            refine bn_iasF (pc' := 99) bu_97_98 rfl rfl (fun _ _ _ => rfl) hP2175 rz_a110 (Or.inl rfl) (fun b2182 b2183 h2180 hP2181 => ?_)
            refine bp_ld (pc' := 100) bu_97_99 rfl rfl (fun _ _ _ => rfl) g2137 rfl ?_
            refine bn_gi (pc' := 103) (K := 8813) bu_97_100 rfl rfl (fun _ _ _ => rfl) hP2181 rz_o88 rz_i88_13 rfl rfl ?_
            refine bp_i0 (pc' := 106) (pt := 110) bu_97_103 rfl rfl (fun k2184 => ?_) (fun k2184 => ?_)
            · replace k2184 : ((s2172 8813)).toInt ≠ 0 := k2184
              have R2185 : rq_R K P M (py_mu K 13 (py_x K true 0 (py_go (py_fl 2 σ)))) ns 0 0 s2172 (bh_up A2173 110 ((s2172 8833)).toInt.toNat (mm_nar 0 (s2172 8839))) L2174 := rq_R_s R2177 rfl rfl rfl rfl rfl rfl rfl rfl (bh_up_ne (by decide))
              have F2186 : rq_F s2172 A2173 L2174 s2172 (bh_up A2173 110 ((s2172 8833)).toInt.toNat (mm_nar 0 (s2172 8839))) L2174 := ⟨⟨rfl, rfl, rfl, rfl, rfl⟩, ⟨(bh_up_ne (by decide)), (bh_up_ne (by decide)), (bh_up_ne (by decide)), (bh_up_ne (by decide)), (bh_up_ne (by decide))⟩, rfl, rfl, rfl, (bh_up_ne (by decide)), fun c c1 c2 => (bh_up_ne (by omega))⟩
              have F2187 := rq_F_t F2178 F2186
              have R2188 : rq_R K P M (py_x K true 0 (py_mu K 13 (py_x K true 0 (py_go (py_fl 2 σ))))) ns 0 0 s2172 (bh_up A2173 110 ((s2172 8833)).toInt.toNat (mm_nar 0 (s2172 8839))) L2174 := by
                rw [py_x_f (by omega)]
                exact R2185
              refine bp_ld (pc' := 111) bu_97_110 rfl rfl (fun _ _ _ => rfl) g2137 rfl ?_
              refine bp_c (pc' := 113) (n := 33) bu_97_111 rfl rfl (fun _ _ _ => rfl) (by decide) (fun c2189 e2190 => ?_)
              refine bn_cvF (pc' := 116) (st := []) (args := [.int c2189]) bu_97_113 rfl rfl rfl (by decide) hP2181 rz_o88 (by decide) rfl (Nat.le_of_ble_eq_true rfl) (Nat.le_of_ble_eq_true rfl) ?_
              refine rr_67 (kc := 33) hP2181 (by omega) (by decide) (by decide) R2188 (rq_T_F hT F2187) (fun h2191 s2192 A2193 L2194 hP2195 F2196 R2197 => ?_)
              have F2198 := rq_F_t F2187 F2196
              have u2199 := R2197.1
              show bp_G E PO (NN + 1) ((97, 116, lv2132, [], 0, 0) :: gs, h2191, none)
              refine bp_ld (pc' := 117) bu_97_116 rfl rfl (fun _ _ _ => rfl) g2137 rfl ?_
              refine bn_cvF (pc' := 120) (st := []) (args := []) bu_97_117 rfl rfl rfl (by decide) hP2195 rz_o88 (by decide) rfl (Nat.le_of_ble_eq_true rfl) (Nat.le_of_ble_eq_true rfl) ?_
              refine rr_100 hP2195 R2197 (rq_T_F hT F2198) (fun h2200 s2201 A2202 L2203 hP2204 F2205 R2206 => ?_)
              have F2207 := rq_F_t F2198 F2205
              show bp_G E PO (NN + 1) ((97, 120, lv2132, [], 0, 0) :: gs, h2200, none)
              refine bp_ld (pc' := 121) bu_97_120 rfl rfl (fun _ _ _ => rfl) g2137 rfl ?_
              refine bp_c (pc' := 123) (n := 34) bu_97_121 rfl rfl (fun _ _ _ => rfl) (by decide) (fun c2208 e2209 => ?_)
              refine bn_cvF (pc' := 126) (st := []) (args := [.int c2208]) bu_97_123 rfl rfl rfl (by decide) hP2204 rz_o88 (by decide) rfl (Nat.le_of_ble_eq_true rfl) (Nat.le_of_ble_eq_true rfl) ?_
              refine rr_67 (kc := 34) hP2204 (by omega) (by decide) (by decide) R2206 (rq_T_F hT F2207) (fun h2210 s2211 A2212 L2213 hP2214 F2215 R2216 => ?_)
              have F2217 := rq_F_t F2207 F2215
              have u2218 := R2216.1
              show bp_G E PO (NN + 1) ((97, 126, lv2132, [], 0, 0) :: gs, h2210, none)
              refine bp_goD (pc' := 12) bu_97_126 rfl ?_
              exfalso
              omega
            · replace k2184 : ¬ (((s2172 8813)).toInt ≠ 0) := k2184
              refine bp_ld (pc' := 107) bu_97_106 rfl rfl (fun _ _ _ => rfl) g2137 rfl ?_
              refine bn_cvF (pc' := 110) (st := []) (args := []) bu_97_107 rfl rfl rfl (by decide) hP2181 rz_o88 (by decide) rfl (Nat.le_of_ble_eq_true rfl) (Nat.le_of_ble_eq_true rfl) ?_
              have R2219 : rq_R K P M (py_mu K 13 (py_x K true 0 (py_go (py_fl 2 σ)))) ns 0 0 s2172 (bh_up A2173 110 ((s2172 8833)).toInt.toNat (mm_nar 0 (s2172 8839))) L2174 := rq_R_s R2177 rfl rfl rfl rfl rfl rfl rfl rfl (bh_up_ne (by decide))
              have F2220 : rq_F s2172 A2173 L2174 s2172 (bh_up A2173 110 ((s2172 8833)).toInt.toNat (mm_nar 0 (s2172 8839))) L2174 := ⟨⟨rfl, rfl, rfl, rfl, rfl⟩, ⟨(bh_up_ne (by decide)), (bh_up_ne (by decide)), (bh_up_ne (by decide)), (bh_up_ne (by decide)), (bh_up_ne (by decide))⟩, rfl, rfl, rfl, (bh_up_ne (by decide)), fun c c1 c2 => (bh_up_ne (by omega))⟩
              have F2221 := rq_F_t F2178 F2220
              refine rr_26 hP2181 R2219 (rq_T_F hT F2221) (fun h2222 s2223 A2224 L2225 hP2226 F2227 R2228 => ?_)
              have F2229 := rq_F_t F2221 F2227
              show bp_G E PO (NN + 1) ((97, 110, lv2132, [], 0, 0) :: gs, h2222, none)
              refine bp_ld (pc' := 111) bu_97_110 rfl rfl (fun _ _ _ => rfl) g2137 rfl ?_
              refine bp_c (pc' := 113) (n := 33) bu_97_111 rfl rfl (fun _ _ _ => rfl) (by decide) (fun c2230 e2231 => ?_)
              refine bn_cvF (pc' := 116) (st := []) (args := [.int c2230]) bu_97_113 rfl rfl rfl (by decide) hP2226 rz_o88 (by decide) rfl (Nat.le_of_ble_eq_true rfl) (Nat.le_of_ble_eq_true rfl) ?_
              refine rr_67 (kc := 33) hP2226 (by omega) (by decide) (by decide) R2228 (rq_T_F hT F2229) (fun h2232 s2233 A2234 L2235 hP2236 F2237 R2238 => ?_)
              have F2239 := rq_F_t F2229 F2237
              have u2240 := R2238.1
              show bp_G E PO (NN + 1) ((97, 116, lv2132, [], 0, 0) :: gs, h2232, none)
              refine bp_ld (pc' := 117) bu_97_116 rfl rfl (fun _ _ _ => rfl) g2137 rfl ?_
              refine bn_cvF (pc' := 120) (st := []) (args := []) bu_97_117 rfl rfl rfl (by decide) hP2236 rz_o88 (by decide) rfl (Nat.le_of_ble_eq_true rfl) (Nat.le_of_ble_eq_true rfl) ?_
              refine rr_100 hP2236 R2238 (rq_T_F hT F2239) (fun h2241 s2242 A2243 L2244 hP2245 F2246 R2247 => ?_)
              have F2248 := rq_F_t F2239 F2246
              show bp_G E PO (NN + 1) ((97, 120, lv2132, [], 0, 0) :: gs, h2241, none)
              refine bp_ld (pc' := 121) bu_97_120 rfl rfl (fun _ _ _ => rfl) g2137 rfl ?_
              refine bp_c (pc' := 123) (n := 34) bu_97_121 rfl rfl (fun _ _ _ => rfl) (by decide) (fun c2249 e2250 => ?_)
              refine bn_cvF (pc' := 126) (st := []) (args := [.int c2249]) bu_97_123 rfl rfl rfl (by decide) hP2245 rz_o88 (by decide) rfl (Nat.le_of_ble_eq_true rfl) (Nat.le_of_ble_eq_true rfl) ?_
              refine rr_67 (kc := 34) hP2245 (by omega) (by decide) (by decide) R2247 (rq_T_F hT F2248) (fun h2251 s2252 A2253 L2254 hP2255 F2256 R2257 => ?_)
              have F2258 := rq_F_t F2248 F2256
              have u2259 := R2257.1
              show bp_G E PO (NN + 1) ((97, 126, lv2132, [], 0, 0) :: gs, h2251, none)
              refine bp_goD (pc' := 12) bu_97_126 rfl ?_
              exfalso
              omega
          · replace k2131 : ¬ (((s2122 8813)).toInt ≤ 0) := k2131
            refine bp_rv bu_97_45 ?_
            have e4 : (4 - q.toInt).toNat = 0 := by omega
            have ee : py_ifs K 0 σ = py_fl 2 σ := if_pos (by omega)
            rw [e4, ee, py_x_f (py_fl_f (by decide)), py_mu_f (py_fl_f (by decide))] at hx
            exact kk _ _ _ _ hP2125 F2128 (by rw [← hx]; exact rq_R_0 (py_fl_f (by decide)) R2127)
theorem rr_97 {k : Int32} (hP : bm_P rz_T E h0 h s A L) (hR : rq_R K P M σ ns 0 0 s A L) (hT : rq_T K V P M A) (kk : ∀ (h' : mm_H) (s' : Nat → Int32) (A' : Nat → Nat → Int32) (L' : Nat → Nat → Int64), bm_P rz_T E h0 h' s' A' L' → rq_F s A L s' A' L' → rq_R K P M (py_mu K 4 (py_x K true 0 (py_ifs K 4 (py_mu K 5 σ)))) ns 0 0 s' A' L' → bp_G E PO NN (mm_back (none) gs h')) : bp_G E PO NN ((97, 0, [(0, .ref (E.1 + 88)), (1, .int k)], [], 0, 0) :: gs, h, none) := by
  refine bp_ld (pc' := 1) bu_97_0 rfl rfl (fun _ _ _ => rfl) rfl rfl ?_
  refine bp_c (pc' := 2) (n := 5) bu_97_1 rfl rfl (fun _ _ _ => rfl) (by decide) (fun c2260 e2261 => ?_)
  refine bn_cvF (pc' := 5) (st := []) (args := [.int c2260]) bu_97_2 rfl rfl rfl (by decide) hP rz_o88 (by decide) rfl (Nat.le_of_ble_eq_true rfl) (Nat.le_of_ble_eq_true rfl) ?_
  refine rr_67 (kc := 5) hP (by omega) (by decide) (by decide) hR hT (fun h2262 s2263 A2264 L2265 hP2266 F2267 R2268 => ?_)
  have u2269 := R2268.1
  show bp_G E PO NN ((97, 5, _, [], 0, 0) :: gs, h2262, none)
  refine bp_ld (pc' := 6) bu_97_5 rfl rfl (fun _ _ _ => rfl) rfl rfl ?_
  refine bn_gi (pc' := 9) (K := 8833) bu_97_6 rfl rfl (fun _ _ _ => rfl) hP2266 rz_o88 rz_i88_33 rfl rfl ?_
  refine bp_st (pc' := 10) bu_97_9 rfl rfl (fun _ _ _ => rfl) rfl (by decide) (by decide) (fun lv2270 F2271 g2272 => ?_)
  have g2273 := F2271 0 (.ref (E.1 + 88)) rfl (by decide) (Or.inl rfl)
  have g2274 := F2271 1 (.int k) rfl (by decide) (Or.inl rfl)
  refine bp_c (pc' := 11) (n := 0) bu_97_10 rfl rfl (fun _ _ _ => rfl) (by decide) (fun c2275 e2276 => ?_)
  refine bp_st (pc' := 12) bu_97_11 rfl rfl (fun _ _ _ => rfl) rfl (by decide) (by decide) (fun lv2277 F2278 g2279 => ?_)
  have g2280 := F2278 0 (.ref (E.1 + 88)) g2273 (by decide) (Or.inl rfl)
  have g2281 := F2278 1 (.int k) g2274 (by decide) (Or.inl rfl)
  have g2282 := F2278 2 (.int (s2263 8833)) g2272 (by decide) (Or.inl rfl)
  exact rr_97l hT NN kk _ _ _ _ _ _ _ _ _ hP2266 F2267 R2268 g2280 g2281 g2282 g2279 (by omega) (by omega) (by rw [show (4 - (c2275).toInt).toNat = 4 by omega])
end RQB
