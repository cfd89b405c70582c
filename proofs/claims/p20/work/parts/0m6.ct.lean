/-! BY HAND: the class's Tokens (wip/p4/mkc3.py) -/
theorem bu_210_0 : mm_at mt_P 210 0 = some ((0, 1, .iload_n 0, 0, 0, 0, 0), 1, 1, 0, 7, 2, 0, 0) := rfl
theorem bu_210_1 : mm_at mt_P 210 1 = some ((1, 2, .bipush 32, 0, 0, 0, 0), 1, 1, 0, 7, 2, 0, 0) := rfl
theorem bu_210_3 : mm_at mt_P 210 3 = some ((3, 3, .if_icmp .eq 21, 0, 0, 0, 0), 1, 1, 0, 7, 2, 0, 0) := rfl
theorem bu_210_6 : mm_at mt_P 210 6 = some ((6, 1, .iload_n 0, 0, 0, 0, 0), 1, 1, 0, 7, 2, 0, 0) := rfl
theorem bu_210_7 : mm_at mt_P 210 7 = some ((7, 2, .bipush 9, 0, 0, 0, 0), 1, 1, 0, 7, 2, 0, 0) := rfl
theorem bu_210_9 : mm_at mt_P 210 9 = some ((9, 3, .if_icmp .eq 15, 0, 0, 0, 0), 1, 1, 0, 7, 2, 0, 0) := rfl
theorem bu_210_12 : mm_at mt_P 210 12 = some ((12, 1, .iload_n 0, 0, 0, 0, 0), 1, 1, 0, 7, 2, 0, 0) := rfl
theorem bu_210_13 : mm_at mt_P 210 13 = some ((13, 2, .bipush 10, 0, 0, 0, 0), 1, 1, 0, 7, 2, 0, 0) := rfl
theorem bu_210_15 : mm_at mt_P 210 15 = some ((15, 3, .if_icmp .eq 9, 0, 0, 0, 0), 1, 1, 0, 7, 2, 0, 0) := rfl
theorem bu_210_18 : mm_at mt_P 210 18 = some ((18, 1, .iload_n 0, 0, 0, 0, 0), 1, 1, 0, 7, 2, 0, 0) := rfl
theorem bu_210_19 : mm_at mt_P 210 19 = some ((19, 2, .bipush 13, 0, 0, 0, 0), 1, 1, 0, 7, 2, 0, 0) := rfl
theorem bu_210_21 : mm_at mt_P 210 21 = some ((21, 3, .if_icmp .ne 7, 0, 0, 0, 0), 1, 1, 0, 7, 2, 0, 0) := rfl
theorem bu_210_24 : mm_at mt_P 210 24 = some ((24, 1, .iconst 1, 0, 0, 0, 0), 1, 1, 0, 7, 2, 0, 0) := rfl
theorem bu_210_25 : mm_at mt_P 210 25 = some ((25, 3, .goto 4, 0, 0, 0, 0), 1, 1, 0, 7, 2, 0, 0) := rfl
theorem bu_210_28 : mm_at mt_P 210 28 = some ((28, 1, .iconst 0, 0, 0, 0, 0), 1, 1, 0, 7, 2, 0, 0) := rfl
theorem bu_210_29 : mm_at mt_P 210 29 = some ((29, 1, .ireturn, 0, 0, 0, 0), 1, 1, 0, 7, 2, 0, 0) := rfl
theorem bu_211_0 : mm_at mt_P 211 0 = some ((0, 1, .iload_n 0, 0, 0, 0, 0), 1, 1, 0, 7, 2, 0, 0) := rfl
theorem bu_211_1 : mm_at mt_P 211 1 = some ((1, 2, .bipush 48, 0, 0, 0, 0), 1, 1, 0, 7, 2, 0, 0) := rfl
theorem bu_211_3 : mm_at mt_P 211 3 = some ((3, 3, .if_icmp .lt 13, 0, 0, 0, 0), 1, 1, 0, 7, 2, 0, 0) := rfl
theorem bu_211_6 : mm_at mt_P 211 6 = some ((6, 1, .iload_n 0, 0, 0, 0, 0), 1, 1, 0, 7, 2, 0, 0) := rfl
theorem bu_211_7 : mm_at mt_P 211 7 = some ((7, 2, .bipush 57, 0, 0, 0, 0), 1, 1, 0, 7, 2, 0, 0) := rfl
theorem bu_211_9 : mm_at mt_P 211 9 = some ((9, 3, .if_icmp .gt 7, 0, 0, 0, 0), 1, 1, 0, 7, 2, 0, 0) := rfl
theorem bu_211_12 : mm_at mt_P 211 12 = some ((12, 1, .iconst 1, 0, 0, 0, 0), 1, 1, 0, 7, 2, 0, 0) := rfl
theorem bu_211_13 : mm_at mt_P 211 13 = some ((13, 3, .goto 4, 0, 0, 0, 0), 1, 1, 0, 7, 2, 0, 0) := rfl
theorem bu_211_16 : mm_at mt_P 211 16 = some ((16, 1, .iconst 0, 0, 0, 0, 0), 1, 1, 0, 7, 2, 0, 0) := rfl
theorem bu_211_17 : mm_at mt_P 211 17 = some ((17, 1, .ireturn, 0, 0, 0, 0), 1, 1, 0, 7, 2, 0, 0) := rfl
theorem bu_212_0 : mm_at mt_P 212 0 = some ((0, 1, .iload_n 0, 0, 0, 0, 0), 1, 1, 0, 7, 2, 0, 0) := rfl
theorem bu_212_1 : mm_at mt_P 212 1 = some ((1, 2, .bipush 97, 0, 0, 0, 0), 1, 1, 0, 7, 2, 0, 0) := rfl
theorem bu_212_3 : mm_at mt_P 212 3 = some ((3, 3, .if_icmp .lt 13, 0, 0, 0, 0), 1, 1, 0, 7, 2, 0, 0) := rfl
theorem bu_212_6 : mm_at mt_P 212 6 = some ((6, 1, .iload_n 0, 0, 0, 0, 0), 1, 1, 0, 7, 2, 0, 0) := rfl
theorem bu_212_7 : mm_at mt_P 212 7 = some ((7, 2, .bipush 122, 0, 0, 0, 0), 1, 1, 0, 7, 2, 0, 0) := rfl
theorem bu_212_9 : mm_at mt_P 212 9 = some ((9, 3, .if_icmp .gt 7, 0, 0, 0, 0), 1, 1, 0, 7, 2, 0, 0) := rfl
theorem bu_212_12 : mm_at mt_P 212 12 = some ((12, 1, .iconst 1, 0, 0, 0, 0), 1, 1, 0, 7, 2, 0, 0) := rfl
theorem bu_212_13 : mm_at mt_P 212 13 = some ((13, 3, .goto 4, 0, 0, 0, 0), 1, 1, 0, 7, 2, 0, 0) := rfl
theorem bu_212_16 : mm_at mt_P 212 16 = some ((16, 1, .iconst 0, 0, 0, 0, 0), 1, 1, 0, 7, 2, 0, 0) := rfl
theorem bu_212_17 : mm_at mt_P 212 17 = some ((17, 1, .ireturn, 0, 0, 0, 0), 1, 1, 0, 7, 2, 0, 0) := rfl
theorem bu_214_0 : mm_at mt_P 214 0 = some ((0, 1, .aload_n 0, 0, 0, 0, 0), 5, 3, 1, 7, 0, 0, 0) := rfl
theorem bu_214_1 : mm_at mt_P 214 1 = some ((1, 3, .getfield 39, 7, 3, 0, 254), 5, 3, 1, 7, 0, 0, 0) := rfl
theorem bu_214_4 : mm_at mt_P 214 4 = some ((4, 3, .sipush 400, 0, 0, 0, 0), 5, 3, 1, 7, 0, 0, 0) := rfl
theorem bu_214_7 : mm_at mt_P 214 7 = some ((7, 3, .if_icmp .gt 44, 0, 0, 0, 0), 5, 3, 1, 7, 0, 0, 0) := rfl
theorem bu_214_10 : mm_at mt_P 214 10 = some ((10, 1, .aload_n 0, 0, 0, 0, 0), 5, 3, 1, 7, 0, 0, 0) := rfl
theorem bu_214_11 : mm_at mt_P 214 11 = some ((11, 3, .getfield 9, 7, 0, 0, 248), 5, 3, 1, 7, 0, 0, 0) := rfl
theorem bu_214_14 : mm_at mt_P 214 14 = some ((14, 1, .aload_n 0, 0, 0, 0, 0), 5, 3, 1, 7, 0, 0, 0) := rfl
theorem bu_214_15 : mm_at mt_P 214 15 = some ((15, 3, .getfield 39, 7, 3, 0, 254), 5, 3, 1, 7, 0, 0, 0) := rfl
theorem bu_214_18 : mm_at mt_P 214 18 = some ((18, 1, .iload_n 1, 0, 0, 0, 0), 5, 3, 1, 7, 0, 0, 0) := rfl
theorem bu_214_19 : mm_at mt_P 214 19 = some ((19, 1, .iastore, 0, 0, 0, 0), 5, 3, 1, 7, 0, 0, 0) := rfl
theorem bu_214_20 : mm_at mt_P 214 20 = some ((20, 1, .aload_n 0, 0, 0, 0, 0), 5, 3, 1, 7, 0, 0, 0) := rfl
theorem bu_214_21 : mm_at mt_P 214 21 = some ((21, 3, .getfield 18, 7, 2, 0, 252), 5, 3, 1, 7, 0, 0, 0) := rfl
theorem bu_214_24 : mm_at mt_P 214 24 = some ((24, 1, .aload_n 0, 0, 0, 0, 0), 5, 3, 1, 7, 0, 0, 0) := rfl
theorem bu_214_25 : mm_at mt_P 214 25 = some ((25, 3, .getfield 39, 7, 3, 0, 254), 5, 3, 1, 7, 0, 0, 0) := rfl
theorem bu_214_28 : mm_at mt_P 214 28 = some ((28, 1, .lload_n 2, 0, 0, 0, 0), 5, 3, 1, 7, 0, 0, 0) := rfl
theorem bu_214_29 : mm_at mt_P 214 29 = some ((29, 1, .lastore, 0, 0, 0, 0), 5, 3, 1, 7, 0, 0, 0) := rfl
theorem bu_214_30 : mm_at mt_P 214 30 = some ((30, 1, .aload_n 0, 0, 0, 0, 0), 5, 3, 1, 7, 0, 0, 0) := rfl
theorem bu_214_31 : mm_at mt_P 214 31 = some ((31, 3, .getfield 15, 7, 1, 0, 250), 5, 3, 1, 7, 0, 0, 0) := rfl
theorem bu_214_34 : mm_at mt_P 214 34 = some ((34, 1, .aload_n 0, 0, 0, 0, 0), 5, 3, 1, 7, 0, 0, 0) := rfl
theorem bu_214_35 : mm_at mt_P 214 35 = some ((35, 3, .getfield 39, 7, 3, 0, 254), 5, 3, 1, 7, 0, 0, 0) := rfl
theorem bu_214_38 : mm_at mt_P 214 38 = some ((38, 2, .iload 4, 0, 0, 0, 0), 5, 3, 1, 7, 0, 0, 0) := rfl
theorem bu_214_40 : mm_at mt_P 214 40 = some ((40, 1, .iastore, 0, 0, 0, 0), 5, 3, 1, 7, 0, 0, 0) := rfl
theorem bu_214_41 : mm_at mt_P 214 41 = some ((41, 1, .aload_n 0, 0, 0, 0, 0), 5, 3, 1, 7, 0, 0, 0) := rfl
theorem bu_214_42 : mm_at mt_P 214 42 = some ((42, 1, .dup, 0, 0, 0, 0), 5, 3, 1, 7, 0, 0, 0) := rfl
theorem bu_214_43 : mm_at mt_P 214 43 = some ((43, 3, .getfield 39, 7, 3, 0, 254), 5, 3, 1, 7, 0, 0, 0) := rfl
theorem bu_214_46 : mm_at mt_P 214 46 = some ((46, 1, .iconst 1, 0, 0, 0, 0), 5, 3, 1, 7, 0, 0, 0) := rfl
theorem bu_214_47 : mm_at mt_P 214 47 = some ((47, 1, .iadd, 0, 0, 0, 0), 5, 3, 1, 7, 0, 0, 0) := rfl
theorem bu_214_48 : mm_at mt_P 214 48 = some ((48, 3, .putfield 39, 7, 3, 0, 254), 5, 3, 1, 7, 0, 0, 0) := rfl
theorem bu_214_51 : mm_at mt_P 214 51 = some ((51, 1, .return_, 0, 0, 0, 0), 5, 3, 1, 7, 0, 0, 0) := rfl
section CR
variable {K V P : Nat → Int} {σ : py_S} {N : Nat} {E : mm_E} {PO : mm_C → Prop} {NN : Nat} {h0 h : mm_H} {s : Nat → Int32} {A : Nat → Nat → Int32} {L : Nat → Nat → Int64} {gs : List mm_F}
theorem ct_210 {c : Int32} (kk : ∀ r : Int32, ((r.toInt = 1 ∧ (c.toInt = 9 ∨ c.toInt = 10 ∨ c.toInt = 13 ∨ c.toInt = 32)) ∨ (r.toInt = 0 ∧ ¬ (c.toInt = 9 ∨ c.toInt = 10 ∨ c.toInt = 13 ∨ c.toInt = 32))) → bp_G E PO NN (mm_back (some (.int r)) gs h)) : bp_G E PO NN ((210, 0, [(0, .int c)], [], 0, 0) :: gs, h, none) := by
  refine bp_ld (pc' := 1) bu_210_0 rfl rfl (fun _ _ _ => rfl) rfl rfl ?_
  refine bp_c (pc' := 3) (n := 32) bu_210_1 rfl rfl (fun _ _ _ => rfl) (by decide) (fun c948 e949 => ?_)
  refine bp_ic (pc' := 6) (pt := 24) bu_210_3 rfl rfl (fun k950 => ?_) (fun k950 => ?_)
  · replace k950 : (c).toInt = (c948).toInt := k950
    refine bp_c (pc' := 25) (n := 1) bu_210_24 rfl rfl (fun _ _ _ => rfl) (by decide) (fun c951 e952 => ?_)
    refine bp_go (pc' := 29) bu_210_25 rfl ?_
    refine bp_rb bu_210_29 (by omega) ?_
    exact kk _ (by omega)
  · replace k950 : ¬ ((c).toInt = (c948).toInt) := k950
    refine bp_ld (pc' := 7) bu_210_6 rfl rfl (fun _ _ _ => rfl) rfl rfl ?_
    refine bp_c (pc' := 9) (n := 9) bu_210_7 rfl rfl (fun _ _ _ => rfl) (by decide) (fun c953 e954 => ?_)
    refine bp_ic (pc' := 12) (pt := 24) bu_210_9 rfl rfl (fun k955 => ?_) (fun k955 => ?_)
    · replace k955 : (c).toInt = (c953).toInt := k955
      refine bp_c (pc' := 25) (n := 1) bu_210_24 rfl rfl (fun _ _ _ => rfl) (by decide) (fun c956 e957 => ?_)
      refine bp_go (pc' := 29) bu_210_25 rfl ?_
      refine bp_rb bu_210_29 (by omega) ?_
      exact kk _ (by omega)
    · replace k955 : ¬ ((c).toInt = (c953).toInt) := k955
      refine bp_ld (pc' := 13) bu_210_12 rfl rfl (fun _ _ _ => rfl) rfl rfl ?_
      refine bp_c (pc' := 15) (n := 10) bu_210_13 rfl rfl (fun _ _ _ => rfl) (by decide) (fun c958 e959 => ?_)
      refine bp_ic (pc' := 18) (pt := 24) bu_210_15 rfl rfl (fun k960 => ?_) (fun k960 => ?_)
      · replace k960 : (c).toInt = (c958).toInt := k960
        refine bp_c (pc' := 25) (n := 1) bu_210_24 rfl rfl (fun _ _ _ => rfl) (by decide) (fun c961 e962 => ?_)
        refine bp_go (pc' := 29) bu_210_25 rfl ?_
        refine bp_rb bu_210_29 (by omega) ?_
        exact kk _ (by omega)
      · replace k960 : ¬ ((c).toInt = (c958).toInt) := k960
        refine bp_ld (pc' := 19) bu_210_18 rfl rfl (fun _ _ _ => rfl) rfl rfl ?_
        refine bp_c (pc' := 21) (n := 13) bu_210_19 rfl rfl (fun _ _ _ => rfl) (by decide) (fun c963 e964 => ?_)
        refine bp_ic (pc' := 24) (pt := 28) bu_210_21 rfl rfl (fun k965 => ?_) (fun k965 => ?_)
        · replace k965 : (c).toInt ≠ (c963).toInt := k965
          refine bp_c (pc' := 29) (n := 0) bu_210_28 rfl rfl (fun _ _ _ => rfl) (by decide) (fun c966 e967 => ?_)
          refine bp_rb bu_210_29 (by omega) ?_
          exact kk _ (by omega)
        · replace k965 : ¬ ((c).toInt ≠ (c963).toInt) := k965
          refine bp_c (pc' := 25) (n := 1) bu_210_24 rfl rfl (fun _ _ _ => rfl) (by decide) (fun c968 e969 => ?_)
          refine bp_go (pc' := 29) bu_210_25 rfl ?_
          refine bp_rb bu_210_29 (by omega) ?_
          exact kk _ (by omega)
theorem ct_212 {c : Int32} (kk : ∀ r : Int32, ((r.toInt = 1 ∧ (97 ≤ c.toInt ∧ c.toInt ≤ 122)) ∨ (r.toInt = 0 ∧ ¬ (97 ≤ c.toInt ∧ c.toInt ≤ 122))) → bp_G E PO NN (mm_back (some (.int r)) gs h)) : bp_G E PO NN ((212, 0, [(0, .int c)], [], 0, 0) :: gs, h, none) := by
  refine bp_ld (pc' := 1) bu_212_0 rfl rfl (fun _ _ _ => rfl) rfl rfl ?_
  refine bp_c (pc' := 3) (n := 97) bu_212_1 rfl rfl (fun _ _ _ => rfl) (by decide) (fun c970 e971 => ?_)
  refine bp_ic (pc' := 6) (pt := 16) bu_212_3 rfl rfl (fun k972 => ?_) (fun k972 => ?_)
  · replace k972 : (c).toInt < (c970).toInt := k972
    refine bp_c (pc' := 17) (n := 0) bu_212_16 rfl rfl (fun _ _ _ => rfl) (by decide) (fun c973 e974 => ?_)
    refine bp_rb bu_212_17 (by omega) ?_
    exact kk _ (by omega)
  · replace k972 : ¬ ((c).toInt < (c970).toInt) := k972
    refine bp_ld (pc' := 7) bu_212_6 rfl rfl (fun _ _ _ => rfl) rfl rfl ?_
    refine bp_c (pc' := 9) (n := 122) bu_212_7 rfl rfl (fun _ _ _ => rfl) (by decide) (fun c975 e976 => ?_)
    refine bp_ic (pc' := 12) (pt := 16) bu_212_9 rfl rfl (fun k977 => ?_) (fun k977 => ?_)
    · replace k977 : (c975).toInt < (c).toInt := k977
      refine bp_c (pc' := 17) (n := 0) bu_212_16 rfl rfl (fun _ _ _ => rfl) (by decide) (fun c978 e979 => ?_)
      refine bp_rb bu_212_17 (by omega) ?_
      exact kk _ (by omega)
    · replace k977 : ¬ ((c975).toInt < (c).toInt) := k977
      refine bp_c (pc' := 13) (n := 1) bu_212_12 rfl rfl (fun _ _ _ => rfl) (by decide) (fun c980 e981 => ?_)
      refine bp_go (pc' := 17) bu_212_13 rfl ?_
      refine bp_rb bu_212_17 (by omega) ?_
      exact kk _ (by omega)
theorem ct_211 {c : Int32} (kk : ∀ r : Int32, ((r.toInt = 1 ∧ (48 ≤ c.toInt ∧ c.toInt ≤ 57)) ∨ (r.toInt = 0 ∧ ¬ (48 ≤ c.toInt ∧ c.toInt ≤ 57))) → bp_G E PO NN (mm_back (some (.int r)) gs h)) : bp_G E PO NN ((211, 0, [(0, .int c)], [], 0, 0) :: gs, h, none) := by
  refine bp_ld (pc' := 1) bu_211_0 rfl rfl (fun _ _ _ => rfl) rfl rfl ?_
  refine bp_c (pc' := 3) (n := 48) bu_211_1 rfl rfl (fun _ _ _ => rfl) (by decide) (fun c982 e983 => ?_)
  refine bp_ic (pc' := 6) (pt := 16) bu_211_3 rfl rfl (fun k984 => ?_) (fun k984 => ?_)
  · replace k984 : (c).toInt < (c982).toInt := k984
    refine bp_c (pc' := 17) (n := 0) bu_211_16 rfl rfl (fun _ _ _ => rfl) (by decide) (fun c985 e986 => ?_)
    refine bp_rb bu_211_17 (by omega) ?_
    exact kk _ (by omega)
  · replace k984 : ¬ ((c).toInt < (c982).toInt) := k984
    refine bp_ld (pc' := 7) bu_211_6 rfl rfl (fun _ _ _ => rfl) rfl rfl ?_
    refine bp_c (pc' := 9) (n := 57) bu_211_7 rfl rfl (fun _ _ _ => rfl) (by decide) (fun c987 e988 => ?_)
    refine bp_ic (pc' := 12) (pt := 16) bu_211_9 rfl rfl (fun k989 => ?_) (fun k989 => ?_)
    · replace k989 : (c987).toInt < (c).toInt := k989
      refine bp_c (pc' := 17) (n := 0) bu_211_16 rfl rfl (fun _ _ _ => rfl) (by decide) (fun c990 e991 => ?_)
      refine bp_rb bu_211_17 (by omega) ?_
      exact kk _ (by omega)
    · replace k989 : ¬ ((c987).toInt < (c).toInt) := k989
      refine bp_c (pc' := 13) (n := 1) bu_211_12 rfl rfl (fun _ _ _ => rfl) (by decide) (fun c992 e993 => ?_)
      refine bp_go (pc' := 17) bu_211_13 rfl ?_
      refine bp_rb bu_211_17 (by omega) ?_
      exact kk _ (by omega)
theorem ct_214 {k p : Int32} {v : Int64} (hP : bm_P bq_T E h0 h s A L) (b0 : 0 ≤ (s 2103).toInt) (b1 : (s 2103).toInt ≤ 400) (kk : ∀ (h' : mm_H) (s' : Nat → Int32), bm_P bq_T E h0 h' s' (bh_up (bh_up A 22 (s 2103).toInt.toNat k) 23 (s 2103).toInt.toNat p) (bh_upL L 24 (s 2103).toInt.toNat v) → (s' 2103).toInt = (s 2103).toInt + 1 → (∀ j, j ≠ 2103 → s' j = s j) → bp_G E PO NN (mm_back none gs h')) : bp_G E PO NN ((214, 0, [(0, .ref (E.1 + 21)), (1, .int k), (2, .long v), (4, .int p)], [], 0, 0) :: gs, h, none) := by
  refine bp_ld (pc' := 1) bu_214_0 rfl rfl (fun _ _ _ => rfl) rfl rfl ?_
  refine bn_gi (pc' := 4) (K := 2103) bu_214_1 rfl rfl (fun _ _ _ => rfl) hP bq_o21 bq_i21_3 rfl rfl ?_
  refine bp_c (pc' := 7) (n := 400) bu_214_4 rfl rfl (fun _ _ _ => rfl) (by decide) (fun c994 e995 => ?_)
  refine bp_ic (pc' := 10) (pt := 51) bu_214_7 rfl rfl (fun k996 => ?_) (fun k996 => ?_)
  · replace k996 : (c994).toInt < ((s 2103)).toInt := k996
    refine bp_rv bu_214_51 ?_
    exfalso
    omega
  · replace k996 : ¬ ((c994).toInt < ((s 2103)).toInt) := k996
    refine bp_ld (pc' := 11) bu_214_10 rfl rfl (fun _ _ _ => rfl) rfl rfl ?_
    refine bn_gr (pc' := 14) (t := 22) bu_214_11 rfl rfl (fun _ _ _ => rfl) hP bq_o21 bq_r21_0 ?_
    refine bp_ld (pc' := 15) bu_214_14 rfl rfl (fun _ _ _ => rfl) rfl rfl ?_
    refine bn_gi (pc' := 18) (K := 2103) bu_214_15 rfl rfl (fun _ _ _ => rfl) hP bq_o21 bq_i21_3 rfl rfl ?_
    refine bp_ld (pc' := 19) bu_214_18 rfl rfl (fun _ _ _ => rfl) rfl rfl ?_
    refine bn_ias (pc' := 20) bu_214_19 rfl rfl (fun _ _ _ => rfl) hP bq_a22 (Or.inl rfl) (by omega) (by omega) (fun h997 hP998 => ?_)
    refine bp_ld (pc' := 21) bu_214_20 rfl rfl (fun _ _ _ => rfl) rfl rfl ?_
    refine bn_gr (pc' := 24) (t := 24) bu_214_21 rfl rfl (fun _ _ _ => rfl) hP998 bq_o21 bq_r21_2 ?_
    refine bp_ld (pc' := 25) bu_214_24 rfl rfl (fun _ _ _ => rfl) rfl rfl ?_
    refine bn_gi (pc' := 28) (K := 2103) bu_214_25 rfl rfl (fun _ _ _ => rfl) hP998 bq_o21 bq_i21_3 rfl rfl ?_
    refine bp_ld (pc' := 29) bu_214_28 rfl rfl (fun _ _ _ => rfl) rfl rfl ?_
    refine bn_las (pc' := 30) bu_214_29 rfl rfl (fun _ _ _ => rfl) hP998 bq_l24 (by omega) (by omega) (fun h999 hP1000 => ?_)
    refine bp_ld (pc' := 31) bu_214_30 rfl rfl (fun _ _ _ => rfl) rfl rfl ?_
    refine bn_gr (pc' := 34) (t := 23) bu_214_31 rfl rfl (fun _ _ _ => rfl) hP1000 bq_o21 bq_r21_1 ?_
    refine bp_ld (pc' := 35) bu_214_34 rfl rfl (fun _ _ _ => rfl) rfl rfl ?_
    refine bn_gi (pc' := 38) (K := 2103) bu_214_35 rfl rfl (fun _ _ _ => rfl) hP1000 bq_o21 bq_i21_3 rfl rfl ?_
    refine bp_ld (pc' := 40) bu_214_38 rfl rfl (fun _ _ _ => rfl) rfl rfl ?_
    refine bn_ias (pc' := 41) bu_214_40 rfl rfl (fun _ _ _ => rfl) hP1000 bq_a23 (Or.inl rfl) (by omega) (by omega) (fun h1001 hP1002 => ?_)
    refine bp_ld (pc' := 42) bu_214_41 rfl rfl (fun _ _ _ => rfl) rfl rfl ?_
    refine bp_dup (pc' := 43) bu_214_42 rfl rfl ?_
    refine bn_gi (pc' := 46) (K := 2103) bu_214_43 rfl rfl (fun _ _ _ => rfl) hP1002 bq_o21 bq_i21_3 rfl rfl ?_
    refine bp_c (pc' := 47) (n := 1) bu_214_46 rfl rfl (fun _ _ _ => rfl) (by decide) (fun c1003 e1004 => ?_)
    refine bp_add (pc' := 48) bu_214_47 rfl (by omega) (by omega) (fun v1005 e1006 => ?_)
    refine bn_pf (pc' := 51) (K := 2103) bu_214_48 rfl rfl (fun _ _ _ => rfl) hP1002 bq_o21 bq_i21_3 rfl rfl (fun h1007 s1008 hP1009 e1010 f1011 => ?_)
    refine bp_rv bu_214_51 ?_
    have z2103 := congrArg Int32.toInt e1010
    exact kk _ _ hP1009 (by omega) (fun j u => (f1011 j (by omega)))
end CR
