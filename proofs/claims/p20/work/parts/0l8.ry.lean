/-! PARTIAL: the reference reads, exact, 2 (wip/p5/mkr8.py) -/
theorem bp_nar1 (x : Int32) : (mm_nar 1 x).toInt % 256 = x.toInt % 256 := by
  have e : mm_nar 1 x = x.toInt8.toInt32 := rfl
  rw [e, Int8.toInt_toInt32, Int32.toInt_toInt8]
  rw [Int.bmod_def]
  split <;> omega
theorem px_c_g {X Y : Nat → Int32} {n : Nat} (h : ∀ j, j < n → (X j).toInt % 256 = (Y j).toInt % 256) (j : Nat) : px_c X n j = px_c Y n j := by
  by_cases e : j < n
  · rw [px_c_in e, px_c_in e]
    exact h j e
  · rw [px_c_out e, px_c_out e]
theorem px_kd_0 {X : Nat → Int32} {n p : Nat} : 0 ≤ px_kd X n p := by
  unfold px_kd
  split
  · omega
  split
  · split
    · omega
    split <;> omega
  split
  · split <;> omega
  · unfold px_sg
    (repeat' split) <;> omega
/-- same names, by the reference's numbers -/
theorem px_kd_1 {X : Nat → Int32} {n p : Nat} (h : px_kd X n p = 1) : px_tl X n p = px_rn px_lt X n p - p := by
  have hp : p < n := by
    by_cases e : n ≤ p
    · rw [px_kd_e e] at h
      omega
    · omega
  by_cases hl : px_lt (px_c X n p) = true
  · exact px_tl_l hl
  · by_cases hd : px_dg (px_c X n p) = true
    · rw [px_kd_d hp hl hd] at h
      split at h <;> omega
    · rw [px_kd_s hp hl hd] at h
      exact absurd h px_sg_n.1
def rq_Q (X : Nat → Int32) (n : Nat) (i j : Nat) : Bool := px_sm X n (px_at X n i) (px_at X n j)
theorem rq_Qi {X : Nat → Int32} {n M : Nat} {L : Nat → Nat → Int64} (hN : ∀ j, j < M → px_kd X n (px_at X n j) = 1 → (L 94 j).toInt = (px_nm 27 X n (px_at X n j) (px_tl X n (px_at X n j)) : Nat)) : ∀ i j, i < M → j < M → px_kd X n (px_at X n i) = 1 → px_kd X n (px_at X n j) = 1 → (rq_Q X n i j = true ↔ L 94 i = L 94 j) := by
  intro i j hi hj ki kj
  have a := hN i hi ki
  have b := hN j hj kj
  rw [px_kd_1 ki] at a
  rw [px_kd_1 kj] at b
  unfold rq_Q
  rw [px_sm_iff (b := 27) (by decide), ← Int64.toInt_inj, a, b]
  exact Int.ofNat_inj.symm
theorem py_al_f {K V : Nat → Int} {Q : Nat → Nat → Bool} {σ : py_S} {r : Nat} (h : σ.2.1 ≠ 0) : py_al K V Q r σ = σ := py_al_e (fun q => h q.1)
theorem bu_77_0 : mm_at mt_P 77 0 = some ((0, 1, .aload_n 0, 0, 0, 0, 0), 2, 0, 1, 9, 1, 0, 0) := rfl
theorem bu_77_1 : mm_at mt_P 77 1 = some ((1, 1, .aload_n 0, 0, 0, 0, 0), 2, 0, 1, 9, 1, 0, 0) := rfl
theorem bu_77_2 : mm_at mt_P 77 2 = some ((2, 3, .getfield 166, 9, 2, 0, 1219), 2, 0, 1, 9, 1, 0, 0) := rfl
theorem bu_77_5 : mm_at mt_P 77 5 = some ((5, 3, .putfield 172, 9, 4, 0, 1221), 2, 0, 1, 9, 1, 0, 0) := rfl
theorem bu_77_8 : mm_at mt_P 77 8 = some ((8, 1, .iconst 0, 0, 0, 0, 0), 2, 0, 1, 9, 1, 0, 0) := rfl
theorem bu_77_9 : mm_at mt_P 77 9 = some ((9, 1, .istore_n 1, 0, 0, 0, 0), 2, 0, 1, 9, 1, 0, 0) := rfl
theorem bu_77_10 : mm_at mt_P 77 10 = some ((10, 1, .iload_n 1, 0, 0, 0, 0), 2, 0, 1, 9, 1, 0, 0) := rfl
theorem bu_77_11 : mm_at mt_P 77 11 = some ((11, 1, .aload_n 0, 0, 0, 0, 0), 2, 0, 1, 9, 1, 0, 0) := rfl
theorem bu_77_12 : mm_at mt_P 77 12 = some ((12, 3, .getfield 172, 9, 4, 0, 1221), 2, 0, 1, 9, 1, 0, 0) := rfl
theorem bu_77_15 : mm_at mt_P 77 15 = some ((15, 3, .if_icmp .ge 21, 0, 0, 0, 0), 2, 0, 1, 9, 1, 0, 0) := rfl
theorem bu_77_18 : mm_at mt_P 77 18 = some ((18, 1, .aload_n 0, 0, 0, 0, 0), 2, 0, 1, 9, 1, 0, 0) := rfl
theorem bu_77_19 : mm_at mt_P 77 19 = some ((19, 3, .getfield 17, 9, 3, 0, 1220), 2, 0, 1, 9, 1, 0, 0) := rfl
theorem bu_77_22 : mm_at mt_P 77 22 = some ((22, 1, .iload_n 1, 0, 0, 0, 0), 2, 0, 1, 9, 1, 0, 0) := rfl
theorem bu_77_23 : mm_at mt_P 77 23 = some ((23, 1, .aload_n 0, 0, 0, 0, 0), 2, 0, 1, 9, 1, 0, 0) := rfl
theorem bu_77_24 : mm_at mt_P 77 24 = some ((24, 3, .getfield 13, 9, 1, 0, 1218), 2, 0, 1, 9, 1, 0, 0) := rfl
theorem bu_77_27 : mm_at mt_P 77 27 = some ((27, 1, .iload_n 1, 0, 0, 0, 0), 2, 0, 1, 9, 1, 0, 0) := rfl
theorem bu_77_28 : mm_at mt_P 77 28 = some ((28, 1, .baload, 0, 0, 0, 0), 2, 0, 1, 9, 1, 0, 0) := rfl
theorem bu_77_29 : mm_at mt_P 77 29 = some ((29, 1, .bastore, 0, 0, 0, 0), 2, 0, 1, 9, 1, 0, 0) := rfl
theorem bu_77_30 : mm_at mt_P 77 30 = some ((30, 3, .iinc 1 1, 0, 0, 0, 0), 2, 0, 1, 9, 1, 0, 0) := rfl
theorem bu_77_33 : mm_at mt_P 77 33 = some ((33, 3, .goto (-23), 0, 0, 0, 0), 2, 0, 1, 9, 1, 0, 0) := rfl
theorem bu_77_36 : mm_at mt_P 77 36 = some ((36, 1, .aload_n 0, 0, 0, 0, 0), 2, 0, 1, 9, 1, 0, 0) := rfl
theorem bu_77_37 : mm_at mt_P 77 37 = some ((37, 1, .iconst 0, 0, 0, 0, 0), 2, 0, 1, 9, 1, 0, 0) := rfl
theorem bu_77_38 : mm_at mt_P 77 38 = some ((38, 3, .putfield 166, 9, 2, 0, 1219), 2, 0, 1, 9, 1, 0, 0) := rfl
theorem bu_77_41 : mm_at mt_P 77 41 = some ((41, 1, .aload_n 0, 0, 0, 0, 0), 2, 0, 1, 9, 1, 0, 0) := rfl
theorem bu_77_42 : mm_at mt_P 77 42 = some ((42, 3, .invokevirtual 227, 19, 0, 0, 1453), 2, 0, 1, 9, 1, 0, 0) := rfl
theorem bu_77_45 : mm_at mt_P 77 45 = some ((45, 1, .aload_n 0, 0, 0, 0, 0), 2, 0, 1, 9, 1, 0, 0) := rfl
theorem bu_77_46 : mm_at mt_P 77 46 = some ((46, 1, .iconst 0, 0, 0, 0, 0), 2, 0, 1, 9, 1, 0, 0) := rfl
theorem bu_77_47 : mm_at mt_P 77 47 = some ((47, 3, .putfield 206, 9, 11, 0, 1228), 2, 0, 1, 9, 1, 0, 0) := rfl
theorem bu_77_50 : mm_at mt_P 77 50 = some ((50, 1, .aload_n 0, 0, 0, 0, 0), 2, 0, 1, 9, 1, 0, 0) := rfl
theorem bu_77_51 : mm_at mt_P 77 51 = some ((51, 1, .iconst 0, 0, 0, 0, 0), 2, 0, 1, 9, 1, 0, 0) := rfl
theorem bu_77_52 : mm_at mt_P 77 52 = some ((52, 3, .putfield 230, 9, 12, 0, 1229), 2, 0, 1, 9, 1, 0, 0) := rfl
theorem bu_77_55 : mm_at mt_P 77 55 = some ((55, 1, .aload_n 0, 0, 0, 0, 0), 2, 0, 1, 9, 1, 0, 0) := rfl
theorem bu_77_56 : mm_at mt_P 77 56 = some ((56, 1, .iconst 0, 0, 0, 0, 0), 2, 0, 1, 9, 1, 0, 0) := rfl
theorem bu_77_57 : mm_at mt_P 77 57 = some ((57, 3, .putfield 203, 9, 13, 0, 1230), 2, 0, 1, 9, 1, 0, 0) := rfl
theorem bu_77_60 : mm_at mt_P 77 60 = some ((60, 1, .aload_n 0, 0, 0, 0, 0), 2, 0, 1, 9, 1, 0, 0) := rfl
theorem bu_77_61 : mm_at mt_P 77 61 = some ((61, 1, .iconst 0, 0, 0, 0, 0), 2, 0, 1, 9, 1, 0, 0) := rfl
theorem bu_77_62 : mm_at mt_P 77 62 = some ((62, 3, .putfield 212, 9, 15, 0, 1232), 2, 0, 1, 9, 1, 0, 0) := rfl
theorem bu_77_65 : mm_at mt_P 77 65 = some ((65, 1, .aload_n 0, 0, 0, 0, 0), 2, 0, 1, 9, 1, 0, 0) := rfl
theorem bu_77_66 : mm_at mt_P 77 66 = some ((66, 1, .iconst 1, 0, 0, 0, 0), 2, 0, 1, 9, 1, 0, 0) := rfl
theorem bu_77_67 : mm_at mt_P 77 67 = some ((67, 1, .aload_n 0, 0, 0, 0, 0), 2, 0, 1, 9, 1, 0, 0) := rfl
theorem bu_77_68 : mm_at mt_P 77 68 = some ((68, 3, .getfield 233, 9, 18, 0, 1235), 2, 0, 1, 9, 1, 0, 0) := rfl
theorem bu_77_71 : mm_at mt_P 77 71 = some ((71, 1, .isub, 0, 0, 0, 0), 2, 0, 1, 9, 1, 0, 0) := rfl
theorem bu_77_72 : mm_at mt_P 77 72 = some ((72, 3, .putfield 236, 9, 19, 0, 1236), 2, 0, 1, 9, 1, 0, 0) := rfl
theorem bu_77_75 : mm_at mt_P 77 75 = some ((75, 1, .aload_n 0, 0, 0, 0, 0), 2, 0, 1, 9, 1, 0, 0) := rfl
theorem bu_77_76 : mm_at mt_P 77 76 = some ((76, 1, .iconst 0, 0, 0, 0, 0), 2, 0, 1, 9, 1, 0, 0) := rfl
theorem bu_77_77 : mm_at mt_P 77 77 = some ((77, 3, .putfield 239, 9, 20, 0, 1237), 2, 0, 1, 9, 1, 0, 0) := rfl
theorem bu_77_80 : mm_at mt_P 77 80 = some ((80, 1, .aload_n 0, 0, 0, 0, 0), 2, 0, 1, 9, 1, 0, 0) := rfl
theorem bu_77_81 : mm_at mt_P 77 81 = some ((81, 1, .aload_n 0, 0, 0, 0, 0), 2, 0, 1, 9, 1, 0, 0) := rfl
theorem bu_77_82 : mm_at mt_P 77 82 = some ((82, 3, .getfield 236, 9, 19, 0, 1236), 2, 0, 1, 9, 1, 0, 0) := rfl
theorem bu_77_85 : mm_at mt_P 77 85 = some ((85, 3, .invokevirtual 152, 72, 0, 0, 1191), 2, 0, 1, 9, 1, 0, 0) := rfl
theorem bu_77_88 : mm_at mt_P 77 88 = some ((88, 1, .aload_n 0, 0, 0, 0, 0), 2, 0, 1, 9, 1, 0, 0) := rfl
theorem bu_77_89 : mm_at mt_P 77 89 = some ((89, 3, .sipush 130, 0, 0, 0, 0), 2, 0, 1, 9, 1, 0, 0) := rfl
theorem bu_77_92 : mm_at mt_P 77 92 = some ((92, 1, .aload_n 0, 0, 0, 0, 0), 2, 0, 1, 9, 1, 0, 0) := rfl
theorem bu_77_93 : mm_at mt_P 77 93 = some ((93, 3, .getfield 236, 9, 19, 0, 1236), 2, 0, 1, 9, 1, 0, 0) := rfl
theorem bu_77_96 : mm_at mt_P 77 96 = some ((96, 1, .imul, 0, 0, 0, 0), 2, 0, 1, 9, 1, 0, 0) := rfl
theorem bu_77_97 : mm_at mt_P 77 97 = some ((97, 3, .putfield 242, 9, 33, 0, 1250), 2, 0, 1, 9, 1, 0, 0) := rfl
theorem bu_77_100 : mm_at mt_P 77 100 = some ((100, 1, .aload_n 0, 0, 0, 0, 0), 2, 0, 1, 9, 1, 0, 0) := rfl
theorem bu_77_101 : mm_at mt_P 77 101 = some ((101, 3, .sipush 420, 0, 0, 0, 0), 2, 0, 1, 9, 1, 0, 0) := rfl
theorem bu_77_104 : mm_at mt_P 77 104 = some ((104, 1, .aload_n 0, 0, 0, 0, 0), 2, 0, 1, 9, 1, 0, 0) := rfl
theorem bu_77_105 : mm_at mt_P 77 105 = some ((105, 3, .getfield 236, 9, 19, 0, 1236), 2, 0, 1, 9, 1, 0, 0) := rfl
theorem bu_77_108 : mm_at mt_P 77 108 = some ((108, 1, .imul, 0, 0, 0, 0), 2, 0, 1, 9, 1, 0, 0) := rfl
theorem bu_77_109 : mm_at mt_P 77 109 = some ((109, 3, .putfield 245, 9, 39, 0, 1256), 2, 0, 1, 9, 1, 0, 0) := rfl
theorem bu_77_112 : mm_at mt_P 77 112 = some ((112, 1, .aload_n 0, 0, 0, 0, 0), 2, 0, 1, 9, 1, 0, 0) := rfl
theorem bu_77_113 : mm_at mt_P 77 113 = some ((113, 3, .getfield 203, 9, 13, 0, 1230), 2, 0, 1, 9, 1, 0, 0) := rfl
theorem bu_77_116 : mm_at mt_P 77 116 = some ((116, 3, .ifCond .ne 18, 0, 0, 0, 0), 2, 0, 1, 9, 1, 0, 0) := rfl
theorem bu_77_119 : mm_at mt_P 77 119 = some ((119, 1, .aload_n 0, 0, 0, 0, 0), 2, 0, 1, 9, 1, 0, 0) := rfl
theorem bu_77_120 : mm_at mt_P 77 120 = some ((120, 1, .iconst 0, 0, 0, 0, 0), 2, 0, 1, 9, 1, 0, 0) := rfl
theorem bu_77_121 : mm_at mt_P 77 121 = some ((121, 3, .invokevirtual 221, 45, 0, 0, 1475), 2, 0, 1, 9, 1, 0, 0) := rfl
theorem bu_77_124 : mm_at mt_P 77 124 = some ((124, 3, .ifCond .ne 10, 0, 0, 0, 0), 2, 0, 1, 9, 1, 0, 0) := rfl
theorem bu_77_127 : mm_at mt_P 77 127 = some ((127, 1, .aload_n 0, 0, 0, 0, 0), 2, 0, 1, 9, 1, 0, 0) := rfl
theorem bu_77_128 : mm_at mt_P 77 128 = some ((128, 3, .invokevirtual 248, 99, 0, 0, 1479), 2, 0, 1, 9, 1, 0, 0) := rfl
theorem bu_77_131 : mm_at mt_P 77 131 = some ((131, 3, .goto (-19), 0, 0, 0, 0), 2, 0, 1, 9, 1, 0, 0) := rfl
theorem bu_77_134 : mm_at mt_P 77 134 = some ((134, 1, .aload_n 0, 0, 0, 0, 0), 2, 0, 1, 9, 1, 0, 0) := rfl
theorem bu_77_135 : mm_at mt_P 77 135 = some ((135, 1, .aload_n 0, 0, 0, 0, 0), 2, 0, 1, 9, 1, 0, 0) := rfl
theorem bu_77_136 : mm_at mt_P 77 136 = some ((136, 3, .getfield 203, 9, 13, 0, 1230), 2, 0, 1, 9, 1, 0, 0) := rfl
theorem bu_77_139 : mm_at mt_P 77 139 = some ((139, 3, .ifCond .le 10, 0, 0, 0, 0), 2, 0, 1, 9, 1, 0, 0) := rfl
theorem bu_77_142 : mm_at mt_P 77 142 = some ((142, 1, .aload_n 0, 0, 0, 0, 0), 2, 0, 1, 9, 1, 0, 0) := rfl
theorem bu_77_143 : mm_at mt_P 77 143 = some ((143, 3, .getfield 209, 9, 14, 0, 1231), 2, 0, 1, 9, 1, 0, 0) := rfl
theorem bu_77_146 : mm_at mt_P 77 146 = some ((146, 3, .goto 18, 0, 0, 0, 0), 2, 0, 1, 9, 1, 0, 0) := rfl
theorem bu_77_149 : mm_at mt_P 77 149 = some ((149, 1, .aload_n 0, 0, 0, 0, 0), 2, 0, 1, 9, 1, 0, 0) := rfl
theorem bu_77_150 : mm_at mt_P 77 150 = some ((150, 3, .getfield 212, 9, 15, 0, 1232), 2, 0, 1, 9, 1, 0, 0) := rfl
theorem bu_77_153 : mm_at mt_P 77 153 = some ((153, 3, .ifCond .le 10, 0, 0, 0, 0), 2, 0, 1, 9, 1, 0, 0) := rfl
theorem bu_77_156 : mm_at mt_P 77 156 = some ((156, 1, .aload_n 0, 0, 0, 0, 0), 2, 0, 1, 9, 1, 0, 0) := rfl
theorem bu_77_157 : mm_at mt_P 77 157 = some ((157, 3, .getfield 215, 9, 16, 0, 1233), 2, 0, 1, 9, 1, 0, 0) := rfl
theorem bu_77_160 : mm_at mt_P 77 160 = some ((160, 3, .goto 4, 0, 0, 0, 0), 2, 0, 1, 9, 1, 0, 0) := rfl
theorem bu_77_163 : mm_at mt_P 77 163 = some ((163, 1, .iconst (-1), 0, 0, 0, 0), 2, 0, 1, 9, 1, 0, 0) := rfl
theorem bu_77_164 : mm_at mt_P 77 164 = some ((164, 3, .putfield 37, 9, 17, 0, 1234), 2, 0, 1, 9, 1, 0, 0) := rfl
theorem bu_77_167 : mm_at mt_P 77 167 = some ((167, 1, .aload_n 0, 0, 0, 0, 0), 2, 0, 1, 9, 1, 0, 0) := rfl
theorem bu_77_168 : mm_at mt_P 77 168 = some ((168, 3, .getfield 203, 9, 13, 0, 1230), 2, 0, 1, 9, 1, 0, 0) := rfl
theorem bu_77_171 : mm_at mt_P 77 171 = some ((171, 3, .ifCond .le 8, 0, 0, 0, 0), 2, 0, 1, 9, 1, 0, 0) := rfl
theorem bu_77_174 : mm_at mt_P 77 174 = some ((174, 1, .aload_n 0, 0, 0, 0, 0), 2, 0, 1, 9, 1, 0, 0) := rfl
theorem bu_77_175 : mm_at mt_P 77 175 = some ((175, 3, .getfield 203, 9, 13, 0, 1230), 2, 0, 1, 9, 1, 0, 0) := rfl
theorem bu_77_178 : mm_at mt_P 77 178 = some ((178, 1, .ireturn, 0, 0, 0, 0), 2, 0, 1, 9, 1, 0, 0) := rfl
theorem bu_77_179 : mm_at mt_P 77 179 = some ((179, 1, .aload_n 0, 0, 0, 0, 0), 2, 0, 1, 9, 1, 0, 0) := rfl
theorem bu_77_180 : mm_at mt_P 77 180 = some ((180, 3, .getfield 212, 9, 15, 0, 1232), 2, 0, 1, 9, 1, 0, 0) := rfl
theorem bu_77_183 : mm_at mt_P 77 183 = some ((183, 3, .ifCond .le 8, 0, 0, 0, 0), 2, 0, 1, 9, 1, 0, 0) := rfl
theorem bu_77_186 : mm_at mt_P 77 186 = some ((186, 1, .aload_n 0, 0, 0, 0, 0), 2, 0, 1, 9, 1, 0, 0) := rfl
theorem bu_77_187 : mm_at mt_P 77 187 = some ((187, 3, .getfield 212, 9, 15, 0, 1232), 2, 0, 1, 9, 1, 0, 0) := rfl
theorem bu_77_190 : mm_at mt_P 77 190 = some ((190, 1, .ireturn, 0, 0, 0, 0), 2, 0, 1, 9, 1, 0, 0) := rfl
theorem bu_77_191 : mm_at mt_P 77 191 = some ((191, 1, .aload_n 0, 0, 0, 0, 0), 2, 0, 1, 9, 1, 0, 0) := rfl
theorem bu_77_192 : mm_at mt_P 77 192 = some ((192, 1, .aload_n 0, 0, 0, 0, 0), 2, 0, 1, 9, 1, 0, 0) := rfl
theorem bu_77_193 : mm_at mt_P 77 193 = some ((193, 3, .getfield 236, 9, 19, 0, 1236), 2, 0, 1, 9, 1, 0, 0) := rfl
theorem bu_77_196 : mm_at mt_P 77 196 = some ((196, 3, .putfield 233, 9, 18, 0, 1235), 2, 0, 1, 9, 1, 0, 0) := rfl
theorem bu_77_199 : mm_at mt_P 77 199 = some ((199, 1, .aload_n 0, 0, 0, 0, 0), 2, 0, 1, 9, 1, 0, 0) := rfl
theorem bu_77_200 : mm_at mt_P 77 200 = some ((200, 3, .invokevirtual 160, 7, 0, 0, 1202), 2, 0, 1, 9, 1, 0, 0) := rfl
theorem bu_77_203 : mm_at mt_P 77 203 = some ((203, 1, .aload_n 0, 0, 0, 0, 0), 2, 0, 1, 9, 1, 0, 0) := rfl
theorem bu_77_204 : mm_at mt_P 77 204 = some ((204, 3, .invokevirtual 163, 56, 0, 0, 1214), 2, 0, 1, 9, 1, 0, 0) := rfl
theorem bu_77_207 : mm_at mt_P 77 207 = some ((207, 1, .aload_n 0, 0, 0, 0, 0), 2, 0, 1, 9, 1, 0, 0) := rfl
theorem bu_77_208 : mm_at mt_P 77 208 = some ((208, 1, .iconst 0, 0, 0, 0, 0), 2, 0, 1, 9, 1, 0, 0) := rfl
theorem bu_77_209 : mm_at mt_P 77 209 = some ((209, 3, .putfield 251, 9, 54, 0, 1271), 2, 0, 1, 9, 1, 0, 0) := rfl
theorem bu_77_212 : mm_at mt_P 77 212 = some ((212, 1, .aload_n 0, 0, 0, 0, 0), 2, 0, 1, 9, 1, 0, 0) := rfl
theorem bu_77_213 : mm_at mt_P 77 213 = some ((213, 1, .iconst 0, 0, 0, 0, 0), 2, 0, 1, 9, 1, 0, 0) := rfl
theorem bu_77_214 : mm_at mt_P 77 214 = some ((214, 3, .putfield 254, 9, 65, 0, 1282), 2, 0, 1, 9, 1, 0, 0) := rfl
theorem bu_77_217 : mm_at mt_P 77 217 = some ((217, 1, .aload_n 0, 0, 0, 0, 0), 2, 0, 1, 9, 1, 0, 0) := rfl
theorem bu_77_218 : mm_at mt_P 77 218 = some ((218, 1, .iconst 0, 0, 0, 0, 0), 2, 0, 1, 9, 1, 0, 0) := rfl
theorem bu_77_219 : mm_at mt_P 77 219 = some ((219, 3, .putfield 257, 9, 67, 0, 1284), 2, 0, 1, 9, 1, 0, 0) := rfl
theorem bu_77_222 : mm_at mt_P 77 222 = some ((222, 1, .iconst 0, 0, 0, 0, 0), 2, 0, 1, 9, 1, 0, 0) := rfl
theorem bu_77_223 : mm_at mt_P 77 223 = some ((223, 1, .istore_n 1, 0, 0, 0, 0), 2, 0, 1, 9, 1, 0, 0) := rfl
theorem bu_77_224 : mm_at mt_P 77 224 = some ((224, 1, .iload_n 1, 0, 0, 0, 0), 2, 0, 1, 9, 1, 0, 0) := rfl
theorem bu_77_225 : mm_at mt_P 77 225 = some ((225, 1, .iconst 3, 0, 0, 0, 0), 2, 0, 1, 9, 1, 0, 0) := rfl
theorem bu_77_226 : mm_at mt_P 77 226 = some ((226, 3, .if_icmp .ge 16, 0, 0, 0, 0), 2, 0, 1, 9, 1, 0, 0) := rfl
theorem bu_77_229 : mm_at mt_P 77 229 = some ((229, 1, .aload_n 0, 0, 0, 0, 0), 2, 0, 1, 9, 1, 0, 0) := rfl
theorem bu_77_230 : mm_at mt_P 77 230 = some ((230, 3, .getfield 146, 9, 71, 0, 1288), 2, 0, 1, 9, 1, 0, 0) := rfl
theorem bu_77_233 : mm_at mt_P 77 233 = some ((233, 1, .iload_n 1, 0, 0, 0, 0), 2, 0, 1, 9, 1, 0, 0) := rfl
theorem bu_77_234 : mm_at mt_P 77 234 = some ((234, 1, .iconst 0, 0, 0, 0, 0), 2, 0, 1, 9, 1, 0, 0) := rfl
theorem bu_77_235 : mm_at mt_P 77 235 = some ((235, 1, .bastore, 0, 0, 0, 0), 2, 0, 1, 9, 1, 0, 0) := rfl
theorem bu_77_236 : mm_at mt_P 77 236 = some ((236, 3, .iinc 1 1, 0, 0, 0, 0), 2, 0, 1, 9, 1, 0, 0) := rfl
theorem bu_77_239 : mm_at mt_P 77 239 = some ((239, 3, .goto (-15), 0, 0, 0, 0), 2, 0, 1, 9, 1, 0, 0) := rfl
theorem bu_77_242 : mm_at mt_P 77 242 = some ((242, 1, .iconst 0, 0, 0, 0, 0), 2, 0, 1, 9, 1, 0, 0) := rfl
theorem bu_77_243 : mm_at mt_P 77 243 = some ((243, 1, .ireturn, 0, 0, 0, 0), 2, 0, 1, 9, 1, 0, 0) := rfl
section RQB
variable {K V P : Nat → Int} {Q : Nat → Nat → Bool} {σ : py_S} {M : Nat} {ns : List Nat} {oo e : Nat} {E : mm_E} {PO : mm_C → Prop} {NN : Nat} {h0 h : mm_H} {s : Nat → Int32} {A : Nat → Nat → Int32} {L : Nat → Nat → Int64} {gs : List mm_F}
set_option maxHeartbeats 4000000 in
theorem rr_77a {A0 : Nat → Nat → Int32} : ∀ NN : Nat, (∀ (h' : mm_H) (A' : Nat → Nat → Int32) (lv : mm_V) (o : Option Value), bm_P rz_T E h0 h' s A' L → (∀ c, c ≠ 90 → A' c = A0 c) → (∀ j : Nat, (j : Int) < (s 8804).toInt → (A' 90 j).toInt % 256 = (A0 89 j).toInt % 256) → mm_get lv 0 = some (.ref (E.1 + 88)) → bp_G E PO NN ((77, 36, lv, [], 0, 0) :: gs, h', o)) → (∀ (h : mm_H) (A : Nat → Nat → Int32) (lv : mm_V) (o : Option Value) (i : Int32), bm_P rz_T E h0 h s A L → (∀ c, c ≠ 90 → A c = A0 c) → (∀ j : Nat, (j : Int) < i.toInt → (A 90 j).toInt % 256 = (A0 89 j).toInt % 256) → mm_get lv 0 = some (.ref (E.1 + 88)) → mm_get lv 1 = some (.int i) → bp_G E PO NN ((77, 10, lv, [], 0, 0) :: gs, h, o)) := by
  intro NN
  induction NN with
  | zero => intro kk h A lv o i hP hA hb g0 g1; exact bp_zero bu_77_10
  | succ NN ih =>
    intro kk h A lv o i hP hA hb g0 g1
    refine bp_ld (pc' := 11) bu_77_10 rfl rfl (fun _ _ _ => rfl) g1 rfl ?_
    refine bp_ld (pc' := 12) bu_77_11 rfl rfl (fun _ _ _ => rfl) g0 rfl ?_
    refine bn_gi (pc' := 15) (K := 8804) bu_77_12 rfl rfl (fun _ _ _ => rfl) hP rz_o88 rz_i88_4 rfl rfl ?_
    refine bp_ic (pc' := 18) (pt := 36) bu_77_15 rfl rfl (fun k4334 => ?_) (fun k4334 => ?_)
    · replace k4334 : ((s 8804)).toInt ≤ (i).toInt := k4334
      exact kk _ _ _ _ hP hA (fun j hj => hb j (by omega)) g0
    · replace k4334 : ¬ (((s 8804)).toInt ≤ (i).toInt) := k4334
      refine bp_ld (pc' := 19) bu_77_18 rfl rfl (fun _ _ _ => rfl) g0 rfl ?_
      refine bn_gr (pc' := 22) (t := 90) bu_77_19 rfl rfl (fun _ _ _ => rfl) hP rz_o88 rz_r88_3 ?_
      refine bp_ld (pc' := 23) bu_77_22 rfl rfl (fun _ _ _ => rfl) g1 rfl ?_
      refine bp_ld (pc' := 24) bu_77_23 rfl rfl (fun _ _ _ => rfl) g0 rfl ?_
      refine bn_gr (pc' := 27) (t := 89) bu_77_24 rfl rfl (fun _ _ _ => rfl) hP rz_o88 rz_r88_1 ?_
      refine bp_ld (pc' := 28) bu_77_27 rfl rfl (fun _ _ _ => rfl) g1 rfl ?_
      refine bn_iaF (pc' := 29) bu_77_28 rfl rfl (fun _ _ _ => rfl) hP rz_a89 (Or.inl rfl) (fun b4335 b4336 => ?_)
      refine bn_iasF (pc' := 30) bu_77_29 rfl rfl (fun _ _ _ => rfl) hP rz_a90 (Or.inl rfl) (fun b4339 b4340 h4337 hP4338 => ?_)
      refine bp_inc (pc' := 33) bu_77_30 rfl (by decide) g1 (by decide) (by omega) (by omega) (fun lv4341 y4344 F4342 g4343 e4345 => ?_)
      have g4346 := F4342 0 (.ref (E.1 + 88)) g0 (by decide) (Or.inl rfl)
      refine bp_goD (pc' := 10) bu_77_33 rfl ?_
      exact ih (fun h' A' lv o a0 a1 a2 a3 => bp_mono (Nat.le_succ NN) (kk h' A' lv o a0 a1 a2 a3)) _ _ _ _ _ hP4338 (fun c c90 => (bh_up_ne c90).trans (hA c c90)) (fun j hj => by
        by_cases e : j = i.toInt.toNat
        · rw [e, bh_up_i, bp_nar1, hA 89 (by decide)]
        · rw [bh_up_j e]
          exact hb j (by omega)) g4346 g4343
set_option maxHeartbeats 4000000 in
theorem rr_77l {τ : py_S} {ωτ : Nat → Nat} {s0 : Nat → Int32} {A0 : Nat → Nat → Int32} {L0 : Nat → Nat → Int64} (hT : rq_T K V P M A0) (hK0 : ∀ j, 0 ≤ K j) (hQ : ∀ i j, i < M → j < M → K i = 1 → K j = 1 → (Q i j = true ↔ L0 94 i = L0 94 j)) (hd0 : 0 ≤ (s0 8819).toInt ∧ (s0 8819).toInt ≤ 1) : ∀ NN : Nat, (∀ (h : mm_H) (s : Nat → Int32) (A : Nat → Nat → Int32) (L : Nat → Nat → Int64) (lv : mm_V) (o : Option Value), bm_P rz_T E h0 h s A L → rq_G s0 A0 L0 s A L → rq_R K P M τ τ.2.2.2.2 0 0 s A L → mm_get lv 0 = some (.ref (E.1 + 88)) → (τ.2.1 = 0 → rq_O V τ.2.2.2.2 ωτ (s0 8819).toInt.toNat A) → bp_G E PO NN ((77, 134, lv, [], 0, 0) :: gs, h, o)) → (∀ (h : mm_H) (s : Nat → Int32) (A : Nat → Nat → Int32) (L : Nat → Nat → Int64) (lv : mm_V) (o : Option Value) (σ : py_S) (r : Nat) (ω : Nat → Nat), bm_P rz_T E h0 h s A L → rq_G s0 A0 L0 s A L → rq_R K P M σ σ.2.2.2.2 0 0 s A L → mm_get lv 0 = some (.ref (E.1 + 88)) → (σ.2.1 = 0 → 401 ≤ σ.1 + r) → py_al K V Q r σ = τ → py_aw K V Q r σ ω = ωτ → (σ.2.1 = 0 → rq_O V σ.2.2.2.2 ω (s0 8819).toInt.toNat A) → bp_G E PO NN ((77, 112, lv, [], 0, 0) :: gs, h, o)) := by
  intro NN
  induction NN with
  | zero => intro kk h s A L lv o σ r ω hP hF hR g0 hr hx hw hO; exact bp_zero bu_77_112
  | succ NN ih =>
    intro kk h s A L lv o σ r ω hP hF hR g0 hr hx hw hO
    have q1 := hR.1
    refine bp_ld (pc' := 113) bu_77_112 rfl rfl (fun _ _ _ => rfl) g0 rfl ?_
    refine bn_gi (pc' := 116) (K := 8813) bu_77_113 rfl rfl (fun _ _ _ => rfl) hP rz_o88 rz_i88_13 rfl rfl ?_
    refine bp_i0 (pc' := 119) (pt := 134) bu_77_116 rfl rfl (fun k4347 => ?_) (fun k4347 => ?_)
    · replace k4347 : ((s 8813)).toInt ≠ 0 := k4347
      rw [py_al_e (by omega)] at hx
      rw [py_aw_e (by omega)] at hw
      exact kk _ _ _ _ _ _ hP hF (by rw [← hx]; exact hR) g0 (by rw [← hx, ← hw]; exact hO)
    · replace k4347 : ¬ (((s 8813)).toInt ≠ 0) := k4347
      refine bp_ld (pc' := 120) bu_77_119 rfl rfl (fun _ _ _ => rfl) g0 rfl ?_
      refine bp_c (pc' := 121) (n := 0) bu_77_120 rfl rfl (fun _ _ _ => rfl) (by decide) (fun c4348 e4349 => ?_)
      refine bn_cvF (pc' := 124) (st := []) (args := [.int c4348]) bu_77_121 rfl rfl rfl (by decide) hP rz_o88 (by decide) rfl (Nat.le_of_ble_eq_true rfl) (Nat.le_of_ble_eq_true rfl) ?_
      refine rr_45 (k := c4348) hP hR (rq_T_G hT hF) (fun r4350 p4351 => ?_)
      show bp_G E PO (NN + 1) ((77, 124, lv, [.int r4350], 0, 0) :: gs, h, none)
      refine bp_i0 (pc' := 127) (pt := 134) bu_77_124 rfl rfl (fun k4352 => ?_) (fun k4352 => ?_)
      · replace k4352 : (r4350).toInt ≠ 0 := k4352
        rw [py_al_e (by omega)] at hx
        rw [py_aw_e (by omega)] at hw
        exact kk _ _ _ _ _ _ hP hF (by rw [← hx]; exact hR) g0 (by rw [← hx, ← hw]; exact hO)
      · replace k4352 : ¬ ((r4350).toInt ≠ 0) := k4352
        refine bp_ld (pc' := 128) bu_77_127 rfl rfl (fun _ _ _ => rfl) g0 rfl ?_
        refine bn_cvF (pc' := 131) (st := []) (args := []) bu_77_128 rfl rfl rfl (by decide) hP rz_o88 (by decide) rfl (Nat.le_of_ble_eq_true rfl) (Nat.le_of_ble_eq_true rfl) ?_
        have q0 : σ.2.1 = 0 := by omega
        refine rr_99 hP hR (rq_T_G hT hF) (by rw [hF.2.2.1]; exact hQ) (hK0 _) q0 rfl (by rw [hF.1.2.2.2.2]; exact hd0) (fun h4353 s4354 A4355 L4356 hP4357 F4358 R4359 T4360 => ?_)
        have G4361 := rq_G_t hF F4358
        show bp_G E PO (NN + 1) ((77, 131, lv, [], 0, 0) :: gs, h4353, none)
        refine bp_goD (pc' := 112) bu_77_131 rfl ?_
        have m4 := hT.1
        have r1 := (hR.2.1 q0).2.1
        obtain ⟨r, rfl⟩ : ∃ r', r = r' + 1 := ⟨r - 1, by omega⟩
        rw [py_al_s q0 (by omega)] at hx
        rw [py_aw_s q0 (by omega)] at hw
        rw [hF.1.2.2.2.2] at T4360
        exact ih (fun h s A L lv o a0 a1 a2 a3 a4 => bp_mono (Nat.le_succ NN) (kk h s A L lv o a0 a1 a2 a3 a4)) _ _ _ _ _ _ _ r _ hP4357 G4361 R4359 g0 (fun u => by have lt := py_tell_lt (K := K) (V := V) (Q := Q) q0 u; omega) hx hw (fun u => T4360 u _ (hO q0))
theorem bp_nar20 {c : Int32} (h : c.toInt = 0) : (mm_nar 2 c).toInt = 0 := by
  have e : c = 0 := Int32.toInt_inj.mp h
  rw [e]
  rfl
set_option maxHeartbeats 4000000 in
theorem rr_77h {A0 : Nat → Nat → Int32} : ∀ NN : Nat, (∀ (h' : mm_H) (A' : Nat → Nat → Int32) (lv : mm_V) (o : Option Value) (k : Int32), bm_P rz_T E h0 h' s A' L → (∀ c, c ≠ 131 → A' c = A0 c) → (∀ j : Nat, (j : Int) < 3 → (A' 131 j).toInt = 0) → mm_get lv 0 = some (.ref (E.1 + 88)) → mm_get lv 1 = some (.int k) → bp_G E PO NN ((77, 242, lv, [], 0, 0) :: gs, h', o)) → (∀ (h : mm_H) (A : Nat → Nat → Int32) (lv : mm_V) (o : Option Value) (k : Int32), bm_P rz_T E h0 h s A L → (∀ c, c ≠ 131 → A c = A0 c) → (∀ j : Nat, (j : Int) < k.toInt → (A 131 j).toInt = 0) → mm_get lv 0 = some (.ref (E.1 + 88)) → mm_get lv 1 = some (.int k) → bp_G E PO NN ((77, 224, lv, [], 0, 0) :: gs, h, o)) := by
  intro NN
  induction NN with
  | zero => intro kk h A lv o k hP hA hb g0 g1; exact bp_zero bu_77_224
  | succ NN ih =>
    intro kk h A lv o k hP hA hb g0 g1
    refine bp_ld (pc' := 225) bu_77_224 rfl rfl (fun _ _ _ => rfl) g1 rfl ?_
    refine bp_c (pc' := 226) (n := 3) bu_77_225 rfl rfl (fun _ _ _ => rfl) (by decide) (fun c4362 e4363 => ?_)
    refine bp_ic (pc' := 229) (pt := 242) bu_77_226 rfl rfl (fun k4364 => ?_) (fun k4364 => ?_)
    · replace k4364 : (c4362).toInt ≤ (k).toInt := k4364
      exact kk _ _ _ _ _ hP hA (fun j hj => hb j (by omega)) g0 g1
    · replace k4364 : ¬ ((c4362).toInt ≤ (k).toInt) := k4364
      refine bp_ld (pc' := 230) bu_77_229 rfl rfl (fun _ _ _ => rfl) g0 rfl ?_
      refine bn_gr (pc' := 233) (t := 131) bu_77_230 rfl rfl (fun _ _ _ => rfl) hP rz_o88 rz_r88_71 ?_
      refine bp_ld (pc' := 234) bu_77_233 rfl rfl (fun _ _ _ => rfl) g1 rfl ?_
      refine bp_c (pc' := 235) (n := 0) bu_77_234 rfl rfl (fun _ _ _ => rfl) (by decide) (fun c4365 e4366 => ?_)
      refine bn_iasF (pc' := 236) bu_77_235 rfl rfl (fun _ _ _ => rfl) hP rz_a131 (Or.inr rfl) (fun b4369 b4370 h4367 hP4368 => ?_)
      refine bn_incx (pc' := 239) bu_77_236 rfl (by decide) g1 (by decide) (fun lv4371 y4374 F4372 g4373 e4375 => ?_)
      have g4376 := F4372 0 (.ref (E.1 + 88)) g0 (by decide) (Or.inl rfl)
      refine bp_goD (pc' := 224) bu_77_239 rfl ?_
      exact ih (fun h' A' lv o k a0 a1 a2 a3 a4 => bp_mono (Nat.le_succ NN) (kk h' A' lv o k a0 a1 a2 a3 a4)) _ _ _ _ _ hP4368 (fun c c131 => (bh_up_ne c131).trans (hA c c131)) (fun j hj => by
        by_cases e : j = k.toInt.toNat
        · rw [e, bh_up_i]
          exact bp_nar20 (by omega)
        · rw [bh_up_j e]
          exact hb j (by omega)) g4376 g4373
set_option maxHeartbeats 4000000 in
theorem rr_77e {τ : py_S} {Pn : Nat → Nat} {lv : mm_V} {o : Option Value} (hP : bm_P rz_T E h0 h s A L) (hR : rq_R K (fun j => (Pn j : Int)) M τ ns 0 0 s A L) (g0 : mm_get lv 0 = some (.ref (E.1 + 88))) (hy0 : (s 8802).toInt = 0) (kk : ∀ (h' : mm_H) (s' : Nat → Int32) (A' : Nat → Nat → Int32) (L' : Nat → Nat → Int64) (r : Int32), bm_P rz_T E h0 h' s' A' L' → r.toInt = (py_ft τ : Int) → (s' 8817).toInt = py_pl Pn τ → (s' 8802).toInt = 0 → L' 95 = L 95 → (∀ c, 97 ≤ c → c ≤ 105 → A' c = A c) → (r.toInt = 0 → s' 8818 = s 8819 ∧ (A' 97 (s' 8818).toInt.toNat).toInt = (ns.length : Int) ∧ (s' 8865).toInt = 0 ∧ ∀ j, j < 3 → (A' 131 j).toInt = 0) → (r.toInt ≠ 0 → s' 8818 = s 8818 ∧ A' 97 = A 97 ∧ s' 8865 = s 8865 ∧ A' 131 = A 131) → bp_G E PO NN (mm_back (some (.int r)) gs h')) : bp_G E PO NN ((77, 134, lv, [], 0, 0) :: gs, h, o) := by
  have q1 := hR.1
  have q3 : τ.2.1 ≠ 0 → (s 8814).toInt = (Pn τ.1 : Int) := hR.2.2
  have q2 : τ.2.1 = 0 → (s 8815).toInt = (τ.2.2.1 : Int) ∧ (τ.2.2.1 ≠ 0 → (s 8816).toInt = (Pn τ.2.2.2.1 : Int)) := fun u => ⟨(hR.2.1 u).2.2.1, fun w => ((hR.2.1 u).2.2.2.1 w).1⟩
  refine bp_ld (pc' := 135) bu_77_134 rfl rfl (fun _ _ _ => rfl) g0 rfl ?_
  refine bp_ld (pc' := 136) bu_77_135 rfl rfl (fun _ _ _ => rfl) g0 rfl ?_
  refine bn_gi (pc' := 139) (K := 8813) bu_77_136 rfl rfl (fun _ _ _ => rfl) hP rz_o88 rz_i88_13 rfl rfl ?_
  refine bp_i0 (pc' := 142) (pt := 149) bu_77_139 rfl rfl (fun k4377 => ?_) (fun k4377 => ?_)
  · replace k4377 : ((s 8813)).toInt ≤ 0 := k4377
    refine bp_ld (pc' := 150) bu_77_149 rfl rfl (fun _ _ _ => rfl) g0 rfl ?_
    refine bn_gi (pc' := 153) (K := 8815) bu_77_150 rfl rfl (fun _ _ _ => rfl) hP rz_o88 rz_i88_15 rfl rfl ?_
    refine bp_i0 (pc' := 156) (pt := 163) bu_77_153 rfl rfl (fun k4378 => ?_) (fun k4378 => ?_)
    · replace k4378 : ((s 8815)).toInt ≤ 0 := k4378
      refine bp_c (pc' := 164) (n := -1) bu_77_163 rfl rfl (fun _ _ _ => rfl) (by decide) (fun c4379 e4380 => ?_)
      refine bn_pf (pc' := 167) (K := 8817) bu_77_164 rfl rfl (fun _ _ _ => rfl) hP rz_o88 rz_i88_17 rfl rfl (fun h4381 s4382 hP4383 e4384 f4385 => ?_)
      refine bp_ld (pc' := 168) bu_77_167 rfl rfl (fun _ _ _ => rfl) g0 rfl ?_
      refine bn_gi (pc' := 171) (K := 8813) bu_77_168 rfl rfl (fun _ _ _ => rfl) hP4383 rz_o88 rz_i88_13 rfl (f4385 8813 (by decide)) ?_
      refine bp_i0 (pc' := 174) (pt := 179) bu_77_171 rfl rfl (fun k4386 => ?_) (fun k4386 => ?_)
      · replace k4386 : ((s 8813)).toInt ≤ 0 := k4386
        refine bp_ld (pc' := 180) bu_77_179 rfl rfl (fun _ _ _ => rfl) g0 rfl ?_
        refine bn_gi (pc' := 183) (K := 8815) bu_77_180 rfl rfl (fun _ _ _ => rfl) hP4383 rz_o88 rz_i88_15 rfl (f4385 8815 (by decide)) ?_
        refine bp_i0 (pc' := 186) (pt := 191) bu_77_183 rfl rfl (fun k4387 => ?_) (fun k4387 => ?_)
        · replace k4387 : ((s 8815)).toInt ≤ 0 := k4387
          refine bp_ld (pc' := 192) bu_77_191 rfl rfl (fun _ _ _ => rfl) g0 rfl ?_
          refine bp_ld (pc' := 193) bu_77_192 rfl rfl (fun _ _ _ => rfl) g0 rfl ?_
          refine bn_gi (pc' := 196) (K := 8819) bu_77_193 rfl rfl (fun _ _ _ => rfl) hP4383 rz_o88 rz_i88_19 rfl (f4385 8819 (by decide)) ?_
          refine bn_pf (pc' := 199) (K := 8818) bu_77_196 rfl rfl (fun _ _ _ => rfl) hP4383 rz_o88 rz_i88_18 rfl rfl (fun h4388 s4389 hP4390 e4391 f4392 => ?_)
          refine bp_ld (pc' := 200) bu_77_199 rfl rfl (fun _ _ _ => rfl) g0 rfl ?_
          refine bn_cvF (pc' := 203) (st := []) (args := []) bu_77_200 rfl rfl rfl (by decide) hP4390 rz_o88 (by decide) rfl (Nat.le_of_ble_eq_true rfl) (Nat.le_of_ble_eq_true rfl) ?_
          refine rr_7 hP4390 (fun h4393 s4394 A4395 hP4396 f4397 a4398 => ?_)
          show bp_G E PO NN ((77, 203, lv, [], 0, 0) :: gs, h4393, none)
          refine bp_ld (pc' := 204) bu_77_203 rfl rfl (fun _ _ _ => rfl) g0 rfl ?_
          refine bn_cvF (pc' := 207) (st := []) (args := []) bu_77_204 rfl rfl rfl (by decide) hP4396 rz_o88 (by decide) rfl (Nat.le_of_ble_eq_true rfl) (Nat.le_of_ble_eq_true rfl) ?_
          refine rr_56 hP4396 (fun h4399 A4400 hP4401 a4402 => ?_)
          show bp_G E PO NN ((77, 207, lv, [], 0, 0) :: gs, h4399, none)
          refine bp_ld (pc' := 208) bu_77_207 rfl rfl (fun _ _ _ => rfl) g0 rfl ?_
          refine bp_c (pc' := 209) (n := 0) bu_77_208 rfl rfl (fun _ _ _ => rfl) (by decide) (fun c4403 e4404 => ?_)
          refine bn_pf (pc' := 212) (K := 8854) bu_77_209 rfl rfl (fun _ _ _ => rfl) hP4401 rz_o88 rz_i88_54 rfl rfl (fun h4405 s4406 hP4407 e4408 f4409 => ?_)
          refine bp_ld (pc' := 213) bu_77_212 rfl rfl (fun _ _ _ => rfl) g0 rfl ?_
          refine bp_c (pc' := 214) (n := 0) bu_77_213 rfl rfl (fun _ _ _ => rfl) (by decide) (fun c4410 e4411 => ?_)
          refine bn_pf (pc' := 217) (K := 8865) bu_77_214 rfl rfl (fun _ _ _ => rfl) hP4407 rz_o88 rz_i88_65 rfl rfl (fun h4412 s4413 hP4414 e4415 f4416 => ?_)
          refine bp_ld (pc' := 218) bu_77_217 rfl rfl (fun _ _ _ => rfl) g0 rfl ?_
          refine bp_c (pc' := 219) (n := 0) bu_77_218 rfl rfl (fun _ _ _ => rfl) (by decide) (fun c4417 e4418 => ?_)
          refine bn_pf (pc' := 222) (K := 8867) bu_77_219 rfl rfl (fun _ _ _ => rfl) hP4414 rz_o88 rz_i88_67 rfl rfl (fun h4419 s4420 hP4421 e4422 f4423 => ?_)
          refine bp_c (pc' := 223) (n := 0) bu_77_222 rfl rfl (fun _ _ _ => rfl) (by decide) (fun c4424 e4425 => ?_)
          refine bp_st (pc' := 224) bu_77_223 rfl rfl (fun _ _ _ => rfl) rfl (by decide) (by decide) (fun lv4426 F4427 g4428 => ?_)
          have g4429 := F4427 0 (.ref (E.1 + 88)) g0 (by decide) (Or.inl rfl)
          refine rr_77h (A0 := A4400) NN (fun h4430 A4431 lv4432 o4433 k4434 hP4435 a4436 hz4437 g4438 g4439 => ?_) _ _ _ _ _ hP4421 (fun _ _ => rfl) (fun j hj => by omega) g4429 g4428
          refine bp_c (pc' := 243) (n := 0) bu_77_242 rfl rfl (fun _ _ _ => rfl) (by decide) (fun c4440 e4441 => ?_)
          refine bp_ri bu_77_243 ?_
          have z8817 := congrArg Int32.toInt ((f4423 8817 (by decide)).trans ((f4416 8817 (by decide)).trans ((f4409 8817 (by decide)).trans ((f4397 8817 (by decide) (by decide)).trans ((f4392 8817 (by decide)).trans e4384)))))
          have f2 := ((f4423 8802 (by decide)).trans ((f4416 8802 (by decide)).trans ((f4409 8802 (by decide)).trans ((f4397 8802 (by decide) (by decide)).trans ((f4392 8802 (by decide)).trans (f4385 8802 (by decide)))))))
          have hz0 := hR.2.1
          refine kk _ _ _ _ _ hP4435 (by unfold py_ft; first | (rw [if_pos (by omega)]; omega) | (rw [if_neg (by omega)]; omega)) (by unfold py_pl; first | (rw [if_pos (by omega)]; omega) | (rw [if_neg (by omega), if_pos (by omega)]; omega) | (rw [if_neg (by omega), if_neg (by omega)]; omega)) (by rw [f2]; exact hy0) rfl ?_ ?_ ?_
          · intro c c1 c2
            exact (((a4436 c (by omega)).trans (a4402 c (by omega))).trans (a4398 c (by omega)))
          · intro _
            have z8865 := congrArg Int32.toInt ((f4423 8865 (by decide)).trans e4415)
            refine ⟨((f4423 8818 (by decide)).trans ((f4416 8818 (by decide)).trans ((f4409 8818 (by decide)).trans ((f4397 8818 (by decide) (by decide)).trans e4391)))), ?_, by omega, fun j hj => hz4437 j (by omega)⟩
            rw [(((a4436 97 (by decide)).trans (a4402 97 (by decide))).trans (a4398 97 (by decide))), ((f4423 8818 (by decide)).trans ((f4416 8818 (by decide)).trans ((f4409 8818 (by decide)).trans ((f4397 8818 (by decide) (by decide)).trans e4391))))]
            exact (hz0 (by omega)).2.2.2.2.2.2.2.1
          · intro hne
            exfalso
            omega
        · replace k4387 : ¬ (((s 8815)).toInt ≤ 0) := k4387
          refine bp_ld (pc' := 187) bu_77_186 rfl rfl (fun _ _ _ => rfl) g0 rfl ?_
          refine bn_gi (pc' := 190) (K := 8815) bu_77_187 rfl rfl (fun _ _ _ => rfl) hP4383 rz_o88 rz_i88_15 rfl (f4385 8815 (by decide)) ?_
          refine bp_ri bu_77_190 ?_
          have z8817 := congrArg Int32.toInt e4384
          have f2 := (f4385 8802 (by decide))
          have hz0 := hR.2.1
          refine kk _ _ _ _ _ hP4383 (by unfold py_ft; first | (rw [if_pos (by omega)]; omega) | (rw [if_neg (by omega)]; omega)) (by unfold py_pl; first | (rw [if_pos (by omega)]; omega) | (rw [if_neg (by omega), if_pos (by omega)]; omega) | (rw [if_neg (by omega), if_neg (by omega)]; omega)) (by rw [f2]; exact hy0) rfl ?_ ?_ ?_
          · exact fun _ _ _ => rfl
          · intro he
            exfalso
            omega
          · intro _
            exact ⟨(f4385 8818 (by decide)), rfl, (f4385 8865 (by decide)), rfl⟩
      · replace k4386 : ¬ (((s 8813)).toInt ≤ 0) := k4386
        refine bp_ld (pc' := 175) bu_77_174 rfl rfl (fun _ _ _ => rfl) g0 rfl ?_
        refine bn_gi (pc' := 178) (K := 8813) bu_77_175 rfl rfl (fun _ _ _ => rfl) hP4383 rz_o88 rz_i88_13 rfl (f4385 8813 (by decide)) ?_
        refine bp_ri bu_77_178 ?_
        have z8817 := congrArg Int32.toInt e4384
        have f2 := (f4385 8802 (by decide))
        have hz0 := hR.2.1
        refine kk _ _ _ _ _ hP4383 (by unfold py_ft; first | (rw [if_pos (by omega)]; omega) | (rw [if_neg (by omega)]; omega)) (by unfold py_pl; first | (rw [if_pos (by omega)]; omega) | (rw [if_neg (by omega), if_pos (by omega)]; omega) | (rw [if_neg (by omega), if_neg (by omega)]; omega)) (by rw [f2]; exact hy0) rfl ?_ ?_ ?_
        · exact fun _ _ _ => rfl
        · intro he
          exfalso
          omega
        · intro _
          exact ⟨(f4385 8818 (by decide)), rfl, (f4385 8865 (by decide)), rfl⟩
    · replace k4378 : ¬ (((s 8815)).toInt ≤ 0) := k4378
      refine bp_ld (pc' := 157) bu_77_156 rfl rfl (fun _ _ _ => rfl) g0 rfl ?_
      refine bn_gi (pc' := 160) (K := 8816) bu_77_157 rfl rfl (fun _ _ _ => rfl) hP rz_o88 rz_i88_16 rfl rfl ?_
      refine bp_go (pc' := 164) bu_77_160 rfl ?_
      refine bn_pf (pc' := 167) (K := 8817) bu_77_164 rfl rfl (fun _ _ _ => rfl) hP rz_o88 rz_i88_17 rfl rfl (fun h4442 s4443 hP4444 e4445 f4446 => ?_)
      refine bp_ld (pc' := 168) bu_77_167 rfl rfl (fun _ _ _ => rfl) g0 rfl ?_
      refine bn_gi (pc' := 171) (K := 8813) bu_77_168 rfl rfl (fun _ _ _ => rfl) hP4444 rz_o88 rz_i88_13 rfl (f4446 8813 (by decide)) ?_
      refine bp_i0 (pc' := 174) (pt := 179) bu_77_171 rfl rfl (fun k4447 => ?_) (fun k4447 => ?_)
      · replace k4447 : ((s 8813)).toInt ≤ 0 := k4447
        refine bp_ld (pc' := 180) bu_77_179 rfl rfl (fun _ _ _ => rfl) g0 rfl ?_
        refine bn_gi (pc' := 183) (K := 8815) bu_77_180 rfl rfl (fun _ _ _ => rfl) hP4444 rz_o88 rz_i88_15 rfl (f4446 8815 (by decide)) ?_
        refine bp_i0 (pc' := 186) (pt := 191) bu_77_183 rfl rfl (fun k4448 => ?_) (fun k4448 => ?_)
        · replace k4448 : ((s 8815)).toInt ≤ 0 := k4448
          refine bp_ld (pc' := 192) bu_77_191 rfl rfl (fun _ _ _ => rfl) g0 rfl ?_
          refine bp_ld (pc' := 193) bu_77_192 rfl rfl (fun _ _ _ => rfl) g0 rfl ?_
          refine bn_gi (pc' := 196) (K := 8819) bu_77_193 rfl rfl (fun _ _ _ => rfl) hP4444 rz_o88 rz_i88_19 rfl (f4446 8819 (by decide)) ?_
          refine bn_pf (pc' := 199) (K := 8818) bu_77_196 rfl rfl (fun _ _ _ => rfl) hP4444 rz_o88 rz_i88_18 rfl rfl (fun h4449 s4450 hP4451 e4452 f4453 => ?_)
          refine bp_ld (pc' := 200) bu_77_199 rfl rfl (fun _ _ _ => rfl) g0 rfl ?_
          refine bn_cvF (pc' := 203) (st := []) (args := []) bu_77_200 rfl rfl rfl (by decide) hP4451 rz_o88 (by decide) rfl (Nat.le_of_ble_eq_true rfl) (Nat.le_of_ble_eq_true rfl) ?_
          refine rr_7 hP4451 (fun h4454 s4455 A4456 hP4457 f4458 a4459 => ?_)
          show bp_G E PO NN ((77, 203, lv, [], 0, 0) :: gs, h4454, none)
          refine bp_ld (pc' := 204) bu_77_203 rfl rfl (fun _ _ _ => rfl) g0 rfl ?_
          refine bn_cvF (pc' := 207) (st := []) (args := []) bu_77_204 rfl rfl rfl (by decide) hP4457 rz_o88 (by decide) rfl (Nat.le_of_ble_eq_true rfl) (Nat.le_of_ble_eq_true rfl) ?_
          refine rr_56 hP4457 (fun h4460 A4461 hP4462 a4463 => ?_)
          show bp_G E PO NN ((77, 207, lv, [], 0, 0) :: gs, h4460, none)
          refine bp_ld (pc' := 208) bu_77_207 rfl rfl (fun _ _ _ => rfl) g0 rfl ?_
          refine bp_c (pc' := 209) (n := 0) bu_77_208 rfl rfl (fun _ _ _ => rfl) (by decide) (fun c4464 e4465 => ?_)
          refine bn_pf (pc' := 212) (K := 8854) bu_77_209 rfl rfl (fun _ _ _ => rfl) hP4462 rz_o88 rz_i88_54 rfl rfl (fun h4466 s4467 hP4468 e4469 f4470 => ?_)
          refine bp_ld (pc' := 213) bu_77_212 rfl rfl (fun _ _ _ => rfl) g0 rfl ?_
          refine bp_c (pc' := 214) (n := 0) bu_77_213 rfl rfl (fun _ _ _ => rfl) (by decide) (fun c4471 e4472 => ?_)
          refine bn_pf (pc' := 217) (K := 8865) bu_77_214 rfl rfl (fun _ _ _ => rfl) hP4468 rz_o88 rz_i88_65 rfl rfl (fun h4473 s4474 hP4475 e4476 f4477 => ?_)
          refine bp_ld (pc' := 218) bu_77_217 rfl rfl (fun _ _ _ => rfl) g0 rfl ?_
          refine bp_c (pc' := 219) (n := 0) bu_77_218 rfl rfl (fun _ _ _ => rfl) (by decide) (fun c4478 e4479 => ?_)
          refine bn_pf (pc' := 222) (K := 8867) bu_77_219 rfl rfl (fun _ _ _ => rfl) hP4475 rz_o88 rz_i88_67 rfl rfl (fun h4480 s4481 hP4482 e4483 f4484 => ?_)
          refine bp_c (pc' := 223) (n := 0) bu_77_222 rfl rfl (fun _ _ _ => rfl) (by decide) (fun c4485 e4486 => ?_)
          refine bp_st (pc' := 224) bu_77_223 rfl rfl (fun _ _ _ => rfl) rfl (by decide) (by decide) (fun lv4487 F4488 g4489 => ?_)
          have g4490 := F4488 0 (.ref (E.1 + 88)) g0 (by decide) (Or.inl rfl)
          refine rr_77h (A0 := A4461) NN (fun h4491 A4492 lv4493 o4494 k4495 hP4496 a4497 hz4498 g4499 g4500 => ?_) _ _ _ _ _ hP4482 (fun _ _ => rfl) (fun j hj => by omega) g4490 g4489
          refine bp_c (pc' := 243) (n := 0) bu_77_242 rfl rfl (fun _ _ _ => rfl) (by decide) (fun c4501 e4502 => ?_)
          refine bp_ri bu_77_243 ?_
          have z8817 := congrArg Int32.toInt ((f4484 8817 (by decide)).trans ((f4477 8817 (by decide)).trans ((f4470 8817 (by decide)).trans ((f4458 8817 (by decide) (by decide)).trans ((f4453 8817 (by decide)).trans e4445)))))
          have f2 := ((f4484 8802 (by decide)).trans ((f4477 8802 (by decide)).trans ((f4470 8802 (by decide)).trans ((f4458 8802 (by decide) (by decide)).trans ((f4453 8802 (by decide)).trans (f4446 8802 (by decide)))))))
          have hz0 := hR.2.1
          refine kk _ _ _ _ _ hP4496 (by unfold py_ft; first | (rw [if_pos (by omega)]; omega) | (rw [if_neg (by omega)]; omega)) (by unfold py_pl; first | (rw [if_pos (by omega)]; omega) | (rw [if_neg (by omega), if_pos (by omega)]; omega) | (rw [if_neg (by omega), if_neg (by omega)]; omega)) (by rw [f2]; exact hy0) rfl ?_ ?_ ?_
          · intro c c1 c2
            exact (((a4497 c (by omega)).trans (a4463 c (by omega))).trans (a4459 c (by omega)))
          · intro _
            have z8865 := congrArg Int32.toInt ((f4484 8865 (by decide)).trans e4476)
            refine ⟨((f4484 8818 (by decide)).trans ((f4477 8818 (by decide)).trans ((f4470 8818 (by decide)).trans ((f4458 8818 (by decide) (by decide)).trans e4452)))), ?_, by omega, fun j hj => hz4498 j (by omega)⟩
            rw [(((a4497 97 (by decide)).trans (a4463 97 (by decide))).trans (a4459 97 (by decide))), ((f4484 8818 (by decide)).trans ((f4477 8818 (by decide)).trans ((f4470 8818 (by decide)).trans ((f4458 8818 (by decide) (by decide)).trans e4452))))]
            exact (hz0 (by omega)).2.2.2.2.2.2.2.1
          · intro hne
            exfalso
            omega
        · replace k4448 : ¬ (((s 8815)).toInt ≤ 0) := k4448
          refine bp_ld (pc' := 187) bu_77_186 rfl rfl (fun _ _ _ => rfl) g0 rfl ?_
          refine bn_gi (pc' := 190) (K := 8815) bu_77_187 rfl rfl (fun _ _ _ => rfl) hP4444 rz_o88 rz_i88_15 rfl (f4446 8815 (by decide)) ?_
          refine bp_ri bu_77_190 ?_
          have z8817 := congrArg Int32.toInt e4445
          have f2 := (f4446 8802 (by decide))
          have hz0 := hR.2.1
          refine kk _ _ _ _ _ hP4444 (by unfold py_ft; first | (rw [if_pos (by omega)]; omega) | (rw [if_neg (by omega)]; omega)) (by unfold py_pl; first | (rw [if_pos (by omega)]; omega) | (rw [if_neg (by omega), if_pos (by omega)]; omega) | (rw [if_neg (by omega), if_neg (by omega)]; omega)) (by rw [f2]; exact hy0) rfl ?_ ?_ ?_
          · exact fun _ _ _ => rfl
          · intro he
            exfalso
            omega
          · intro _
            exact ⟨(f4446 8818 (by decide)), rfl, (f4446 8865 (by decide)), rfl⟩
      · replace k4447 : ¬ (((s 8813)).toInt ≤ 0) := k4447
        refine bp_ld (pc' := 175) bu_77_174 rfl rfl (fun _ _ _ => rfl) g0 rfl ?_
        refine bn_gi (pc' := 178) (K := 8813) bu_77_175 rfl rfl (fun _ _ _ => rfl) hP4444 rz_o88 rz_i88_13 rfl (f4446 8813 (by decide)) ?_
        refine bp_ri bu_77_178 ?_
        have z8817 := congrArg Int32.toInt e4445
        have f2 := (f4446 8802 (by decide))
        have hz0 := hR.2.1
        refine kk _ _ _ _ _ hP4444 (by unfold py_ft; first | (rw [if_pos (by omega)]; omega) | (rw [if_neg (by omega)]; omega)) (by unfold py_pl; first | (rw [if_pos (by omega)]; omega) | (rw [if_neg (by omega), if_pos (by omega)]; omega) | (rw [if_neg (by omega), if_neg (by omega)]; omega)) (by rw [f2]; exact hy0) rfl ?_ ?_ ?_
        · exact fun _ _ _ => rfl
        · intro he
          exfalso
          omega
        · intro _
          exact ⟨(f4446 8818 (by decide)), rfl, (f4446 8865 (by decide)), rfl⟩
  · replace k4377 : ¬ (((s 8813)).toInt ≤ 0) := k4377
    refine bp_ld (pc' := 143) bu_77_142 rfl rfl (fun _ _ _ => rfl) g0 rfl ?_
    refine bn_gi (pc' := 146) (K := 8814) bu_77_143 rfl rfl (fun _ _ _ => rfl) hP rz_o88 rz_i88_14 rfl rfl ?_
    refine bp_go (pc' := 164) bu_77_146 rfl ?_
    refine bn_pf (pc' := 167) (K := 8817) bu_77_164 rfl rfl (fun _ _ _ => rfl) hP rz_o88 rz_i88_17 rfl rfl (fun h4503 s4504 hP4505 e4506 f4507 => ?_)
    refine bp_ld (pc' := 168) bu_77_167 rfl rfl (fun _ _ _ => rfl) g0 rfl ?_
    refine bn_gi (pc' := 171) (K := 8813) bu_77_168 rfl rfl (fun _ _ _ => rfl) hP4505 rz_o88 rz_i88_13 rfl (f4507 8813 (by decide)) ?_
    refine bp_i0 (pc' := 174) (pt := 179) bu_77_171 rfl rfl (fun k4508 => ?_) (fun k4508 => ?_)
    · replace k4508 : ((s 8813)).toInt ≤ 0 := k4508
      refine bp_ld (pc' := 180) bu_77_179 rfl rfl (fun _ _ _ => rfl) g0 rfl ?_
      refine bn_gi (pc' := 183) (K := 8815) bu_77_180 rfl rfl (fun _ _ _ => rfl) hP4505 rz_o88 rz_i88_15 rfl (f4507 8815 (by decide)) ?_
      refine bp_i0 (pc' := 186) (pt := 191) bu_77_183 rfl rfl (fun k4509 => ?_) (fun k4509 => ?_)
      · replace k4509 : ((s 8815)).toInt ≤ 0 := k4509
        refine bp_ld (pc' := 192) bu_77_191 rfl rfl (fun _ _ _ => rfl) g0 rfl ?_
        refine bp_ld (pc' := 193) bu_77_192 rfl rfl (fun _ _ _ => rfl) g0 rfl ?_
        refine bn_gi (pc' := 196) (K := 8819) bu_77_193 rfl rfl (fun _ _ _ => rfl) hP4505 rz_o88 rz_i88_19 rfl (f4507 8819 (by decide)) ?_
        refine bn_pf (pc' := 199) (K := 8818) bu_77_196 rfl rfl (fun _ _ _ => rfl) hP4505 rz_o88 rz_i88_18 rfl rfl (fun h4510 s4511 hP4512 e4513 f4514 => ?_)
        refine bp_ld (pc' := 200) bu_77_199 rfl rfl (fun _ _ _ => rfl) g0 rfl ?_
        refine bn_cvF (pc' := 203) (st := []) (args := []) bu_77_200 rfl rfl rfl (by decide) hP4512 rz_o88 (by decide) rfl (Nat.le_of_ble_eq_true rfl) (Nat.le_of_ble_eq_true rfl) ?_
        refine rr_7 hP4512 (fun h4515 s4516 A4517 hP4518 f4519 a4520 => ?_)
        show bp_G E PO NN ((77, 203, lv, [], 0, 0) :: gs, h4515, none)
        refine bp_ld (pc' := 204) bu_77_203 rfl rfl (fun _ _ _ => rfl) g0 rfl ?_
        refine bn_cvF (pc' := 207) (st := []) (args := []) bu_77_204 rfl rfl rfl (by decide) hP4518 rz_o88 (by decide) rfl (Nat.le_of_ble_eq_true rfl) (Nat.le_of_ble_eq_true rfl) ?_
        refine rr_56 hP4518 (fun h4521 A4522 hP4523 a4524 => ?_)
        show bp_G E PO NN ((77, 207, lv, [], 0, 0) :: gs, h4521, none)
        refine bp_ld (pc' := 208) bu_77_207 rfl rfl (fun _ _ _ => rfl) g0 rfl ?_
        refine bp_c (pc' := 209) (n := 0) bu_77_208 rfl rfl (fun _ _ _ => rfl) (by decide) (fun c4525 e4526 => ?_)
        refine bn_pf (pc' := 212) (K := 8854) bu_77_209 rfl rfl (fun _ _ _ => rfl) hP4523 rz_o88 rz_i88_54 rfl rfl (fun h4527 s4528 hP4529 e4530 f4531 => ?_)
        refine bp_ld (pc' := 213) bu_77_212 rfl rfl (fun _ _ _ => rfl) g0 rfl ?_
        refine bp_c (pc' := 214) (n := 0) bu_77_213 rfl rfl (fun _ _ _ => rfl) (by decide) (fun c4532 e4533 => ?_)
        refine bn_pf (pc' := 217) (K := 8865) bu_77_214 rfl rfl (fun _ _ _ => rfl) hP4529 rz_o88 rz_i88_65 rfl rfl (fun h4534 s4535 hP4536 e4537 f4538 => ?_)
        refine bp_ld (pc' := 218) bu_77_217 rfl rfl (fun _ _ _ => rfl) g0 rfl ?_
        refine bp_c (pc' := 219) (n := 0) bu_77_218 rfl rfl (fun _ _ _ => rfl) (by decide) (fun c4539 e4540 => ?_)
        refine bn_pf (pc' := 222) (K := 8867) bu_77_219 rfl rfl (fun _ _ _ => rfl) hP4536 rz_o88 rz_i88_67 rfl rfl (fun h4541 s4542 hP4543 e4544 f4545 => ?_)
        refine bp_c (pc' := 223) (n := 0) bu_77_222 rfl rfl (fun _ _ _ => rfl) (by decide) (fun c4546 e4547 => ?_)
        refine bp_st (pc' := 224) bu_77_223 rfl rfl (fun _ _ _ => rfl) rfl (by decide) (by decide) (fun lv4548 F4549 g4550 => ?_)
        have g4551 := F4549 0 (.ref (E.1 + 88)) g0 (by decide) (Or.inl rfl)
        refine rr_77h (A0 := A4522) NN (fun h4552 A4553 lv4554 o4555 k4556 hP4557 a4558 hz4559 g4560 g4561 => ?_) _ _ _ _ _ hP4543 (fun _ _ => rfl) (fun j hj => by omega) g4551 g4550
        refine bp_c (pc' := 243) (n := 0) bu_77_242 rfl rfl (fun _ _ _ => rfl) (by decide) (fun c4562 e4563 => ?_)
        refine bp_ri bu_77_243 ?_
        have z8817 := congrArg Int32.toInt ((f4545 8817 (by decide)).trans ((f4538 8817 (by decide)).trans ((f4531 8817 (by decide)).trans ((f4519 8817 (by decide) (by decide)).trans ((f4514 8817 (by decide)).trans e4506)))))
        have f2 := ((f4545 8802 (by decide)).trans ((f4538 8802 (by decide)).trans ((f4531 8802 (by decide)).trans ((f4519 8802 (by decide) (by decide)).trans ((f4514 8802 (by decide)).trans (f4507 8802 (by decide)))))))
        have hz0 := hR.2.1
        refine kk _ _ _ _ _ hP4557 (by unfold py_ft; first | (rw [if_pos (by omega)]; omega) | (rw [if_neg (by omega)]; omega)) (by unfold py_pl; first | (rw [if_pos (by omega)]; omega) | (rw [if_neg (by omega), if_pos (by omega)]; omega) | (rw [if_neg (by omega), if_neg (by omega)]; omega)) (by rw [f2]; exact hy0) rfl ?_ ?_ ?_
        · intro c c1 c2
          exact (((a4558 c (by omega)).trans (a4524 c (by omega))).trans (a4520 c (by omega)))
        · intro _
          have z8865 := congrArg Int32.toInt ((f4545 8865 (by decide)).trans e4537)
          refine ⟨((f4545 8818 (by decide)).trans ((f4538 8818 (by decide)).trans ((f4531 8818 (by decide)).trans ((f4519 8818 (by decide) (by decide)).trans e4513)))), ?_, by omega, fun j hj => hz4559 j (by omega)⟩
          rw [(((a4558 97 (by decide)).trans (a4524 97 (by decide))).trans (a4520 97 (by decide))), ((f4545 8818 (by decide)).trans ((f4538 8818 (by decide)).trans ((f4531 8818 (by decide)).trans ((f4519 8818 (by decide) (by decide)).trans e4513))))]
          exact (hz0 (by omega)).2.2.2.2.2.2.2.1
        · intro hne
          exfalso
          omega
      · replace k4509 : ¬ (((s 8815)).toInt ≤ 0) := k4509
        refine bp_ld (pc' := 187) bu_77_186 rfl rfl (fun _ _ _ => rfl) g0 rfl ?_
        refine bn_gi (pc' := 190) (K := 8815) bu_77_187 rfl rfl (fun _ _ _ => rfl) hP4505 rz_o88 rz_i88_15 rfl (f4507 8815 (by decide)) ?_
        refine bp_ri bu_77_190 ?_
        have z8817 := congrArg Int32.toInt e4506
        have f2 := (f4507 8802 (by decide))
        have hz0 := hR.2.1
        refine kk _ _ _ _ _ hP4505 (by unfold py_ft; first | (rw [if_pos (by omega)]; omega) | (rw [if_neg (by omega)]; omega)) (by unfold py_pl; first | (rw [if_pos (by omega)]; omega) | (rw [if_neg (by omega), if_pos (by omega)]; omega) | (rw [if_neg (by omega), if_neg (by omega)]; omega)) (by rw [f2]; exact hy0) rfl ?_ ?_ ?_
        · exact fun _ _ _ => rfl
        · intro he
          exfalso
          omega
        · intro _
          exact ⟨(f4507 8818 (by decide)), rfl, (f4507 8865 (by decide)), rfl⟩
    · replace k4508 : ¬ (((s 8813)).toInt ≤ 0) := k4508
      refine bp_ld (pc' := 175) bu_77_174 rfl rfl (fun _ _ _ => rfl) g0 rfl ?_
      refine bn_gi (pc' := 178) (K := 8813) bu_77_175 rfl rfl (fun _ _ _ => rfl) hP4505 rz_o88 rz_i88_13 rfl (f4507 8813 (by decide)) ?_
      refine bp_ri bu_77_178 ?_
      have z8817 := congrArg Int32.toInt e4506
      have f2 := (f4507 8802 (by decide))
      have hz0 := hR.2.1
      refine kk _ _ _ _ _ hP4505 (by unfold py_ft; first | (rw [if_pos (by omega)]; omega) | (rw [if_neg (by omega)]; omega)) (by unfold py_pl; first | (rw [if_pos (by omega)]; omega) | (rw [if_neg (by omega), if_pos (by omega)]; omega) | (rw [if_neg (by omega), if_neg (by omega)]; omega)) (by rw [f2]; exact hy0) rfl ?_ ?_ ?_
      · exact fun _ _ _ => rfl
      · intro he
        exfalso
        omega
      · intro _
        exact ⟨(f4507 8818 (by decide)), rfl, (f4507 8865 (by decide)), rfl⟩
set_option maxHeartbeats 4000000 in
theorem rr_77 {X : Nat → Int32} {n : Nat} (hP : bm_P rz_T E h0 h s A L) (hn : (s 8802).toInt = (n : Int)) (hX : ∀ j, j < n → (A 89 j).toInt % 256 = (X j).toInt % 256) (hn2 : n ≤ 2000) (hky : ∀ j, j < 24 → (L 95 j).toInt = (px_ky j : Nat)) (hlv : 0 ≤ (s 8818).toInt ∧ (s 8818).toInt ≤ 1) (kk : ∀ (h' : mm_H) (s' : Nat → Int32) (A' : Nat → Nat → Int32) (L' : Nat → Nat → Int64) (r : Int32), bm_P rz_T E h0 h' s' A' L' → r.toInt = (py_ft (py_end (fun j => px_kd X n (px_at X n j)) (fun j => px_vl X n (px_at X n j)) (rq_Q X n)) : Int) → (s' 8817).toInt = py_pl (fun j => px_at X n j) (py_end (fun j => px_kd X n (px_at X n j)) (fun j => px_vl X n (px_at X n j)) (rq_Q X n)) → (s' 8802).toInt = 0 → L' 95 = L 95 → (r.toInt = 0 → ((A' 97 (s' 8818).toInt.toNat).toInt = ((py_end (fun j => px_kd X n (px_at X n j)) (fun j => px_vl X n (px_at X n j)) (rq_Q X n)).2.2.2.2.length : Int) ∧ (s' 8865).toInt = 0 ∧ ∀ j, j < 3 → (A' 131 j).toInt = 0) ∧ rq_O (fun j => px_vl X n (px_at X n j)) ((py_end (fun j => px_kd X n (px_at X n j)) (fun j => px_vl X n (px_at X n j)) (rq_Q X n))).2.2.2.2 (py_wend (fun j => px_kd X n (px_at X n j)) (fun j => px_vl X n (px_at X n j)) (rq_Q X n)) (s' 8818).toInt.toNat A') → (r.toInt ≠ 0 → s' 8818 = s 8818 ∧ (∀ c j, 97 ≤ c → c ≤ 105 → rq_own (s 8818).toInt.toNat c j → A' c j = A c j) ∧ s' 8865 = s 8865 ∧ A' 131 = A 131) → bp_G E PO NN (mm_back (some (.int r)) gs h')) : bp_G E PO NN ((77, 0, [(0, .ref (E.1 + 88))], [], 0, 0) :: gs, h, none) := by
  refine bp_ld (pc' := 1) bu_77_0 rfl rfl (fun _ _ _ => rfl) rfl rfl ?_
  refine bp_ld (pc' := 2) bu_77_1 rfl rfl (fun _ _ _ => rfl) rfl rfl ?_
  refine bn_gi (pc' := 5) (K := 8802) bu_77_2 rfl rfl (fun _ _ _ => rfl) hP rz_o88 rz_i88_2 rfl rfl ?_
  refine bn_pf (pc' := 8) (K := 8804) bu_77_5 rfl rfl (fun _ _ _ => rfl) hP rz_o88 rz_i88_4 rfl rfl (fun h4564 s4565 hP4566 e4567 f4568 => ?_)
  refine bp_c (pc' := 9) (n := 0) bu_77_8 rfl rfl (fun _ _ _ => rfl) (by decide) (fun c4569 e4570 => ?_)
  refine bp_st (pc' := 10) bu_77_9 rfl rfl (fun _ _ _ => rfl) rfl (by decide) (by decide) (fun lv4571 F4572 g4573 => ?_)
  have g4574 := F4572 0 (.ref (E.1 + 88)) rfl (by decide) (Or.inl rfl)
  have z8804 := congrArg Int32.toInt e4567
  refine rr_77a (A0 := A) NN (fun h4575 A4576 lv4577 o4578 hP4579 a4580 b4581 g4582 => ?_) _ _ _ _ _ hP4566 (fun _ _ => rfl) (fun j hj => by omega) g4574 g4573
  have hXc : ∀ j, px_c (A4576 90) n j = px_c X n j := px_c_g (fun j hj => (b4581 j (by omega)).trans (hX j hj))
  refine bp_ld (pc' := 37) bu_77_36 rfl rfl (fun _ _ _ => rfl) g4582 rfl ?_
  refine bp_c (pc' := 38) (n := 0) bu_77_37 rfl rfl (fun _ _ _ => rfl) (by decide) (fun c4583 e4584 => ?_)
  refine bn_pf (pc' := 41) (K := 8802) bu_77_38 rfl rfl (fun _ _ _ => rfl) hP4579 rz_o88 rz_i88_2 rfl rfl (fun h4585 s4586 hP4587 e4588 f4589 => ?_)
  refine bp_ld (pc' := 42) bu_77_41 rfl rfl (fun _ _ _ => rfl) g4582 rfl ?_
  refine bn_cvF (pc' := 45) (st := []) (args := []) bu_77_42 rfl rfl rfl (by decide) hP4587 rz_o88 (by decide) rfl (Nat.le_of_ble_eq_true rfl) (Nat.le_of_ble_eq_true rfl) ?_
  have z8804 := congrArg Int32.toInt ((f4589 8804 (by decide)).trans e4567)
  refine rr_19 (X := X) (n := n) hP4587 (by omega) hXc hn2 hky (fun h4590 s4591 A4592 L4593 M4594 hP4595 f4596 a4597 l4598 T4599 nm4600 => ?_)
  show bp_G E PO NN ((77, 45, lv4577, [], 0, 0) :: gs, h4590, none)
  refine bp_ld (pc' := 46) bu_77_45 rfl rfl (fun _ _ _ => rfl) g4582 rfl ?_
  refine bp_c (pc' := 47) (n := 0) bu_77_46 rfl rfl (fun _ _ _ => rfl) (by decide) (fun c4601 e4602 => ?_)
  refine bn_pf (pc' := 50) (K := 8811) bu_77_47 rfl rfl (fun _ _ _ => rfl) hP4595 rz_o88 rz_i88_11 rfl rfl (fun h4603 s4604 hP4605 e4606 f4607 => ?_)
  refine bp_ld (pc' := 51) bu_77_50 rfl rfl (fun _ _ _ => rfl) g4582 rfl ?_
  refine bp_c (pc' := 52) (n := 0) bu_77_51 rfl rfl (fun _ _ _ => rfl) (by decide) (fun c4608 e4609 => ?_)
  refine bn_pf (pc' := 55) (K := 8812) bu_77_52 rfl rfl (fun _ _ _ => rfl) hP4605 rz_o88 rz_i88_12 rfl rfl (fun h4610 s4611 hP4612 e4613 f4614 => ?_)
  refine bp_ld (pc' := 56) bu_77_55 rfl rfl (fun _ _ _ => rfl) g4582 rfl ?_
  refine bp_c (pc' := 57) (n := 0) bu_77_56 rfl rfl (fun _ _ _ => rfl) (by decide) (fun c4615 e4616 => ?_)
  refine bn_pf (pc' := 60) (K := 8813) bu_77_57 rfl rfl (fun _ _ _ => rfl) hP4612 rz_o88 rz_i88_13 rfl rfl (fun h4617 s4618 hP4619 e4620 f4621 => ?_)
  refine bp_ld (pc' := 61) bu_77_60 rfl rfl (fun _ _ _ => rfl) g4582 rfl ?_
  refine bp_c (pc' := 62) (n := 0) bu_77_61 rfl rfl (fun _ _ _ => rfl) (by decide) (fun c4622 e4623 => ?_)
  refine bn_pf (pc' := 65) (K := 8815) bu_77_62 rfl rfl (fun _ _ _ => rfl) hP4619 rz_o88 rz_i88_15 rfl rfl (fun h4624 s4625 hP4626 e4627 f4628 => ?_)
  refine bp_ld (pc' := 66) bu_77_65 rfl rfl (fun _ _ _ => rfl) g4582 rfl ?_
  refine bp_c (pc' := 67) (n := 1) bu_77_66 rfl rfl (fun _ _ _ => rfl) (by decide) (fun c4629 e4630 => ?_)
  refine bp_ld (pc' := 68) bu_77_67 rfl rfl (fun _ _ _ => rfl) g4582 rfl ?_
  refine bn_gi (pc' := 71) (K := 8818) bu_77_68 rfl rfl (fun _ _ _ => rfl) hP4626 rz_o88 rz_i88_18 rfl ((f4628 8818 (by decide)).trans ((f4621 8818 (by decide)).trans ((f4614 8818 (by decide)).trans ((f4607 8818 (by decide)).trans ((f4596 8818 (by decide)).trans ((f4589 8818 (by decide)).trans (f4568 8818 (by decide)))))))) ?_
  refine bn_subx (pc' := 72) bu_77_71 rfl (fun v4631 e4632 => ?_)
  refine bn_pf (pc' := 75) (K := 8819) bu_77_72 rfl rfl (fun _ _ _ => rfl) hP4626 rz_o88 rz_i88_19 rfl rfl (fun h4633 s4634 hP4635 e4636 f4637 => ?_)
  refine bp_ld (pc' := 76) bu_77_75 rfl rfl (fun _ _ _ => rfl) g4582 rfl ?_
  refine bp_c (pc' := 77) (n := 0) bu_77_76 rfl rfl (fun _ _ _ => rfl) (by decide) (fun c4638 e4639 => ?_)
  refine bn_pf (pc' := 80) (K := 8820) bu_77_77 rfl rfl (fun _ _ _ => rfl) hP4635 rz_o88 rz_i88_20 rfl rfl (fun h4640 s4641 hP4642 e4643 f4644 => ?_)
  refine bp_ld (pc' := 81) bu_77_80 rfl rfl (fun _ _ _ => rfl) g4582 rfl ?_
  refine bp_ld (pc' := 82) bu_77_81 rfl rfl (fun _ _ _ => rfl) g4582 rfl ?_
  refine bn_gi (pc' := 85) (K := 8819) bu_77_82 rfl rfl (fun _ _ _ => rfl) hP4642 rz_o88 rz_i88_19 rfl ((f4644 8819 (by decide)).trans e4636) ?_
  refine bn_cvF (pc' := 88) (st := []) (args := [.int v4631]) bu_77_85 rfl rfl rfl (by decide) hP4642 rz_o88 (by decide) rfl (Nat.le_of_ble_eq_true rfl) (Nat.le_of_ble_eq_true rfl) ?_
  refine rr_72 (a := v4631) hP4642 (fun h4645 A4646 hP4647 a4648 z4649 z4650 => ?_)
  show bp_G E PO NN ((77, 88, lv4577, [], 0, 0) :: gs, h4645, none)
  refine bp_ld (pc' := 89) bu_77_88 rfl rfl (fun _ _ _ => rfl) g4582 rfl ?_
  refine bp_c (pc' := 92) (n := 130) bu_77_89 rfl rfl (fun _ _ _ => rfl) (by decide) (fun c4651 e4652 => ?_)
  refine bp_ld (pc' := 93) bu_77_92 rfl rfl (fun _ _ _ => rfl) g4582 rfl ?_
  refine bn_gi (pc' := 96) (K := 8819) bu_77_93 rfl rfl (fun _ _ _ => rfl) hP4647 rz_o88 rz_i88_19 rfl ((f4644 8819 (by decide)).trans e4636) ?_
  refine bp_mulA (pc' := 97) bu_77_96 rfl (fun v4653 => ?_)
  refine bn_pf (pc' := 100) (K := 8833) bu_77_97 rfl rfl (fun _ _ _ => rfl) hP4647 rz_o88 rz_i88_33 rfl rfl (fun h4654 s4655 hP4656 e4657 f4658 => ?_)
  refine bp_ld (pc' := 101) bu_77_100 rfl rfl (fun _ _ _ => rfl) g4582 rfl ?_
  refine bp_c (pc' := 104) (n := 420) bu_77_101 rfl rfl (fun _ _ _ => rfl) (by decide) (fun c4659 e4660 => ?_)
  refine bp_ld (pc' := 105) bu_77_104 rfl rfl (fun _ _ _ => rfl) g4582 rfl ?_
  refine bn_gi (pc' := 108) (K := 8819) bu_77_105 rfl rfl (fun _ _ _ => rfl) hP4656 rz_o88 rz_i88_19 rfl ((f4658 8819 (by decide)).trans ((f4644 8819 (by decide)).trans e4636)) ?_
  refine bp_mulA (pc' := 109) bu_77_108 rfl (fun v4661 => ?_)
  refine bn_pf (pc' := 112) (K := 8839) bu_77_109 rfl rfl (fun _ _ _ => rfl) hP4656 rz_o88 rz_i88_39 rfl rfl (fun h4662 s4663 hP4664 e4665 f4666 => ?_)
  have z8811 := congrArg Int32.toInt ((f4666 8811 (by decide)).trans ((f4658 8811 (by decide)).trans ((f4644 8811 (by decide)).trans ((f4637 8811 (by decide)).trans ((f4628 8811 (by decide)).trans ((f4621 8811 (by decide)).trans ((f4614 8811 (by decide)).trans e4606)))))))
  have z8812 := congrArg Int32.toInt ((f4666 8812 (by decide)).trans ((f4658 8812 (by decide)).trans ((f4644 8812 (by decide)).trans ((f4637 8812 (by decide)).trans ((f4628 8812 (by decide)).trans ((f4621 8812 (by decide)).trans e4613))))))
  have z8813 := congrArg Int32.toInt ((f4666 8813 (by decide)).trans ((f4658 8813 (by decide)).trans ((f4644 8813 (by decide)).trans ((f4637 8813 (by decide)).trans ((f4628 8813 (by decide)).trans e4620)))))
  have z8815 := congrArg Int32.toInt ((f4666 8815 (by decide)).trans ((f4658 8815 (by decide)).trans ((f4644 8815 (by decide)).trans ((f4637 8815 (by decide)).trans e4627))))
  have z8820 := congrArg Int32.toInt ((f4666 8820 (by decide)).trans ((f4658 8820 (by decide)).trans e4643))
  have h19 : (s4663 8819) = v4631 := ((f4666 8819 (by decide)).trans ((f4658 8819 (by decide)).trans ((f4644 8819 (by decide)).trans e4636)))
  have hT9 : rq_T (fun j => px_kd X n (px_at X n j)) (fun j => px_vl X n (px_at X n j)) (fun j => (px_at X n j : Int)) M4594 A4646 := by
    unfold rq_T
    rw [a4648 91 (by decide) (by decide) (by decide) (by decide) (by decide) (by decide) (by decide) (by decide) (by decide) , a4648 92 (by decide) (by decide) (by decide) (by decide) (by decide) (by decide) (by decide) (by decide) (by decide) , a4648 93 (by decide) (by decide) (by decide) (by decide) (by decide) (by decide) (by decide) (by decide) (by decide) ]
    exact T4599
  have hR9 : rq_R (fun j => px_kd X n (px_at X n j)) (fun j => (px_at X n j : Int)) M4594 (0, 0, 0, 0, []) [] 0 0 s4663 A4646 L4593 := ⟨by show (s4663 8813).toInt = ((0 : Nat) : Int); omega, fun _ => ⟨by show (s4663 8811).toInt = ((0 : Nat) : Int); omega, T4599.2.1, by show (s4663 8815).toInt = ((0 : Nat) : Int); omega, fun q => absurd rfl q, by show (s4663 8820).toInt = ((0 : Nat) : Int); omega, Nat.zero_le _, fun i hi => absurd hi (Nat.not_lt_zero i), by rw [h19]; exact z4649.1, by show (s4663 8812).toInt = ((0 : Nat) : Int); omega⟩, fun q => absurd rfl q⟩
  have hy0 : (s4663 8802).toInt = 0 := by
    have z8802 := congrArg Int32.toInt ((f4666 8802 (by decide)).trans ((f4658 8802 (by decide)).trans ((f4644 8802 (by decide)).trans ((f4637 8802 (by decide)).trans ((f4628 8802 (by decide)).trans ((f4621 8802 (by decide)).trans ((f4614 8802 (by decide)).trans ((f4607 8802 (by decide)).trans ((f4596 8802 (by decide)).trans e4588)))))))))
    omega
  have hd9 : 0 ≤ (s4663 8819).toInt ∧ (s4663 8819).toInt ≤ 1 := by
    have d18 := hlv
    rw [h19]
    omega
  have hi9 : (s4663 8819).toInt.toNat = (v4631).toInt.toNat := by rw [h19]
  have hO0 : rq_O (fun j => px_vl X n (px_at X n j)) ([] : List Nat) (fun _ => 0) (s4663 8819).toInt.toNat A4646 := by
    rw [hi9]
    obtain ⟨-, z0, z1, z2, z3, z4, z5⟩ := z4649
    exact ⟨fun i hi => absurd hi (Nat.not_lt_zero i), z0, z1, z2, z3, z4, z5⟩
  refine rr_77l (τ := (py_end (fun j => px_kd X n (px_at X n j)) (fun j => px_vl X n (px_at X n j)) (rq_Q X n))) (ωτ := py_wend (fun j => px_kd X n (px_at X n j)) (fun j => px_vl X n (px_at X n j)) (rq_Q X n)) hT9 (fun j => px_kd_0) (rq_Qi nm4600) hd9 NN (fun h4667 s4668 A4669 L4670 lv4671 o4672 hP4673 F4674 R4675 g4676 hO4677 => ?_) _ _ _ _ _ _ _ 401 _ hP4664 rq_G_r hR9 g4582 (fun _ => by decide) rfl rfl (fun _ => hO0)
  refine rr_77e (Pn := fun j => px_at X n j) hP4673 R4675 g4676 (by rw [F4674.1.1]; exact hy0) (fun h' s' A' L' r a0 a1 a2 a3 a4 a9 a5 a6 => kk h' s' A' L' r a0 a1 a2 a3 ((a4.trans F4674.2.2.2.1).trans (l4598 95 (by decide))) (fun q => ⟨(a5 q).2, ?_⟩) (fun q => ?_))
  · rw [(a5 q).1, F4674.1.2.2.2.2]
    refine rq_O_s (hO4677 ?_) a9 (fun _ _ => rfl)
    unfold py_ft at a1
    by_cases u : ((py_end (fun j => px_kd X n (px_at X n j)) (fun j => px_vl X n (px_at X n j)) (rq_Q X n))).2.1 = 0
    · exact u
    · rw [if_pos u] at a1
      omega
  obtain ⟨b1, b2, b3, b4⟩ := a6 q
  have c18 : s4663 8818 = s 8818 := ((f4666 8818 (by decide)).trans ((f4658 8818 (by decide)).trans ((f4644 8818 (by decide)).trans ((f4637 8818 (by decide)).trans ((f4628 8818 (by decide)).trans ((f4621 8818 (by decide)).trans ((f4614 8818 (by decide)).trans ((f4607 8818 (by decide)).trans ((f4596 8818 (by decide)).trans ((f4589 8818 (by decide)).trans (f4568 8818 (by decide))))))))))))
  have c65 : s4663 8865 = s 8865 := ((f4666 8865 (by decide)).trans ((f4658 8865 (by decide)).trans ((f4644 8865 (by decide)).trans ((f4637 8865 (by decide)).trans ((f4628 8865 (by decide)).trans ((f4621 8865 (by decide)).trans ((f4614 8865 (by decide)).trans ((f4607 8865 (by decide)).trans ((f4596 8865 (by decide)).trans ((f4589 8865 (by decide)).trans (f4568 8865 (by decide))))))))))))
  have d18 := congrArg Int32.toInt c18
  have d19 := congrArg Int32.toInt h19
  refine ⟨b1.trans (F4674.1.2.2.2.1.trans c18), fun c j k1 k2 k3 => ?_, b3.trans (F4674.2.2.2.2.1.trans c65), b4.trans (F4674.2.2.2.2.2.1.trans ((a4648 131 (by decide) (by decide) (by decide) (by decide) (by decide) (by decide) (by decide) (by decide) (by decide) ).trans ((a4597 131 (by decide) (by decide) (by decide)).trans (a4580 131 (by decide)))))⟩
  have hne : ¬ rq_own (s4663 8819).toInt.toNat c j := by
    unfold rq_own at k3 ⊢
    omega
  rw [a9 c k1 k2, F4674.2.2.2.2.2.2 c j k1 k2 hne, z4650 c j k1 k2 (by unfold rq_own at k3; omega)]
  exact congrFun ((a4597 c (by omega) (by omega) (by omega)).trans (a4580 c (by omega))) _
end RQB
