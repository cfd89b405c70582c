/-! PARTIAL: the reference reads, exact, 2 (wip/p5/mkr8.py) -/
theorem bp_nar1 (x : Int32) : (mm_nar 1 x).toInt % 256 = x.toInt % 256 := by
  have e : mm_nar 1 x = x.toInt8.toInt32 := rfl
  rw [e, Int8.toInt_toInt32, Int32.toInt_toInt8]
  rw [Int.bmod_def]
  split <;> omega
theorem px_c_g {X Y : Nat → Int32} {n : Nat} (h : ∀ j, j < n → (X j).toInt % 256 = (Y j).toInt % 256) (j : Nat) : px_c X n j = px_c Y n j := by
  by_cases e : j < n
  · rw [px_c_in e, px_c_in e]
    exact h j e
  · rw [px_c_out e, px_c_out e]
theorem px_kd_0 {X : Nat → Int32} {n p : Nat} : 0 ≤ px_kd X n p := by
  unfold px_kd
  split
  · omega
  split
  · split
    · omega
    split <;> omega
  split
  · split <;> omega
  · unfold px_sg
    (repeat' split) <;> omega
/-- same names, by the reference's numbers -/
theorem px_kd_1 {X : Nat → Int32} {n p : Nat} (h : px_kd X n p = 1) : px_tl X n p = px_rn px_lt X n p - p := by
  have hp : p < n := by
    by_cases e : n ≤ p
    · rw [px_kd_e e] at h
      omega
    · omega
  by_cases hl : px_lt (px_c X n p) = true
  · exact px_tl_l hl
  · by_cases hd : px_dg (px_c X n p) = true
    · rw [px_kd_d hp hl hd] at h
      split at h <;> omega
    · rw [px_kd_s hp hl hd] at h
      exact absurd h px_sg_n.1
def rq_Q (X : Nat → Int32) (n : Nat) (i j : Nat) : Bool := px_sm X n (px_at X n i) (px_at X n j)
theorem rq_Qi {X : Nat → Int32} {n M : Nat} {L : Nat → Nat → Int64} (hN : ∀ j, j < M → px_kd X n (px_at X n j) = 1 → (L 94 j).toInt = (px_nm 27 X n (px_at X n j) (px_tl X n (px_at X n j)) : Nat)) : ∀ i j, i < M → j < M → px_kd X n (px_at X n i) = 1 → px_kd X n (px_at X n j) = 1 → (rq_Q X n i j = true ↔ L 94 i = L 94 j) := by
  intro i j hi hj ki kj
  have a := hN i hi ki
  have b := hN j hj kj
  rw [px_kd_1 ki] at a
  rw [px_kd_1 kj] at b
  unfold rq_Q
  rw [px_sm_iff (b := 27) (by decide), ← Int64.toInt_inj, a, b]
  exact Int.ofNat_inj.symm
theorem py_al_f {K V : Nat → Int} {Q : Nat → Nat → Bool} {σ : py_S} {r : Nat} (h : σ.2.1 ≠ 0) : py_al K V Q r σ = σ := py_al_e (fun q => h q.1)
theorem bu_77_0 : mm_at mt_P 77 0 = some ((0, 1, .aload_n 0, 0, 0, 0, 0), 2, 0, 1, 9, 1, 0, 0) := rfl
theorem bu_77_1 : mm_at mt_P 77 1 = some ((1, 1, .aload_n 0, 0, 0, 0, 0), 2, 0, 1, 9, 1, 0, 0) := rfl
theorem bu_77_2 : mm_at mt_P 77 2 = some ((2, 3, .getfield 166, 9, 2, 0, 1219), 2, 0, 1, 9, 1, 0, 0) := rfl
theorem bu_77_5 : mm_at mt_P 77 5 = some ((5, 3, .putfield 172, 9, 4, 0, 1221), 2, 0, 1, 9, 1, 0, 0) := rfl
theorem bu_77_8 : mm_at mt_P 77 8 = some ((8, 1, .iconst 0, 0, 0, 0, 0), 2, 0, 1, 9, 1, 0, 0) := rfl
theorem bu_77_9 : mm_at mt_P 77 9 = some ((9, 1, .istore_n 1, 0, 0, 0, 0), 2, 0, 1, 9, 1, 0, 0) := rfl
theorem bu_77_10 : mm_at mt_P 77 10 = some ((10, 1, .iload_n 1, 0, 0, 0, 0), 2, 0, 1, 9, 1, 0, 0) := rfl
theorem bu_77_11 : mm_at mt_P 77 11 = some ((11, 1, .aload_n 0, 0, 0, 0, 0), 2, 0, 1, 9, 1, 0, 0) := rfl
theorem bu_77_12 : mm_at mt_P 77 12 = some ((12, 3, .getfield 172, 9, 4, 0, 1221), 2, 0, 1, 9, 1, 0, 0) := rfl
theorem bu_77_15 : mm_at mt_P 77 15 = some ((15, 3, .if_icmp .ge 21, 0, 0, 0, 0), 2, 0, 1, 9, 1, 0, 0) := rfl
theorem bu_77_18 : mm_at mt_P 77 18 = some ((18, 1, .aload_n 0, 0, 0, 0, 0), 2, 0, 1, 9, 1, 0, 0) := rfl
theorem bu_77_19 : mm_at mt_P 77 19 = some ((19, 3, .getfield 17, 9, 3, 0, 1220), 2, 0, 1, 9, 1, 0, 0) := rfl
theorem bu_77_22 : mm_at mt_P 77 22 = some ((22, 1, .iload_n 1, 0, 0, 0, 0), 2, 0, 1, 9, 1, 0, 0) := rfl
theorem bu_77_23 : mm_at mt_P 77 23 = some ((23, 1, .aload_n 0, 0, 0, 0, 0), 2, 0, 1, 9, 1, 0, 0) := rfl
theorem bu_77_24 : mm_at mt_P 77 24 = some ((24, 3, .getfield 13, 9, 1, 0, 1218), 2, 0, 1, 9, 1, 0, 0) := rfl
theorem bu_77_27 : mm_at mt_P 77 27 = some ((27, 1, .iload_n 1, 0, 0, 0, 0), 2, 0, 1, 9, 1, 0, 0) := rfl
theorem bu_77_28 : mm_at mt_P 77 28 = some ((28, 1, .baload, 0, 0, 0, 0), 2, 0, 1, 9, 1, 0, 0) := rfl
theorem bu_77_29 : mm_at mt_P 77 29 = some ((29, 1, .bastore, 0, 0, 0, 0), 2, 0, 1, 9, 1, 0, 0) := rfl
theorem bu_77_30 : mm_at mt_P 77 30 = some ((30, 3, .iinc 1 1, 0, 0, 0, 0), 2, 0, 1, 9, 1, 0, 0) := rfl
theorem bu_77_33 : mm_at mt_P 77 33 = some ((33, 3, .goto (-23), 0, 0, 0, 0), 2, 0, 1, 9, 1, 0, 0) := rfl
theorem bu_77_36 : mm_at mt_P 77 36 = some ((36, 1, .aload_n 0, 0, 0, 0, 0), 2, 0, 1, 9, 1, 0, 0) := rfl
theorem bu_77_37 : mm_at mt_P 77 37 = some ((37, 1, .iconst 0, 0, 0, 0, 0), 2, 0, 1, 9, 1, 0, 0) := rfl
theorem bu_77_38 : mm_at mt_P 77 38 = some ((38, 3, .putfield 166, 9, 2, 0, 1219), 2, 0, 1, 9, 1, 0, 0) := rfl
theorem bu_77_41 : mm_at mt_P 77 41 = some ((41, 1, .aload_n 0, 0, 0, 0, 0), 2, 0, 1, 9, 1, 0, 0) := rfl
theorem bu_77_42 : mm_at mt_P 77 42 = some ((42, 3, .invokevirtual 227, 19, 0, 0, 1453), 2, 0, 1, 9, 1, 0, 0) := rfl
theorem bu_77_45 : mm_at mt_P 77 45 = some ((45, 1, .aload_n 0, 0, 0, 0, 0), 2, 0, 1, 9, 1, 0, 0) := rfl
theorem bu_77_46 : mm_at mt_P 77 46 = some ((46, 1, .iconst 0, 0, 0, 0, 0), 2, 0, 1, 9, 1, 0, 0) := rfl
theorem bu_77_47 : mm_at mt_P 77 47 = some ((47, 3, .putfield 206, 9, 11, 0, 1228), 2, 0, 1, 9, 1, 0, 0) := rfl
theorem bu_77_50 : mm_at mt_P 77 50 = some ((50, 1, .aload_n 0, 0, 0, 0, 0), 2, 0, 1, 9, 1, 0, 0) := rfl
theorem bu_77_51 : mm_at mt_P 77 51 = some ((51, 1, .iconst 0, 0, 0, 0, 0), 2, 0, 1, 9, 1, 0, 0) := rfl
theorem bu_77_52 : mm_at mt_P 77 52 = some ((52, 3, .putfield 230, 9, 12, 0, 1229), 2, 0, 1, 9, 1, 0, 0) := rfl
theorem bu_77_55 : mm_at mt_P 77 55 = some ((55, 1, .aload_n 0, 0, 0, 0, 0), 2, 0, 1, 9, 1, 0, 0) := rfl
theorem bu_77_56 : mm_at mt_P 77 56 = some ((56, 1, .iconst 0, 0, 0, 0, 0), 2, 0, 1, 9, 1, 0, 0) := rfl
theorem bu_77_57 : mm_at mt_P 77 57 = some ((57, 3, .putfield 203, 9, 13, 0, 1230), 2, 0, 1, 9, 1, 0, 0) := rfl
theorem bu_77_60 : mm_at mt_P 77 60 = some ((60, 1, .aload_n 0, 0, 0, 0, 0), 2, 0, 1, 9, 1, 0, 0) := rfl
theorem bu_77_61 : mm_at mt_P 77 61 = some ((61, 1, .iconst 0, 0, 0, 0, 0), 2, 0, 1, 9, 1, 0, 0) := rfl
theorem bu_77_62 : mm_at mt_P 77 62 = some ((62, 3, .putfield 212, 9, 15, 0, 1232), 2, 0, 1, 9, 1, 0, 0) := rfl
theorem bu_77_65 : mm_at mt_P 77 65 = some ((65, 1, .aload_n 0, 0, 0, 0, 0), 2, 0, 1, 9, 1, 0, 0) := rfl
theorem bu_77_66 : mm_at mt_P 77 66 = some ((66, 1, .iconst 1, 0, 0, 0, 0), 2, 0, 1, 9, 1, 0, 0) := rfl
theorem bu_77_67 : mm_at mt_P 77 67 = some ((67, 1, .aload_n 0, 0, 0, 0, 0), 2, 0, 1, 9, 1, 0, 0) := rfl
theorem bu_77_68 : mm_at mt_P 77 68 = some ((68, 3, .getfield 233, 9, 18, 0, 1235), 2, 0, 1, 9, 1, 0, 0) := rfl
theorem bu_77_71 : mm_at mt_P 77 71 = some ((71, 1, .isub, 0, 0, 0, 0), 2, 0, 1, 9, 1, 0, 0) := rfl
theorem bu_77_72 : mm_at mt_P 77 72 = some ((72, 3, .putfield 236, 9, 19, 0, 1236), 2, 0, 1, 9, 1, 0, 0) := rfl
theorem bu_77_75 : mm_at mt_P 77 75 = some ((75, 1, .aload_n 0, 0, 0, 0, 0), 2, 0, 1, 9, 1, 0, 0) := rfl
theorem bu_77_76 : mm_at mt_P 77 76 = some ((76, 1, .iconst 0, 0, 0, 0, 0), 2, 0, 1, 9, 1, 0, 0) := rfl
theorem bu_77_77 : mm_at mt_P 77 77 = some ((77, 3, .putfield 239, 9, 20, 0, 1237), 2, 0, 1, 9, 1, 0, 0) := rfl
theorem bu_77_80 : mm_at mt_P 77 80 = some ((80, 1, .aload_n 0, 0, 0, 0, 0), 2, 0, 1, 9, 1, 0, 0) := rfl
theorem bu_77_81 : mm_at mt_P 77 81 = some ((81, 1, .aload_n 0, 0, 0, 0, 0), 2, 0, 1, 9, 1, 0, 0) := rfl
theorem bu_77_82 : mm_at mt_P 77 82 = some ((82, 3, .getfield 236, 9, 19, 0, 1236), 2, 0, 1, 9, 1, 0, 0) := rfl
theorem bu_77_85 : mm_at mt_P 77 85 = some ((85, 3, .invokevirtual 152, 72, 0, 0, 1191), 2, 0, 1, 9, 1, 0, 0) := rfl
theorem bu_77_88 : mm_at mt_P 77 88 = some ((88, 1, .aload_n 0, 0, 0, 0, 0), 2, 0, 1, 9, 1, 0, 0) := rfl
theorem bu_77_89 : mm_at mt_P 77 89 = some ((89, 3, .sipush 130, 0, 0, 0, 0), 2, 0, 1, 9, 1, 0, 0) := rfl
theorem bu_77_92 : mm_at mt_P 77 92 = some ((92, 1, .aload_n 0, 0, 0, 0, 0), 2, 0, 1, 9, 1, 0, 0) := rfl
theorem bu_77_93 : mm_at mt_P 77 93 = some ((93, 3, .getfield 236, 9, 19, 0, 1236), 2, 0, 1, 9, 1, 0, 0) := rfl
theorem bu_77_96 : mm_at mt_P 77 96 = some ((96, 1, .imul, 0, 0, 0, 0), 2, 0, 1, 9, 1, 0, 0) := rfl
theorem bu_77_97 : mm_at mt_P 77 97 = some ((97, 3, .putfield 242, 9, 33, 0, 1250), 2, 0, 1, 9, 1, 0, 0) := rfl
theorem bu_77_100 : mm_at mt_P 77 100 = some ((100, 1, .aload_n 0, 0, 0, 0, 0), 2, 0, 1, 9, 1, 0, 0) := rfl
theorem bu_77_101 : mm_at mt_P 77 101 = some ((101, 3, .sipush 420, 0, 0, 0, 0), 2, 0, 1, 9, 1, 0, 0) := rfl
theorem bu_77_104 : mm_at mt_P 77 104 = some ((104, 1, .aload_n 0, 0, 0, 0, 0), 2, 0, 1, 9, 1, 0, 0) := rfl
theorem bu_77_105 : mm_at mt_P 77 105 = some ((105, 3, .getfield 236, 9, 19, 0, 1236), 2, 0, 1, 9, 1, 0, 0) := rfl
theorem bu_77_108 : mm_at mt_P 77 108 = some ((108, 1, .imul, 0, 0, 0, 0), 2, 0, 1, 9, 1, 0, 0) := rfl
theorem bu_77_109 : mm_at mt_P 77 109 = some ((109, 3, .putfield 245, 9, 39, 0, 1256), 2, 0, 1, 9, 1, 0, 0) := rfl
theorem bu_77_112 : mm_at mt_P 77 112 = some ((112, 1, .aload_n 0, 0, 0, 0, 0), 2, 0, 1, 9, 1, 0, 0) := rfl
theorem bu_77_113 : mm_at mt_P 77 113 = some ((113, 3, .getfield 203, 9, 13, 0, 1230), 2, 0, 1, 9, 1, 0, 0) := rfl
theorem bu_77_116 : mm_at mt_P 77 116 = some ((116, 3, .ifCond .ne 18, 0, 0, 0, 0), 2, 0, 1, 9, 1, 0, 0) := rfl
theorem bu_77_119 : mm_at mt_P 77 119 = some ((119, 1, .aload_n 0, 0, 0, 0, 0), 2, 0, 1, 9, 1, 0, 0) := rfl
theorem bu_77_120 : mm_at mt_P 77 120 = some ((120, 1, .iconst 0, 0, 0, 0, 0), 2, 0, 1, 9, 1, 0, 0) := rfl
theorem bu_77_121 : mm_at mt_P 77 121 = some ((121, 3, .invokevirtual 221, 45, 0, 0, 1475), 2, 0, 1, 9, 1, 0, 0) := rfl
theorem bu_77_124 : mm_at mt_P 77 124 = some ((124, 3, .ifCond .ne 10, 0, 0, 0, 0), 2, 0, 1, 9, 1, 0, 0) := rfl
theorem bu_77_127 : mm_at mt_P 77 127 = some ((127, 1, .aload_n 0, 0, 0, 0, 0), 2, 0, 1, 9, 1, 0, 0) := rfl
theorem bu_77_128 : mm_at mt_P 77 128 = some ((128, 3, .invokevirtual 248, 99, 0, 0, 1479), 2, 0, 1, 9, 1, 0, 0) := rfl
theorem bu_77_131 : mm_at mt_P 77 131 = some ((131, 3, .goto (-19), 0, 0, 0, 0), 2, 0, 1, 9, 1, 0, 0) := rfl
theorem bu_77_134 : mm_at mt_P 77 134 = some ((134, 1, .aload_n 0, 0, 0, 0, 0), 2, 0, 1, 9, 1, 0, 0) := rfl
theorem bu_77_135 : mm_at mt_P 77 135 = some ((135, 1, .aload_n 0, 0, 0, 0, 0), 2, 0, 1, 9, 1, 0, 0) := rfl
theorem bu_77_136 : mm_at mt_P 77 136 = some ((136, 3, .getfield 203, 9, 13, 0, 1230), 2, 0, 1, 9, 1, 0, 0) := rfl
theorem bu_77_139 : mm_at mt_P 77 139 = some ((139, 3, .ifCond .le 10, 0, 0, 0, 0), 2, 0, 1, 9, 1, 0, 0) := rfl
theorem bu_77_142 : mm_at mt_P 77 142 = some ((142, 1, .aload_n 0, 0, 0, 0, 0), 2, 0, 1, 9, 1, 0, 0) := rfl
theorem bu_77_143 : mm_at mt_P 77 143 = some ((143, 3, .getfield 209, 9, 14, 0, 1231), 2, 0, 1, 9, 1, 0, 0) := rfl
theorem bu_77_146 : mm_at mt_P 77 146 = some ((146, 3, .goto 18, 0, 0, 0, 0), 2, 0, 1, 9, 1, 0, 0) := rfl
theorem bu_77_149 : mm_at mt_P 77 149 = some ((149, 1, .aload_n 0, 0, 0, 0, 0), 2, 0, 1, 9, 1, 0, 0) := rfl
theorem bu_77_150 : mm_at mt_P 77 150 = some ((150, 3, .getfield 212, 9, 15, 0, 1232), 2, 0, 1, 9, 1, 0, 0) := rfl
theorem bu_77_153 : mm_at mt_P 77 153 = some ((153, 3, .ifCond .le 10, 0, 0, 0, 0), 2, 0, 1, 9, 1, 0, 0) := rfl
theorem bu_77_156 : mm_at mt_P 77 156 = some ((156, 1, .aload_n 0, 0, 0, 0, 0), 2, 0, 1, 9, 1, 0, 0) := rfl
theorem bu_77_157 : mm_at mt_P 77 157 = some ((157, 3, .getfield 215, 9, 16, 0, 1233), 2, 0, 1, 9, 1, 0, 0) := rfl
theorem bu_77_160 : mm_at mt_P 77 160 = some ((160, 3, .goto 4, 0, 0, 0, 0), 2, 0, 1, 9, 1, 0, 0) := rfl
theorem bu_77_163 : mm_at mt_P 77 163 = some ((163, 1, .iconst (-1), 0, 0, 0, 0), 2, 0, 1, 9, 1, 0, 0) := rfl
theorem bu_77_164 : mm_at mt_P 77 164 = some ((164, 3, .putfield 37, 9, 17, 0, 1234), 2, 0, 1, 9, 1, 0, 0) := rfl
theorem bu_77_167 : mm_at mt_P 77 167 = some ((167, 1, .aload_n 0, 0, 0, 0, 0), 2, 0, 1, 9, 1, 0, 0) := rfl
theorem bu_77_168 : mm_at mt_P 77 168 = some ((168, 3, .getfield 203, 9, 13, 0, 1230), 2, 0, 1, 9, 1, 0, 0) := rfl
theorem bu_77_171 : mm_at mt_P 77 171 = some ((171, 3, .ifCond .le 8, 0, 0, 0, 0), 2, 0, 1, 9, 1, 0, 0) := rfl
theorem bu_77_174 : mm_at mt_P 77 174 = some ((174, 1, .aload_n 0, 0, 0, 0, 0), 2, 0, 1, 9, 1, 0, 0) := rfl
theorem bu_77_175 : mm_at mt_P 77 175 = some ((175, 3, .getfield 203, 9, 13, 0, 1230), 2, 0, 1, 9, 1, 0, 0) := rfl
theorem bu_77_178 : mm_at mt_P 77 178 = some ((178, 1, .ireturn, 0, 0, 0, 0), 2, 0, 1, 9, 1, 0, 0) := rfl
theorem bu_77_179 : mm_at mt_P 77 179 = some ((179, 1, .aload_n 0, 0, 0, 0, 0), 2, 0, 1, 9, 1, 0, 0) := rfl
theorem bu_77_180 : mm_at mt_P 77 180 = some ((180, 3, .getfield 212, 9, 15, 0, 1232), 2, 0, 1, 9, 1, 0, 0) := rfl
theorem bu_77_183 : mm_at mt_P 77 183 = some ((183, 3, .ifCond .le 8, 0, 0, 0, 0), 2, 0, 1, 9, 1, 0, 0) := rfl
theorem bu_77_186 : mm_at mt_P 77 186 = some ((186, 1, .aload_n 0, 0, 0, 0, 0), 2, 0, 1, 9, 1, 0, 0) := rfl
theorem bu_77_187 : mm_at mt_P 77 187 = some ((187, 3, .getfield 212, 9, 15, 0, 1232), 2, 0, 1, 9, 1, 0, 0) := rfl
theorem bu_77_190 : mm_at mt_P 77 190 = some ((190, 1, .ireturn, 0, 0, 0, 0), 2, 0, 1, 9, 1, 0, 0) := rfl
theorem bu_77_191 : mm_at mt_P 77 191 = some ((191, 1, .aload_n 0, 0, 0, 0, 0), 2, 0, 1, 9, 1, 0, 0) := rfl
theorem bu_77_192 : mm_at mt_P 77 192 = some ((192, 1, .aload_n 0, 0, 0, 0, 0), 2, 0, 1, 9, 1, 0, 0) := rfl
theorem bu_77_193 : mm_at mt_P 77 193 = some ((193, 3, .getfield 236, 9, 19, 0, 1236), 2, 0, 1, 9, 1, 0, 0) := rfl
theorem bu_77_196 : mm_at mt_P 77 196 = some ((196, 3, .putfield 233, 9, 18, 0, 1235), 2, 0, 1, 9, 1, 0, 0) := rfl
theorem bu_77_199 : mm_at mt_P 77 199 = some ((199, 1, .aload_n 0, 0, 0, 0, 0), 2, 0, 1, 9, 1, 0, 0) := rfl
theorem bu_77_200 : mm_at mt_P 77 200 = some ((200, 3, .invokevirtual 160, 7, 0, 0, 1202), 2, 0, 1, 9, 1, 0, 0) := rfl
theorem bu_77_203 : mm_at mt_P 77 203 = some ((203, 1, .aload_n 0, 0, 0, 0, 0), 2, 0, 1, 9, 1, 0, 0) := rfl
theorem bu_77_204 : mm_at mt_P 77 204 = some ((204, 3, .invokevirtual 163, 56, 0, 0, 1214), 2, 0, 1, 9, 1, 0, 0) := rfl
theorem bu_77_207 : mm_at mt_P 77 207 = some ((207, 1, .aload_n 0, 0, 0, 0, 0), 2, 0, 1, 9, 1, 0, 0) := rfl
theorem bu_77_208 : mm_at mt_P 77 208 = some ((208, 1, .iconst 0, 0, 0, 0, 0), 2, 0, 1, 9, 1, 0, 0) := rfl
theorem bu_77_209 : mm_at mt_P 77 209 = some ((209, 3, .putfield 251, 9, 54, 0, 1271), 2, 0, 1, 9, 1, 0, 0) := rfl
theorem bu_77_212 : mm_at mt_P 77 212 = some ((212, 1, .aload_n 0, 0, 0, 0, 0), 2, 0, 1, 9, 1, 0, 0) := rfl
theorem bu_77_213 : mm_at mt_P 77 213 = some ((213, 1, .iconst 0, 0, 0, 0, 0), 2, 0, 1, 9, 1, 0, 0) := rfl
theorem bu_77_214 : mm_at mt_P 77 214 = some ((214, 3, .putfield 254, 9, 65, 0, 1282), 2, 0, 1, 9, 1, 0, 0) := rfl
theorem bu_77_217 : mm_at mt_P 77 217 = some ((217, 1, .aload_n 0, 0, 0, 0, 0), 2, 0, 1, 9, 1, 0, 0) := rfl
theorem bu_77_218 : mm_at mt_P 77 218 = some ((218, 1, .iconst 0, 0, 0, 0, 0), 2, 0, 1, 9, 1, 0, 0) := rfl
theorem bu_77_219 : mm_at mt_P 77 219 = some ((219, 3, .putfield 257, 9, 67, 0, 1284), 2, 0, 1, 9, 1, 0, 0) := rfl
theorem bu_77_222 : mm_at mt_P 77 222 = some ((222, 1, .iconst 0, 0, 0, 0, 0), 2, 0, 1, 9, 1, 0, 0) := rfl
theorem bu_77_223 : mm_at mt_P 77 223 = some ((223, 1, .istore_n 1, 0, 0, 0, 0), 2, 0, 1, 9, 1, 0, 0) := rfl
theorem bu_77_224 : mm_at mt_P 77 224 = some ((224, 1, .iload_n 1, 0, 0, 0, 0), 2, 0, 1, 9, 1, 0, 0) := rfl
theorem bu_77_225 : mm_at mt_P 77 225 = some ((225, 1, .iconst 3, 0, 0, 0, 0), 2, 0, 1, 9, 1, 0, 0) := rfl
theorem bu_77_226 : mm_at mt_P 77 226 = some ((226, 3, .if_icmp .ge 16, 0, 0, 0, 0), 2, 0, 1, 9, 1, 0, 0) := rfl
theorem bu_77_229 : mm_at mt_P 77 229 = some ((229, 1, .aload_n 0, 0, 0, 0, 0), 2, 0, 1, 9, 1, 0, 0) := rfl
theorem bu_77_230 : mm_at mt_P 77 230 = some ((230, 3, .getfield 146, 9, 71, 0, 1288), 2, 0, 1, 9, 1, 0, 0) := rfl
theorem bu_77_233 : mm_at mt_P 77 233 = some ((233, 1, .iload_n 1, 0, 0, 0, 0), 2, 0, 1, 9, 1, 0, 0) := rfl
theorem bu_77_234 : mm_at mt_P 77 234 = some ((234, 1, .iconst 0, 0, 0, 0, 0), 2, 0, 1, 9, 1, 0, 0) := rfl
theorem bu_77_235 : mm_at mt_P 77 235 = some ((235, 1, .bastore, 0, 0, 0, 0), 2, 0, 1, 9, 1, 0, 0) := rfl
theorem bu_77_236 : mm_at mt_P 77 236 = some ((236, 3, .iinc 1 1, 0, 0, 0, 0), 2, 0, 1, 9, 1, 0, 0) := rfl
theorem bu_77_239 : mm_at mt_P 77 239 = some ((239, 3, .goto (-15), 0, 0, 0, 0), 2, 0, 1, 9, 1, 0, 0) := rfl
theorem bu_77_242 : mm_at mt_P 77 242 = some ((242, 1, .iconst 0, 0, 0, 0, 0), 2, 0, 1, 9, 1, 0, 0) := rfl
theorem bu_77_243 : mm_at mt_P 77 243 = some ((243, 1, .ireturn, 0, 0, 0, 0), 2, 0, 1, 9, 1, 0, 0) := rfl
section RQB
variable {K V P : Nat → Int} {Q : Nat → Nat → Bool} {σ : py_S} {M : Nat} {ns : List Nat} {oo e : Nat} {E : mm_E} {PO : mm_C → Prop} {NN : Nat} {h0 h : mm_H} {s : Nat → Int32} {A : Nat → Nat → Int32} {L : Nat → Nat → Int64} {gs : List mm_F}
set_option maxHeartbeats 4000000 in
theorem rr_77a {A0 : Nat → Nat → Int32} : ∀ NN : Nat, (∀ (h' : mm_H) (A' : Nat → Nat → Int32) (lv : mm_V) (o : Option Value), bm_P rz_T E h0 h' s A' L → (∀ c, c ≠ 90 → A' c = A0 c) → (∀ j : Nat, (j : Int) < (s 8804).toInt → (A' 90 j).toInt % 256 = (A0 89 j).toInt % 256) → mm_get lv 0 = some (.ref (E.1 + 88)) → bp_G E PO NN ((77, 36, lv, [], 0, 0) :: gs, h', o)) → (∀ (h : mm_H) (A : Nat → Nat → Int32) (lv : mm_V) (o : Option Value) (i : Int32), bm_P rz_T E h0 h s A L → (∀ c, c ≠ 90 → A c = A0 c) → (∀ j : Nat, (j : Int) < i.toInt → (A 90 j).toInt % 256 = (A0 89 j).toInt % 256) → mm_get lv 0 = some (.ref (E.1 + 88)) → mm_get lv 1 = some (.int i) → bp_G E PO NN ((77, 10, lv, [], 0, 0) :: gs, h, o)) := by
  intro NN
  induction NN with
  | zero => intro kk h A lv o i hP hA hb g0 g1; exact bp_zero bu_77_10
  | succ NN ih =>
    intro kk h A lv o i hP hA hb g0 g1
    refine bp_ld (pc' := 11) bu_77_10 rfl rfl (fun _ _ _ => rfl) g1 rfl ?_
    refine bp_ld (pc' := 12) bu_77_11 rfl rfl (fun _ _ _ => rfl) g0 rfl ?_
    refine bn_gi (pc' := 15) (K := 8804) bu_77_12 rfl rfl (fun _ _ _ => rfl) hP rz_o88 rz_i88_4 rfl rfl ?_
    refine bp_ic (pc' := 18) (pt := 36) bu_77_15 rfl rfl (fun k4032 => ?_) (fun k4032 => ?_)
    · replace k4032 : ((s 8804)).toInt ≤ (i).toInt := k4032
      exact kk _ _ _ _ hP hA (fun j hj => hb j (by omega)) g0
    · replace k4032 : ¬ (((s 8804)).toInt ≤ (i).toInt) := k4032
      refine bp_ld (pc' := 19) bu_77_18 rfl rfl (fun _ _ _ => rfl) g0 rfl ?_
      refine bn_gr (pc' := 22) (t := 90) bu_77_19 rfl rfl (fun _ _ _ => rfl) hP rz_o88 rz_r88_3 ?_
      refine bp_ld (pc' := 23) bu_77_22 rfl rfl (fun _ _ _ => rfl) g1 rfl ?_
      refine bp_ld (pc' := 24) bu_77_23 rfl rfl (fun _ _ _ => rfl) g0 rfl ?_
      refine bn_gr (pc' := 27) (t := 89) bu_77_24 rfl rfl (fun _ _ _ => rfl) hP rz_o88 rz_r88_1 ?_
      refine bp_ld (pc' := 28) bu_77_27 rfl rfl (fun _ _ _ => rfl) g1 rfl ?_
      refine bn_iaF (pc' := 29) bu_77_28 rfl rfl (fun _ _ _ => rfl) hP rz_a89 (Or.inl rfl) (fun b4033 b4034 => ?_)
      refine bn_iasF (pc' := 30) bu_77_29 rfl rfl (fun _ _ _ => rfl) hP rz_a90 (Or.inl rfl) (fun b4037 b4038 h4035 hP4036 => ?_)
      refine bp_inc (pc' := 33) bu_77_30 rfl (by decide) g1 (by decide) (by omega) (by omega) (fun lv4039 y4042 F4040 g4041 e4043 => ?_)
      have g4044 := F4040 0 (.ref (E.1 + 88)) g0 (by decide) (Or.inl rfl)
      refine bp_goD (pc' := 10) bu_77_33 rfl ?_
      exact ih (fun h' A' lv o a0 a1 a2 a3 => bp_mono (Nat.le_succ NN) (kk h' A' lv o a0 a1 a2 a3)) _ _ _ _ _ hP4036 (fun c c90 => (bh_up_ne c90).trans (hA c c90)) (fun j hj => by
        by_cases e : j = i.toInt.toNat
        · rw [e, bh_up_i, bp_nar1, hA 89 (by decide)]
        · rw [bh_up_j e]
          exact hb j (by omega)) g4044 g4041
set_option maxHeartbeats 4000000 in
theorem rr_77l {τ : py_S} {s0 : Nat → Int32} {A0 : Nat → Nat → Int32} {L0 : Nat → Nat → Int64} (hT : rq_T K V P M A0) (hK0 : ∀ j, 0 ≤ K j) (hQ : ∀ i j, i < M → j < M → K i = 1 → K j = 1 → (Q i j = true ↔ L0 94 i = L0 94 j)) : ∀ NN : Nat, (∀ (h : mm_H) (s : Nat → Int32) (A : Nat → Nat → Int32) (L : Nat → Nat → Int64) (lv : mm_V) (o : Option Value), bm_P rz_T E h0 h s A L → rq_F s0 A0 L0 s A L → rq_R K P M τ τ.2.2.2.2 0 0 s A L → mm_get lv 0 = some (.ref (E.1 + 88)) → bp_G E PO NN ((77, 134, lv, [], 0, 0) :: gs, h, o)) → (∀ (h : mm_H) (s : Nat → Int32) (A : Nat → Nat → Int32) (L : Nat → Nat → Int64) (lv : mm_V) (o : Option Value) (σ : py_S) (r : Nat), bm_P rz_T E h0 h s A L → rq_F s0 A0 L0 s A L → rq_R K P M σ σ.2.2.2.2 0 0 s A L → mm_get lv 0 = some (.ref (E.1 + 88)) → (σ.2.1 = 0 → 401 ≤ σ.1 + r) → py_al K V Q r σ = τ → bp_G E PO NN ((77, 112, lv, [], 0, 0) :: gs, h, o)) := by
  intro NN
  induction NN with
  | zero => intro kk h s A L lv o σ r hP hF hR g0 hr hx; exact bp_zero bu_77_112
  | succ NN ih =>
    intro kk h s A L lv o σ r hP hF hR g0 hr hx
    have q1 := hR.1
    refine bp_ld (pc' := 113) bu_77_112 rfl rfl (fun _ _ _ => rfl) g0 rfl ?_
    refine bn_gi (pc' := 116) (K := 8813) bu_77_113 rfl rfl (fun _ _ _ => rfl) hP rz_o88 rz_i88_13 rfl rfl ?_
    refine bp_i0 (pc' := 119) (pt := 134) bu_77_116 rfl rfl (fun k4045 => ?_) (fun k4045 => ?_)
    · replace k4045 : ((s 8813)).toInt ≠ 0 := k4045
      rw [py_al_e (by omega)] at hx
      exact kk _ _ _ _ _ _ hP hF (by rw [← hx]; exact hR) g0
    · replace k4045 : ¬ (((s 8813)).toInt ≠ 0) := k4045
      refine bp_ld (pc' := 120) bu_77_119 rfl rfl (fun _ _ _ => rfl) g0 rfl ?_
      refine bp_c (pc' := 121) (n := 0) bu_77_120 rfl rfl (fun _ _ _ => rfl) (by decide) (fun c4046 e4047 => ?_)
      refine bn_cvF (pc' := 124) (st := []) (args := [.int c4046]) bu_77_121 rfl rfl rfl (by decide) hP rz_o88 (by decide) rfl (Nat.le_of_ble_eq_true rfl) (Nat.le_of_ble_eq_true rfl) ?_
      refine rr_45 (k := c4046) hP hR (rq_T_F hT hF) (fun r4048 p4049 => ?_)
      show bp_G E PO (NN + 1) ((77, 124, lv, [.int r4048], 0, 0) :: gs, h, none)
      refine bp_i0 (pc' := 127) (pt := 134) bu_77_124 rfl rfl (fun k4050 => ?_) (fun k4050 => ?_)
      · replace k4050 : (r4048).toInt ≠ 0 := k4050
        rw [py_al_e (by omega)] at hx
        exact kk _ _ _ _ _ _ hP hF (by rw [← hx]; exact hR) g0
      · replace k4050 : ¬ ((r4048).toInt ≠ 0) := k4050
        refine bp_ld (pc' := 128) bu_77_127 rfl rfl (fun _ _ _ => rfl) g0 rfl ?_
        refine bn_cvF (pc' := 131) (st := []) (args := []) bu_77_128 rfl rfl rfl (by decide) hP rz_o88 (by decide) rfl (Nat.le_of_ble_eq_true rfl) (Nat.le_of_ble_eq_true rfl) ?_
        have q0 : σ.2.1 = 0 := by omega
        refine rr_99 hP hR (rq_T_F hT hF) (by rw [hF.2.2.1]; exact hQ) (hK0 _) q0 rfl (fun h4051 s4052 A4053 L4054 hP4055 F4056 R4057 => ?_)
        have F4058 := rq_F_t hF F4056
        show bp_G E PO (NN + 1) ((77, 131, lv, [], 0, 0) :: gs, h4051, none)
        refine bp_goD (pc' := 112) bu_77_131 rfl ?_
        have m4 := hT.1
        have r1 := (hR.2.1 q0).2.1
        obtain ⟨r, rfl⟩ : ∃ r', r = r' + 1 := ⟨r - 1, by omega⟩
        rw [py_al_s q0 (by omega)] at hx
        exact ih (fun h s A L lv o a0 a1 a2 a3 => bp_mono (Nat.le_succ NN) (kk h s A L lv o a0 a1 a2 a3)) _ _ _ _ _ _ _ r hP4055 F4058 R4057 g0 (fun u => by have lt := py_tell_lt (K := K) (V := V) (Q := Q) q0 u; omega) hx
theorem bp_nar20 {c : Int32} (h : c.toInt = 0) : (mm_nar 2 c).toInt = 0 := by
  have e : c = 0 := Int32.toInt_inj.mp h
  rw [e]
  rfl
set_option maxHeartbeats 4000000 in
theorem rr_77h {A0 : Nat → Nat → Int32} : ∀ NN : Nat, (∀ (h' : mm_H) (A' : Nat → Nat → Int32) (lv : mm_V) (o : Option Value) (k : Int32), bm_P rz_T E h0 h' s A' L → (∀ c, c ≠ 131 → A' c = A0 c) → (∀ j : Nat, (j : Int) < 3 → (A' 131 j).toInt = 0) → mm_get lv 0 = some (.ref (E.1 + 88)) → mm_get lv 1 = some (.int k) → bp_G E PO NN ((77, 242, lv, [], 0, 0) :: gs, h', o)) → (∀ (h : mm_H) (A : Nat → Nat → Int32) (lv : mm_V) (o : Option Value) (k : Int32), bm_P rz_T E h0 h s A L → (∀ c, c ≠ 131 → A c = A0 c) → (∀ j : Nat, (j : Int) < k.toInt → (A 131 j).toInt = 0) → mm_get lv 0 = some (.ref (E.1 + 88)) → mm_get lv 1 = some (.int k) → bp_G E PO NN ((77, 224, lv, [], 0, 0) :: gs, h, o)) := by
  intro NN
  induction NN with
  | zero => intro kk h A lv o k hP hA hb g0 g1; exact bp_zero bu_77_224
  | succ NN ih =>
    intro kk h A lv o k hP hA hb g0 g1
    refine bp_ld (pc' := 225) bu_77_224 rfl rfl (fun _ _ _ => rfl) g1 rfl ?_
    refine bp_c (pc' := 226) (n := 3) bu_77_225 rfl rfl (fun _ _ _ => rfl) (by decide) (fun c4059 e4060 => ?_)
    refine bp_ic (pc' := 229) (pt := 242) bu_77_226 rfl rfl (fun k4061 => ?_) (fun k4061 => ?_)
    · replace k4061 : (c4059).toInt ≤ (k).toInt := k4061
      exact kk _ _ _ _ _ hP hA (fun j hj => hb j (by omega)) g0 g1
    · replace k4061 : ¬ ((c4059).toInt ≤ (k).toInt) := k4061
      refine bp_ld (pc' := 230) bu_77_229 rfl rfl (fun _ _ _ => rfl) g0 rfl ?_
      refine bn_gr (pc' := 233) (t := 131) bu_77_230 rfl rfl (fun _ _ _ => rfl) hP rz_o88 rz_r88_71 ?_
      refine bp_ld (pc' := 234) bu_77_233 rfl rfl (fun _ _ _ => rfl) g1 rfl ?_
      refine bp_c (pc' := 235) (n := 0) bu_77_234 rfl rfl (fun _ _ _ => rfl) (by decide) (fun c4062 e4063 => ?_)
      refine bn_iasF (pc' := 236) bu_77_235 rfl rfl (fun _ _ _ => rfl) hP rz_a131 (Or.inr rfl) (fun b4066 b4067 h4064 hP4065 => ?_)
      refine bn_incx (pc' := 239) bu_77_236 rfl (by decide) g1 (by decide) (fun lv4068 y4071 F4069 g4070 e4072 => ?_)
      have g4073 := F4069 0 (.ref (E.1 + 88)) g0 (by decide) (Or.inl rfl)
      refine bp_goD (pc' := 224) bu_77_239 rfl ?_
      exact ih (fun h' A' lv o k a0 a1 a2 a3 a4 => bp_mono (Nat.le_succ NN) (kk h' A' lv o k a0 a1 a2 a3 a4)) _ _ _ _ _ hP4065 (fun c c131 => (bh_up_ne c131).trans (hA c c131)) (fun j hj => by
        by_cases e : j = k.toInt.toNat
        · rw [e, bh_up_i]
          exact bp_nar20 (by omega)
        · rw [bh_up_j e]
          exact hb j (by omega)) g4073 g4070
set_option maxHeartbeats 4000000 in
theorem rr_77e {τ : py_S} {Pn : Nat → Nat} {lv : mm_V} {o : Option Value} (hP : bm_P rz_T E h0 h s A L) (hR : rq_R K (fun j => (Pn j : Int)) M τ ns 0 0 s A L) (g0 : mm_get lv 0 = some (.ref (E.1 + 88))) (hy0 : (s 8802).toInt = 0) (kk : ∀ (h' : mm_H) (s' : Nat → Int32) (A' : Nat → Nat → Int32) (L' : Nat → Nat → Int64) (r : Int32), bm_P rz_T E h0 h' s' A' L' → r.toInt = (py_ft τ : Int) → (s' 8817).toInt = py_pl Pn τ → (s' 8802).toInt = 0 → L' 95 = L 95 → (r.toInt = 0 → (A' 97 (s' 8818).toInt.toNat).toInt = (ns.length : Int) ∧ (s' 8865).toInt = 0 ∧ ∀ j, j < 3 → (A' 131 j).toInt = 0) → (r.toInt ≠ 0 → s' 8818 = s 8818 ∧ A' 97 = A 97 ∧ s' 8865 = s 8865 ∧ A' 131 = A 131) → bp_G E PO NN (mm_back (some (.int r)) gs h')) : bp_G E PO NN ((77, 134, lv, [], 0, 0) :: gs, h, o) := by
  have q1 := hR.1
  have q3 : τ.2.1 ≠ 0 → (s 8814).toInt = (Pn τ.1 : Int) := hR.2.2
  have q2 : τ.2.1 = 0 → (s 8815).toInt = (τ.2.2.1 : Int) ∧ (τ.2.2.1 ≠ 0 → (s 8816).toInt = (Pn τ.2.2.2.1 : Int)) := fun u => ⟨(hR.2.1 u).2.2.1, fun w => ((hR.2.1 u).2.2.2.1 w).1⟩
  refine bp_ld (pc' := 135) bu_77_134 rfl rfl (fun _ _ _ => rfl) g0 rfl ?_
  refine bp_ld (pc' := 136) bu_77_135 rfl rfl (fun _ _ _ => rfl) g0 rfl ?_
  refine bn_gi (pc' := 139) (K := 8813) bu_77_136 rfl rfl (fun _ _ _ => rfl) hP rz_o88 rz_i88_13 rfl rfl ?_
  refine bp_i0 (pc' := 142) (pt := 149) bu_77_139 rfl rfl (fun k4074 => ?_) (fun k4074 => ?_)
  · replace k4074 : ((s 8813)).toInt ≤ 0 := k4074
    refine bp_ld (pc' := 150) bu_77_149 rfl rfl (fun _ _ _ => rfl) g0 rfl ?_
    refine bn_gi (pc' := 153) (K := 8815) bu_77_150 rfl rfl (fun _ _ _ => rfl) hP rz_o88 rz_i88_15 rfl rfl ?_
    refine bp_i0 (pc' := 156) (pt := 163) bu_77_153 rfl rfl (fun k4075 => ?_) (fun k4075 => ?_)
    · replace k4075 : ((s 8815)).toInt ≤ 0 := k4075
      refine bp_c (pc' := 164) (n := -1) bu_77_163 rfl rfl (fun _ _ _ => rfl) (by decide) (fun c4076 e4077 => ?_)
      refine bn_pf (pc' := 167) (K := 8817) bu_77_164 rfl rfl (fun _ _ _ => rfl) hP rz_o88 rz_i88_17 rfl rfl (fun h4078 s4079 hP4080 e4081 f4082 => ?_)
      refine bp_ld (pc' := 168) bu_77_167 rfl rfl (fun _ _ _ => rfl) g0 rfl ?_
      refine bn_gi (pc' := 171) (K := 8813) bu_77_168 rfl rfl (fun _ _ _ => rfl) hP4080 rz_o88 rz_i88_13 rfl (f4082 8813 (by decide)) ?_
      refine bp_i0 (pc' := 174) (pt := 179) bu_77_171 rfl rfl (fun k4083 => ?_) (fun k4083 => ?_)
      · replace k4083 : ((s 8813)).toInt ≤ 0 := k4083
        refine bp_ld (pc' := 180) bu_77_179 rfl rfl (fun _ _ _ => rfl) g0 rfl ?_
        refine bn_gi (pc' := 183) (K := 8815) bu_77_180 rfl rfl (fun _ _ _ => rfl) hP4080 rz_o88 rz_i88_15 rfl (f4082 8815 (by decide)) ?_
        refine bp_i0 (pc' := 186) (pt := 191) bu_77_183 rfl rfl (fun k4084 => ?_) (fun k4084 => ?_)
        · replace k4084 : ((s 8815)).toInt ≤ 0 := k4084
          refine bp_ld (pc' := 192) bu_77_191 rfl rfl (fun _ _ _ => rfl) g0 rfl ?_
          refine bp_ld (pc' := 193) bu_77_192 rfl rfl (fun _ _ _ => rfl) g0 rfl ?_
          refine bn_gi (pc' := 196) (K := 8819) bu_77_193 rfl rfl (fun _ _ _ => rfl) hP4080 rz_o88 rz_i88_19 rfl (f4082 8819 (by decide)) ?_
          refine bn_pf (pc' := 199) (K := 8818) bu_77_196 rfl rfl (fun _ _ _ => rfl) hP4080 rz_o88 rz_i88_18 rfl rfl (fun h4085 s4086 hP4087 e4088 f4089 => ?_)
          refine bp_ld (pc' := 200) bu_77_199 rfl rfl (fun _ _ _ => rfl) g0 rfl ?_
          refine bn_cvF (pc' := 203) (st := []) (args := []) bu_77_200 rfl rfl rfl (by decide) hP4087 rz_o88 (by decide) rfl (Nat.le_of_ble_eq_true rfl) (Nat.le_of_ble_eq_true rfl) ?_
          refine rr_7 hP4087 (fun h4090 s4091 A4092 hP4093 f4094 a4095 => ?_)
          show bp_G E PO NN ((77, 203, lv, [], 0, 0) :: gs, h4090, none)
          refine bp_ld (pc' := 204) bu_77_203 rfl rfl (fun _ _ _ => rfl) g0 rfl ?_
          refine bn_cvF (pc' := 207) (st := []) (args := []) bu_77_204 rfl rfl rfl (by decide) hP4093 rz_o88 (by decide) rfl (Nat.le_of_ble_eq_true rfl) (Nat.le_of_ble_eq_true rfl) ?_
          refine rr_56 hP4093 (fun h4096 A4097 hP4098 a4099 => ?_)
          show bp_G E PO NN ((77, 207, lv, [], 0, 0) :: gs, h4096, none)
          refine bp_ld (pc' := 208) bu_77_207 rfl rfl (fun _ _ _ => rfl) g0 rfl ?_
          refine bp_c (pc' := 209) (n := 0) bu_77_208 rfl rfl (fun _ _ _ => rfl) (by decide) (fun c4100 e4101 => ?_)
          refine bn_pf (pc' := 212) (K := 8854) bu_77_209 rfl rfl (fun _ _ _ => rfl) hP4098 rz_o88 rz_i88_54 rfl rfl (fun h4102 s4103 hP4104 e4105 f4106 => ?_)
          refine bp_ld (pc' := 213) bu_77_212 rfl rfl (fun _ _ _ => rfl) g0 rfl ?_
          refine bp_c (pc' := 214) (n := 0) bu_77_213 rfl rfl (fun _ _ _ => rfl) (by decide) (fun c4107 e4108 => ?_)
          refine bn_pf (pc' := 217) (K := 8865) bu_77_214 rfl rfl (fun _ _ _ => rfl) hP4104 rz_o88 rz_i88_65 rfl rfl (fun h4109 s4110 hP4111 e4112 f4113 => ?_)
          refine bp_ld (pc' := 218) bu_77_217 rfl rfl (fun _ _ _ => rfl) g0 rfl ?_
          refine bp_c (pc' := 219) (n := 0) bu_77_218 rfl rfl (fun _ _ _ => rfl) (by decide) (fun c4114 e4115 => ?_)
          refine bn_pf (pc' := 222) (K := 8867) bu_77_219 rfl rfl (fun _ _ _ => rfl) hP4111 rz_o88 rz_i88_67 rfl rfl (fun h4116 s4117 hP4118 e4119 f4120 => ?_)
          refine bp_c (pc' := 223) (n := 0) bu_77_222 rfl rfl (fun _ _ _ => rfl) (by decide) (fun c4121 e4122 => ?_)
          refine bp_st (pc' := 224) bu_77_223 rfl rfl (fun _ _ _ => rfl) rfl (by decide) (by decide) (fun lv4123 F4124 g4125 => ?_)
          have g4126 := F4124 0 (.ref (E.1 + 88)) g0 (by decide) (Or.inl rfl)
          refine rr_77h (A0 := A4097) NN (fun h4127 A4128 lv4129 o4130 k4131 hP4132 a4133 hz4134 g4135 g4136 => ?_) _ _ _ _ _ hP4118 (fun _ _ => rfl) (fun j hj => by omega) g4126 g4125
          refine bp_c (pc' := 243) (n := 0) bu_77_242 rfl rfl (fun _ _ _ => rfl) (by decide) (fun c4137 e4138 => ?_)
          refine bp_ri bu_77_243 ?_
          have z8817 := congrArg Int32.toInt ((f4120 8817 (by decide)).trans ((f4113 8817 (by decide)).trans ((f4106 8817 (by decide)).trans ((f4094 8817 (by decide) (by decide)).trans ((f4089 8817 (by decide)).trans e4081)))))
          have f2 := ((f4120 8802 (by decide)).trans ((f4113 8802 (by decide)).trans ((f4106 8802 (by decide)).trans ((f4094 8802 (by decide) (by decide)).trans ((f4089 8802 (by decide)).trans (f4082 8802 (by decide)))))))
          have hz0 := hR.2.1
          refine kk _ _ _ _ _ hP4132 (by unfold py_ft; first | (rw [if_pos (by omega)]; omega) | (rw [if_neg (by omega)]; omega)) (by unfold py_pl; first | (rw [if_pos (by omega)]; omega) | (rw [if_neg (by omega), if_pos (by omega)]; omega) | (rw [if_neg (by omega), if_neg (by omega)]; omega)) (by rw [f2]; exact hy0) rfl ?_ ?_
          have z8865 := congrArg Int32.toInt ((f4120 8865 (by decide)).trans e4112)
          · intro _
            refine ⟨?_, by omega, fun j hj => hz4134 j (by omega)⟩
            rw [(((a4133 97 (by decide)).trans (a4099 97 (by decide))).trans (a4095 97 (by decide))), ((f4120 8818 (by decide)).trans ((f4113 8818 (by decide)).trans ((f4106 8818 (by decide)).trans ((f4094 8818 (by decide) (by decide)).trans e4088))))]
            exact (hz0 (by omega)).2.2.2.2.2.2.2.1
          · intro hne
            exfalso
            omega
        · replace k4084 : ¬ (((s 8815)).toInt ≤ 0) := k4084
          refine bp_ld (pc' := 187) bu_77_186 rfl rfl (fun _ _ _ => rfl) g0 rfl ?_
          refine bn_gi (pc' := 190) (K := 8815) bu_77_187 rfl rfl (fun _ _ _ => rfl) hP4080 rz_o88 rz_i88_15 rfl (f4082 8815 (by decide)) ?_
          refine bp_ri bu_77_190 ?_
          have z8817 := congrArg Int32.toInt e4081
          have f2 := (f4082 8802 (by decide))
          have hz0 := hR.2.1
          refine kk _ _ _ _ _ hP4080 (by unfold py_ft; first | (rw [if_pos (by omega)]; omega) | (rw [if_neg (by omega)]; omega)) (by unfold py_pl; first | (rw [if_pos (by omega)]; omega) | (rw [if_neg (by omega), if_pos (by omega)]; omega) | (rw [if_neg (by omega), if_neg (by omega)]; omega)) (by rw [f2]; exact hy0) rfl ?_ ?_
          · intro he
            exfalso
            omega
          · intro _
            exact ⟨(f4082 8818 (by decide)), rfl, (f4082 8865 (by decide)), rfl⟩
      · replace k4083 : ¬ (((s 8813)).toInt ≤ 0) := k4083
        refine bp_ld (pc' := 175) bu_77_174 rfl rfl (fun _ _ _ => rfl) g0 rfl ?_
        refine bn_gi (pc' := 178) (K := 8813) bu_77_175 rfl rfl (fun _ _ _ => rfl) hP4080 rz_o88 rz_i88_13 rfl (f4082 8813 (by decide)) ?_
        refine bp_ri bu_77_178 ?_
        have z8817 := congrArg Int32.toInt e4081
        have f2 := (f4082 8802 (by decide))
        have hz0 := hR.2.1
        refine kk _ _ _ _ _ hP4080 (by unfold py_ft; first | (rw [if_pos (by omega)]; omega) | (rw [if_neg (by omega)]; omega)) (by unfold py_pl; first | (rw [if_pos (by omega)]; omega) | (rw [if_neg (by omega), if_pos (by omega)]; omega) | (rw [if_neg (by omega), if_neg (by omega)]; omega)) (by rw [f2]; exact hy0) rfl ?_ ?_
        · intro he
          exfalso
          omega
        · intro _
          exact ⟨(f4082 8818 (by decide)), rfl, (f4082 8865 (by decide)), rfl⟩
    · replace k4075 : ¬ (((s 8815)).toInt ≤ 0) := k4075
      refine bp_ld (pc' := 157) bu_77_156 rfl rfl (fun _ _ _ => rfl) g0 rfl ?_
      refine bn_gi (pc' := 160) (K := 8816) bu_77_157 rfl rfl (fun _ _ _ => rfl) hP rz_o88 rz_i88_16 rfl rfl ?_
      refine bp_go (pc' := 164) bu_77_160 rfl ?_
      refine bn_pf (pc' := 167) (K := 8817) bu_77_164 rfl rfl (fun _ _ _ => rfl) hP rz_o88 rz_i88_17 rfl rfl (fun h4139 s4140 hP4141 e4142 f4143 => ?_)
      refine bp_ld (pc' := 168) bu_77_167 rfl rfl (fun _ _ _ => rfl) g0 rfl ?_
      refine bn_gi (pc' := 171) (K := 8813) bu_77_168 rfl rfl (fun _ _ _ => rfl) hP4141 rz_o88 rz_i88_13 rfl (f4143 8813 (by decide)) ?_
      refine bp_i0 (pc' := 174) (pt := 179) bu_77_171 rfl rfl (fun k4144 => ?_) (fun k4144 => ?_)
      · replace k4144 : ((s 8813)).toInt ≤ 0 := k4144
        refine bp_ld (pc' := 180) bu_77_179 rfl rfl (fun _ _ _ => rfl) g0 rfl ?_
        refine bn_gi (pc' := 183) (K := 8815) bu_77_180 rfl rfl (fun _ _ _ => rfl) hP4141 rz_o88 rz_i88_15 rfl (f4143 8815 (by decide)) ?_
        refine bp_i0 (pc' := 186) (pt := 191) bu_77_183 rfl rfl (fun k4145 => ?_) (fun k4145 => ?_)
        · replace k4145 : ((s 8815)).toInt ≤ 0 := k4145
          refine bp_ld (pc' := 192) bu_77_191 rfl rfl (fun _ _ _ => rfl) g0 rfl ?_
          refine bp_ld (pc' := 193) bu_77_192 rfl rfl (fun _ _ _ => rfl) g0 rfl ?_
          refine bn_gi (pc' := 196) (K := 8819) bu_77_193 rfl rfl (fun _ _ _ => rfl) hP4141 rz_o88 rz_i88_19 rfl (f4143 8819 (by decide)) ?_
          refine bn_pf (pc' := 199) (K := 8818) bu_77_196 rfl rfl (fun _ _ _ => rfl) hP4141 rz_o88 rz_i88_18 rfl rfl (fun h4146 s4147 hP4148 e4149 f4150 => ?_)
          refine bp_ld (pc' := 200) bu_77_199 rfl rfl (fun _ _ _ => rfl) g0 rfl ?_
          refine bn_cvF (pc' := 203) (st := []) (args := []) bu_77_200 rfl rfl rfl (by decide) hP4148 rz_o88 (by decide) rfl (Nat.le_of_ble_eq_true rfl) (Nat.le_of_ble_eq_true rfl) ?_
          refine rr_7 hP4148 (fun h4151 s4152 A4153 hP4154 f4155 a4156 => ?_)
          show bp_G E PO NN ((77, 203, lv, [], 0, 0) :: gs, h4151, none)
          refine bp_ld (pc' := 204) bu_77_203 rfl rfl (fun _ _ _ => rfl) g0 rfl ?_
          refine bn_cvF (pc' := 207) (st := []) (args := []) bu_77_204 rfl rfl rfl (by decide) hP4154 rz_o88 (by decide) rfl (Nat.le_of_ble_eq_true rfl) (Nat.le_of_ble_eq_true rfl) ?_
          refine rr_56 hP4154 (fun h4157 A4158 hP4159 a4160 => ?_)
          show bp_G E PO NN ((77, 207, lv, [], 0, 0) :: gs, h4157, none)
          refine bp_ld (pc' := 208) bu_77_207 rfl rfl (fun _ _ _ => rfl) g0 rfl ?_
          refine bp_c (pc' := 209) (n := 0) bu_77_208 rfl rfl (fun _ _ _ => rfl) (by decide) (fun c4161 e4162 => ?_)
          refine bn_pf (pc' := 212) (K := 8854) bu_77_209 rfl rfl (fun _ _ _ => rfl) hP4159 rz_o88 rz_i88_54 rfl rfl (fun h4163 s4164 hP4165 e4166 f4167 => ?_)
          refine bp_ld (pc' := 213) bu_77_212 rfl rfl (fun _ _ _ => rfl) g0 rfl ?_
          refine bp_c (pc' := 214) (n := 0) bu_77_213 rfl rfl (fun _ _ _ => rfl) (by decide) (fun c4168 e4169 => ?_)
          refine bn_pf (pc' := 217) (K := 8865) bu_77_214 rfl rfl (fun _ _ _ => rfl) hP4165 rz_o88 rz_i88_65 rfl rfl (fun h4170 s4171 hP4172 e4173 f4174 => ?_)
          refine bp_ld (pc' := 218) bu_77_217 rfl rfl (fun _ _ _ => rfl) g0 rfl ?_
          refine bp_c (pc' := 219) (n := 0) bu_77_218 rfl rfl (fun _ _ _ => rfl) (by decide) (fun c4175 e4176 => ?_)
          refine bn_pf (pc' := 222) (K := 8867) bu_77_219 rfl rfl (fun _ _ _ => rfl) hP4172 rz_o88 rz_i88_67 rfl rfl (fun h4177 s4178 hP4179 e4180 f4181 => ?_)
          refine bp_c (pc' := 223) (n := 0) bu_77_222 rfl rfl (fun _ _ _ => rfl) (by decide) (fun c4182 e4183 => ?_)
          refine bp_st (pc' := 224) bu_77_223 rfl rfl (fun _ _ _ => rfl) rfl (by decide) (by decide) (fun lv4184 F4185 g4186 => ?_)
          have g4187 := F4185 0 (.ref (E.1 + 88)) g0 (by decide) (Or.inl rfl)
          refine rr_77h (A0 := A4158) NN (fun h4188 A4189 lv4190 o4191 k4192 hP4193 a4194 hz4195 g4196 g4197 => ?_) _ _ _ _ _ hP4179 (fun _ _ => rfl) (fun j hj => by omega) g4187 g4186
          refine bp_c (pc' := 243) (n := 0) bu_77_242 rfl rfl (fun _ _ _ => rfl) (by decide) (fun c4198 e4199 => ?_)
          refine bp_ri bu_77_243 ?_
          have z8817 := congrArg Int32.toInt ((f4181 8817 (by decide)).trans ((f4174 8817 (by decide)).trans ((f4167 8817 (by decide)).trans ((f4155 8817 (by decide) (by decide)).trans ((f4150 8817 (by decide)).trans e4142)))))
          have f2 := ((f4181 8802 (by decide)).trans ((f4174 8802 (by decide)).trans ((f4167 8802 (by decide)).trans ((f4155 8802 (by decide) (by decide)).trans ((f4150 8802 (by decide)).trans (f4143 8802 (by decide)))))))
          have hz0 := hR.2.1
          refine kk _ _ _ _ _ hP4193 (by unfold py_ft; first | (rw [if_pos (by omega)]; omega) | (rw [if_neg (by omega)]; omega)) (by unfold py_pl; first | (rw [if_pos (by omega)]; omega) | (rw [if_neg (by omega), if_pos (by omega)]; omega) | (rw [if_neg (by omega), if_neg (by omega)]; omega)) (by rw [f2]; exact hy0) rfl ?_ ?_
          have z8865 := congrArg Int32.toInt ((f4181 8865 (by decide)).trans e4173)
          · intro _
            refine ⟨?_, by omega, fun j hj => hz4195 j (by omega)⟩
            rw [(((a4194 97 (by decide)).trans (a4160 97 (by decide))).trans (a4156 97 (by decide))), ((f4181 8818 (by decide)).trans ((f4174 8818 (by decide)).trans ((f4167 8818 (by decide)).trans ((f4155 8818 (by decide) (by decide)).trans e4149))))]
            exact (hz0 (by omega)).2.2.2.2.2.2.2.1
          · intro hne
            exfalso
            omega
        · replace k4145 : ¬ (((s 8815)).toInt ≤ 0) := k4145
          refine bp_ld (pc' := 187) bu_77_186 rfl rfl (fun _ _ _ => rfl) g0 rfl ?_
          refine bn_gi (pc' := 190) (K := 8815) bu_77_187 rfl rfl (fun _ _ _ => rfl) hP4141 rz_o88 rz_i88_15 rfl (f4143 8815 (by decide)) ?_
          refine bp_ri bu_77_190 ?_
          have z8817 := congrArg Int32.toInt e4142
          have f2 := (f4143 8802 (by decide))
          have hz0 := hR.2.1
          refine kk _ _ _ _ _ hP4141 (by unfold py_ft; first | (rw [if_pos (by omega)]; omega) | (rw [if_neg (by omega)]; omega)) (by unfold py_pl; first | (rw [if_pos (by omega)]; omega) | (rw [if_neg (by omega), if_pos (by omega)]; omega) | (rw [if_neg (by omega), if_neg (by omega)]; omega)) (by rw [f2]; exact hy0) rfl ?_ ?_
          · intro he
            exfalso
            omega
          · intro _
            exact ⟨(f4143 8818 (by decide)), rfl, (f4143 8865 (by decide)), rfl⟩
      · replace k4144 : ¬ (((s 8813)).toInt ≤ 0) := k4144
        refine bp_ld (pc' := 175) bu_77_174 rfl rfl (fun _ _ _ => rfl) g0 rfl ?_
        refine bn_gi (pc' := 178) (K := 8813) bu_77_175 rfl rfl (fun _ _ _ => rfl) hP4141 rz_o88 rz_i88_13 rfl (f4143 8813 (by decide)) ?_
        refine bp_ri bu_77_178 ?_
        have z8817 := congrArg Int32.toInt e4142
        have f2 := (f4143 8802 (by decide))
        have hz0 := hR.2.1
        refine kk _ _ _ _ _ hP4141 (by unfold py_ft; first | (rw [if_pos (by omega)]; omega) | (rw [if_neg (by omega)]; omega)) (by unfold py_pl; first | (rw [if_pos (by omega)]; omega) | (rw [if_neg (by omega), if_pos (by omega)]; omega) | (rw [if_neg (by omega), if_neg (by omega)]; omega)) (by rw [f2]; exact hy0) rfl ?_ ?_
        · intro he
          exfalso
          omega
        · intro _
          exact ⟨(f4143 8818 (by decide)), rfl, (f4143 8865 (by decide)), rfl⟩
  · replace k4074 : ¬ (((s 8813)).toInt ≤ 0) := k4074
    refine bp_ld (pc' := 143) bu_77_142 rfl rfl (fun _ _ _ => rfl) g0 rfl ?_
    refine bn_gi (pc' := 146) (K := 8814) bu_77_143 rfl rfl (fun _ _ _ => rfl) hP rz_o88 rz_i88_14 rfl rfl ?_
    refine bp_go (pc' := 164) bu_77_146 rfl ?_
    refine bn_pf (pc' := 167) (K := 8817) bu_77_164 rfl rfl (fun _ _ _ => rfl) hP rz_o88 rz_i88_17 rfl rfl (fun h4200 s4201 hP4202 e4203 f4204 => ?_)
    refine bp_ld (pc' := 168) bu_77_167 rfl rfl (fun _ _ _ => rfl) g0 rfl ?_
    refine bn_gi (pc' := 171) (K := 8813) bu_77_168 rfl rfl (fun _ _ _ => rfl) hP4202 rz_o88 rz_i88_13 rfl (f4204 8813 (by decide)) ?_
    refine bp_i0 (pc' := 174) (pt := 179) bu_77_171 rfl rfl (fun k4205 => ?_) (fun k4205 => ?_)
    · replace k4205 : ((s 8813)).toInt ≤ 0 := k4205
      refine bp_ld (pc' := 180) bu_77_179 rfl rfl (fun _ _ _ => rfl) g0 rfl ?_
      refine bn_gi (pc' := 183) (K := 8815) bu_77_180 rfl rfl (fun _ _ _ => rfl) hP4202 rz_o88 rz_i88_15 rfl (f4204 8815 (by decide)) ?_
      refine bp_i0 (pc' := 186) (pt := 191) bu_77_183 rfl rfl (fun k4206 => ?_) (fun k4206 => ?_)
      · replace k4206 : ((s 8815)).toInt ≤ 0 := k4206
        refine bp_ld (pc' := 192) bu_77_191 rfl rfl (fun _ _ _ => rfl) g0 rfl ?_
        refine bp_ld (pc' := 193) bu_77_192 rfl rfl (fun _ _ _ => rfl) g0 rfl ?_
        refine bn_gi (pc' := 196) (K := 8819) bu_77_193 rfl rfl (fun _ _ _ => rfl) hP4202 rz_o88 rz_i88_19 rfl (f4204 8819 (by decide)) ?_
        refine bn_pf (pc' := 199) (K := 8818) bu_77_196 rfl rfl (fun _ _ _ => rfl) hP4202 rz_o88 rz_i88_18 rfl rfl (fun h4207 s4208 hP4209 e4210 f4211 => ?_)
        refine bp_ld (pc' := 200) bu_77_199 rfl rfl (fun _ _ _ => rfl) g0 rfl ?_
        refine bn_cvF (pc' := 203) (st := []) (args := []) bu_77_200 rfl rfl rfl (by decide) hP4209 rz_o88 (by decide) rfl (Nat.le_of_ble_eq_true rfl) (Nat.le_of_ble_eq_true rfl) ?_
        refine rr_7 hP4209 (fun h4212 s4213 A4214 hP4215 f4216 a4217 => ?_)
        show bp_G E PO NN ((77, 203, lv, [], 0, 0) :: gs, h4212, none)
        refine bp_ld (pc' := 204) bu_77_203 rfl rfl (fun _ _ _ => rfl) g0 rfl ?_
        refine bn_cvF (pc' := 207) (st := []) (args := []) bu_77_204 rfl rfl rfl (by decide) hP4215 rz_o88 (by decide) rfl (Nat.le_of_ble_eq_true rfl) (Nat.le_of_ble_eq_true rfl) ?_
        refine rr_56 hP4215 (fun h4218 A4219 hP4220 a4221 => ?_)
        show bp_G E PO NN ((77, 207, lv, [], 0, 0) :: gs, h4218, none)
        refine bp_ld (pc' := 208) bu_77_207 rfl rfl (fun _ _ _ => rfl) g0 rfl ?_
        refine bp_c (pc' := 209) (n := 0) bu_77_208 rfl rfl (fun _ _ _ => rfl) (by decide) (fun c4222 e4223 => ?_)
        refine bn_pf (pc' := 212) (K := 8854) bu_77_209 rfl rfl (fun _ _ _ => rfl) hP4220 rz_o88 rz_i88_54 rfl rfl (fun h4224 s4225 hP4226 e4227 f4228 => ?_)
        refine bp_ld (pc' := 213) bu_77_212 rfl rfl (fun _ _ _ => rfl) g0 rfl ?_
        refine bp_c (pc' := 214) (n := 0) bu_77_213 rfl rfl (fun _ _ _ => rfl) (by decide) (fun c4229 e4230 => ?_)
        refine bn_pf (pc' := 217) (K := 8865) bu_77_214 rfl rfl (fun _ _ _ => rfl) hP4226 rz_o88 rz_i88_65 rfl rfl (fun h4231 s4232 hP4233 e4234 f4235 => ?_)
        refine bp_ld (pc' := 218) bu_77_217 rfl rfl (fun _ _ _ => rfl) g0 rfl ?_
        refine bp_c (pc' := 219) (n := 0) bu_77_218 rfl rfl (fun _ _ _ => rfl) (by decide) (fun c4236 e4237 => ?_)
        refine bn_pf (pc' := 222) (K := 8867) bu_77_219 rfl rfl (fun _ _ _ => rfl) hP4233 rz_o88 rz_i88_67 rfl rfl (fun h4238 s4239 hP4240 e4241 f4242 => ?_)
        refine bp_c (pc' := 223) (n := 0) bu_77_222 rfl rfl (fun _ _ _ => rfl) (by decide) (fun c4243 e4244 => ?_)
        refine bp_st (pc' := 224) bu_77_223 rfl rfl (fun _ _ _ => rfl) rfl (by decide) (by decide) (fun lv4245 F4246 g4247 => ?_)
        have g4248 := F4246 0 (.ref (E.1 + 88)) g0 (by decide) (Or.inl rfl)
        refine rr_77h (A0 := A4219) NN (fun h4249 A4250 lv4251 o4252 k4253 hP4254 a4255 hz4256 g4257 g4258 => ?_) _ _ _ _ _ hP4240 (fun _ _ => rfl) (fun j hj => by omega) g4248 g4247
        refine bp_c (pc' := 243) (n := 0) bu_77_242 rfl rfl (fun _ _ _ => rfl) (by decide) (fun c4259 e4260 => ?_)
        refine bp_ri bu_77_243 ?_
        have z8817 := congrArg Int32.toInt ((f4242 8817 (by decide)).trans ((f4235 8817 (by decide)).trans ((f4228 8817 (by decide)).trans ((f4216 8817 (by decide) (by decide)).trans ((f4211 8817 (by decide)).trans e4203)))))
        have f2 := ((f4242 8802 (by decide)).trans ((f4235 8802 (by decide)).trans ((f4228 8802 (by decide)).trans ((f4216 8802 (by decide) (by decide)).trans ((f4211 8802 (by decide)).trans (f4204 8802 (by decide)))))))
        have hz0 := hR.2.1
        refine kk _ _ _ _ _ hP4254 (by unfold py_ft; first | (rw [if_pos (by omega)]; omega) | (rw [if_neg (by omega)]; omega)) (by unfold py_pl; first | (rw [if_pos (by omega)]; omega) | (rw [if_neg (by omega), if_pos (by omega)]; omega) | (rw [if_neg (by omega), if_neg (by omega)]; omega)) (by rw [f2]; exact hy0) rfl ?_ ?_
        have z8865 := congrArg Int32.toInt ((f4242 8865 (by decide)).trans e4234)
        · intro _
          refine ⟨?_, by omega, fun j hj => hz4256 j (by omega)⟩
          rw [(((a4255 97 (by decide)).trans (a4221 97 (by decide))).trans (a4217 97 (by decide))), ((f4242 8818 (by decide)).trans ((f4235 8818 (by decide)).trans ((f4228 8818 (by decide)).trans ((f4216 8818 (by decide) (by decide)).trans e4210))))]
          exact (hz0 (by omega)).2.2.2.2.2.2.2.1
        · intro hne
          exfalso
          omega
      · replace k4206 : ¬ (((s 8815)).toInt ≤ 0) := k4206
        refine bp_ld (pc' := 187) bu_77_186 rfl rfl (fun _ _ _ => rfl) g0 rfl ?_
        refine bn_gi (pc' := 190) (K := 8815) bu_77_187 rfl rfl (fun _ _ _ => rfl) hP4202 rz_o88 rz_i88_15 rfl (f4204 8815 (by decide)) ?_
        refine bp_ri bu_77_190 ?_
        have z8817 := congrArg Int32.toInt e4203
        have f2 := (f4204 8802 (by decide))
        have hz0 := hR.2.1
        refine kk _ _ _ _ _ hP4202 (by unfold py_ft; first | (rw [if_pos (by omega)]; omega) | (rw [if_neg (by omega)]; omega)) (by unfold py_pl; first | (rw [if_pos (by omega)]; omega) | (rw [if_neg (by omega), if_pos (by omega)]; omega) | (rw [if_neg (by omega), if_neg (by omega)]; omega)) (by rw [f2]; exact hy0) rfl ?_ ?_
        · intro he
          exfalso
          omega
        · intro _
          exact ⟨(f4204 8818 (by decide)), rfl, (f4204 8865 (by decide)), rfl⟩
    · replace k4205 : ¬ (((s 8813)).toInt ≤ 0) := k4205
      refine bp_ld (pc' := 175) bu_77_174 rfl rfl (fun _ _ _ => rfl) g0 rfl ?_
      refine bn_gi (pc' := 178) (K := 8813) bu_77_175 rfl rfl (fun _ _ _ => rfl) hP4202 rz_o88 rz_i88_13 rfl (f4204 8813 (by decide)) ?_
      refine bp_ri bu_77_178 ?_
      have z8817 := congrArg Int32.toInt e4203
      have f2 := (f4204 8802 (by decide))
      have hz0 := hR.2.1
      refine kk _ _ _ _ _ hP4202 (by unfold py_ft; first | (rw [if_pos (by omega)]; omega) | (rw [if_neg (by omega)]; omega)) (by unfold py_pl; first | (rw [if_pos (by omega)]; omega) | (rw [if_neg (by omega), if_pos (by omega)]; omega) | (rw [if_neg (by omega), if_neg (by omega)]; omega)) (by rw [f2]; exact hy0) rfl ?_ ?_
      · intro he
        exfalso
        omega
      · intro _
        exact ⟨(f4204 8818 (by decide)), rfl, (f4204 8865 (by decide)), rfl⟩
set_option maxHeartbeats 4000000 in
theorem rr_77 {X : Nat → Int32} {n : Nat} (hP : bm_P rz_T E h0 h s A L) (hn : (s 8802).toInt = (n : Int)) (hX : ∀ j, j < n → (A 89 j).toInt % 256 = (X j).toInt % 256) (hn2 : n ≤ 2000) (hky : ∀ j, j < 24 → (L 95 j).toInt = (px_ky j : Nat)) (hlv : 0 ≤ (s 8818).toInt ∧ (s 8818).toInt ≤ 1) (kk : ∀ (h' : mm_H) (s' : Nat → Int32) (A' : Nat → Nat → Int32) (L' : Nat → Nat → Int64) (r : Int32), bm_P rz_T E h0 h' s' A' L' → r.toInt = (py_ft (py_end (fun j => px_kd X n (px_at X n j)) (fun j => px_vl X n (px_at X n j)) (rq_Q X n)) : Int) → (s' 8817).toInt = py_pl (fun j => px_at X n j) (py_end (fun j => px_kd X n (px_at X n j)) (fun j => px_vl X n (px_at X n j)) (rq_Q X n)) → (s' 8802).toInt = 0 → L' 95 = L 95 → (r.toInt = 0 → (A' 97 (s' 8818).toInt.toNat).toInt = ((py_end (fun j => px_kd X n (px_at X n j)) (fun j => px_vl X n (px_at X n j)) (rq_Q X n)).2.2.2.2.length : Int) ∧ (s' 8865).toInt = 0 ∧ ∀ j, j < 3 → (A' 131 j).toInt = 0) → (r.toInt ≠ 0 → s' 8818 = s 8818 ∧ A' 97 (s 8818).toInt.toNat = A 97 (s 8818).toInt.toNat ∧ s' 8865 = s 8865 ∧ A' 131 = A 131) → bp_G E PO NN (mm_back (some (.int r)) gs h')) : bp_G E PO NN ((77, 0, [(0, .ref (E.1 + 88))], [], 0, 0) :: gs, h, none) := by
  refine bp_ld (pc' := 1) bu_77_0 rfl rfl (fun _ _ _ => rfl) rfl rfl ?_
  refine bp_ld (pc' := 2) bu_77_1 rfl rfl (fun _ _ _ => rfl) rfl rfl ?_
  refine bn_gi (pc' := 5) (K := 8802) bu_77_2 rfl rfl (fun _ _ _ => rfl) hP rz_o88 rz_i88_2 rfl rfl ?_
  refine bn_pf (pc' := 8) (K := 8804) bu_77_5 rfl rfl (fun _ _ _ => rfl) hP rz_o88 rz_i88_4 rfl rfl (fun h4261 s4262 hP4263 e4264 f4265 => ?_)
  refine bp_c (pc' := 9) (n := 0) bu_77_8 rfl rfl (fun _ _ _ => rfl) (by decide) (fun c4266 e4267 => ?_)
  refine bp_st (pc' := 10) bu_77_9 rfl rfl (fun _ _ _ => rfl) rfl (by decide) (by decide) (fun lv4268 F4269 g4270 => ?_)
  have g4271 := F4269 0 (.ref (E.1 + 88)) rfl (by decide) (Or.inl rfl)
  have z8804 := congrArg Int32.toInt e4264
  refine rr_77a (A0 := A) NN (fun h4272 A4273 lv4274 o4275 hP4276 a4277 b4278 g4279 => ?_) _ _ _ _ _ hP4263 (fun _ _ => rfl) (fun j hj => by omega) g4271 g4270
  have hXc : ∀ j, px_c (A4273 90) n j = px_c X n j := px_c_g (fun j hj => (b4278 j (by omega)).trans (hX j hj))
  refine bp_ld (pc' := 37) bu_77_36 rfl rfl (fun _ _ _ => rfl) g4279 rfl ?_
  refine bp_c (pc' := 38) (n := 0) bu_77_37 rfl rfl (fun _ _ _ => rfl) (by decide) (fun c4280 e4281 => ?_)
  refine bn_pf (pc' := 41) (K := 8802) bu_77_38 rfl rfl (fun _ _ _ => rfl) hP4276 rz_o88 rz_i88_2 rfl rfl (fun h4282 s4283 hP4284 e4285 f4286 => ?_)
  refine bp_ld (pc' := 42) bu_77_41 rfl rfl (fun _ _ _ => rfl) g4279 rfl ?_
  refine bn_cvF (pc' := 45) (st := []) (args := []) bu_77_42 rfl rfl rfl (by decide) hP4284 rz_o88 (by decide) rfl (Nat.le_of_ble_eq_true rfl) (Nat.le_of_ble_eq_true rfl) ?_
  have z8804 := congrArg Int32.toInt ((f4286 8804 (by decide)).trans e4264)
  refine rr_19 (X := X) (n := n) hP4284 (by omega) hXc hn2 hky (fun h4287 s4288 A4289 L4290 M4291 hP4292 f4293 a4294 l4295 T4296 nm4297 => ?_)
  show bp_G E PO NN ((77, 45, lv4274, [], 0, 0) :: gs, h4287, none)
  refine bp_ld (pc' := 46) bu_77_45 rfl rfl (fun _ _ _ => rfl) g4279 rfl ?_
  refine bp_c (pc' := 47) (n := 0) bu_77_46 rfl rfl (fun _ _ _ => rfl) (by decide) (fun c4298 e4299 => ?_)
  refine bn_pf (pc' := 50) (K := 8811) bu_77_47 rfl rfl (fun _ _ _ => rfl) hP4292 rz_o88 rz_i88_11 rfl rfl (fun h4300 s4301 hP4302 e4303 f4304 => ?_)
  refine bp_ld (pc' := 51) bu_77_50 rfl rfl (fun _ _ _ => rfl) g4279 rfl ?_
  refine bp_c (pc' := 52) (n := 0) bu_77_51 rfl rfl (fun _ _ _ => rfl) (by decide) (fun c4305 e4306 => ?_)
  refine bn_pf (pc' := 55) (K := 8812) bu_77_52 rfl rfl (fun _ _ _ => rfl) hP4302 rz_o88 rz_i88_12 rfl rfl (fun h4307 s4308 hP4309 e4310 f4311 => ?_)
  refine bp_ld (pc' := 56) bu_77_55 rfl rfl (fun _ _ _ => rfl) g4279 rfl ?_
  refine bp_c (pc' := 57) (n := 0) bu_77_56 rfl rfl (fun _ _ _ => rfl) (by decide) (fun c4312 e4313 => ?_)
  refine bn_pf (pc' := 60) (K := 8813) bu_77_57 rfl rfl (fun _ _ _ => rfl) hP4309 rz_o88 rz_i88_13 rfl rfl (fun h4314 s4315 hP4316 e4317 f4318 => ?_)
  refine bp_ld (pc' := 61) bu_77_60 rfl rfl (fun _ _ _ => rfl) g4279 rfl ?_
  refine bp_c (pc' := 62) (n := 0) bu_77_61 rfl rfl (fun _ _ _ => rfl) (by decide) (fun c4319 e4320 => ?_)
  refine bn_pf (pc' := 65) (K := 8815) bu_77_62 rfl rfl (fun _ _ _ => rfl) hP4316 rz_o88 rz_i88_15 rfl rfl (fun h4321 s4322 hP4323 e4324 f4325 => ?_)
  refine bp_ld (pc' := 66) bu_77_65 rfl rfl (fun _ _ _ => rfl) g4279 rfl ?_
  refine bp_c (pc' := 67) (n := 1) bu_77_66 rfl rfl (fun _ _ _ => rfl) (by decide) (fun c4326 e4327 => ?_)
  refine bp_ld (pc' := 68) bu_77_67 rfl rfl (fun _ _ _ => rfl) g4279 rfl ?_
  refine bn_gi (pc' := 71) (K := 8818) bu_77_68 rfl rfl (fun _ _ _ => rfl) hP4323 rz_o88 rz_i88_18 rfl ((f4325 8818 (by decide)).trans ((f4318 8818 (by decide)).trans ((f4311 8818 (by decide)).trans ((f4304 8818 (by decide)).trans ((f4293 8818 (by decide)).trans ((f4286 8818 (by decide)).trans (f4265 8818 (by decide)))))))) ?_
  refine bn_subx (pc' := 72) bu_77_71 rfl (fun v4328 e4329 => ?_)
  refine bn_pf (pc' := 75) (K := 8819) bu_77_72 rfl rfl (fun _ _ _ => rfl) hP4323 rz_o88 rz_i88_19 rfl rfl (fun h4330 s4331 hP4332 e4333 f4334 => ?_)
  refine bp_ld (pc' := 76) bu_77_75 rfl rfl (fun _ _ _ => rfl) g4279 rfl ?_
  refine bp_c (pc' := 77) (n := 0) bu_77_76 rfl rfl (fun _ _ _ => rfl) (by decide) (fun c4335 e4336 => ?_)
  refine bn_pf (pc' := 80) (K := 8820) bu_77_77 rfl rfl (fun _ _ _ => rfl) hP4332 rz_o88 rz_i88_20 rfl rfl (fun h4337 s4338 hP4339 e4340 f4341 => ?_)
  refine bp_ld (pc' := 81) bu_77_80 rfl rfl (fun _ _ _ => rfl) g4279 rfl ?_
  refine bp_ld (pc' := 82) bu_77_81 rfl rfl (fun _ _ _ => rfl) g4279 rfl ?_
  refine bn_gi (pc' := 85) (K := 8819) bu_77_82 rfl rfl (fun _ _ _ => rfl) hP4339 rz_o88 rz_i88_19 rfl ((f4341 8819 (by decide)).trans e4333) ?_
  refine bn_cvF (pc' := 88) (st := []) (args := [.int v4328]) bu_77_85 rfl rfl rfl (by decide) hP4339 rz_o88 (by decide) rfl (Nat.le_of_ble_eq_true rfl) (Nat.le_of_ble_eq_true rfl) ?_
  refine rr_72 (a := v4328) hP4339 (fun h4342 A4343 hP4344 a4345 z4346 z4347 => ?_)
  show bp_G E PO NN ((77, 88, lv4274, [], 0, 0) :: gs, h4342, none)
  refine bp_ld (pc' := 89) bu_77_88 rfl rfl (fun _ _ _ => rfl) g4279 rfl ?_
  refine bp_c (pc' := 92) (n := 130) bu_77_89 rfl rfl (fun _ _ _ => rfl) (by decide) (fun c4348 e4349 => ?_)
  refine bp_ld (pc' := 93) bu_77_92 rfl rfl (fun _ _ _ => rfl) g4279 rfl ?_
  refine bn_gi (pc' := 96) (K := 8819) bu_77_93 rfl rfl (fun _ _ _ => rfl) hP4344 rz_o88 rz_i88_19 rfl ((f4341 8819 (by decide)).trans e4333) ?_
  refine bp_mulA (pc' := 97) bu_77_96 rfl (fun v4350 => ?_)
  refine bn_pf (pc' := 100) (K := 8833) bu_77_97 rfl rfl (fun _ _ _ => rfl) hP4344 rz_o88 rz_i88_33 rfl rfl (fun h4351 s4352 hP4353 e4354 f4355 => ?_)
  refine bp_ld (pc' := 101) bu_77_100 rfl rfl (fun _ _ _ => rfl) g4279 rfl ?_
  refine bp_c (pc' := 104) (n := 420) bu_77_101 rfl rfl (fun _ _ _ => rfl) (by decide) (fun c4356 e4357 => ?_)
  refine bp_ld (pc' := 105) bu_77_104 rfl rfl (fun _ _ _ => rfl) g4279 rfl ?_
  refine bn_gi (pc' := 108) (K := 8819) bu_77_105 rfl rfl (fun _ _ _ => rfl) hP4353 rz_o88 rz_i88_19 rfl ((f4355 8819 (by decide)).trans ((f4341 8819 (by decide)).trans e4333)) ?_
  refine bp_mulA (pc' := 109) bu_77_108 rfl (fun v4358 => ?_)
  refine bn_pf (pc' := 112) (K := 8839) bu_77_109 rfl rfl (fun _ _ _ => rfl) hP4353 rz_o88 rz_i88_39 rfl rfl (fun h4359 s4360 hP4361 e4362 f4363 => ?_)
  have z8811 := congrArg Int32.toInt ((f4363 8811 (by decide)).trans ((f4355 8811 (by decide)).trans ((f4341 8811 (by decide)).trans ((f4334 8811 (by decide)).trans ((f4325 8811 (by decide)).trans ((f4318 8811 (by decide)).trans ((f4311 8811 (by decide)).trans e4303)))))))
  have z8812 := congrArg Int32.toInt ((f4363 8812 (by decide)).trans ((f4355 8812 (by decide)).trans ((f4341 8812 (by decide)).trans ((f4334 8812 (by decide)).trans ((f4325 8812 (by decide)).trans ((f4318 8812 (by decide)).trans e4310))))))
  have z8813 := congrArg Int32.toInt ((f4363 8813 (by decide)).trans ((f4355 8813 (by decide)).trans ((f4341 8813 (by decide)).trans ((f4334 8813 (by decide)).trans ((f4325 8813 (by decide)).trans e4317)))))
  have z8815 := congrArg Int32.toInt ((f4363 8815 (by decide)).trans ((f4355 8815 (by decide)).trans ((f4341 8815 (by decide)).trans ((f4334 8815 (by decide)).trans e4324))))
  have z8820 := congrArg Int32.toInt ((f4363 8820 (by decide)).trans ((f4355 8820 (by decide)).trans e4340))
  have h19 : (s4360 8819) = v4328 := ((f4363 8819 (by decide)).trans ((f4355 8819 (by decide)).trans ((f4341 8819 (by decide)).trans e4333)))
  have hT9 : rq_T (fun j => px_kd X n (px_at X n j)) (fun j => px_vl X n (px_at X n j)) (fun j => (px_at X n j : Int)) M4291 A4343 := by
    unfold rq_T
    rw [a4345 91 (by decide) (by decide) (by decide) (by decide) (by decide) (by decide) (by decide) (by decide) (by decide) , a4345 92 (by decide) (by decide) (by decide) (by decide) (by decide) (by decide) (by decide) (by decide) (by decide) , a4345 93 (by decide) (by decide) (by decide) (by decide) (by decide) (by decide) (by decide) (by decide) (by decide) ]
    exact T4296
  have hR9 : rq_R (fun j => px_kd X n (px_at X n j)) (fun j => (px_at X n j : Int)) M4291 (0, 0, 0, 0, []) [] 0 0 s4360 A4343 L4290 := ⟨by show (s4360 8813).toInt = ((0 : Nat) : Int); omega, fun _ => ⟨by show (s4360 8811).toInt = ((0 : Nat) : Int); omega, T4296.2.1, by show (s4360 8815).toInt = ((0 : Nat) : Int); omega, fun q => absurd rfl q, by show (s4360 8820).toInt = ((0 : Nat) : Int); omega, Nat.zero_le _, fun i hi => absurd hi (Nat.not_lt_zero i), by rw [h19]; exact z4346, by show (s4360 8812).toInt = ((0 : Nat) : Int); omega⟩, fun q => absurd rfl q⟩
  have hy0 : (s4360 8802).toInt = 0 := by
    have z8802 := congrArg Int32.toInt ((f4363 8802 (by decide)).trans ((f4355 8802 (by decide)).trans ((f4341 8802 (by decide)).trans ((f4334 8802 (by decide)).trans ((f4325 8802 (by decide)).trans ((f4318 8802 (by decide)).trans ((f4311 8802 (by decide)).trans ((f4304 8802 (by decide)).trans ((f4293 8802 (by decide)).trans e4285)))))))))
    omega
  refine rr_77l (τ := (py_end (fun j => px_kd X n (px_at X n j)) (fun j => px_vl X n (px_at X n j)) (rq_Q X n))) hT9 (fun j => px_kd_0) (rq_Qi nm4297) NN (fun h4364 s4365 A4366 L4367 lv4368 o4369 hP4370 F4371 R4372 g4373 => ?_) _ _ _ _ _ _ _ 401 hP4361 rq_F_r hR9 g4279 (fun _ => by decide) rfl
  refine rr_77e (Pn := fun j => px_at X n j) hP4370 R4372 g4373 (by rw [F4371.1.1]; exact hy0) (fun h' s' A' L' r a0 a1 a2 a3 a4 a5 a6 => kk h' s' A' L' r a0 a1 a2 a3 ((a4.trans F4371.2.2.2.1).trans (l4295 95 (by decide))) a5 (fun q => ?_))
  obtain ⟨b1, b2, b3, b4⟩ := a6 q
  have c18 : s4360 8818 = s 8818 := ((f4363 8818 (by decide)).trans ((f4355 8818 (by decide)).trans ((f4341 8818 (by decide)).trans ((f4334 8818 (by decide)).trans ((f4325 8818 (by decide)).trans ((f4318 8818 (by decide)).trans ((f4311 8818 (by decide)).trans ((f4304 8818 (by decide)).trans ((f4293 8818 (by decide)).trans ((f4286 8818 (by decide)).trans (f4265 8818 (by decide))))))))))))
  have c65 : s4360 8865 = s 8865 := ((f4363 8865 (by decide)).trans ((f4355 8865 (by decide)).trans ((f4341 8865 (by decide)).trans ((f4334 8865 (by decide)).trans ((f4325 8865 (by decide)).trans ((f4318 8865 (by decide)).trans ((f4311 8865 (by decide)).trans ((f4304 8865 (by decide)).trans ((f4293 8865 (by decide)).trans ((f4286 8865 (by decide)).trans (f4265 8865 (by decide))))))))))))
  have d18 := congrArg Int32.toInt c18
  have d19 := congrArg Int32.toInt h19
  have hne : (s 8818).toInt.toNat ≠ (s4360 8819).toInt.toNat := by omega
  have hne2 : (s 8818).toInt.toNat ≠ (v4328).toInt.toNat := by omega
  refine ⟨b1.trans (F4371.1.2.2.2.1.trans c18), ?_, b3.trans (F4371.2.2.2.2.1.trans c65), b4.trans (F4371.2.2.2.2.2.1.trans ((a4345 131 (by decide) (by decide) (by decide) (by decide) (by decide) (by decide) (by decide) (by decide) (by decide) ).trans ((a4294 131 (by decide) (by decide) (by decide)).trans (a4277 131 (by decide)))))⟩
  rw [b2, F4371.2.2.2.2.2.2 _ hne, z4347 _ hne2]
  exact congrFun ((a4294 97 (by decide) (by decide) (by decide)).trans (a4277 97 (by decide))) _
end RQB
