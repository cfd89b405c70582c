/-! PARTIAL: the reference reads, exact, 2 (wip/p5/mkr8.py) -/
theorem bp_nar1 (x : Int32) : (mm_nar 1 x).toInt % 256 = x.toInt % 256 := by
  have e : mm_nar 1 x = x.toInt8.toInt32 := rfl
  rw [e, Int8.toInt_toInt32, Int32.toInt_toInt8]
  rw [Int.bmod_def]
  split <;> omega
theorem px_c_g {X Y : Nat → Int32} {n : Nat} (h : ∀ j, j < n → (X j).toInt % 256 = (Y j).toInt % 256) (j : Nat) : px_c X n j = px_c Y n j := by
  by_cases e : j < n
  · rw [px_c_in e, px_c_in e]
    exact h j e
  · rw [px_c_out e, px_c_out e]
theorem px_kd_0 {X : Nat → Int32} {n p : Nat} : 0 ≤ px_kd X n p := by
  unfold px_kd
  split
  · omega
  split
  · split
    · omega
    split <;> omega
  split
  · split <;> omega
  · unfold px_sg
    (repeat' split) <;> omega
/-- same names, by the reference's numbers -/
theorem px_kd_1 {X : Nat → Int32} {n p : Nat} (h : px_kd X n p = 1) : px_tl X n p = px_rn px_lt X n p - p := by
  have hp : p < n := by
    by_cases e : n ≤ p
    · rw [px_kd_e e] at h
      omega
    · omega
  by_cases hl : px_lt (px_c X n p) = true
  · exact px_tl_l hl
  · by_cases hd : px_dg (px_c X n p) = true
    · rw [px_kd_d hp hl hd] at h
      split at h <;> omega
    · rw [px_kd_s hp hl hd] at h
      exact absurd h px_sg_n.1
def rq_Q (X : Nat → Int32) (n : Nat) (i j : Nat) : Bool := px_sm X n (px_at X n i) (px_at X n j)
theorem rq_Qi {X : Nat → Int32} {n M : Nat} {L : Nat → Nat → Int64} (hN : ∀ j, j < M → px_kd X n (px_at X n j) = 1 → (L 94 j).toInt = (px_nm 27 X n (px_at X n j) (px_tl X n (px_at X n j)) : Nat)) : ∀ i j, i < M → j < M → px_kd X n (px_at X n i) = 1 → px_kd X n (px_at X n j) = 1 → (rq_Q X n i j = true ↔ L 94 i = L 94 j) := by
  intro i j hi hj ki kj
  have a := hN i hi ki
  have b := hN j hj kj
  rw [px_kd_1 ki] at a
  rw [px_kd_1 kj] at b
  unfold rq_Q
  rw [px_sm_iff (b := 27) (by decide), ← Int64.toInt_inj, a, b]
  exact Int.ofNat_inj.symm
theorem py_al_f {K V : Nat → Int} {Q : Nat → Nat → Bool} {σ : py_S} {r : Nat} (h : σ.2.1 ≠ 0) : py_al K V Q r σ = σ := py_al_e (fun q => h q.1)
theorem bu_77_0 : mm_at mt_P 77 0 = some ((0, 1, .aload_n 0, 0, 0, 0, 0), 2, 0, 1, 9, 1, 0, 0) := rfl
theorem bu_77_1 : mm_at mt_P 77 1 = some ((1, 1, .aload_n 0, 0, 0, 0, 0), 2, 0, 1, 9, 1, 0, 0) := rfl
theorem bu_77_2 : mm_at mt_P 77 2 = some ((2, 3, .getfield 166, 9, 2, 0, 1219), 2, 0, 1, 9, 1, 0, 0) := rfl
theorem bu_77_5 : mm_at mt_P 77 5 = some ((5, 3, .putfield 172, 9, 4, 0, 1221), 2, 0, 1, 9, 1, 0, 0) := rfl
theorem bu_77_8 : mm_at mt_P 77 8 = some ((8, 1, .iconst 0, 0, 0, 0, 0), 2, 0, 1, 9, 1, 0, 0) := rfl
theorem bu_77_9 : mm_at mt_P 77 9 = some ((9, 1, .istore_n 1, 0, 0, 0, 0), 2, 0, 1, 9, 1, 0, 0) := rfl
theorem bu_77_10 : mm_at mt_P 77 10 = some ((10, 1, .iload_n 1, 0, 0, 0, 0), 2, 0, 1, 9, 1, 0, 0) := rfl
theorem bu_77_11 : mm_at mt_P 77 11 = some ((11, 1, .aload_n 0, 0, 0, 0, 0), 2, 0, 1, 9, 1, 0, 0) := rfl
theorem bu_77_12 : mm_at mt_P 77 12 = some ((12, 3, .getfield 172, 9, 4, 0, 1221), 2, 0, 1, 9, 1, 0, 0) := rfl
theorem bu_77_15 : mm_at mt_P 77 15 = some ((15, 3, .if_icmp .ge 21, 0, 0, 0, 0), 2, 0, 1, 9, 1, 0, 0) := rfl
theorem bu_77_18 : mm_at mt_P 77 18 = some ((18, 1, .aload_n 0, 0, 0, 0, 0), 2, 0, 1, 9, 1, 0, 0) := rfl
theorem bu_77_19 : mm_at mt_P 77 19 = some ((19, 3, .getfield 17, 9, 3, 0, 1220), 2, 0, 1, 9, 1, 0, 0) := rfl
theorem bu_77_22 : mm_at mt_P 77 22 = some ((22, 1, .iload_n 1, 0, 0, 0, 0), 2, 0, 1, 9, 1, 0, 0) := rfl
theorem bu_77_23 : mm_at mt_P 77 23 = some ((23, 1, .aload_n 0, 0, 0, 0, 0), 2, 0, 1, 9, 1, 0, 0) := rfl
theorem bu_77_24 : mm_at mt_P 77 24 = some ((24, 3, .getfield 13, 9, 1, 0, 1218), 2, 0, 1, 9, 1, 0, 0) := rfl
theorem bu_77_27 : mm_at mt_P 77 27 = some ((27, 1, .iload_n 1, 0, 0, 0, 0), 2, 0, 1, 9, 1, 0, 0) := rfl
theorem bu_77_28 : mm_at mt_P 77 28 = some ((28, 1, .baload, 0, 0, 0, 0), 2, 0, 1, 9, 1, 0, 0) := rfl
theorem bu_77_29 : mm_at mt_P 77 29 = some ((29, 1, .bastore, 0, 0, 0, 0), 2, 0, 1, 9, 1, 0, 0) := rfl
theorem bu_77_30 : mm_at mt_P 77 30 = some ((30, 3, .iinc 1 1, 0, 0, 0, 0), 2, 0, 1, 9, 1, 0, 0) := rfl
theorem bu_77_33 : mm_at mt_P 77 33 = some ((33, 3, .goto (-23), 0, 0, 0, 0), 2, 0, 1, 9, 1, 0, 0) := rfl
theorem bu_77_36 : mm_at mt_P 77 36 = some ((36, 1, .aload_n 0, 0, 0, 0, 0), 2, 0, 1, 9, 1, 0, 0) := rfl
theorem bu_77_37 : mm_at mt_P 77 37 = some ((37, 1, .iconst 0, 0, 0, 0, 0), 2, 0, 1, 9, 1, 0, 0) := rfl
theorem bu_77_38 : mm_at mt_P 77 38 = some ((38, 3, .putfield 166, 9, 2, 0, 1219), 2, 0, 1, 9, 1, 0, 0) := rfl
theorem bu_77_41 : mm_at mt_P 77 41 = some ((41, 1, .aload_n 0, 0, 0, 0, 0), 2, 0, 1, 9, 1, 0, 0) := rfl
theorem bu_77_42 : mm_at mt_P 77 42 = some ((42, 3, .invokevirtual 227, 19, 0, 0, 1453), 2, 0, 1, 9, 1, 0, 0) := rfl
theorem bu_77_45 : mm_at mt_P 77 45 = some ((45, 1, .aload_n 0, 0, 0, 0, 0), 2, 0, 1, 9, 1, 0, 0) := rfl
theorem bu_77_46 : mm_at mt_P 77 46 = some ((46, 1, .iconst 0, 0, 0, 0, 0), 2, 0, 1, 9, 1, 0, 0) := rfl
theorem bu_77_47 : mm_at mt_P 77 47 = some ((47, 3, .putfield 206, 9, 11, 0, 1228), 2, 0, 1, 9, 1, 0, 0) := rfl
theorem bu_77_50 : mm_at mt_P 77 50 = some ((50, 1, .aload_n 0, 0, 0, 0, 0), 2, 0, 1, 9, 1, 0, 0) := rfl
theorem bu_77_51 : mm_at mt_P 77 51 = some ((51, 1, .iconst 0, 0, 0, 0, 0), 2, 0, 1, 9, 1, 0, 0) := rfl
theorem bu_77_52 : mm_at mt_P 77 52 = some ((52, 3, .putfield 230, 9, 12, 0, 1229), 2, 0, 1, 9, 1, 0, 0) := rfl
theorem bu_77_55 : mm_at mt_P 77 55 = some ((55, 1, .aload_n 0, 0, 0, 0, 0), 2, 0, 1, 9, 1, 0, 0) := rfl
theorem bu_77_56 : mm_at mt_P 77 56 = some ((56, 1, .iconst 0, 0, 0, 0, 0), 2, 0, 1, 9, 1, 0, 0) := rfl
theorem bu_77_57 : mm_at mt_P 77 57 = some ((57, 3, .putfield 203, 9, 13, 0, 1230), 2, 0, 1, 9, 1, 0, 0) := rfl
theorem bu_77_60 : mm_at mt_P 77 60 = some ((60, 1, .aload_n 0, 0, 0, 0, 0), 2, 0, 1, 9, 1, 0, 0) := rfl
theorem bu_77_61 : mm_at mt_P 77 61 = some ((61, 1, .iconst 0, 0, 0, 0, 0), 2, 0, 1, 9, 1, 0, 0) := rfl
theorem bu_77_62 : mm_at mt_P 77 62 = some ((62, 3, .putfield 212, 9, 15, 0, 1232), 2, 0, 1, 9, 1, 0, 0) := rfl
theorem bu_77_65 : mm_at mt_P 77 65 = some ((65, 1, .aload_n 0, 0, 0, 0, 0), 2, 0, 1, 9, 1, 0, 0) := rfl
theorem bu_77_66 : mm_at mt_P 77 66 = some ((66, 1, .iconst 1, 0, 0, 0, 0), 2, 0, 1, 9, 1, 0, 0) := rfl
theorem bu_77_67 : mm_at mt_P 77 67 = some ((67, 1, .aload_n 0, 0, 0, 0, 0), 2, 0, 1, 9, 1, 0, 0) := rfl
theorem bu_77_68 : mm_at mt_P 77 68 = some ((68, 3, .getfield 233, 9, 18, 0, 1235), 2, 0, 1, 9, 1, 0, 0) := rfl
theorem bu_77_71 : mm_at mt_P 77 71 = some ((71, 1, .isub, 0, 0, 0, 0), 2, 0, 1, 9, 1, 0, 0) := rfl
theorem bu_77_72 : mm_at mt_P 77 72 = some ((72, 3, .putfield 236, 9, 19, 0, 1236), 2, 0, 1, 9, 1, 0, 0) := rfl
theorem bu_77_75 : mm_at mt_P 77 75 = some ((75, 1, .aload_n 0, 0, 0, 0, 0), 2, 0, 1, 9, 1, 0, 0) := rfl
theorem bu_77_76 : mm_at mt_P 77 76 = some ((76, 1, .iconst 0, 0, 0, 0, 0), 2, 0, 1, 9, 1, 0, 0) := rfl
theorem bu_77_77 : mm_at mt_P 77 77 = some ((77, 3, .putfield 239, 9, 20, 0, 1237), 2, 0, 1, 9, 1, 0, 0) := rfl
theorem bu_77_80 : mm_at mt_P 77 80 = some ((80, 1, .aload_n 0, 0, 0, 0, 0), 2, 0, 1, 9, 1, 0, 0) := rfl
theorem bu_77_81 : mm_at mt_P 77 81 = some ((81, 1, .aload_n 0, 0, 0, 0, 0), 2, 0, 1, 9, 1, 0, 0) := rfl
theorem bu_77_82 : mm_at mt_P 77 82 = some ((82, 3, .getfield 236, 9, 19, 0, 1236), 2, 0, 1, 9, 1, 0, 0) := rfl
theorem bu_77_85 : mm_at mt_P 77 85 = some ((85, 3, .invokevirtual 152, 72, 0, 0, 1191), 2, 0, 1, 9, 1, 0, 0) := rfl
theorem bu_77_88 : mm_at mt_P 77 88 = some ((88, 1, .aload_n 0, 0, 0, 0, 0), 2, 0, 1, 9, 1, 0, 0) := rfl
theorem bu_77_89 : mm_at mt_P 77 89 = some ((89, 3, .sipush 130, 0, 0, 0, 0), 2, 0, 1, 9, 1, 0, 0) := rfl
theorem bu_77_92 : mm_at mt_P 77 92 = some ((92, 1, .aload_n 0, 0, 0, 0, 0), 2, 0, 1, 9, 1, 0, 0) := rfl
theorem bu_77_93 : mm_at mt_P 77 93 = some ((93, 3, .getfield 236, 9, 19, 0, 1236), 2, 0, 1, 9, 1, 0, 0) := rfl
theorem bu_77_96 : mm_at mt_P 77 96 = some ((96, 1, .imul, 0, 0, 0, 0), 2, 0, 1, 9, 1, 0, 0) := rfl
theorem bu_77_97 : mm_at mt_P 77 97 = some ((97, 3, .putfield 242, 9, 33, 0, 1250), 2, 0, 1, 9, 1, 0, 0) := rfl
theorem bu_77_100 : mm_at mt_P 77 100 = some ((100, 1, .aload_n 0, 0, 0, 0, 0), 2, 0, 1, 9, 1, 0, 0) := rfl
theorem bu_77_101 : mm_at mt_P 77 101 = some ((101, 3, .sipush 420, 0, 0, 0, 0), 2, 0, 1, 9, 1, 0, 0) := rfl
theorem bu_77_104 : mm_at mt_P 77 104 = some ((104, 1, .aload_n 0, 0, 0, 0, 0), 2, 0, 1, 9, 1, 0, 0) := rfl
theorem bu_77_105 : mm_at mt_P 77 105 = some ((105, 3, .getfield 236, 9, 19, 0, 1236), 2, 0, 1, 9, 1, 0, 0) := rfl
theorem bu_77_108 : mm_at mt_P 77 108 = some ((108, 1, .imul, 0, 0, 0, 0), 2, 0, 1, 9, 1, 0, 0) := rfl
theorem bu_77_109 : mm_at mt_P 77 109 = some ((109, 3, .putfield 245, 9, 39, 0, 1256), 2, 0, 1, 9, 1, 0, 0) := rfl
theorem bu_77_112 : mm_at mt_P 77 112 = some ((112, 1, .aload_n 0, 0, 0, 0, 0), 2, 0, 1, 9, 1, 0, 0) := rfl
theorem bu_77_113 : mm_at mt_P 77 113 = some ((113, 3, .getfield 203, 9, 13, 0, 1230), 2, 0, 1, 9, 1, 0, 0) := rfl
theorem bu_77_116 : mm_at mt_P 77 116 = some ((116, 3, .ifCond .ne 18, 0, 0, 0, 0), 2, 0, 1, 9, 1, 0, 0) := rfl
theorem bu_77_119 : mm_at mt_P 77 119 = some ((119, 1, .aload_n 0, 0, 0, 0, 0), 2, 0, 1, 9, 1, 0, 0) := rfl
theorem bu_77_120 : mm_at mt_P 77 120 = some ((120, 1, .iconst 0, 0, 0, 0, 0), 2, 0, 1, 9, 1, 0, 0) := rfl
theorem bu_77_121 : mm_at mt_P 77 121 = some ((121, 3, .invokevirtual 221, 45, 0, 0, 1475), 2, 0, 1, 9, 1, 0, 0) := rfl
theorem bu_77_124 : mm_at mt_P 77 124 = some ((124, 3, .ifCond .ne 10, 0, 0, 0, 0), 2, 0, 1, 9, 1, 0, 0) := rfl
theorem bu_77_127 : mm_at mt_P 77 127 = some ((127, 1, .aload_n 0, 0, 0, 0, 0), 2, 0, 1, 9, 1, 0, 0) := rfl
theorem bu_77_128 : mm_at mt_P 77 128 = some ((128, 3, .invokevirtual 248, 99, 0, 0, 1479), 2, 0, 1, 9, 1, 0, 0) := rfl
theorem bu_77_131 : mm_at mt_P 77 131 = some ((131, 3, .goto (-19), 0, 0, 0, 0), 2, 0, 1, 9, 1, 0, 0) := rfl
theorem bu_77_134 : mm_at mt_P 77 134 = some ((134, 1, .aload_n 0, 0, 0, 0, 0), 2, 0, 1, 9, 1, 0, 0) := rfl
theorem bu_77_135 : mm_at mt_P 77 135 = some ((135, 1, .aload_n 0, 0, 0, 0, 0), 2, 0, 1, 9, 1, 0, 0) := rfl
theorem bu_77_136 : mm_at mt_P 77 136 = some ((136, 3, .getfield 203, 9, 13, 0, 1230), 2, 0, 1, 9, 1, 0, 0) := rfl
theorem bu_77_139 : mm_at mt_P 77 139 = some ((139, 3, .ifCond .le 10, 0, 0, 0, 0), 2, 0, 1, 9, 1, 0, 0) := rfl
theorem bu_77_142 : mm_at mt_P 77 142 = some ((142, 1, .aload_n 0, 0, 0, 0, 0), 2, 0, 1, 9, 1, 0, 0) := rfl
theorem bu_77_143 : mm_at mt_P 77 143 = some ((143, 3, .getfield 209, 9, 14, 0, 1231), 2, 0, 1, 9, 1, 0, 0) := rfl
theorem bu_77_146 : mm_at mt_P 77 146 = some ((146, 3, .goto 18, 0, 0, 0, 0), 2, 0, 1, 9, 1, 0, 0) := rfl
theorem bu_77_149 : mm_at mt_P 77 149 = some ((149, 1, .aload_n 0, 0, 0, 0, 0), 2, 0, 1, 9, 1, 0, 0) := rfl
theorem bu_77_150 : mm_at mt_P 77 150 = some ((150, 3, .getfield 212, 9, 15, 0, 1232), 2, 0, 1, 9, 1, 0, 0) := rfl
theorem bu_77_153 : mm_at mt_P 77 153 = some ((153, 3, .ifCond .le 10, 0, 0, 0, 0), 2, 0, 1, 9, 1, 0, 0) := rfl
theorem bu_77_156 : mm_at mt_P 77 156 = some ((156, 1, .aload_n 0, 0, 0, 0, 0), 2, 0, 1, 9, 1, 0, 0) := rfl
theorem bu_77_157 : mm_at mt_P 77 157 = some ((157, 3, .getfield 215, 9, 16, 0, 1233), 2, 0, 1, 9, 1, 0, 0) := rfl
theorem bu_77_160 : mm_at mt_P 77 160 = some ((160, 3, .goto 4, 0, 0, 0, 0), 2, 0, 1, 9, 1, 0, 0) := rfl
theorem bu_77_163 : mm_at mt_P 77 163 = some ((163, 1, .iconst (-1), 0, 0, 0, 0), 2, 0, 1, 9, 1, 0, 0) := rfl
theorem bu_77_164 : mm_at mt_P 77 164 = some ((164, 3, .putfield 37, 9, 17, 0, 1234), 2, 0, 1, 9, 1, 0, 0) := rfl
theorem bu_77_167 : mm_at mt_P 77 167 = some ((167, 1, .aload_n 0, 0, 0, 0, 0), 2, 0, 1, 9, 1, 0, 0) := rfl
theorem bu_77_168 : mm_at mt_P 77 168 = some ((168, 3, .getfield 203, 9, 13, 0, 1230), 2, 0, 1, 9, 1, 0, 0) := rfl
theorem bu_77_171 : mm_at mt_P 77 171 = some ((171, 3, .ifCond .le 8, 0, 0, 0, 0), 2, 0, 1, 9, 1, 0, 0) := rfl
theorem bu_77_174 : mm_at mt_P 77 174 = some ((174, 1, .aload_n 0, 0, 0, 0, 0), 2, 0, 1, 9, 1, 0, 0) := rfl
theorem bu_77_175 : mm_at mt_P 77 175 = some ((175, 3, .getfield 203, 9, 13, 0, 1230), 2, 0, 1, 9, 1, 0, 0) := rfl
theorem bu_77_178 : mm_at mt_P 77 178 = some ((178, 1, .ireturn, 0, 0, 0, 0), 2, 0, 1, 9, 1, 0, 0) := rfl
theorem bu_77_179 : mm_at mt_P 77 179 = some ((179, 1, .aload_n 0, 0, 0, 0, 0), 2, 0, 1, 9, 1, 0, 0) := rfl
theorem bu_77_180 : mm_at mt_P 77 180 = some ((180, 3, .getfield 212, 9, 15, 0, 1232), 2, 0, 1, 9, 1, 0, 0) := rfl
theorem bu_77_183 : mm_at mt_P 77 183 = some ((183, 3, .ifCond .le 8, 0, 0, 0, 0), 2, 0, 1, 9, 1, 0, 0) := rfl
theorem bu_77_186 : mm_at mt_P 77 186 = some ((186, 1, .aload_n 0, 0, 0, 0, 0), 2, 0, 1, 9, 1, 0, 0) := rfl
theorem bu_77_187 : mm_at mt_P 77 187 = some ((187, 3, .getfield 212, 9, 15, 0, 1232), 2, 0, 1, 9, 1, 0, 0) := rfl
theorem bu_77_190 : mm_at mt_P 77 190 = some ((190, 1, .ireturn, 0, 0, 0, 0), 2, 0, 1, 9, 1, 0, 0) := rfl
theorem bu_77_191 : mm_at mt_P 77 191 = some ((191, 1, .aload_n 0, 0, 0, 0, 0), 2, 0, 1, 9, 1, 0, 0) := rfl
theorem bu_77_192 : mm_at mt_P 77 192 = some ((192, 1, .aload_n 0, 0, 0, 0, 0), 2, 0, 1, 9, 1, 0, 0) := rfl
theorem bu_77_193 : mm_at mt_P 77 193 = some ((193, 3, .getfield 236, 9, 19, 0, 1236), 2, 0, 1, 9, 1, 0, 0) := rfl
theorem bu_77_196 : mm_at mt_P 77 196 = some ((196, 3, .putfield 233, 9, 18, 0, 1235), 2, 0, 1, 9, 1, 0, 0) := rfl
theorem bu_77_199 : mm_at mt_P 77 199 = some ((199, 1, .aload_n 0, 0, 0, 0, 0), 2, 0, 1, 9, 1, 0, 0) := rfl
theorem bu_77_200 : mm_at mt_P 77 200 = some ((200, 3, .invokevirtual 160, 7, 0, 0, 1202), 2, 0, 1, 9, 1, 0, 0) := rfl
theorem bu_77_203 : mm_at mt_P 77 203 = some ((203, 1, .aload_n 0, 0, 0, 0, 0), 2, 0, 1, 9, 1, 0, 0) := rfl
theorem bu_77_204 : mm_at mt_P 77 204 = some ((204, 3, .invokevirtual 163, 56, 0, 0, 1214), 2, 0, 1, 9, 1, 0, 0) := rfl
theorem bu_77_207 : mm_at mt_P 77 207 = some ((207, 1, .aload_n 0, 0, 0, 0, 0), 2, 0, 1, 9, 1, 0, 0) := rfl
theorem bu_77_208 : mm_at mt_P 77 208 = some ((208, 1, .iconst 0, 0, 0, 0, 0), 2, 0, 1, 9, 1, 0, 0) := rfl
theorem bu_77_209 : mm_at mt_P 77 209 = some ((209, 3, .putfield 251, 9, 54, 0, 1271), 2, 0, 1, 9, 1, 0, 0) := rfl
theorem bu_77_212 : mm_at mt_P 77 212 = some ((212, 1, .aload_n 0, 0, 0, 0, 0), 2, 0, 1, 9, 1, 0, 0) := rfl
theorem bu_77_213 : mm_at mt_P 77 213 = some ((213, 1, .iconst 0, 0, 0, 0, 0), 2, 0, 1, 9, 1, 0, 0) := rfl
theorem bu_77_214 : mm_at mt_P 77 214 = some ((214, 3, .putfield 254, 9, 65, 0, 1282), 2, 0, 1, 9, 1, 0, 0) := rfl
theorem bu_77_217 : mm_at mt_P 77 217 = some ((217, 1, .aload_n 0, 0, 0, 0, 0), 2, 0, 1, 9, 1, 0, 0) := rfl
theorem bu_77_218 : mm_at mt_P 77 218 = some ((218, 1, .iconst 0, 0, 0, 0, 0), 2, 0, 1, 9, 1, 0, 0) := rfl
theorem bu_77_219 : mm_at mt_P 77 219 = some ((219, 3, .putfield 257, 9, 67, 0, 1284), 2, 0, 1, 9, 1, 0, 0) := rfl
theorem bu_77_222 : mm_at mt_P 77 222 = some ((222, 1, .iconst 0, 0, 0, 0, 0), 2, 0, 1, 9, 1, 0, 0) := rfl
theorem bu_77_223 : mm_at mt_P 77 223 = some ((223, 1, .istore_n 1, 0, 0, 0, 0), 2, 0, 1, 9, 1, 0, 0) := rfl
theorem bu_77_224 : mm_at mt_P 77 224 = some ((224, 1, .iload_n 1, 0, 0, 0, 0), 2, 0, 1, 9, 1, 0, 0) := rfl
theorem bu_77_225 : mm_at mt_P 77 225 = some ((225, 1, .iconst 3, 0, 0, 0, 0), 2, 0, 1, 9, 1, 0, 0) := rfl
theorem bu_77_226 : mm_at mt_P 77 226 = some ((226, 3, .if_icmp .ge 16, 0, 0, 0, 0), 2, 0, 1, 9, 1, 0, 0) := rfl
theorem bu_77_229 : mm_at mt_P 77 229 = some ((229, 1, .aload_n 0, 0, 0, 0, 0), 2, 0, 1, 9, 1, 0, 0) := rfl
theorem bu_77_230 : mm_at mt_P 77 230 = some ((230, 3, .getfield 146, 9, 71, 0, 1288), 2, 0, 1, 9, 1, 0, 0) := rfl
theorem bu_77_233 : mm_at mt_P 77 233 = some ((233, 1, .iload_n 1, 0, 0, 0, 0), 2, 0, 1, 9, 1, 0, 0) := rfl
theorem bu_77_234 : mm_at mt_P 77 234 = some ((234, 1, .iconst 0, 0, 0, 0, 0), 2, 0, 1, 9, 1, 0, 0) := rfl
theorem bu_77_235 : mm_at mt_P 77 235 = some ((235, 1, .bastore, 0, 0, 0, 0), 2, 0, 1, 9, 1, 0, 0) := rfl
theorem bu_77_236 : mm_at mt_P 77 236 = some ((236, 3, .iinc 1 1, 0, 0, 0, 0), 2, 0, 1, 9, 1, 0, 0) := rfl
theorem bu_77_239 : mm_at mt_P 77 239 = some ((239, 3, .goto (-15), 0, 0, 0, 0), 2, 0, 1, 9, 1, 0, 0) := rfl
theorem bu_77_242 : mm_at mt_P 77 242 = some ((242, 1, .iconst 0, 0, 0, 0, 0), 2, 0, 1, 9, 1, 0, 0) := rfl
theorem bu_77_243 : mm_at mt_P 77 243 = some ((243, 1, .ireturn, 0, 0, 0, 0), 2, 0, 1, 9, 1, 0, 0) := rfl
section RQB
variable {K V P : Nat → Int} {Q : Nat → Nat → Bool} {σ : py_S} {M : Nat} {ns : List Nat} {oo e : Nat} {E : mm_E} {PO : mm_C → Prop} {NN : Nat} {h0 h : mm_H} {s : Nat → Int32} {A : Nat → Nat → Int32} {L : Nat → Nat → Int64} {gs : List mm_F}
set_option maxHeartbeats 4000000 in
theorem rr_77a {A0 : Nat → Nat → Int32} : ∀ NN : Nat, (∀ (h' : mm_H) (A' : Nat → Nat → Int32) (lv : mm_V) (o : Option Value), bm_P rz_T E h0 h' s A' L → (∀ c, c ≠ 90 → A' c = A0 c) → (∀ j : Nat, (j : Int) < (s 8804).toInt → (A' 90 j).toInt % 256 = (A0 89 j).toInt % 256) → mm_get lv 0 = some (.ref (E.1 + 88)) → bp_G E PO NN ((77, 36, lv, [], 0, 0) :: gs, h', o)) → (∀ (h : mm_H) (A : Nat → Nat → Int32) (lv : mm_V) (o : Option Value) (i : Int32), bm_P rz_T E h0 h s A L → (∀ c, c ≠ 90 → A c = A0 c) → (∀ j : Nat, (j : Int) < i.toInt → (A 90 j).toInt % 256 = (A0 89 j).toInt % 256) → mm_get lv 0 = some (.ref (E.1 + 88)) → mm_get lv 1 = some (.int i) → bp_G E PO NN ((77, 10, lv, [], 0, 0) :: gs, h, o)) := by
  intro NN
  induction NN with
  | zero => intro kk h A lv o i hP hA hb g0 g1; exact bp_zero bu_77_10
  | succ NN ih =>
    intro kk h A lv o i hP hA hb g0 g1
    refine bp_ld (pc' := 11) bu_77_10 rfl rfl (fun _ _ _ => rfl) g1 rfl ?_
    refine bp_ld (pc' := 12) bu_77_11 rfl rfl (fun _ _ _ => rfl) g0 rfl ?_
    refine bn_gi (pc' := 15) (K := 8804) bu_77_12 rfl rfl (fun _ _ _ => rfl) hP rz_o88 rz_i88_4 rfl rfl ?_
    refine bp_ic (pc' := 18) (pt := 36) bu_77_15 rfl rfl (fun k4032 => ?_) (fun k4032 => ?_)
    · replace k4032 : ((s 8804)).toInt ≤ (i).toInt := k4032
      exact kk _ _ _ _ hP hA (fun j hj => hb j (by omega)) g0
    · replace k4032 : ¬ (((s 8804)).toInt ≤ (i).toInt) := k4032
      refine bp_ld (pc' := 19) bu_77_18 rfl rfl (fun _ _ _ => rfl) g0 rfl ?_
      refine bn_gr (pc' := 22) (t := 90) bu_77_19 rfl rfl (fun _ _ _ => rfl) hP rz_o88 rz_r88_3 ?_
      refine bp_ld (pc' := 23) bu_77_22 rfl rfl (fun _ _ _ => rfl) g1 rfl ?_
      refine bp_ld (pc' := 24) bu_77_23 rfl rfl (fun _ _ _ => rfl) g0 rfl ?_
      refine bn_gr (pc' := 27) (t := 89) bu_77_24 rfl rfl (fun _ _ _ => rfl) hP rz_o88 rz_r88_1 ?_
      refine bp_ld (pc' := 28) bu_77_27 rfl rfl (fun _ _ _ => rfl) g1 rfl ?_
      refine bn_iaF (pc' := 29) bu_77_28 rfl rfl (fun _ _ _ => rfl) hP rz_a89 (Or.inl rfl) (fun b4033 b4034 => ?_)
      refine bn_iasF (pc' := 30) bu_77_29 rfl rfl (fun _ _ _ => rfl) hP rz_a90 (Or.inl rfl) (fun b4037 b4038 h4035 hP4036 => ?_)
      refine bp_inc (pc' := 33) bu_77_30 rfl (by decide) g1 (by decide) (by omega) (by omega) (fun lv4039 y4042 F4040 g4041 e4043 => ?_)
      have g4044 := F4040 0 (.ref (E.1 + 88)) g0 (by decide) (Or.inl rfl)
      refine bp_goD (pc' := 10) bu_77_33 rfl ?_
      exact ih (fun h' A' lv o a0 a1 a2 a3 => bp_mono (Nat.le_succ NN) (kk h' A' lv o a0 a1 a2 a3)) _ _ _ _ _ hP4036 (fun c c90 => (bh_up_ne c90).trans (hA c c90)) (fun j hj => by
        by_cases e : j = i.toInt.toNat
        · rw [e, bh_up_i, bp_nar1, hA 89 (by decide)]
        · rw [bh_up_j e]
          exact hb j (by omega)) g4044 g4041
set_option maxHeartbeats 4000000 in
theorem rr_77l {τ : py_S} {s0 : Nat → Int32} {A0 : Nat → Nat → Int32} {L0 : Nat → Nat → Int64} (hT : rq_T K V P M A0) (hK0 : ∀ j, 0 ≤ K j) (hQ : ∀ i j, i < M → j < M → K i = 1 → K j = 1 → (Q i j = true ↔ L0 94 i = L0 94 j)) : ∀ NN : Nat, (∀ (h : mm_H) (s : Nat → Int32) (A : Nat → Nat → Int32) (L : Nat → Nat → Int64) (lv : mm_V) (o : Option Value), bm_P rz_T E h0 h s A L → rq_F s0 A0 L0 s A L → rq_R K P M τ τ.2.2.2.2 0 0 s A L → mm_get lv 0 = some (.ref (E.1 + 88)) → bp_G E PO NN ((77, 134, lv, [], 0, 0) :: gs, h, o)) → (∀ (h : mm_H) (s : Nat → Int32) (A : Nat → Nat → Int32) (L : Nat → Nat → Int64) (lv : mm_V) (o : Option Value) (σ : py_S) (r : Nat), bm_P rz_T E h0 h s A L → rq_F s0 A0 L0 s A L → rq_R K P M σ σ.2.2.2.2 0 0 s A L → mm_get lv 0 = some (.ref (E.1 + 88)) → (σ.2.1 = 0 → 401 ≤ σ.1 + r) → py_al K V Q r σ = τ → bp_G E PO NN ((77, 112, lv, [], 0, 0) :: gs, h, o)) := by
  intro NN
  induction NN with
  | zero => intro kk h s A L lv o σ r hP hF hR g0 hr hx; exact bp_zero bu_77_112
  | succ NN ih =>
    intro kk h s A L lv o σ r hP hF hR g0 hr hx
    have q1 := hR.1
    refine bp_ld (pc' := 113) bu_77_112 rfl rfl (fun _ _ _ => rfl) g0 rfl ?_
    refine bn_gi (pc' := 116) (K := 8813) bu_77_113 rfl rfl (fun _ _ _ => rfl) hP rz_o88 rz_i88_13 rfl rfl ?_
    refine bp_i0 (pc' := 119) (pt := 134) bu_77_116 rfl rfl (fun k4045 => ?_) (fun k4045 => ?_)
    · replace k4045 : ((s 8813)).toInt ≠ 0 := k4045
      rw [py_al_e (by omega)] at hx
      exact kk _ _ _ _ _ _ hP hF (by rw [← hx]; exact hR) g0
    · replace k4045 : ¬ (((s 8813)).toInt ≠ 0) := k4045
      refine bp_ld (pc' := 120) bu_77_119 rfl rfl (fun _ _ _ => rfl) g0 rfl ?_
      refine bp_c (pc' := 121) (n := 0) bu_77_120 rfl rfl (fun _ _ _ => rfl) (by decide) (fun c4046 e4047 => ?_)
      refine bn_cvF (pc' := 124) (st := []) (args := [.int c4046]) bu_77_121 rfl rfl rfl (by decide) hP rz_o88 (by decide) rfl (Nat.le_of_ble_eq_true rfl) (Nat.le_of_ble_eq_true rfl) ?_
      refine rr_45 (k := c4046) hP hR (rq_T_F hT hF) (fun r4048 p4049 => ?_)
      show bp_G E PO (NN + 1) ((77, 124, lv, [.int r4048], 0, 0) :: gs, h, none)
      refine bp_i0 (pc' := 127) (pt := 134) bu_77_124 rfl rfl (fun k4050 => ?_) (fun k4050 => ?_)
      · replace k4050 : (r4048).toInt ≠ 0 := k4050
        rw [py_al_e (by omega)] at hx
        exact kk _ _ _ _ _ _ hP hF (by rw [← hx]; exact hR) g0
      · replace k4050 : ¬ ((r4048).toInt ≠ 0) := k4050
        refine bp_ld (pc' := 128) bu_77_127 rfl rfl (fun _ _ _ => rfl) g0 rfl ?_
        refine bn_cvF (pc' := 131) (st := []) (args := []) bu_77_128 rfl rfl rfl (by decide) hP rz_o88 (by decide) rfl (Nat.le_of_ble_eq_true rfl) (Nat.le_of_ble_eq_true rfl) ?_
        have q0 : σ.2.1 = 0 := by omega
        refine rr_99 hP hR (rq_T_F hT hF) (by rw [hF.2.2.1]; exact hQ) (hK0 _) q0 rfl (fun h4051 s4052 A4053 L4054 hP4055 F4056 R4057 => ?_)
        have F4058 := rq_F_t hF F4056
        show bp_G E PO (NN + 1) ((77, 131, lv, [], 0, 0) :: gs, h4051, none)
        refine bp_goD (pc' := 112) bu_77_131 rfl ?_
        have m4 := hT.1
        have r1 := (hR.2.1 q0).2.1
        obtain ⟨r, rfl⟩ : ∃ r', r = r' + 1 := ⟨r - 1, by omega⟩
        rw [py_al_s q0 (by omega)] at hx
        exact ih (fun h s A L lv o a0 a1 a2 a3 => bp_mono (Nat.le_succ NN) (kk h s A L lv o a0 a1 a2 a3)) _ _ _ _ _ _ _ r hP4055 F4058 R4057 g0 (fun u => by have lt := py_tell_lt (K := K) (V := V) (Q := Q) q0 u; omega) hx
set_option maxHeartbeats 4000000 in
theorem rr_77h {A0 : Nat → Nat → Int32} : ∀ NN : Nat, (∀ (h' : mm_H) (A' : Nat → Nat → Int32) (lv : mm_V) (o : Option Value) (k : Int32), bm_P rz_T E h0 h' s A' L → (∀ c, c ≠ 131 → A' c = A0 c) → mm_get lv 0 = some (.ref (E.1 + 88)) → mm_get lv 1 = some (.int k) → bp_G E PO NN ((77, 242, lv, [], 0, 0) :: gs, h', o)) → (∀ (h : mm_H) (A : Nat → Nat → Int32) (lv : mm_V) (o : Option Value) (k : Int32), bm_P rz_T E h0 h s A L → (∀ c, c ≠ 131 → A c = A0 c) → mm_get lv 0 = some (.ref (E.1 + 88)) → mm_get lv 1 = some (.int k) → bp_G E PO NN ((77, 224, lv, [], 0, 0) :: gs, h, o)) := by
  intro NN
  induction NN with
  | zero => intro kk h A lv o k hP hA g0 g1; exact bp_zero bu_77_224
  | succ NN ih =>
    intro kk h A lv o k hP hA g0 g1
    refine bp_ld (pc' := 225) bu_77_224 rfl rfl (fun _ _ _ => rfl) g1 rfl ?_
    refine bp_c (pc' := 226) (n := 3) bu_77_225 rfl rfl (fun _ _ _ => rfl) (by decide) (fun c4059 e4060 => ?_)
    refine bp_ic (pc' := 229) (pt := 242) bu_77_226 rfl rfl (fun k4061 => ?_) (fun k4061 => ?_)
    · replace k4061 : (c4059).toInt ≤ (k).toInt := k4061
      exact kk _ _ _ _ _ hP hA g0 g1
    · replace k4061 : ¬ ((c4059).toInt ≤ (k).toInt) := k4061
      refine bp_ld (pc' := 230) bu_77_229 rfl rfl (fun _ _ _ => rfl) g0 rfl ?_
      refine bn_gr (pc' := 233) (t := 131) bu_77_230 rfl rfl (fun _ _ _ => rfl) hP rz_o88 rz_r88_71 ?_
      refine bp_ld (pc' := 234) bu_77_233 rfl rfl (fun _ _ _ => rfl) g1 rfl ?_
      refine bp_c (pc' := 235) (n := 0) bu_77_234 rfl rfl (fun _ _ _ => rfl) (by decide) (fun c4062 e4063 => ?_)
      refine bn_iasF (pc' := 236) bu_77_235 rfl rfl (fun _ _ _ => rfl) hP rz_a131 (Or.inr rfl) (fun b4066 b4067 h4064 hP4065 => ?_)
      refine bn_incx (pc' := 239) bu_77_236 rfl (by decide) g1 (by decide) (fun lv4068 y4071 F4069 g4070 e4072 => ?_)
      have g4073 := F4069 0 (.ref (E.1 + 88)) g0 (by decide) (Or.inl rfl)
      refine bp_goD (pc' := 224) bu_77_239 rfl ?_
      exact ih (fun h' A' lv o k a0 a1 b0 b1 => bp_mono (Nat.le_succ NN) (kk h' A' lv o k a0 a1 b0 b1)) _ _ _ _ _ hP4065 (fun c c131 => ((bh_up_ne c131).trans (hA c c131))) g4073 g4070
set_option maxHeartbeats 4000000 in
theorem rr_77e {τ : py_S} {Pn : Nat → Nat} {lv : mm_V} {o : Option Value} (hP : bm_P rz_T E h0 h s A L) (hR : rq_R K (fun j => (Pn j : Int)) M τ ns 0 0 s A L) (g0 : mm_get lv 0 = some (.ref (E.1 + 88))) (hy0 : (s 8802).toInt = 0) (kk : ∀ (h' : mm_H) (s' : Nat → Int32) (A' : Nat → Nat → Int32) (L' : Nat → Nat → Int64) (r : Int32), bm_P rz_T E h0 h' s' A' L' → r.toInt = (py_ft τ : Int) → (s' 8817).toInt = py_pl Pn τ → (s' 8802).toInt = 0 → L' 95 = L 95 → bp_G E PO NN (mm_back (some (.int r)) gs h')) : bp_G E PO NN ((77, 134, lv, [], 0, 0) :: gs, h, o) := by
  have q1 := hR.1
  have q3 : τ.2.1 ≠ 0 → (s 8814).toInt = (Pn τ.1 : Int) := hR.2.2
  have q2 : τ.2.1 = 0 → (s 8815).toInt = (τ.2.2.1 : Int) ∧ (τ.2.2.1 ≠ 0 → (s 8816).toInt = (Pn τ.2.2.2.1 : Int)) := fun u => ⟨(hR.2.1 u).2.2.1, fun w => ((hR.2.1 u).2.2.2.1 w).1⟩
  refine bp_ld (pc' := 135) bu_77_134 rfl rfl (fun _ _ _ => rfl) g0 rfl ?_
  refine bp_ld (pc' := 136) bu_77_135 rfl rfl (fun _ _ _ => rfl) g0 rfl ?_
  refine bn_gi (pc' := 139) (K := 8813) bu_77_136 rfl rfl (fun _ _ _ => rfl) hP rz_o88 rz_i88_13 rfl rfl ?_
  refine bp_i0 (pc' := 142) (pt := 149) bu_77_139 rfl rfl (fun k4074 => ?_) (fun k4074 => ?_)
  · replace k4074 : ((s 8813)).toInt ≤ 0 := k4074
    refine bp_ld (pc' := 150) bu_77_149 rfl rfl (fun _ _ _ => rfl) g0 rfl ?_
    refine bn_gi (pc' := 153) (K := 8815) bu_77_150 rfl rfl (fun _ _ _ => rfl) hP rz_o88 rz_i88_15 rfl rfl ?_
    refine bp_i0 (pc' := 156) (pt := 163) bu_77_153 rfl rfl (fun k4075 => ?_) (fun k4075 => ?_)
    · replace k4075 : ((s 8815)).toInt ≤ 0 := k4075
      refine bp_c (pc' := 164) (n := -1) bu_77_163 rfl rfl (fun _ _ _ => rfl) (by decide) (fun c4076 e4077 => ?_)
      refine bn_pf (pc' := 167) (K := 8817) bu_77_164 rfl rfl (fun _ _ _ => rfl) hP rz_o88 rz_i88_17 rfl rfl (fun h4078 s4079 hP4080 e4081 f4082 => ?_)
      refine bp_ld (pc' := 168) bu_77_167 rfl rfl (fun _ _ _ => rfl) g0 rfl ?_
      refine bn_gi (pc' := 171) (K := 8813) bu_77_168 rfl rfl (fun _ _ _ => rfl) hP4080 rz_o88 rz_i88_13 rfl (f4082 8813 (by decide)) ?_
      refine bp_i0 (pc' := 174) (pt := 179) bu_77_171 rfl rfl (fun k4083 => ?_) (fun k4083 => ?_)
      · replace k4083 : ((s 8813)).toInt ≤ 0 := k4083
        refine bp_ld (pc' := 180) bu_77_179 rfl rfl (fun _ _ _ => rfl) g0 rfl ?_
        refine bn_gi (pc' := 183) (K := 8815) bu_77_180 rfl rfl (fun _ _ _ => rfl) hP4080 rz_o88 rz_i88_15 rfl (f4082 8815 (by decide)) ?_
        refine bp_i0 (pc' := 186) (pt := 191) bu_77_183 rfl rfl (fun k4084 => ?_) (fun k4084 => ?_)
        · replace k4084 : ((s 8815)).toInt ≤ 0 := k4084
          refine bp_ld (pc' := 192) bu_77_191 rfl rfl (fun _ _ _ => rfl) g0 rfl ?_
          refine bp_ld (pc' := 193) bu_77_192 rfl rfl (fun _ _ _ => rfl) g0 rfl ?_
          refine bn_gi (pc' := 196) (K := 8819) bu_77_193 rfl rfl (fun _ _ _ => rfl) hP4080 rz_o88 rz_i88_19 rfl (f4082 8819 (by decide)) ?_
          refine bn_pf (pc' := 199) (K := 8818) bu_77_196 rfl rfl (fun _ _ _ => rfl) hP4080 rz_o88 rz_i88_18 rfl rfl (fun h4085 s4086 hP4087 e4088 f4089 => ?_)
          refine bp_ld (pc' := 200) bu_77_199 rfl rfl (fun _ _ _ => rfl) g0 rfl ?_
          refine bn_cvF (pc' := 203) (st := []) (args := []) bu_77_200 rfl rfl rfl (by decide) hP4087 rz_o88 (by decide) rfl (Nat.le_of_ble_eq_true rfl) (Nat.le_of_ble_eq_true rfl) ?_
          refine rr_7 hP4087 (fun h4090 s4091 A4092 hP4093 f4094 a4095 => ?_)
          show bp_G E PO NN ((77, 203, lv, [], 0, 0) :: gs, h4090, none)
          refine bp_ld (pc' := 204) bu_77_203 rfl rfl (fun _ _ _ => rfl) g0 rfl ?_
          refine bn_cvF (pc' := 207) (st := []) (args := []) bu_77_204 rfl rfl rfl (by decide) hP4093 rz_o88 (by decide) rfl (Nat.le_of_ble_eq_true rfl) (Nat.le_of_ble_eq_true rfl) ?_
          refine rr_56 hP4093 (fun h4096 A4097 hP4098 a4099 => ?_)
          show bp_G E PO NN ((77, 207, lv, [], 0, 0) :: gs, h4096, none)
          refine bp_ld (pc' := 208) bu_77_207 rfl rfl (fun _ _ _ => rfl) g0 rfl ?_
          refine bp_c (pc' := 209) (n := 0) bu_77_208 rfl rfl (fun _ _ _ => rfl) (by decide) (fun c4100 e4101 => ?_)
          refine bn_pf (pc' := 212) (K := 8854) bu_77_209 rfl rfl (fun _ _ _ => rfl) hP4098 rz_o88 rz_i88_54 rfl rfl (fun h4102 s4103 hP4104 e4105 f4106 => ?_)
          refine bp_ld (pc' := 213) bu_77_212 rfl rfl (fun _ _ _ => rfl) g0 rfl ?_
          refine bp_c (pc' := 214) (n := 0) bu_77_213 rfl rfl (fun _ _ _ => rfl) (by decide) (fun c4107 e4108 => ?_)
          refine bn_pf (pc' := 217) (K := 8865) bu_77_214 rfl rfl (fun _ _ _ => rfl) hP4104 rz_o88 rz_i88_65 rfl rfl (fun h4109 s4110 hP4111 e4112 f4113 => ?_)
          refine bp_ld (pc' := 218) bu_77_217 rfl rfl (fun _ _ _ => rfl) g0 rfl ?_
          refine bp_c (pc' := 219) (n := 0) bu_77_218 rfl rfl (fun _ _ _ => rfl) (by decide) (fun c4114 e4115 => ?_)
          refine bn_pf (pc' := 222) (K := 8867) bu_77_219 rfl rfl (fun _ _ _ => rfl) hP4111 rz_o88 rz_i88_67 rfl rfl (fun h4116 s4117 hP4118 e4119 f4120 => ?_)
          refine bp_c (pc' := 223) (n := 0) bu_77_222 rfl rfl (fun _ _ _ => rfl) (by decide) (fun c4121 e4122 => ?_)
          refine bp_st (pc' := 224) bu_77_223 rfl rfl (fun _ _ _ => rfl) rfl (by decide) (by decide) (fun lv4123 F4124 g4125 => ?_)
          have g4126 := F4124 0 (.ref (E.1 + 88)) g0 (by decide) (Or.inl rfl)
          refine rr_77h (A0 := A4097) NN (fun h4127 A4128 lv4129 o4130 k4131 hP4132 a4133 g4134 g4135 => ?_) _ _ _ _ _ hP4118 (fun _ _ => rfl) g4126 g4125
          refine bp_c (pc' := 243) (n := 0) bu_77_242 rfl rfl (fun _ _ _ => rfl) (by decide) (fun c4136 e4137 => ?_)
          refine bp_ri bu_77_243 ?_
          have z8817 := congrArg Int32.toInt ((f4120 8817 (by decide)).trans ((f4113 8817 (by decide)).trans ((f4106 8817 (by decide)).trans ((f4094 8817 (by decide) (by decide)).trans ((f4089 8817 (by decide)).trans e4081)))))
          have f2 := ((f4120 8802 (by decide)).trans ((f4113 8802 (by decide)).trans ((f4106 8802 (by decide)).trans ((f4094 8802 (by decide) (by decide)).trans ((f4089 8802 (by decide)).trans (f4082 8802 (by decide)))))))
          exact kk _ _ _ _ _ hP4132 (by unfold py_ft; first | (rw [if_pos (by omega)]; omega) | (rw [if_neg (by omega)]; omega)) (by unfold py_pl; first | (rw [if_pos (by omega)]; omega) | (rw [if_neg (by omega), if_pos (by omega)]; omega) | (rw [if_neg (by omega), if_neg (by omega)]; omega)) (by rw [f2]; exact hy0) rfl
        · replace k4084 : ¬ (((s 8815)).toInt ≤ 0) := k4084
          refine bp_ld (pc' := 187) bu_77_186 rfl rfl (fun _ _ _ => rfl) g0 rfl ?_
          refine bn_gi (pc' := 190) (K := 8815) bu_77_187 rfl rfl (fun _ _ _ => rfl) hP4080 rz_o88 rz_i88_15 rfl (f4082 8815 (by decide)) ?_
          refine bp_ri bu_77_190 ?_
          have z8817 := congrArg Int32.toInt e4081
          have f2 := (f4082 8802 (by decide))
          exact kk _ _ _ _ _ hP4080 (by unfold py_ft; first | (rw [if_pos (by omega)]; omega) | (rw [if_neg (by omega)]; omega)) (by unfold py_pl; first | (rw [if_pos (by omega)]; omega) | (rw [if_neg (by omega), if_pos (by omega)]; omega) | (rw [if_neg (by omega), if_neg (by omega)]; omega)) (by rw [f2]; exact hy0) rfl
      · replace k4083 : ¬ (((s 8813)).toInt ≤ 0) := k4083
        refine bp_ld (pc' := 175) bu_77_174 rfl rfl (fun _ _ _ => rfl) g0 rfl ?_
        refine bn_gi (pc' := 178) (K := 8813) bu_77_175 rfl rfl (fun _ _ _ => rfl) hP4080 rz_o88 rz_i88_13 rfl (f4082 8813 (by decide)) ?_
        refine bp_ri bu_77_178 ?_
        have z8817 := congrArg Int32.toInt e4081
        have f2 := (f4082 8802 (by decide))
        exact kk _ _ _ _ _ hP4080 (by unfold py_ft; first | (rw [if_pos (by omega)]; omega) | (rw [if_neg (by omega)]; omega)) (by unfold py_pl; first | (rw [if_pos (by omega)]; omega) | (rw [if_neg (by omega), if_pos (by omega)]; omega) | (rw [if_neg (by omega), if_neg (by omega)]; omega)) (by rw [f2]; exact hy0) rfl
    · replace k4075 : ¬ (((s 8815)).toInt ≤ 0) := k4075
      refine bp_ld (pc' := 157) bu_77_156 rfl rfl (fun _ _ _ => rfl) g0 rfl ?_
      refine bn_gi (pc' := 160) (K := 8816) bu_77_157 rfl rfl (fun _ _ _ => rfl) hP rz_o88 rz_i88_16 rfl rfl ?_
      refine bp_go (pc' := 164) bu_77_160 rfl ?_
      refine bn_pf (pc' := 167) (K := 8817) bu_77_164 rfl rfl (fun _ _ _ => rfl) hP rz_o88 rz_i88_17 rfl rfl (fun h4138 s4139 hP4140 e4141 f4142 => ?_)
      refine bp_ld (pc' := 168) bu_77_167 rfl rfl (fun _ _ _ => rfl) g0 rfl ?_
      refine bn_gi (pc' := 171) (K := 8813) bu_77_168 rfl rfl (fun _ _ _ => rfl) hP4140 rz_o88 rz_i88_13 rfl (f4142 8813 (by decide)) ?_
      refine bp_i0 (pc' := 174) (pt := 179) bu_77_171 rfl rfl (fun k4143 => ?_) (fun k4143 => ?_)
      · replace k4143 : ((s 8813)).toInt ≤ 0 := k4143
        refine bp_ld (pc' := 180) bu_77_179 rfl rfl (fun _ _ _ => rfl) g0 rfl ?_
        refine bn_gi (pc' := 183) (K := 8815) bu_77_180 rfl rfl (fun _ _ _ => rfl) hP4140 rz_o88 rz_i88_15 rfl (f4142 8815 (by decide)) ?_
        refine bp_i0 (pc' := 186) (pt := 191) bu_77_183 rfl rfl (fun k4144 => ?_) (fun k4144 => ?_)
        · replace k4144 : ((s 8815)).toInt ≤ 0 := k4144
          refine bp_ld (pc' := 192) bu_77_191 rfl rfl (fun _ _ _ => rfl) g0 rfl ?_
          refine bp_ld (pc' := 193) bu_77_192 rfl rfl (fun _ _ _ => rfl) g0 rfl ?_
          refine bn_gi (pc' := 196) (K := 8819) bu_77_193 rfl rfl (fun _ _ _ => rfl) hP4140 rz_o88 rz_i88_19 rfl (f4142 8819 (by decide)) ?_
          refine bn_pf (pc' := 199) (K := 8818) bu_77_196 rfl rfl (fun _ _ _ => rfl) hP4140 rz_o88 rz_i88_18 rfl rfl (fun h4145 s4146 hP4147 e4148 f4149 => ?_)
          refine bp_ld (pc' := 200) bu_77_199 rfl rfl (fun _ _ _ => rfl) g0 rfl ?_
          refine bn_cvF (pc' := 203) (st := []) (args := []) bu_77_200 rfl rfl rfl (by decide) hP4147 rz_o88 (by decide) rfl (Nat.le_of_ble_eq_true rfl) (Nat.le_of_ble_eq_true rfl) ?_
          refine rr_7 hP4147 (fun h4150 s4151 A4152 hP4153 f4154 a4155 => ?_)
          show bp_G E PO NN ((77, 203, lv, [], 0, 0) :: gs, h4150, none)
          refine bp_ld (pc' := 204) bu_77_203 rfl rfl (fun _ _ _ => rfl) g0 rfl ?_
          refine bn_cvF (pc' := 207) (st := []) (args := []) bu_77_204 rfl rfl rfl (by decide) hP4153 rz_o88 (by decide) rfl (Nat.le_of_ble_eq_true rfl) (Nat.le_of_ble_eq_true rfl) ?_
          refine rr_56 hP4153 (fun h4156 A4157 hP4158 a4159 => ?_)
          show bp_G E PO NN ((77, 207, lv, [], 0, 0) :: gs, h4156, none)
          refine bp_ld (pc' := 208) bu_77_207 rfl rfl (fun _ _ _ => rfl) g0 rfl ?_
          refine bp_c (pc' := 209) (n := 0) bu_77_208 rfl rfl (fun _ _ _ => rfl) (by decide) (fun c4160 e4161 => ?_)
          refine bn_pf (pc' := 212) (K := 8854) bu_77_209 rfl rfl (fun _ _ _ => rfl) hP4158 rz_o88 rz_i88_54 rfl rfl (fun h4162 s4163 hP4164 e4165 f4166 => ?_)
          refine bp_ld (pc' := 213) bu_77_212 rfl rfl (fun _ _ _ => rfl) g0 rfl ?_
          refine bp_c (pc' := 214) (n := 0) bu_77_213 rfl rfl (fun _ _ _ => rfl) (by decide) (fun c4167 e4168 => ?_)
          refine bn_pf (pc' := 217) (K := 8865) bu_77_214 rfl rfl (fun _ _ _ => rfl) hP4164 rz_o88 rz_i88_65 rfl rfl (fun h4169 s4170 hP4171 e4172 f4173 => ?_)
          refine bp_ld (pc' := 218) bu_77_217 rfl rfl (fun _ _ _ => rfl) g0 rfl ?_
          refine bp_c (pc' := 219) (n := 0) bu_77_218 rfl rfl (fun _ _ _ => rfl) (by decide) (fun c4174 e4175 => ?_)
          refine bn_pf (pc' := 222) (K := 8867) bu_77_219 rfl rfl (fun _ _ _ => rfl) hP4171 rz_o88 rz_i88_67 rfl rfl (fun h4176 s4177 hP4178 e4179 f4180 => ?_)
          refine bp_c (pc' := 223) (n := 0) bu_77_222 rfl rfl (fun _ _ _ => rfl) (by decide) (fun c4181 e4182 => ?_)
          refine bp_st (pc' := 224) bu_77_223 rfl rfl (fun _ _ _ => rfl) rfl (by decide) (by decide) (fun lv4183 F4184 g4185 => ?_)
          have g4186 := F4184 0 (.ref (E.1 + 88)) g0 (by decide) (Or.inl rfl)
          refine rr_77h (A0 := A4157) NN (fun h4187 A4188 lv4189 o4190 k4191 hP4192 a4193 g4194 g4195 => ?_) _ _ _ _ _ hP4178 (fun _ _ => rfl) g4186 g4185
          refine bp_c (pc' := 243) (n := 0) bu_77_242 rfl rfl (fun _ _ _ => rfl) (by decide) (fun c4196 e4197 => ?_)
          refine bp_ri bu_77_243 ?_
          have z8817 := congrArg Int32.toInt ((f4180 8817 (by decide)).trans ((f4173 8817 (by decide)).trans ((f4166 8817 (by decide)).trans ((f4154 8817 (by decide) (by decide)).trans ((f4149 8817 (by decide)).trans e4141)))))
          have f2 := ((f4180 8802 (by decide)).trans ((f4173 8802 (by decide)).trans ((f4166 8802 (by decide)).trans ((f4154 8802 (by decide) (by decide)).trans ((f4149 8802 (by decide)).trans (f4142 8802 (by decide)))))))
          exact kk _ _ _ _ _ hP4192 (by unfold py_ft; first | (rw [if_pos (by omega)]; omega) | (rw [if_neg (by omega)]; omega)) (by unfold py_pl; first | (rw [if_pos (by omega)]; omega) | (rw [if_neg (by omega), if_pos (by omega)]; omega) | (rw [if_neg (by omega), if_neg (by omega)]; omega)) (by rw [f2]; exact hy0) rfl
        · replace k4144 : ¬ (((s 8815)).toInt ≤ 0) := k4144
          refine bp_ld (pc' := 187) bu_77_186 rfl rfl (fun _ _ _ => rfl) g0 rfl ?_
          refine bn_gi (pc' := 190) (K := 8815) bu_77_187 rfl rfl (fun _ _ _ => rfl) hP4140 rz_o88 rz_i88_15 rfl (f4142 8815 (by decide)) ?_
          refine bp_ri bu_77_190 ?_
          have z8817 := congrArg Int32.toInt e4141
          have f2 := (f4142 8802 (by decide))
          exact kk _ _ _ _ _ hP4140 (by unfold py_ft; first | (rw [if_pos (by omega)]; omega) | (rw [if_neg (by omega)]; omega)) (by unfold py_pl; first | (rw [if_pos (by omega)]; omega) | (rw [if_neg (by omega), if_pos (by omega)]; omega) | (rw [if_neg (by omega), if_neg (by omega)]; omega)) (by rw [f2]; exact hy0) rfl
      · replace k4143 : ¬ (((s 8813)).toInt ≤ 0) := k4143
        refine bp_ld (pc' := 175) bu_77_174 rfl rfl (fun _ _ _ => rfl) g0 rfl ?_
        refine bn_gi (pc' := 178) (K := 8813) bu_77_175 rfl rfl (fun _ _ _ => rfl) hP4140 rz_o88 rz_i88_13 rfl (f4142 8813 (by decide)) ?_
        refine bp_ri bu_77_178 ?_
        have z8817 := congrArg Int32.toInt e4141
        have f2 := (f4142 8802 (by decide))
        exact kk _ _ _ _ _ hP4140 (by unfold py_ft; first | (rw [if_pos (by omega)]; omega) | (rw [if_neg (by omega)]; omega)) (by unfold py_pl; first | (rw [if_pos (by omega)]; omega) | (rw [if_neg (by omega), if_pos (by omega)]; omega) | (rw [if_neg (by omega), if_neg (by omega)]; omega)) (by rw [f2]; exact hy0) rfl
  · replace k4074 : ¬ (((s 8813)).toInt ≤ 0) := k4074
    refine bp_ld (pc' := 143) bu_77_142 rfl rfl (fun _ _ _ => rfl) g0 rfl ?_
    refine bn_gi (pc' := 146) (K := 8814) bu_77_143 rfl rfl (fun _ _ _ => rfl) hP rz_o88 rz_i88_14 rfl rfl ?_
    refine bp_go (pc' := 164) bu_77_146 rfl ?_
    refine bn_pf (pc' := 167) (K := 8817) bu_77_164 rfl rfl (fun _ _ _ => rfl) hP rz_o88 rz_i88_17 rfl rfl (fun h4198 s4199 hP4200 e4201 f4202 => ?_)
    refine bp_ld (pc' := 168) bu_77_167 rfl rfl (fun _ _ _ => rfl) g0 rfl ?_
    refine bn_gi (pc' := 171) (K := 8813) bu_77_168 rfl rfl (fun _ _ _ => rfl) hP4200 rz_o88 rz_i88_13 rfl (f4202 8813 (by decide)) ?_
    refine bp_i0 (pc' := 174) (pt := 179) bu_77_171 rfl rfl (fun k4203 => ?_) (fun k4203 => ?_)
    · replace k4203 : ((s 8813)).toInt ≤ 0 := k4203
      refine bp_ld (pc' := 180) bu_77_179 rfl rfl (fun _ _ _ => rfl) g0 rfl ?_
      refine bn_gi (pc' := 183) (K := 8815) bu_77_180 rfl rfl (fun _ _ _ => rfl) hP4200 rz_o88 rz_i88_15 rfl (f4202 8815 (by decide)) ?_
      refine bp_i0 (pc' := 186) (pt := 191) bu_77_183 rfl rfl (fun k4204 => ?_) (fun k4204 => ?_)
      · replace k4204 : ((s 8815)).toInt ≤ 0 := k4204
        refine bp_ld (pc' := 192) bu_77_191 rfl rfl (fun _ _ _ => rfl) g0 rfl ?_
        refine bp_ld (pc' := 193) bu_77_192 rfl rfl (fun _ _ _ => rfl) g0 rfl ?_
        refine bn_gi (pc' := 196) (K := 8819) bu_77_193 rfl rfl (fun _ _ _ => rfl) hP4200 rz_o88 rz_i88_19 rfl (f4202 8819 (by decide)) ?_
        refine bn_pf (pc' := 199) (K := 8818) bu_77_196 rfl rfl (fun _ _ _ => rfl) hP4200 rz_o88 rz_i88_18 rfl rfl (fun h4205 s4206 hP4207 e4208 f4209 => ?_)
        refine bp_ld (pc' := 200) bu_77_199 rfl rfl (fun _ _ _ => rfl) g0 rfl ?_
        refine bn_cvF (pc' := 203) (st := []) (args := []) bu_77_200 rfl rfl rfl (by decide) hP4207 rz_o88 (by decide) rfl (Nat.le_of_ble_eq_true rfl) (Nat.le_of_ble_eq_true rfl) ?_
        refine rr_7 hP4207 (fun h4210 s4211 A4212 hP4213 f4214 a4215 => ?_)
        show bp_G E PO NN ((77, 203, lv, [], 0, 0) :: gs, h4210, none)
        refine bp_ld (pc' := 204) bu_77_203 rfl rfl (fun _ _ _ => rfl) g0 rfl ?_
        refine bn_cvF (pc' := 207) (st := []) (args := []) bu_77_204 rfl rfl rfl (by decide) hP4213 rz_o88 (by decide) rfl (Nat.le_of_ble_eq_true rfl) (Nat.le_of_ble_eq_true rfl) ?_
        refine rr_56 hP4213 (fun h4216 A4217 hP4218 a4219 => ?_)
        show bp_G E PO NN ((77, 207, lv, [], 0, 0) :: gs, h4216, none)
        refine bp_ld (pc' := 208) bu_77_207 rfl rfl (fun _ _ _ => rfl) g0 rfl ?_
        refine bp_c (pc' := 209) (n := 0) bu_77_208 rfl rfl (fun _ _ _ => rfl) (by decide) (fun c4220 e4221 => ?_)
        refine bn_pf (pc' := 212) (K := 8854) bu_77_209 rfl rfl (fun _ _ _ => rfl) hP4218 rz_o88 rz_i88_54 rfl rfl (fun h4222 s4223 hP4224 e4225 f4226 => ?_)
        refine bp_ld (pc' := 213) bu_77_212 rfl rfl (fun _ _ _ => rfl) g0 rfl ?_
        refine bp_c (pc' := 214) (n := 0) bu_77_213 rfl rfl (fun _ _ _ => rfl) (by decide) (fun c4227 e4228 => ?_)
        refine bn_pf (pc' := 217) (K := 8865) bu_77_214 rfl rfl (fun _ _ _ => rfl) hP4224 rz_o88 rz_i88_65 rfl rfl (fun h4229 s4230 hP4231 e4232 f4233 => ?_)
        refine bp_ld (pc' := 218) bu_77_217 rfl rfl (fun _ _ _ => rfl) g0 rfl ?_
        refine bp_c (pc' := 219) (n := 0) bu_77_218 rfl rfl (fun _ _ _ => rfl) (by decide) (fun c4234 e4235 => ?_)
        refine bn_pf (pc' := 222) (K := 8867) bu_77_219 rfl rfl (fun _ _ _ => rfl) hP4231 rz_o88 rz_i88_67 rfl rfl (fun h4236 s4237 hP4238 e4239 f4240 => ?_)
        refine bp_c (pc' := 223) (n := 0) bu_77_222 rfl rfl (fun _ _ _ => rfl) (by decide) (fun c4241 e4242 => ?_)
        refine bp_st (pc' := 224) bu_77_223 rfl rfl (fun _ _ _ => rfl) rfl (by decide) (by decide) (fun lv4243 F4244 g4245 => ?_)
        have g4246 := F4244 0 (.ref (E.1 + 88)) g0 (by decide) (Or.inl rfl)
        refine rr_77h (A0 := A4217) NN (fun h4247 A4248 lv4249 o4250 k4251 hP4252 a4253 g4254 g4255 => ?_) _ _ _ _ _ hP4238 (fun _ _ => rfl) g4246 g4245
        refine bp_c (pc' := 243) (n := 0) bu_77_242 rfl rfl (fun _ _ _ => rfl) (by decide) (fun c4256 e4257 => ?_)
        refine bp_ri bu_77_243 ?_
        have z8817 := congrArg Int32.toInt ((f4240 8817 (by decide)).trans ((f4233 8817 (by decide)).trans ((f4226 8817 (by decide)).trans ((f4214 8817 (by decide) (by decide)).trans ((f4209 8817 (by decide)).trans e4201)))))
        have f2 := ((f4240 8802 (by decide)).trans ((f4233 8802 (by decide)).trans ((f4226 8802 (by decide)).trans ((f4214 8802 (by decide) (by decide)).trans ((f4209 8802 (by decide)).trans (f4202 8802 (by decide)))))))
        exact kk _ _ _ _ _ hP4252 (by unfold py_ft; first | (rw [if_pos (by omega)]; omega) | (rw [if_neg (by omega)]; omega)) (by unfold py_pl; first | (rw [if_pos (by omega)]; omega) | (rw [if_neg (by omega), if_pos (by omega)]; omega) | (rw [if_neg (by omega), if_neg (by omega)]; omega)) (by rw [f2]; exact hy0) rfl
      · replace k4204 : ¬ (((s 8815)).toInt ≤ 0) := k4204
        refine bp_ld (pc' := 187) bu_77_186 rfl rfl (fun _ _ _ => rfl) g0 rfl ?_
        refine bn_gi (pc' := 190) (K := 8815) bu_77_187 rfl rfl (fun _ _ _ => rfl) hP4200 rz_o88 rz_i88_15 rfl (f4202 8815 (by decide)) ?_
        refine bp_ri bu_77_190 ?_
        have z8817 := congrArg Int32.toInt e4201
        have f2 := (f4202 8802 (by decide))
        exact kk _ _ _ _ _ hP4200 (by unfold py_ft; first | (rw [if_pos (by omega)]; omega) | (rw [if_neg (by omega)]; omega)) (by unfold py_pl; first | (rw [if_pos (by omega)]; omega) | (rw [if_neg (by omega), if_pos (by omega)]; omega) | (rw [if_neg (by omega), if_neg (by omega)]; omega)) (by rw [f2]; exact hy0) rfl
    · replace k4203 : ¬ (((s 8813)).toInt ≤ 0) := k4203
      refine bp_ld (pc' := 175) bu_77_174 rfl rfl (fun _ _ _ => rfl) g0 rfl ?_
      refine bn_gi (pc' := 178) (K := 8813) bu_77_175 rfl rfl (fun _ _ _ => rfl) hP4200 rz_o88 rz_i88_13 rfl (f4202 8813 (by decide)) ?_
      refine bp_ri bu_77_178 ?_
      have z8817 := congrArg Int32.toInt e4201
      have f2 := (f4202 8802 (by decide))
      exact kk _ _ _ _ _ hP4200 (by unfold py_ft; first | (rw [if_pos (by omega)]; omega) | (rw [if_neg (by omega)]; omega)) (by unfold py_pl; first | (rw [if_pos (by omega)]; omega) | (rw [if_neg (by omega), if_pos (by omega)]; omega) | (rw [if_neg (by omega), if_neg (by omega)]; omega)) (by rw [f2]; exact hy0) rfl
set_option maxHeartbeats 4000000 in
theorem rr_77 {X : Nat → Int32} {n : Nat} (hP : bm_P rz_T E h0 h s A L) (hn : (s 8802).toInt = (n : Int)) (hX : ∀ j, j < n → (A 89 j).toInt % 256 = (X j).toInt % 256) (hn2 : n ≤ 2000) (hky : ∀ j, j < 24 → (L 95 j).toInt = (px_ky j : Nat)) (kk : ∀ (h' : mm_H) (s' : Nat → Int32) (A' : Nat → Nat → Int32) (L' : Nat → Nat → Int64) (r : Int32), bm_P rz_T E h0 h' s' A' L' → r.toInt = (py_ft (py_end (fun j => px_kd X n (px_at X n j)) (fun j => px_vl X n (px_at X n j)) (rq_Q X n)) : Int) → (s' 8817).toInt = py_pl (fun j => px_at X n j) (py_end (fun j => px_kd X n (px_at X n j)) (fun j => px_vl X n (px_at X n j)) (rq_Q X n)) → (s' 8802).toInt = 0 → L' 95 = L 95 → bp_G E PO NN (mm_back (some (.int r)) gs h')) : bp_G E PO NN ((77, 0, [(0, .ref (E.1 + 88))], [], 0, 0) :: gs, h, none) := by
  refine bp_ld (pc' := 1) bu_77_0 rfl rfl (fun _ _ _ => rfl) rfl rfl ?_
  refine bp_ld (pc' := 2) bu_77_1 rfl rfl (fun _ _ _ => rfl) rfl rfl ?_
  refine bn_gi (pc' := 5) (K := 8802) bu_77_2 rfl rfl (fun _ _ _ => rfl) hP rz_o88 rz_i88_2 rfl rfl ?_
  refine bn_pf (pc' := 8) (K := 8804) bu_77_5 rfl rfl (fun _ _ _ => rfl) hP rz_o88 rz_i88_4 rfl rfl (fun h4258 s4259 hP4260 e4261 f4262 => ?_)
  refine bp_c (pc' := 9) (n := 0) bu_77_8 rfl rfl (fun _ _ _ => rfl) (by decide) (fun c4263 e4264 => ?_)
  refine bp_st (pc' := 10) bu_77_9 rfl rfl (fun _ _ _ => rfl) rfl (by decide) (by decide) (fun lv4265 F4266 g4267 => ?_)
  have g4268 := F4266 0 (.ref (E.1 + 88)) rfl (by decide) (Or.inl rfl)
  have z8804 := congrArg Int32.toInt e4261
  refine rr_77a (A0 := A) NN (fun h4269 A4270 lv4271 o4272 hP4273 a4274 b4275 g4276 => ?_) _ _ _ _ _ hP4260 (fun _ _ => rfl) (fun j hj => by omega) g4268 g4267
  have hXc : ∀ j, px_c (A4270 90) n j = px_c X n j := px_c_g (fun j hj => (b4275 j (by omega)).trans (hX j hj))
  refine bp_ld (pc' := 37) bu_77_36 rfl rfl (fun _ _ _ => rfl) g4276 rfl ?_
  refine bp_c (pc' := 38) (n := 0) bu_77_37 rfl rfl (fun _ _ _ => rfl) (by decide) (fun c4277 e4278 => ?_)
  refine bn_pf (pc' := 41) (K := 8802) bu_77_38 rfl rfl (fun _ _ _ => rfl) hP4273 rz_o88 rz_i88_2 rfl rfl (fun h4279 s4280 hP4281 e4282 f4283 => ?_)
  refine bp_ld (pc' := 42) bu_77_41 rfl rfl (fun _ _ _ => rfl) g4276 rfl ?_
  refine bn_cvF (pc' := 45) (st := []) (args := []) bu_77_42 rfl rfl rfl (by decide) hP4281 rz_o88 (by decide) rfl (Nat.le_of_ble_eq_true rfl) (Nat.le_of_ble_eq_true rfl) ?_
  have z8804 := congrArg Int32.toInt ((f4283 8804 (by decide)).trans e4261)
  refine rr_19 (X := X) (n := n) hP4281 (by omega) hXc hn2 hky (fun h4284 s4285 A4286 L4287 M4288 hP4289 f4290 a4291 l4292 T4293 nm4294 => ?_)
  show bp_G E PO NN ((77, 45, lv4271, [], 0, 0) :: gs, h4284, none)
  refine bp_ld (pc' := 46) bu_77_45 rfl rfl (fun _ _ _ => rfl) g4276 rfl ?_
  refine bp_c (pc' := 47) (n := 0) bu_77_46 rfl rfl (fun _ _ _ => rfl) (by decide) (fun c4295 e4296 => ?_)
  refine bn_pf (pc' := 50) (K := 8811) bu_77_47 rfl rfl (fun _ _ _ => rfl) hP4289 rz_o88 rz_i88_11 rfl rfl (fun h4297 s4298 hP4299 e4300 f4301 => ?_)
  refine bp_ld (pc' := 51) bu_77_50 rfl rfl (fun _ _ _ => rfl) g4276 rfl ?_
  refine bp_c (pc' := 52) (n := 0) bu_77_51 rfl rfl (fun _ _ _ => rfl) (by decide) (fun c4302 e4303 => ?_)
  refine bn_pf (pc' := 55) (K := 8812) bu_77_52 rfl rfl (fun _ _ _ => rfl) hP4299 rz_o88 rz_i88_12 rfl rfl (fun h4304 s4305 hP4306 e4307 f4308 => ?_)
  refine bp_ld (pc' := 56) bu_77_55 rfl rfl (fun _ _ _ => rfl) g4276 rfl ?_
  refine bp_c (pc' := 57) (n := 0) bu_77_56 rfl rfl (fun _ _ _ => rfl) (by decide) (fun c4309 e4310 => ?_)
  refine bn_pf (pc' := 60) (K := 8813) bu_77_57 rfl rfl (fun _ _ _ => rfl) hP4306 rz_o88 rz_i88_13 rfl rfl (fun h4311 s4312 hP4313 e4314 f4315 => ?_)
  refine bp_ld (pc' := 61) bu_77_60 rfl rfl (fun _ _ _ => rfl) g4276 rfl ?_
  refine bp_c (pc' := 62) (n := 0) bu_77_61 rfl rfl (fun _ _ _ => rfl) (by decide) (fun c4316 e4317 => ?_)
  refine bn_pf (pc' := 65) (K := 8815) bu_77_62 rfl rfl (fun _ _ _ => rfl) hP4313 rz_o88 rz_i88_15 rfl rfl (fun h4318 s4319 hP4320 e4321 f4322 => ?_)
  refine bp_ld (pc' := 66) bu_77_65 rfl rfl (fun _ _ _ => rfl) g4276 rfl ?_
  refine bp_c (pc' := 67) (n := 1) bu_77_66 rfl rfl (fun _ _ _ => rfl) (by decide) (fun c4323 e4324 => ?_)
  refine bp_ld (pc' := 68) bu_77_67 rfl rfl (fun _ _ _ => rfl) g4276 rfl ?_
  refine bn_gi (pc' := 71) (K := 8818) bu_77_68 rfl rfl (fun _ _ _ => rfl) hP4320 rz_o88 rz_i88_18 rfl ((f4322 8818 (by decide)).trans ((f4315 8818 (by decide)).trans ((f4308 8818 (by decide)).trans ((f4301 8818 (by decide)).trans ((f4290 8818 (by decide)).trans ((f4283 8818 (by decide)).trans (f4262 8818 (by decide)))))))) ?_
  refine bp_subA (pc' := 72) bu_77_71 rfl (fun v4325 => ?_)
  refine bn_pf (pc' := 75) (K := 8819) bu_77_72 rfl rfl (fun _ _ _ => rfl) hP4320 rz_o88 rz_i88_19 rfl rfl (fun h4326 s4327 hP4328 e4329 f4330 => ?_)
  refine bp_ld (pc' := 76) bu_77_75 rfl rfl (fun _ _ _ => rfl) g4276 rfl ?_
  refine bp_c (pc' := 77) (n := 0) bu_77_76 rfl rfl (fun _ _ _ => rfl) (by decide) (fun c4331 e4332 => ?_)
  refine bn_pf (pc' := 80) (K := 8820) bu_77_77 rfl rfl (fun _ _ _ => rfl) hP4328 rz_o88 rz_i88_20 rfl rfl (fun h4333 s4334 hP4335 e4336 f4337 => ?_)
  refine bp_ld (pc' := 81) bu_77_80 rfl rfl (fun _ _ _ => rfl) g4276 rfl ?_
  refine bp_ld (pc' := 82) bu_77_81 rfl rfl (fun _ _ _ => rfl) g4276 rfl ?_
  refine bn_gi (pc' := 85) (K := 8819) bu_77_82 rfl rfl (fun _ _ _ => rfl) hP4335 rz_o88 rz_i88_19 rfl ((f4337 8819 (by decide)).trans e4329) ?_
  refine bn_cvF (pc' := 88) (st := []) (args := [.int v4325]) bu_77_85 rfl rfl rfl (by decide) hP4335 rz_o88 (by decide) rfl (Nat.le_of_ble_eq_true rfl) (Nat.le_of_ble_eq_true rfl) ?_
  refine rr_72 (a := v4325) hP4335 (fun h4338 A4339 hP4340 a4341 z4342 => ?_)
  show bp_G E PO NN ((77, 88, lv4271, [], 0, 0) :: gs, h4338, none)
  refine bp_ld (pc' := 89) bu_77_88 rfl rfl (fun _ _ _ => rfl) g4276 rfl ?_
  refine bp_c (pc' := 92) (n := 130) bu_77_89 rfl rfl (fun _ _ _ => rfl) (by decide) (fun c4343 e4344 => ?_)
  refine bp_ld (pc' := 93) bu_77_92 rfl rfl (fun _ _ _ => rfl) g4276 rfl ?_
  refine bn_gi (pc' := 96) (K := 8819) bu_77_93 rfl rfl (fun _ _ _ => rfl) hP4340 rz_o88 rz_i88_19 rfl ((f4337 8819 (by decide)).trans e4329) ?_
  refine bp_mulA (pc' := 97) bu_77_96 rfl (fun v4345 => ?_)
  refine bn_pf (pc' := 100) (K := 8833) bu_77_97 rfl rfl (fun _ _ _ => rfl) hP4340 rz_o88 rz_i88_33 rfl rfl (fun h4346 s4347 hP4348 e4349 f4350 => ?_)
  refine bp_ld (pc' := 101) bu_77_100 rfl rfl (fun _ _ _ => rfl) g4276 rfl ?_
  refine bp_c (pc' := 104) (n := 420) bu_77_101 rfl rfl (fun _ _ _ => rfl) (by decide) (fun c4351 e4352 => ?_)
  refine bp_ld (pc' := 105) bu_77_104 rfl rfl (fun _ _ _ => rfl) g4276 rfl ?_
  refine bn_gi (pc' := 108) (K := 8819) bu_77_105 rfl rfl (fun _ _ _ => rfl) hP4348 rz_o88 rz_i88_19 rfl ((f4350 8819 (by decide)).trans ((f4337 8819 (by decide)).trans e4329)) ?_
  refine bp_mulA (pc' := 109) bu_77_108 rfl (fun v4353 => ?_)
  refine bn_pf (pc' := 112) (K := 8839) bu_77_109 rfl rfl (fun _ _ _ => rfl) hP4348 rz_o88 rz_i88_39 rfl rfl (fun h4354 s4355 hP4356 e4357 f4358 => ?_)
  have z8811 := congrArg Int32.toInt ((f4358 8811 (by decide)).trans ((f4350 8811 (by decide)).trans ((f4337 8811 (by decide)).trans ((f4330 8811 (by decide)).trans ((f4322 8811 (by decide)).trans ((f4315 8811 (by decide)).trans ((f4308 8811 (by decide)).trans e4300)))))))
  have z8812 := congrArg Int32.toInt ((f4358 8812 (by decide)).trans ((f4350 8812 (by decide)).trans ((f4337 8812 (by decide)).trans ((f4330 8812 (by decide)).trans ((f4322 8812 (by decide)).trans ((f4315 8812 (by decide)).trans e4307))))))
  have z8813 := congrArg Int32.toInt ((f4358 8813 (by decide)).trans ((f4350 8813 (by decide)).trans ((f4337 8813 (by decide)).trans ((f4330 8813 (by decide)).trans ((f4322 8813 (by decide)).trans e4314)))))
  have z8815 := congrArg Int32.toInt ((f4358 8815 (by decide)).trans ((f4350 8815 (by decide)).trans ((f4337 8815 (by decide)).trans ((f4330 8815 (by decide)).trans e4321))))
  have z8820 := congrArg Int32.toInt ((f4358 8820 (by decide)).trans ((f4350 8820 (by decide)).trans e4336))
  have h19 : (s4355 8819) = v4325 := ((f4358 8819 (by decide)).trans ((f4350 8819 (by decide)).trans ((f4337 8819 (by decide)).trans e4329)))
  have hT9 : rq_T (fun j => px_kd X n (px_at X n j)) (fun j => px_vl X n (px_at X n j)) (fun j => (px_at X n j : Int)) M4288 A4339 := by
    unfold rq_T
    rw [a4341 91 (by decide) (by decide) (by decide) (by decide) (by decide) (by decide) (by decide) (by decide) (by decide) , a4341 92 (by decide) (by decide) (by decide) (by decide) (by decide) (by decide) (by decide) (by decide) (by decide) , a4341 93 (by decide) (by decide) (by decide) (by decide) (by decide) (by decide) (by decide) (by decide) (by decide) ]
    exact T4293
  have hR9 : rq_R (fun j => px_kd X n (px_at X n j)) (fun j => (px_at X n j : Int)) M4288 (0, 0, 0, 0, []) [] 0 0 s4355 A4339 L4287 := ⟨by show (s4355 8813).toInt = ((0 : Nat) : Int); omega, fun _ => ⟨by show (s4355 8811).toInt = ((0 : Nat) : Int); omega, T4293.2.1, by show (s4355 8815).toInt = ((0 : Nat) : Int); omega, fun q => absurd rfl q, by show (s4355 8820).toInt = ((0 : Nat) : Int); omega, Nat.zero_le _, fun i hi => absurd hi (Nat.not_lt_zero i), by rw [h19]; exact z4342, by show (s4355 8812).toInt = ((0 : Nat) : Int); omega⟩, fun q => absurd rfl q⟩
  have hy0 : (s4355 8802).toInt = 0 := by
    have z8802 := congrArg Int32.toInt ((f4358 8802 (by decide)).trans ((f4350 8802 (by decide)).trans ((f4337 8802 (by decide)).trans ((f4330 8802 (by decide)).trans ((f4322 8802 (by decide)).trans ((f4315 8802 (by decide)).trans ((f4308 8802 (by decide)).trans ((f4301 8802 (by decide)).trans ((f4290 8802 (by decide)).trans e4282)))))))))
    omega
  refine rr_77l (τ := (py_end (fun j => px_kd X n (px_at X n j)) (fun j => px_vl X n (px_at X n j)) (rq_Q X n))) hT9 (fun j => px_kd_0) (rq_Qi nm4294) NN (fun h4359 s4360 A4361 L4362 lv4363 o4364 hP4365 F4366 R4367 g4368 => ?_) _ _ _ _ _ _ _ 401 hP4356 rq_F_r hR9 g4276 (fun _ => by decide) rfl
  exact rr_77e (Pn := fun j => px_at X n j) hP4365 R4367 g4368 (by rw [F4366.1.1]; exact hy0) (fun h' s' A' L' r a0 a1 a2 a3 a4 => kk h' s' A' L' r a0 a1 a2 a3 ((a4.trans F4366.2.2.2).trans (l4292 95 (by decide))))
end RQB
