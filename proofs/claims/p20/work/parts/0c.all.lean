/-! THE TABLES AGAINST THE WORDS: all of them -/
def mt_okK (k : Nat) : Prop := mt_okM (mt_P.getD k ([], 0, 0, 0, 0, 0, 0, 0)) (mt_DS.getD k (⟨"", "", ""⟩, ⟨#[]⟩, none))
theorem mt_all0 : ∀ j, j < 30 → mt_okK (2 + j) := by
  intro j hj
  rcases j with _ | _ | _ | _ | _ | _ | _ | _ | _ | _ | _ | _ | _ | _ | _ | _ | _ | _ | _ | _ | _ | _ | _ | _ | _ | _ | _ | _ | _ | _ | _
  · exact mt_ok2
  · exact mt_ok3
  · exact mt_ok4
  · exact mt_ok5
  · exact mt_ok6
  · exact mt_ok7
  · exact mt_ok8
  · exact mt_ok9
  · exact mt_ok10
  · exact mt_ok11
  · exact mt_ok12
  · exact mt_ok13
  · exact mt_ok14
  · exact mt_ok15
  · exact mt_ok16
  · exact mt_ok17
  · exact mt_ok18
  · exact mt_ok19
  · exact mt_ok20
  · exact mt_ok21
  · exact mt_ok22
  · exact mt_ok23
  · exact mt_ok24
  · exact mt_ok25
  · exact mt_ok26
  · exact mt_ok27
  · exact mt_ok28
  · exact mt_ok29
  · exact mt_ok30
  · exact mt_ok31
  · omega
theorem mt_all1 : ∀ j, j < 30 → mt_okK (32 + j) := by
  intro j hj
  rcases j with _ | _ | _ | _ | _ | _ | _ | _ | _ | _ | _ | _ | _ | _ | _ | _ | _ | _ | _ | _ | _ | _ | _ | _ | _ | _ | _ | _ | _ | _ | _
  · exact mt_ok32
  · exact mt_ok33
  · exact mt_ok34
  · exact mt_ok35
  · exact mt_ok36
  · exact mt_ok37
  · exact mt_ok38
  · exact mt_ok39
  · exact mt_ok40
  · exact mt_ok41
  · exact mt_ok42
  · exact mt_ok43
  · exact mt_ok44
  · exact mt_ok45
  · exact mt_ok46
  · exact mt_ok47
  · exact mt_ok48
  · exact mt_ok49
  · exact mt_ok50
  · exact mt_ok51
  · exact mt_ok52
  · exact mt_ok53
  · exact mt_ok54
  · exact mt_ok55
  · exact mt_ok56
  · exact mt_ok57
  · exact mt_ok58
  · exact mt_ok59
  · exact mt_ok60
  · exact mt_ok61
  · omega
theorem mt_all2 : ∀ j, j < 30 → mt_okK (62 + j) := by
  intro j hj
  rcases j with _ | _ | _ | _ | _ | _ | _ | _ | _ | _ | _ | _ | _ | _ | _ | _ | _ | _ | _ | _ | _ | _ | _ | _ | _ | _ | _ | _ | _ | _ | _
  · exact mt_ok62
  · exact mt_ok63
  · exact mt_ok64
  · exact mt_ok65
  · exact mt_ok66
  · exact mt_ok67
  · exact mt_ok68
  · exact mt_ok69
  · exact mt_ok70
  · exact mt_ok71
  · exact mt_ok72
  · exact mt_ok73
  · exact mt_ok74
  · exact mt_ok75
  · exact mt_ok76
  · exact mt_ok77
  · exact mt_ok78
  · exact mt_ok79
  · exact mt_ok80
  · exact mt_ok81
  · exact mt_ok82
  · exact mt_ok83
  · exact mt_ok84
  · exact mt_ok85
  · exact mt_ok86
  · exact mt_ok87
  · exact mt_ok88
  · exact mt_ok89
  · exact mt_ok90
  · exact mt_ok91
  · omega
theorem mt_all3 : ∀ j, j < 30 → mt_okK (92 + j) := by
  intro j hj
  rcases j with _ | _ | _ | _ | _ | _ | _ | _ | _ | _ | _ | _ | _ | _ | _ | _ | _ | _ | _ | _ | _ | _ | _ | _ | _ | _ | _ | _ | _ | _ | _
  · exact mt_ok92
  · exact mt_ok93
  · exact mt_ok94
  · exact mt_ok95
  · exact mt_ok96
  · exact mt_ok97
  · exact mt_ok98
  · exact mt_ok99
  · exact mt_ok100
  · exact mt_ok101
  · exact mt_ok102
  · exact mt_ok103
  · exact mt_ok104
  · exact mt_ok105
  · exact mt_ok106
  · exact mt_ok107
  · exact mt_ok108
  · exact mt_ok109
  · exact mt_ok110
  · exact mt_ok111
  · exact mt_ok112
  · exact mt_ok113
  · exact mt_ok114
  · exact mt_ok115
  · exact mt_ok116
  · exact mt_ok117
  · exact mt_ok118
  · exact mt_ok119
  · exact mt_ok120
  · exact mt_ok121
  · omega
theorem mt_all4 : ∀ j, j < 30 → mt_okK (122 + j) := by
  intro j hj
  rcases j with _ | _ | _ | _ | _ | _ | _ | _ | _ | _ | _ | _ | _ | _ | _ | _ | _ | _ | _ | _ | _ | _ | _ | _ | _ | _ | _ | _ | _ | _ | _
  · exact mt_ok122
  · exact mt_ok123
  · exact mt_ok124
  · exact mt_ok125
  · exact mt_ok126
  · exact mt_ok127
  · exact mt_ok128
  · exact mt_ok129
  · exact mt_ok130
  · exact mt_ok131
  · exact mt_ok132
  · exact mt_ok133
  · exact mt_ok134
  · exact mt_ok135
  · exact mt_ok136
  · exact mt_ok137
  · exact mt_ok138
  · exact mt_ok139
  · exact mt_ok140
  · exact mt_ok141
  · exact mt_ok142
  · exact mt_ok143
  · exact mt_ok144
  · exact mt_ok145
  · exact mt_ok146
  · exact mt_ok147
  · exact mt_ok148
  · exact mt_ok149
  · exact mt_ok150
  · exact mt_ok151
  · omega
theorem mt_all5 : ∀ j, j < 30 → mt_okK (152 + j) := by
  intro j hj
  rcases j with _ | _ | _ | _ | _ | _ | _ | _ | _ | _ | _ | _ | _ | _ | _ | _ | _ | _ | _ | _ | _ | _ | _ | _ | _ | _ | _ | _ | _ | _ | _
  · exact mt_ok152
  · exact mt_ok153
  · exact mt_ok154
  · exact mt_ok155
  · exact mt_ok156
  · exact mt_ok157
  · exact mt_ok158
  · exact mt_ok159
  · exact mt_ok160
  · exact mt_ok161
  · exact mt_ok162
  · exact mt_ok163
  · exact mt_ok164
  · exact mt_ok165
  · exact mt_ok166
  · exact mt_ok167
  · exact mt_ok168
  · exact mt_ok169
  · exact mt_ok170
  · exact mt_ok171
  · exact mt_ok172
  · exact mt_ok173
  · exact mt_ok174
  · exact mt_ok175
  · exact mt_ok176
  · exact mt_ok177
  · exact mt_ok178
  · exact mt_ok179
  · exact mt_ok180
  · exact mt_ok181
  · omega
theorem mt_all6 : ∀ j, j < 30 → mt_okK (182 + j) := by
  intro j hj
  rcases j with _ | _ | _ | _ | _ | _ | _ | _ | _ | _ | _ | _ | _ | _ | _ | _ | _ | _ | _ | _ | _ | _ | _ | _ | _ | _ | _ | _ | _ | _ | _
  · exact mt_ok182
  · exact mt_ok183
  · exact mt_ok184
  · exact mt_ok185
  · exact mt_ok186
  · exact mt_ok187
  · exact mt_ok188
  · exact mt_ok189
  · exact mt_ok190
  · exact mt_ok191
  · exact mt_ok192
  · exact mt_ok193
  · exact mt_ok194
  · exact mt_ok195
  · exact mt_ok196
  · exact mt_ok197
  · exact mt_ok198
  · exact mt_ok199
  · exact mt_ok200
  · exact mt_ok201
  · exact mt_ok202
  · exact mt_ok203
  · exact mt_ok204
  · exact mt_ok205
  · exact mt_ok206
  · exact mt_ok207
  · exact mt_ok208
  · exact mt_ok209
  · exact mt_ok210
  · exact mt_ok211
  · omega
theorem mt_all7 : ∀ j, j < 30 → mt_okK (212 + j) := by
  intro j hj
  rcases j with _ | _ | _ | _ | _ | _ | _ | _ | _ | _ | _ | _ | _ | _ | _ | _ | _ | _ | _ | _ | _ | _ | _ | _ | _ | _ | _ | _ | _ | _ | _
  · exact mt_ok212
  · exact mt_ok213
  · exact mt_ok214
  · exact mt_ok215
  · exact mt_ok216
  · exact mt_ok217
  · exact mt_ok218
  · exact mt_ok219
  · exact mt_ok220
  · exact mt_ok221
  · exact mt_ok222
  · exact mt_ok223
  · exact mt_ok224
  · exact mt_ok225
  · exact mt_ok226
  · exact mt_ok227
  · exact mt_ok228
  · exact mt_ok229
  · exact mt_ok230
  · exact mt_ok231
  · exact mt_ok232
  · exact mt_ok233
  · exact mt_ok234
  · exact mt_ok235
  · exact mt_ok236
  · exact mt_ok237
  · exact mt_ok238
  · exact mt_ok239
  · exact mt_ok240
  · exact mt_ok241
  · omega
theorem mt_all8 : ∀ j, j < 30 → mt_okK (242 + j) := by
  intro j hj
  rcases j with _ | _ | _ | _ | _ | _ | _ | _ | _ | _ | _ | _ | _ | _ | _ | _ | _ | _ | _ | _ | _ | _ | _ | _ | _ | _ | _ | _ | _ | _ | _
  · exact mt_ok242
  · exact mt_ok243
  · exact mt_ok244
  · exact mt_ok245
  · exact mt_ok246
  · exact mt_ok247
  · exact mt_ok248
  · exact mt_ok249
  · exact mt_ok250
  · exact mt_ok251
  · exact mt_ok252
  · exact mt_ok253
  · exact mt_ok254
  · exact mt_ok255
  · exact mt_ok256
  · exact mt_ok257
  · exact mt_ok258
  · exact mt_ok259
  · exact mt_ok260
  · exact mt_ok261
  · exact mt_ok262
  · exact mt_ok263
  · exact mt_ok264
  · exact mt_ok265
  · exact mt_ok266
  · exact mt_ok267
  · exact mt_ok268
  · exact mt_ok269
  · exact mt_ok270
  · exact mt_ok271
  · omega
theorem mt_all9 : ∀ j, j < 19 → mt_okK (272 + j) := by
  intro j hj
  rcases j with _ | _ | _ | _ | _ | _ | _ | _ | _ | _ | _ | _ | _ | _ | _ | _ | _ | _ | _ | _
  · exact mt_ok272
  · exact mt_ok273
  · exact mt_ok274
  · exact mt_ok275
  · exact mt_ok276
  · exact mt_ok277
  · exact mt_ok278
  · exact mt_ok279
  · exact mt_ok280
  · exact mt_ok281
  · exact mt_ok282
  · exact mt_ok283
  · exact mt_ok284
  · exact mt_ok285
  · exact mt_ok286
  · exact mt_ok287
  · exact mt_ok288
  · exact mt_ok289
  · exact mt_ok290
  · omega
theorem mt_alk0 : ∀ k, 2 ≤ k → k < 32 → mt_okK k := by
  intro k h1 h2
  obtain ⟨j, rfl⟩ := Nat.exists_eq_add_of_le h1
  have hj : j < 30 := by omega
  exact mt_all0 j hj
theorem mt_alk1 : ∀ k, 32 ≤ k → k < 62 → mt_okK k := by
  intro k h1 h2
  obtain ⟨j, rfl⟩ := Nat.exists_eq_add_of_le h1
  have hj : j < 30 := by omega
  exact mt_all1 j hj
theorem mt_alk2 : ∀ k, 62 ≤ k → k < 92 → mt_okK k := by
  intro k h1 h2
  obtain ⟨j, rfl⟩ := Nat.exists_eq_add_of_le h1
  have hj : j < 30 := by omega
  exact mt_all2 j hj
theorem mt_alk3 : ∀ k, 92 ≤ k → k < 122 → mt_okK k := by
  intro k h1 h2
  obtain ⟨j, rfl⟩ := Nat.exists_eq_add_of_le h1
  have hj : j < 30 := by omega
  exact mt_all3 j hj
theorem mt_alk4 : ∀ k, 122 ≤ k → k < 152 → mt_okK k := by
  intro k h1 h2
  obtain ⟨j, rfl⟩ := Nat.exists_eq_add_of_le h1
  have hj : j < 30 := by omega
  exact mt_all4 j hj
theorem mt_alk5 : ∀ k, 152 ≤ k → k < 182 → mt_okK k := by
  intro k h1 h2
  obtain ⟨j, rfl⟩ := Nat.exists_eq_add_of_le h1
  have hj : j < 30 := by omega
  exact mt_all5 j hj
theorem mt_alk6 : ∀ k, 182 ≤ k → k < 212 → mt_okK k := by
  intro k h1 h2
  obtain ⟨j, rfl⟩ := Nat.exists_eq_add_of_le h1
  have hj : j < 30 := by omega
  exact mt_all6 j hj
theorem mt_alk7 : ∀ k, 212 ≤ k → k < 242 → mt_okK k := by
  intro k h1 h2
  obtain ⟨j, rfl⟩ := Nat.exists_eq_add_of_le h1
  have hj : j < 30 := by omega
  exact mt_all7 j hj
theorem mt_alk8 : ∀ k, 242 ≤ k → k < 272 → mt_okK k := by
  intro k h1 h2
  obtain ⟨j, rfl⟩ := Nat.exists_eq_add_of_le h1
  have hj : j < 30 := by omega
  exact mt_all8 j hj
theorem mt_alk9 : ∀ k, 272 ≤ k → k < 291 → mt_okK k := by
  intro k h1 h2
  obtain ⟨j, rfl⟩ := Nat.exists_eq_add_of_le h1
  have hj : j < 19 := by omega
  exact mt_all9 j hj
theorem mt_allk : ∀ k, 2 ≤ k → k < 291 → mt_okK k := by
  intro k h1 h2
  by_cases h10 : k < 32
  · exact mt_alk0 k (by omega) h10
  by_cases h11 : k < 62
  · exact mt_alk1 k (by omega) h11
  by_cases h12 : k < 92
  · exact mt_alk2 k (by omega) h12
  by_cases h13 : k < 122
  · exact mt_alk3 k (by omega) h13
  by_cases h14 : k < 152
  · exact mt_alk4 k (by omega) h14
  by_cases h15 : k < 182
  · exact mt_alk5 k (by omega) h15
  by_cases h16 : k < 212
  · exact mt_alk6 k (by omega) h16
  by_cases h17 : k < 242
  · exact mt_alk7 k (by omega) h17
  by_cases h18 : k < 272
  · exact mt_alk8 k (by omega) h18
  exact mt_alk9 k (by omega) h2
theorem mt_len : mt_P.length = 292 ∧ mt_DS.length = 292 := by decide +kernel
theorem mt_Pok : rf_P mt_P mt_DS 291 lw_tbl mt_W mt_cl mt_SN := by
  intro k cs nL np kd ci rk mc ms hk h2 hn
  have h := mt_allk k h2 hn
  unfold mt_okK at h
  have e1 : mt_P.getD k ([], 0, 0, 0, 0, 0, 0, 0) = (cs, nL, np, kd, ci, rk, mc, ms) := by rw [List.getD_eq_getElem?_getD, hk]; rfl
  have hl : k < mt_DS.length := by rw [mt_len.2]; omega
  have e2 : mt_DS[k]? = some mt_DS[k] := List.getElem?_eq_getElem hl
  have e3 : mt_DS.getD k (⟨"", "", ""⟩, ⟨#[]⟩, none) = mt_DS[k] := by rw [List.getD_eq_getElem?_getD, e2]; rfl
  rw [e1, e3] at h
  generalize mt_DS[k] = d at h e2
  obtain ⟨y, cc, ret⟩ := d
  exact ⟨y, cc, ret, e2, h.1, h.2⟩
theorem mt_Pn : ∀ (k : Nat) (cs : List (List mm_I)) (nL : Nat) (dd : mm_M), mt_P[k]? = some (cs, nL, dd) → nL < 16777216 := by
  have h : mt_P.all (fun q => decide (q.2.1 < 16777216)) = true := by decide +kernel
  intro k cs nL dd hk
  exact of_decide_eq_true (List.all_eq_true.mp h _ (List.mem_of_getElem? hk))
