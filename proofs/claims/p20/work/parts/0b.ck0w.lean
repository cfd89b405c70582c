/-! WHOLE_START out of a run of the mini machine -/
def R_law : String := "StrawWatchLaw"
def lw_P (b : Addr) (xs : List Int32) (args : Array Value) (s : State) : Prop := args = #[.ref b] ∧ s.IntsAt b xs ∧ xs.length ≤ 3072 ∧ (Jvm.Cond.and given_1 narrow_1).before args s = true
def lw_Q (_ : Array Value) (s : State) (o : Outcome) (t : State) : Prop := o = .returned (some (.int 1)) ∧ Framed s o t [] 600000 7302250
def lw_Z (below : List Frame) (a : Array Value) (s : State) : State → Prop := fun t => ∃ o, t.status = .running ∧ Ended t below o ∧ lw_Q a s o t
/-- the law's own end, with 1 on the stack, nothing written that was there before, its room as the claim has it -/
theorem lw_ret {p : Program} {l : Launch} {e : Env} {s : State} {m : MethodId} {below : List Frame} {meth : Method} {c : Code} {b : Nat} (hx : p.tables.exec = Jvm.exec) (hb : c.code = code) (hr : meth.sig.returnType = ret) (hlocks : meth.locks = false) {pc : Nat} {H : Heap} {ls : Array Slot} (hdg : decode code pc = .ok (.ireturn, 1)) : W p l e room_1 s m #[Value.ref b] below meth c H [] 600000 7302250 (lw_Z below #[Value.ref b] s) (F0 m pc ls [.int 1]) := by
  intro T hT X
  obtain ⟨fs, hret, hrun, hended, hW, hframe⟩ := X.leave (v := some (.int 1)) (hlocks := hlocks) (fun h => by rw [hr] at h; cases h)
  have hmeth' : T.vm.method? m = some meth := X.method'
  refine ⟨T.setFrames fs, ?_, .returned (some (.int 1)), hrun, hended, rfl, ⟨_, rfl⟩, hW, hframe⟩
  jvm_step X.here [X.here.top, hx, hb, hdg, hmeth', hr, ret, narrow_b1]
  (try refine ⟨rfl, ?_⟩); (try refine ⟨rfl, ?_⟩)
  first | (intro acts; rw [hret _ acts rfl rfl rfl]) | rw [hret _ _ rfl rfl rfl]
  exact Steps.refl _
/-- what holds at the law's entry: the machine, the code, the tables' words (any of lw_tbl by 'hts w (by decide +kernel)'), the script of L ints xs at the cell b, what the Statement gives of the start (any of its parts by flat_of_before) -/
def lw_At (p : Program) (s : State) (m : MethodId) (meth : Method) (c : Code) (b L : Nat) (xs : Nat → Int32) : Prop :=
  p.tables.exec = Jvm.exec ∧ c.code = code ∧ meth.sig.returnType = ret ∧ c.maxLocals = 4 ∧ s.vm.findClass R_law = some m.cls ∧ (∀ w ∈ lw_tbl, w.before #[Value.ref b] s = true) ∧ va_X b L xs s s.heap ∧ b < s.heap.size ∧ meth.locks = false ∧ (Jvm.Cond.and given_1 narrow_1).before #[Value.ref b] s = true
set_option maxHeartbeats 4000000 in
theorem st_whole (hG : st_Goal) (hlaw : mt_pc mt_291.1 (⟨"StrawWatchLaw", "law", "([I)Z"⟩, code, some .boolean)) (hPok : rf_P mt_P mt_DS 291 lw_tbl mt_W mt_cl mt_SN) {p : Program} {e : Env} {s : State} {m : MethodId} {below : List Frame} {meth : Method} {c : Code} (l : Launch) {b L : Nat} {xs : Nat → Int32} (hL : L ≤ 3072) (C0 : lw_At p s m meth c b L xs) : W p l e room_1 s m #[Value.ref b] below meth c s.heap [] 0 0 (lw_Z below #[Value.ref b] s) (entryFrame m ([Value.ref b] : List Value).toArray 4) := by
  obtain ⟨hexec, hb, hr, hml, hown, hts, hX, hbs, hlocks, hgv⟩ := C0
  have hs := flat_of_before _ hgv
  have hA : ∀ a : Nat, a < s.heap.size → ¬ (fun x : Nat => s.heap.size ≤ x) a := fun a h1 h2 => absurd h1 (Nat.not_lt.mpr h2)
  obtain ⟨D, cA, hK⟩ := st_K hts
  have hini := hts _ (st_in (w := 104) (X := .initialized "StrawWatch$Laws") (by decide +kernel))
  obtain ⟨tS, TS, ZS⟩ := st_stat (A := fun x : Nat => s.heap.size ≤ x) (n := "SEEN") (xs := st_S) (by decide) (fun w hw => hs w (st_flat.1 w hw)) (hts _ (List.mem_of_getElem? (i := 705) (a := Cond.laysStatic "StrawWatch$Laws" "SEEN" "[I") (by decide +kernel))) hini hA
  obtain ⟨tL, TL, ZL⟩ := st_stat (A := fun x : Nat => s.heap.size ≤ x) (n := "LEAST") (xs := st_L) (by decide) (fun w hw => hs w (st_flat.2.1 w hw)) (hts _ (List.mem_of_getElem? (i := 812) (a := Cond.laysStatic "StrawWatch$Laws" "LEAST" "[I") (by decide +kernel))) hini hA
  obtain ⟨tM, TM, ZM⟩ := st_stat (A := fun x : Nat => s.heap.size ≤ x) (n := "MOST") (xs := st_M) (by decide) (fun w hw => hs w (st_flat.2.2 w hw)) (hts _ (List.mem_of_getElem? (i := 814) (a := Cond.laysStatic "StrawWatch$Laws" "MOST" "[I") (by decide +kernel))) hini hA
  have TX : va_T .int b L (fun j => .int (xs j)) (fun x : Nat => s.heap.size ≤ x) s s.heap := by
    obtain ⟨scr, g1, g2, g3, g4, g5⟩ := hX
    exact ⟨scr, g1, g2, g3, by rw [g4]; exact Nat.le_refl _, by rw [g4], g5, hA b hbs⟩
  obtain ⟨adK, adV, hVS, hVK⟩ := st_strs (A := fun x : Nat => s.heap.size ≤ x) hs hA
  have hVR : ∀ (k : Nat) (o : String × Nat × String), rf_SR[k]? = some o → vk_R o.1 o.2.1 o.2.2 (adK k) s := by
    intro k o ho
    rcases k with _ | _ | k
    · cases ho
      exact vk_R.of (hts _ (List.mem_of_getElem? (i := 521) (by decide +kernel))) (hVK 0 (by decide))
    · cases ho
      exact vk_R.of (hts _ (List.mem_of_getElem? (i := 577) (by decide +kernel))) (hVK 1 (by decide))
    · cases ho
  have hVZ : va_Z "java/lang/String" "COMPACT_STRINGS" "Z" (.int 1) (fun x : Nat => s.heap.size ≤ x) s s.heap := va_Zof (hts _ (List.mem_of_getElem? (i := 531) (a := Cond.laysStatic "java/lang/String" "COMPACT_STRINGS" "Z") (by decide +kernel))) (hts _ (st_in (w := 114) (X := .initialized "java/lang/String") (by decide +kernel))) (va_eqi (hs _ st_cs)) hA
  obtain ⟨fm, fn, hVF⟩ : ∃ fm fn : Nat, va_Z "jdk/internal/util/Preconditions" "SIOOBE_FORMATTER" "Ljava/util/function/BiFunction;" (if fn = 0 then .null else .ref fm) (fun x : Nat => s.heap.size ≤ x) s s.heap := by
    rcases va_Zqof (hts _ (List.mem_of_getElem? (i := 547) (a := Cond.laysStatic "jdk/internal/util/Preconditions" "SIOOBE_FORMATTER" "Ljava/util/function/BiFunction;") (by decide +kernel))) (hts _ (st_in (w := 116) (X := .initialized "jdk/internal/util/Preconditions") (by decide +kernel))) (hs _ st_sf) hA with h9 | ⟨t, h9⟩
    · exact ⟨0, 0, h9⟩
    · exact ⟨t, 1, h9⟩
  have lt : ∀ {t N : Nat} {f : Nat → Value}, va_T .int t N f (fun x : Nat => s.heap.size ≤ x) s s.heap → t < s.heap.size := fun h => by
    obtain ⟨c, g1, -⟩ := h
    exact (Array.getElem?_eq_some_iff.mp g1).1
  have ltB : ∀ {t N : Nat} {f : Nat → Value}, va_T .byte t N f (fun x : Nat => s.heap.size ≤ x) s s.heap → t < s.heap.size := fun h => by
    obtain ⟨c, g1, -⟩ := h
    exact (Array.getElem?_eq_some_iff.mp g1).1
  have ltO : ∀ {t : Nat}, va_O "java/lang/String" t (fun x : Nat => s.heap.size ≤ x) s s.heap → t < s.heap.size := fun h => by
    obtain ⟨c, g1, -⟩ := h
    exact (Array.getElem?_eq_some_iff.mp g1).1
  have hV0 := hVS.1 0 (by decide)
  have hV1 := hVS.1 1 (by decide)
  have nV : adV 0 ≠ adV 1 := by
    intro e
    have t0 := hV0.2.2.2
    have t1 := hV1.2.2.2
    rw [e] at t0
    obtain ⟨c, h1, -, -, -, h3, -⟩ := t0
    obtain ⟨c', h1', -, -, -, h3', -⟩ := t1
    cases h1.symm.trans h1'
    have h9 : Int32.ofNat 192 = Int32.ofNat 9 := h3.symm.trans h3'
    exact absurd h9 (by decide)
  have hST : en_ST (st_E s.heap.size tS tL tM b L xs [(adK 0, 0, fun _ => 0), (adV 0, 192, fun j => st_B0.getD j 0), (adK 1, 0, fun _ => 0), (adV 1, 9, fun j => st_B1.getD j 0), (fm, fn, fun _ => 0)]) := ⟨_, _, _, _, rfl, rfl, rfl, rfl, ltO hV0.1, ltB hV0.2.2.2, ltO hV1.1, ltB hV1.2.2.2, fun e => absurd (hVS.2 0 1 (by decide) (by decide) e) (by decide), nV, rfl, rfl, st_byte.1, st_byte.2⟩
  obtain ⟨n, c', hrun, hF, rfl⟩ := hG s.heap.size tS tL tM b L xs _ rfl hST hL (lt TS) (lt TL) (lt TM) hbs (st_ne TS TL (j := 0) (by decide) (by decide) (by decide)) (st_ne TS TM (j := 0) (by decide) (by decide) (by decide)) (st_ne TL TM (j := 0) (by decide) (by decide) (by decide)) (st_al_of hL TS TX) (st_al_of hL TL TX) (st_al_of hL TM TX)
  obtain ⟨N, v1, h1, k, hbig, -, hbk⟩ := mm_run_big _ _ n _ [] _ none (by decide) hrun
  have hv : v1 = some (.int 1) := by
    cases k with
    | zero => cases hbk; rfl
    | succ k => cases hbk
  subst hv
  have hC : rf_Cx (st_E s.heap.size tS tL tM b L xs [(adK 0, 0, fun _ => 0), (adV 0, 192, fun j => st_B0.getD j 0), (adK 1, 0, fun _ => 0), (adV 1, 9, fun j => st_B1.getD j 0), (fm, fn, fun _ => 0)]) mt_SN lw_tbl D mt_cl cA s := by
    refine ⟨hK, fun w hw hn => ?_, ?_, ?_, ?_, Nat.le_refl _, ⟨adK, adV, st_SL, st_SBy, hVS, fun i hi => ?_, hVR, hVZ, _, rfl, hVF⟩⟩
    · have h9 := hts w hw
      cases w <;> first | exact va_Nw.of rfl h9 | exact absurd hn Bool.false_ne_true
    · exact hts (Cond.arrayOver (.array .int)) (List.mem_of_getElem? (i := 364) (by decide +kernel))
    · intro q hq
      rcases List.mem_cons.mp hq with rfl | hq
      · exact TS
      rcases List.mem_cons.mp hq with rfl | hq
      · exact TL
      rcases List.mem_cons.mp hq with rfl | hq
      · exact TM
      rcases List.mem_cons.mp hq with rfl | hq
      · exact TX
      · cases hq
    · intro k nm hk
      rcases k with _ | _ | _ | k
      · cases hk; exact ⟨_, rfl, ZS⟩
      · cases hk; exact ⟨_, rfl, ZL⟩
      · cases hk; exact ⟨_, rfl, ZM⟩
      · cases hk
    · rcases i with _ | _ | i
      · exact ⟨⟨_, _, rfl⟩, rfl⟩
      · exact ⟨⟨_, _, rfl⟩, rfl⟩
      · omega
  have hW : ∀ w ∈ mt_W, w.before #[Value.ref b] s = true := fun w hw => hts w (List.mem_filter.mp hw).1
  rw [lg_entry_eq]
  refine rf_W (Tw := lw_tbl) (T := mt_W) (SN := mt_SN) (DS := mt_DS) (nM := 291) (fun X h1 h2 => List.mem_filter.mpr ⟨h1, h2⟩) (fun X h => (List.mem_filter.mp h).2) mt_Cl hPok mt_G l _ _ _ _ _ _ _ _ _ _ _ hbig (cs := mt_291.1) (nL := 4) (np := 1) (kd := 0) (ci := 0) (rk := 2) (mc := 0) (ms := 0) (own := "StrawWatchLaw") (cc := code) (ini := false) rfl hlaw hexec hb hml hown (fun h => by cases h) hW hC (lv_entry _ (by show 1 ≤ 4; decide)) ⟨rfl, ?_, va_S.rf⟩ (by decide) (by decide) (by decide) (by decide) ?_
  · intro k q hk
    cases hk
  intro H' locs' cells' slots' pc' ls' st' ins ik hdg hrt hans hI hc1 hc2
  have hst : st' = [.int 1] ∧ ik = 1 := by
    unfold mm_ans at hans
    split at hans
    · split at hans <;> cases hans
    · split at hans
      · rename_i hh; cases hans; exact ⟨rfl, hh.1⟩
      · cases hans
    · split at hans <;> cases hans
    · cases hans
  obtain ⟨rfl, rfl⟩ := hst
  have hins : ins = .ireturn := by
    cases ins <;> simp [mm_rtn] at hrt
    rfl
  subst hins
  refine va_forget (fun q hq => hI.2.2.2.2 q hq) (W.widen (k := 600000) (n := 7302250) (by simpa using hc1) (by simpa using hc2) ?_)
  exact lw_ret hexec hb hr hlocks hdg

