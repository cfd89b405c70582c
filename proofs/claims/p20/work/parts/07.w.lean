/-! THE REFINEMENT: what the mini machine's big step answers, the machine answers -/
theorem rf_narB {v : Int32} (h1 : -128 ≤ v.toInt) (h2 : v.toInt ≤ 127) : narrow .byte (.int v) = .int v := by
  have h : v.toInt8.toInt32 = v := by
    apply Int32.toInt_inj.mp
    rw [Int8.toInt_toInt32, Int32.toInt_toInt8]
    show v.toInt.bmod (2 ^ 8) = _
    rw [Int.bmod_eq_of_le (by omega) (by omega)]
  show Value.int v.toInt8.toInt32 = _
  rw [h]
theorem rf_narC {v : Int32} (h1 : 0 ≤ v.toInt) (h2 : v.toInt ≤ 65535) : narrow .char (.int v) = .int v := by
  have h : (v.toUInt32 % 65536).toInt32 = v := by
    apply Int32.toBitVec_inj.mp
    apply BitVec.eq_of_toNat_eq
    have h3 : v.toBitVec.toInt = v.toInt := rfl
    have h4 : v.toBitVec.toNat < 2 ^ 32 := v.toBitVec.isLt
    have h5 : v.toBitVec.toNat < 65536 := by
      rw [BitVec.toInt_eq_toNat_cond] at h3
      split at h3 <;> omega
    show (v.toUInt32 % 65536).toNat = v.toBitVec.toNat
    rw [UInt32.toNat_mod]
    show v.toBitVec.toNat % 65536 = _
    omega
  show Value.int (v.toUInt32 % 65536).toInt32 = _
  rw [h]
theorem rf_nfw : nativeFrameWords "java/lang/System" "arraycopy" 5 = 7 := by decide
section RFW
variable {E : mm_E} {SN : List (String × String × String)} {Tw T : List Cond} {D : va_G} {cl : List vw_C} {cA : Nat → ClassId} {ty : Nat → Nat → FieldType} {kds : List (List Nat)} {P : mm_T} {DS : List rf_Y} {nM : Nat}
/-- a method's contract out of W of its body -/
theorem rf_met {l : Launch} {y : MethodName} {cc : ByteArray} {ret : Option FieldType} {nL np kd ci rk mc ms d : Nat} {av : List Value} {h h1 : mm_H} {v1 : Option Value} (hM : rf_M T cl y cc ret nL np kd ci rk) (hav : (lg_sl av).length ≤ nL)
    (body : ∀ {p : Program} {e : Env} {s : State} {m : MethodId} {args : Array Value} {below : List Frame} {meth : Method} {c : Code} {Q : State → Prop} {ls : Array Slot}, p.tables.exec = Jvm.exec → c.code = cc → c.maxLocals = nL → s.vm.findClass y.cls = some m.cls → (decide (y.name = "<init>") = true → meth.name = "<init>") → (∀ w ∈ T, w.before args s = true) → rf_Cx E SN Tw D cl cA s → lv_has ls nL (lv_args 0 av) → rf_I D cl cA E.1 s h s.heap [] →
      (∀ (H' : Heap) (locs' : List Loc) (cells' slots' : Nat) (pc' : Nat) (ls' : Array Slot) (st' : List Value) (ins : Instr) (ik : Nat), decode cc pc' = .ok (ins, 1) → mm_rtn ins = some ik → mm_ans rk ik st' = some v1 → rf_I D cl cA E.1 s h1 H' locs' → cells' ≤ mc → slots' ≤ ms → W p l e (rf_rm d mc ms) s m args below meth c H' locs' cells' slots' Q (F0 m pc' ls' st')) →
      W p l e (rf_rm d mc ms) s m args below meth c s.heap [] 0 0 Q (F0 m 0 ls [])) :
    Met l y (Cond.code y cc nL ret :: T) (rf_rm d mc ms) (rf_Pc E SN Tw D cl cA av h) (rf_Qc E D cl cA v1 h1) mc ms (fun q : Nat => E.1 ≤ q) := by
  obtain ⟨-, -, hpl, -, hrk, -⟩ := hM
  refine va_MetF (cc := cc) (maxL := nL) (ret := ret) hpl rfl ?_
  intro p e s m args below meth c s₁ B hml hv
  obtain ⟨rfl, hC, hsz, hP⟩ := hv
  have hx := B.exec
  have hb := B.bytes
  have hr := B.returns
  have hts := atoms_spec (ws := Cond.code y cc nL ret :: T) B.pre
  have hown : s.vm.findClass y.cls = some m.cls := findClass_of_methodNamed B.named
  have hlocks := B.notSynchronized
  have hnm := (name_of_methodNamed B.named B.method).1
  have hl := lv_entry av (n := nL) hav
  rw [lg_entry_eq]
  refine body hx hb hml hown (fun q => hnm.trans (of_decide_eq_true q)) (fun w hw => hts w (List.mem_cons_of_mem _ hw)) hC hl ⟨hsz, hP, va_S.rf⟩ ?_
  intro H' locs' cells' slots' pc' ls' st' ins ik hdg hrt hans hI hcm hsm
  refine W.widen (k := mc) (n := ms) hcm hsm ?_
  have fin : ∀ t : State, t.heap = H' → ∀ oc, oc = Outcome.returned v1 → rf_Qc E D cl cA v1 h1 av.toArray s oc t := fun t ht oc hoc => ⟨hoc, by rw [ht]; exact hI.1, by rw [ht]; exact hI.2.1, hI.2.2.F ht⟩
  cases ins <;> simp only [mm_rtn, reduceCtorEq, Option.some.injEq] at hrt
  · -- ireturn
    subst hrt
    unfold mm_ans at hans
    split at hans
    · split at hans
      · rename_i hh; exact absurd hh.2 (by decide)
      · cases hans
    · rename_i v
      split at hans
      · rename_i hh
        cases hans
        rcases hh.2 with h9 | ⟨h9, h8⟩ | ⟨h9, h8⟩ | ⟨h9, h8⟩
        · subst h9
          have hret : ret = some .int := by
            unfold rf_rk at hrk
            split at hrk <;> simp_all
          rw [hret] at hr
          exact W.iret hx hb hr (fun t ht _ => fin t ht _ rfl) hI.2.2.2.2 hdg
        · subst h9
          have hret : ret = some .boolean := by
            unfold rf_rk at hrk
            split at hrk <;> simp_all
          rw [hret] at hr
          exact W.zret hx hb hr (by rcases h8 with h8 | h8 <;> subst h8 <;> rfl) (fun t ht _ => fin t ht _ rfl) hI.2.2.2.2 hdg
        · subst h9
          have hret : ret = some .byte := by
            unfold rf_rk at hrk
            split at hrk <;> simp_all
          rw [hret] at hr
          exact W.zret hx hb hr (rf_narB h8.1 h8.2) (fun t ht _ => fin t ht _ rfl) hI.2.2.2.2 hdg
        · subst h9
          have hret : ret = some .char := by
            unfold rf_rk at hrk
            split at hrk <;> simp_all
          rw [hret] at hr
          exact W.zret hx hb hr (rf_narC h8.1 h8.2) (fun t ht _ => fin t ht _ rfl) hI.2.2.2.2 hdg
      · cases hans
    · split at hans
      · rename_i hh; exact absurd hh.1 (by decide)
      · cases hans
    · cases hans
  · -- lreturn
    subst hrt
    unfold mm_ans at hans
    split at hans
    · split at hans
      · rename_i hh; exact absurd hh.2 (by decide)
      · cases hans
    · split at hans
      · rename_i hh; exact absurd hh.1 (by decide)
      · cases hans
    · split at hans
      · rename_i hh
        cases hans
        obtain ⟨-, h9⟩ := hh
        subst h9
        have hret : ret = some .long := by
          unfold rf_rk at hrk
          split at hrk <;> simp_all
        rw [hret] at hr
        exact W.lret hx hb hr (fun t ht _ => fin t ht _ rfl) hI.2.2.2.2 hdg
      · cases hans
    · cases hans
  · -- return
    subst hrt
    unfold mm_ans at hans
    split at hans
    · split at hans
      · rename_i hh
        cases hans
        obtain ⟨h9, -⟩ := hh
        subst h9
        have hret : ret = none := by
          unfold rf_rk at hrk
          split at hrk <;> simp_all
        rw [hret] at hr
        exact W.vret hx hb hr (fun t ht _ => fin t ht _ rfl) hI.2.2.2.2 hdg
      · cases hans
    · split at hans
      · rename_i hh; exact absurd hh.1 (by decide)
      · cases hans
    · split at hans
      · rename_i hh; exact absurd hh.1 (by decide)
      · cases hans
    · cases hans
set_option maxHeartbeats 4000000 in
theorem rf_W (hTw : ∀ X ∈ Tw, goodWord X = true → X ∈ T) (hTg : ∀ X ∈ T, goodWord X = true) (hCl : rf_Cl cl ty kds T) (hPt : rf_P P DS nM Tw T cl SN) (hG : rf_G T) (l : Launch) : ∀ (n d k pc : Nat) (lv : mm_V) (st : List Value) (cb sb : Nat) (h : mm_H) (v : Option Value) (h' : mm_H), mm_big E kds P n d (k, pc, lv, st, cb, sb) h = some (v, h') →
    ∀ {p : Program} {e : Env} {R : Room} {s : State} {m : MethodId} {args : Array Value} {below : List Frame} {meth : Method} {c : Code} {H : Heap} {locs : List Loc} {cells slots : Nat} {Q : State → Prop} {ls : Array Slot} {cs : List (List mm_I)} {nL np kd ci rk mc ms : Nat} {own : String} {cc : ByteArray} {ini : Bool},
    P[k]? = some (cs, nL, np, kd, ci, rk, mc, ms) → (∀ ch ∈ cs, ∀ q ∈ ch, decode cc q.1 = .ok (q.2.2.1, q.2.1) ∧ rf_cks Tw cl SN DS nM own ini q = true) → p.tables.exec = Jvm.exec → c.code = cc → c.maxLocals = nL → s.vm.findClass own = some m.cls → (ini = true → meth.name = "<init>") → (∀ w ∈ T, w.before args s = true) → rf_Cx E SN Tw D cl cA s → lv_has ls nL lv → rf_I D cl cA E.1 s h H locs → cells + cb ≤ R.cells → slots + sb ≤ R.slots → d ≤ R.frames → 60 * d ≤ R.locals →
    (∀ (H' : Heap) (locs' : List Loc) (cells' slots' : Nat) (pc' : Nat) (ls' : Array Slot) (st' : List Value) (ins : Instr) (ik : Nat), decode cc pc' = .ok (ins, 1) → mm_rtn ins = some ik → mm_ans rk ik st' = some v → rf_I D cl cA E.1 s h' H' locs' → cells' ≤ cells + cb → slots' ≤ slots + sb → W p l e R s m args below meth c H' locs' cells' slots' Q (F0 m pc' ls' st')) →
    W p l e R s m args below meth c H locs cells slots Q (F0 m pc ls st) := by
  intro n
  induction n with
  | zero => intro d k pc lv st cb sb h v h' hh; cases hh
  | succ n ih =>
    intro d k pc lv st cb sb h v h' hh p e R s m args below meth c H locs cells slots Q ls cs nL np kd ci rk mc ms own cc ini hPk hcs hexec hb hml hown hini hts hC hl hI hcb hsb hdR hlR HR
    unfold mm_big at hh
    split at hh
    · cases hh
    · rename_i q0 len ins a b z w nL0 np0 kd0 ci0 rk0 mc0 ms0 hat
      obtain ⟨cs', hPk', hpc, ch, hch, hq⟩ := rf_mmat hat
      cases hPk.symm.trans hPk'
      obtain ⟨hd, hck⟩ := hcs ch hch _ hq
      replace hpc : q0 = pc := hpc
      subst hpc
      replace hd : decode cc q0 = .ok (ins, len) := hd
      split at hh
      · -- a call
        rename_i ik hinv
        split at hh
        · cases hh
        · rename_i hd0
          split at hh
          · -- a special callee
            rename_i ha2
            split at hh
            · rename_i pc' lv' st' cb' sb' h1 hsp
              unfold mm_sp at hsp
              split at hsp
              · -- Object.<init>
                rename_i ha0
                subst ha0
                split at hsp
                · rename_i a0 r
                  split at hsp
                  · rename_i hh2
                    obtain ⟨hik, hsum⟩ := hh2
                    cases hsp
                    cases ins <;> simp only [mm_inv, reduceCtorEq, Option.some.injEq] at hinv <;> subst hinv <;> first | (exact absurd hik (by decide)) | skip
                    simp only [rf_cks, Bool.and_eq_true, decide_eq_true_eq] at hck
                    obtain ⟨hlen, hck⟩ := hck
                    subst hlen
                    refine W.objInit hexec hb hown (rf_w_in hTw hts hck) (hts _ hG.2.1) (hts _ hG.2.2.1) rfl (by rw [hml]; exact hl.1) rfl hd (by omega) (by show 2 * 0 + _ + 12 ≤ _; omega) ?_
                    exact ih d k _ lv _ cb sb h v h' hh hPk hcs hexec hb hml hown hini hts hC hl hI hcb hsb hdR hlR HR
                  · cases hsp
                · cases hsp
              · -- System.arraycopy
                rename_i ha0
                have ha1 : a = 1 := by omega
                subst ha1
                split at hsp
                · rename_i hik
                  cases ins <;> simp only [mm_inv, reduceCtorEq, Option.some.injEq] at hinv <;> subst hinv <;> first | (exact absurd hik (by decide)) | skip
                  simp only [rf_cks, Bool.and_eq_true, decide_eq_true_eq] at hck
                  obtain ⟨hlen, hck⟩ := hck
                  subst hlen
                  unfold mm_copy at hsp
                  split at hsp
                  · rename_i nn dp a1 sp a0 r
                    split at hsp
                    · rename_i t0 n0 f t1 n1 g hc0 hc1
                      split at hsp
                      · rename_i hh2
                        obtain ⟨g1, g2, g3, g4, g5, g6, g7, g8⟩ := hh2
                        cases hsp
                        obtain ⟨k0, rfl, hk0⟩ := rf_cell hc0
                        obtain ⟨k1, rfl, hk1⟩ := rf_cell hc1
                        subst g1
                        subst g2
                        refine rf_copy hexec hb (hml.trans hl.1.symm) hown (rf_w_in hTw hts hck) (hts _ hG.2.2.2.1) (hts _ hG.2.2.2.2.1) (hts _ hG.2.2.2.2.2) hC.1 hI hk0 hk1 rfl rfl (rf_nlt g5) (rf_nlt g4) (rf_nlt g3) g6 g7 (by omega) (by rw [rf_nfw]; omega) hd (fun H1 locs1 hI1 => ?_)
                        rw [Nat.add_sub_cancel_left] at hh
                        exact ih d k _ lv _ cb sb _ v h' hh hPk hcs hexec hb hml hown hini hts hC hl hI1 hcb hsb hdR hlR HR
                      · cases hsp
                    · cases hsp
                  · cases hsp
                · cases hsp
            · cases hh
          · -- a method of the table
            rename_i ha2
            split at hh
            · rename_i cs1 nL1 np1 kd1 ci1 rk1 mc1 ms1 hPa
              split at hh
              · rename_i hh1
                obtain ⟨hkd, hmc, hms, hnp⟩ := hh1
                split at hh
                · rename_i rv r hrv
                  split at hh
                  · rename_i hh2
                    obtain ⟨hsum, hav⟩ := hh2
                    split at hh
                    · rename_i v1 h1 hbig
                      have hlt : a < nM := by
                        cases ins <;> simp only [mm_inv, reduceCtorEq, Option.some.injEq] at hinv <;> simp only [rf_cks, Bool.and_eq_true, decide_eq_true_eq] at hck
                        · split at hck
                          · omega
                          · exact absurd hck.2 (by decide)
                          · simp only [Bool.and_eq_true, decide_eq_true_eq] at hck; exact hck.2.1
                        · split at hck
                          · exact absurd hck.2 (by decide)
                          · omega
                          · simp only [Bool.and_eq_true, decide_eq_true_eq] at hck; exact hck.2.1
                        · exact hck.2.2.1
                      obtain ⟨y, cc1, ret1, hDS, hM, hcs1⟩ := hPt a cs1 nL1 np1 kd1 ci1 rk1 mc1 ms1 hPa (by omega) hlt
                      have hMet : Met l y (Cond.code y cc1 nL1 ret1 :: T) (rf_rm (d - 1) mc1 ms1) (rf_Pc E SN Tw D cl cA (rv ++ (st.take np1).reverse) h) (rf_Qc E D cl cA v1 h1) mc1 ms1 (fun q : Nat => E.1 ≤ q) := by
                        refine rf_met hM hav ?_
                        intro p e s m args below meth c Q ls hexec hb hml hown hini hts hC hl hI HR
                        refine ih (d - 1) a 0 _ [] mc1 ms1 h v1 h1 hbig hPa hcs1 hexec hb hml hown hini hts hC hl hI ?_ ?_ ?_ ?_ ?_
                        · show 0 + mc1 ≤ mc1; omega
                        · show 0 + ms1 ≤ ms1; omega
                        · exact Nat.le_refl _
                        · exact Nat.le_refl _
                        · intro H' locs' cells' slots' pc' ls' st' ins ik q1 q2 q3 q4 q5 q6
                          exact HR H' locs' cells' slots' pc' ls' st' ins ik q1 q2 q3 q4 (by omega) (by omega)
                      obtain ⟨mcode, mini, -, mdesc, -, mnL, mk0, mk1, mk2⟩ := hM
                      have hG1 : GoodIn T (Cond.code y cc1 nL1 ret1 :: T) := by
                        intro w hw
                        have hw2 : w ∈ T := by
                          rcases List.mem_cons.mp hw with h9 | h9
                          · rw [h9]; exact mcode
                          · exact h9
                        exact ⟨hw2, good_of_word (hTg w hw2)⟩
                      have hRm : (rf_rm (d - 1) mc1 ms1).frames + 1 ≤ R.frames ∧ 8 + (nL1 + 11) + (rf_rm (d - 1) mc1 ms1).locals ≤ R.locals := by
                        refine ⟨?_, ?_⟩
                        · show d - 1 + 1 ≤ _; omega
                        · show 8 + (nL1 + 11) + 60 * (d - 1) ≤ _; omega
                      have hgood : ∀ X, X ∈ T → X ∈ T ∧ ((X.onTables && X.keeps) = true ∨ ∃ ty, X = .arrayClass ty) := fun X hX => ⟨hX, good_of_word (hTg X hX)⟩
                      have hCF : CallFix p m c cc nL s args T own := ⟨hexec, hb, hml, hown, hts⟩
                      have hst : st = (st.take np1) ++ (st.drop np1) := (List.take_append_drop np1 st).symm
                      have hn1 : ((st.take np1).reverse).length = np1 := by rw [List.length_reverse, List.length_take]; omega
                      have next : ∀ (H1 : Heap) (locs1 : List Loc), rf_I D cl cA E.1 s h1 H1 locs1 → len = 3 → W p l e R s m args below meth c H1 locs1 (cells + mc1) (slots + ms1) Q (F0 m (q0 + 3) ls (v1.toList ++ r)) := by
                        intro H1 locs1 hI1 hlen
                        subst hlen
                        refine ih d k _ lv _ (cb - mc1) (sb - ms1) h1 v h' hh hPk hcs hexec hb hml hown hini hts hC hl hI1 (by omega) (by omega) hdR hlR ?_
                        intro H' locs' cells' slots' pc' ls' st' ins ik q1 q2 q3 q4 q5 q6
                        exact HR H' locs' cells' slots' pc' ls' st' ins ik q1 q2 q3 q4 (by omega) (by omega)
                      have wmem : ∀ {w X}, rf_w Tw w X = true → X ∈ T := by
                        intro w X hw
                        simp only [rf_w, Bool.and_eq_true, decide_eq_true_eq] at hw
                        exact hTw _ (List.mem_of_getElem? hw.1) hw.2
                      cases ins <;> simp only [mm_inv, reduceCtorEq, Option.some.injEq] at hinv <;> subst hinv <;> simp only [rf_cks, Bool.and_eq_true, decide_eq_true_eq] at hck
                      · -- invokespecial
                        rename_i i
                        obtain ⟨hlen, hck⟩ := hck
                        subst hkd
                        obtain ⟨hinst, hnm, hret⟩ := mk2 rfl
                        subst hret
                        have hlk : rf_w Tw w (.methodLink own i y) = true := by
                          split at hck
                          · omega
                          · exact absurd hck (by decide)
                          · rw [hDS] at hck
                            simp only [Bool.and_eq_true] at hck
                            exact hck.2
                        unfold mm_recv at hrv
                        rw [if_neg (by decide)] at hrv
                        split at hrv
                        · rename_i a0 r0 hdr
                          have hrv2 : rv = [.ref a0] ∧ r = r0 := by
                            split at hrv
                            · split at hrv
                              · cases hrv; exact ⟨rfl, rfl⟩
                              · cases hrv
                            · split at hrv
                              · split at hrv
                                · cases hrv; exact ⟨rfl, rfl⟩
                                · cases hrv
                              · cases hrv
                          obtain ⟨rfl, rfl⟩ := hrv2
                          subst hlen
                          rw [hst, hdr]
                          have hrun := va_runI (e := e) (below := below) (meth := meth) (b := a0) (As := (st.take np1).reverse) (rest := r) (H := H) (locs := locs) (cells := cells) (slots := slots) (g := F0 m q0 ls (st.take np1 ++ .ref a0 :: r)) hCF hMet (cwI np1 hts hG1 rfl rfl rfl (hts _ mini) (hts _ (wmem hlk)) (hts _ hinst) hnm mdesc hRm) (rf_pre hC hI) rfl hn1 hl.1 (by show st.take np1 ++ _ = _; rw [List.reverse_reverse]) (lv_room hsum) hd ⟨by omega, by omega⟩
                          exact rf_call hrun hI (fun H1 locs1 hI1 => next H1 locs1 hI1 rfl)
                        · cases hrv
                      · -- invokestatic
                        rename_i i
                        obtain ⟨hlen, hck⟩ := hck
                        subst hkd
                        have hsta := mk0 rfl
                        unfold mm_recv at hrv
                        rw [if_pos rfl] at hrv
                        cases hrv
                        subst hlen
                        have hlk : rf_w Tw w (.methodLink own i y) = true ∨ rf_nlk Tw own w i y = true := by
                          split at hck
                          · exact absurd hck (by decide)
                          · omega
                          · rw [hDS] at hck
                            simp only [Bool.and_eq_true, Bool.or_eq_true] at hck
                            exact hck.2
                        rw [hst]
                        rcases hlk with hlk | hlk
                        · have hGS : GoodIn T (va_wsS own i y (Cond.code y cc1 nL1 ret1 :: T)) := by
                            intro w hw
                            unfold va_wsS at hw
                            rcases List.mem_append.mp hw with h9 | h9
                            · simp only [List.mem_cons, List.not_mem_nil, or_false] at h9
                              rcases h9 with h9 | h9 | h9
                              · rw [h9]; exact hgood _ (wmem hlk)
                              · rw [h9]; exact hgood _ hsta
                              · rw [h9]; exact hgood _ mini
                            · exact hG1 w h9
                          have hrun := va_runS (e := e) (below := below) (meth := meth) (As := (st.take np1).reverse) (rest := st.drop np1) (H := H) (locs := locs) (cells := cells) (slots := slots) (g := F0 m q0 ls (st.take np1 ++ st.drop np1)) hCF hMet (va_cwS np1 hts hGS rfl rfl rfl mdesc hRm) (rf_pre hC hI) rfl hn1 hl.1 (by show st.take np1 ++ _ = _; rw [List.reverse_reverse]) (lv_room hsum) hd ⟨by omega, by omega⟩
                          exact rf_call hrun hI (fun H1 locs1 hI1 => next H1 locs1 hI1 rfl)
                        · unfold rf_nlk at hlk
                          split at hlk
                          · rename_i o j y' host hTwn
                            simp only [Bool.and_eq_true, decide_eq_true_eq] at hlk
                            obtain ⟨rfl, rfl, rfl⟩ := hlk
                            have hNw := hC.2.1 _ (List.mem_of_getElem? hTwn) rfl
                            have hrun := va_runSN (e := e) (below := below) (meth := meth) (As := (st.take np1).reverse) (rest := st.drop np1) (H := H) (locs := locs) (cells := cells) (slots := slots) (g := F0 m q0 ls (st.take np1 ++ st.drop np1)) hCF hMet ⟨va_cnB np1 hts hG1 rfl rfl rfl hNw (hts _ mini) mdesc hRm, hts _ hsta, trivial⟩ (rf_pre hC hI) rfl hn1 hl.1 (by show st.take np1 ++ _ = _; rw [List.reverse_reverse]) (lv_room hsum) hd ⟨by omega, by omega⟩
                            exact rf_call hrun hI (fun H1 locs1 hI1 => next H1 locs1 hI1 rfl)
                          · cases hlk
                      · -- invokevirtual
                        rename_i i
                        obtain ⟨hlen, -, -, hck⟩ := hck
                        subst hkd
                        obtain ⟨hinst, hsel, hcl0⟩ := mk1 rfl
                        rw [hDS] at hck
                        have hlk : rf_w Tw w (.methodLink own i y) = true := hck
                        unfold mm_recv at hrv
                        rw [if_neg (by decide)] at hrv
                        have hGV : GoodIn T (wsV own i y.cls y (Cond.code y cc1 nL1 ret1 :: T)) := by
                          intro w hw
                          unfold wsV at hw
                          rcases List.mem_append.mp hw with h9 | h9
                          · simp only [List.mem_cons, List.not_mem_nil, or_false] at h9
                            rcases h9 with h9 | h9 | h9 | h9
                            · rw [h9]; exact hgood _ (wmem hlk)
                            · rw [h9]; exact hgood _ hinst
                            · rw [h9]; exact hgood _ hsel
                            · rw [h9]; exact hgood _ mini
                          · exact hG1 w h9
                        split at hrv
                        · rename_i a0 r0 hdr
                          split at hrv
                          · rename_i h90
                            split at hrv
                            · rename_i i2 hi2
                              cases hrv
                              subst hlen
                              rw [hst, hdr]
                              obtain ⟨adK, adV, ln, byt, hSs, hE, -⟩ := hC.2.2.2.2.2.2
                              obtain ⟨hl2, rfl⟩ := rf_str hE hi2
                              have hyc : y.cls = "java/lang/String" := by
                                rcases hcl0 with ⟨h9, -⟩ | ⟨-, h9⟩
                                · exact absurd h90 h9
                                · exact h9
                              have hpre := rf_pre (av := Value.ref (adK i2) :: (st.take np1).reverse) hC hI
                              have hrun := va_runV (e := e) (below := below) (meth := meth) (b := adK i2) (As := (st.take np1).reverse) (rest := r) (H := H) (locs := locs) (cells := cells) (slots := slots) (g := F0 m q0 ls (st.take np1 ++ .ref (adK i2) :: r)) hCF hMet (cwV np1 hts hGV rfl rfl rfl ⟨rfl, mdesc⟩ hRm) ⟨hpre.1, by rw [hyc]; exact vk_recv hSs hl2 hI.2.2, hpre.2⟩ rfl hn1 hl.1 (by show st.take np1 ++ _ = _; rw [List.reverse_reverse]) (lv_room hsum) hd ⟨by omega, by omega⟩
                              exact rf_call hrun hI (fun H1 locs1 hI1 => next H1 locs1 hI1 rfl)
                            · cases hrv
                          rename_i h90
                          obtain ⟨TT, N, hcl⟩ : ∃ TT N, cl[ci1]? = some (y.cls, TT, N) := by
                            rcases hcl0 with ⟨-, h9⟩ | ⟨h9, -⟩
                            · exact h9
                            · exact absurd h9 h90
                          split at hrv
                          · rename_i c0 fs hc0
                            split at hrv
                            · rename_i hc0e
                              subst hc0e
                              cases hrv
                              subst hlen
                              rw [hst, hdr]
                              obtain ⟨k9, rfl, hk9⟩ := rf_cell hc0
                              have hpre := rf_pre (av := Value.ref (E.1 + k9) :: (st.take np1).reverse) hC hI
                              have hrun := va_runV (e := e) (below := below) (meth := meth) (b := E.1 + k9) (As := (st.take np1).reverse) (rest := r) (H := H) (locs := locs) (cells := cells) (slots := slots) (g := F0 m q0 ls (st.take np1 ++ .ref (E.1 + k9) :: r)) hCF hMet (cwV np1 hts hGV rfl rfl rfl ⟨rfl, mdesc⟩ hRm) ⟨hpre.1, va_recv hC.1 hI.2.1 hcl (rf_ws_at hk9), hpre.2⟩ rfl hn1 hl.1 (by show st.take np1 ++ _ = _; rw [List.reverse_reverse]) (lv_room hsum) hd ⟨by omega, by omega⟩
                              exact rf_call hrun hI (fun H1 locs1 hI1 => next H1 locs1 hI1 rfl)
                            · cases hrv
                          · cases hrv
                        · cases hrv
                    · cases hh
                  · cases hh
                · cases hh
              · cases hh
            · cases hh
      · rename_i hinv
        split at hh
        · -- a return
          rename_i ik hrt
          split at hh
          · rename_i v2 hans
            cases hh
            have hlen : len = 1 := by
              cases ins <;> simp only [mm_rtn, reduceCtorEq] at hrt <;> exact of_decide_eq_true hck
            subst hlen
            exact HR H locs cells slots q0 ls st ins ik hd hrt hans hI (Nat.le_add_right _ _) (Nat.le_add_right _ _)
          · cases hh
        · -- a simple instruction
          rename_i hrt
          split at hh
          · rename_i pc' lv' st' cb' sb' h1 hex
            have hck2 : rf_ck Tw cl SN own ini q0 len ins a b z w = true := by
              cases ins <;> first | exact hck | (simp only [mm_inv, reduceCtorEq] at hinv)
            refine rf_ex hexec hb hTw hts hCl hown hini hC hG.1 hd hck2 hex hl hI hcb hsb ?_
            intro H' locs' cells' slots' ls' hI' hl' hc' hs'
            refine ih d k pc' lv' st' cb' sb' h1 v h' hh hPk hcs hexec hb hml hown hini hts hC hl' hI' (by omega) (by omega) hdR hlR ?_
            intro H2 locs2 cells2 slots2 pc2 ls2 st2 ins2 ik2 q1 q2 q3 q4 q5 q6
            exact HR H2 locs2 cells2 slots2 pc2 ls2 st2 ins2 ik2 q1 q2 q3 q4 (by omega) (by omega)
          · cases hh
end RFW
