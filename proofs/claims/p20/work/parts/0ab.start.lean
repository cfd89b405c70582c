/-! THE START: what holds at the law's entry -/
def st_S : List Int32 := [3, 3, 391, 463, 479, 39, 103]
def st_L : List Int32 := [0, 0, 0, (-9), 0, 0, (-9)]
def st_M : List Int32 := [9, 9, 3, 19, 9, 99, 9]
def mt_SB : List (Nat × Nat) := [(7, 6097165429774940305248424958294139625914495676811219176612277912171540342963315256372480060201886664685814387526205473995522670448095644354304), (7, 6097165111782998425920410342589808088569888681921534843734483183553263678596435620770601808701065237111195651801287362045692709245719505012480), (7, 6097165162888846227955269835291481742180327972904332290162589785040917832959149219722950794035817831340398281064071331295802650357440790398720)]

theorem st_arr {s : State} {args : Array Value} {ty : FieldType} (h : (Cond.arrayClass ty).before args s = true) : ∃ c : ClassId, ArrOfT s c ty ∧ s.vm.findClass ("[" ++ ty.toString) = some c := by
  obtain ⟨c, k, comp, h1, h2, h3⟩ := Cond.arrayClass_spec h
  exact ⟨c, fun N z => ⟨(fun k h => by cases h), k, h2, comp, h3⟩, h1⟩
theorem st_in {w : Nat} {X : Cond} (h : rf_w lw_tbl w X = true) : X ∈ lw_tbl := (List.mem_filter.mp (mt_w_in h)).1
def st_fw (n : String) (xs : List Int32) : List Cond := Cond.arrayOf (.static "StrawWatch$Laws" n "[I") .int :: Cond.eq (.length (.static "StrawWatch$Laws" n "[I")) (.int (Int32.ofNat xs.length)) :: (List.range xs.length).map (fun j => Cond.eq (.elem (.static "StrawWatch$Laws" n "[I") (.int (Int32.ofNat j))) (.int (xs.getD j 0)))
theorem st_stat {args : Array Value} {s : State} {n : String} {xs : List Int32} {A : Nat → Prop} (hx : xs.length < 2 ^ 31) (hf : ∀ w ∈ st_fw n xs, w.before args s = true) (hl : (Cond.laysStatic "StrawWatch$Laws" n "[I").before args s = true) (hini : (Cond.initialized "StrawWatch$Laws").before args s = true) (hA : ∀ a : Nat, a < s.heap.size → ¬ A a) :
    ∃ t : Nat, va_T .int t xs.length (fun j => .int (xs.getD j 0)) A s s.heap ∧ va_Z "StrawWatch$Laws" n "[I" (.ref t) A s s.heap := by
  obtain ⟨t, ht, hT⟩ := va_Tof (f := fun j => .int (xs.getD j 0)) (A := A) hx (hf _ List.mem_cons_self) (va_eqt (hf _ (List.mem_cons_of_mem _ List.mem_cons_self))) (fun j hj => va_eqt (hf _ (List.mem_cons_of_mem _ (List.mem_cons_of_mem _ (List.mem_map.mpr ⟨j, List.mem_range.mpr hj, rfl⟩))))) hA
  exact ⟨t, hT, va_Zref hl hini ht hA⟩
theorem st_ne {A : Nat → Prop} {s : State} {H : Heap} {t t' N N' : Nat} {f f' : Nat → Value} (h : va_T .int t N f A s H) (h' : va_T .int t' N' f' A s H) {j : Nat} (hj : j < N) (hj' : j < N') (hn : f j ≠ f' j) : t ≠ t' := by
  intro e
  subst e
  obtain ⟨c, h1, -, -, -, -, h2, -⟩ := h
  obtain ⟨c', h1', -, -, -, -, h2', -⟩ := h'
  cases h1.symm.trans h1'
  exact hn (Option.some.inj ((h2 j hj).symm.trans (h2' j hj')))
theorem st_neL {A : Nat → Prop} {s : State} {H : Heap} {t t' N N' : Nat} {f f' : Nat → Value} (h : va_T .int t N f A s H) (h' : va_T .int t' N' f' A s H) (hn : Int32.ofNat N ≠ Int32.ofNat N') : t ≠ t' := by
  intro e
  subst e
  obtain ⟨c, h1, -, -, -, h2, -⟩ := h
  obtain ⟨c', h1', -, -, -, h2', -⟩ := h'
  cases h1.symm.trans h1'
  exact hn (h2.symm.trans h2')
def st_FIN (c : mm_C) : Prop := ∃ h, c = ([], h, some (.int 1))
def st_E (B tS tL tM b n : Nat) (xs : Nat → Int32) (g : List mm_S) : mm_E := (B, (tS, 7, fun j => st_S.getD j 0) :: (tL, 7, fun j => st_L.getD j 0) :: (tM, 7, fun j => st_M.getD j 0) :: (b, n, xs) :: g)
/-- the script's array, if it is a static one too, has its ints -/
def st_al (n : Nat) (xs : Nat → Int32) (l : List Int32) : Prop := n = 7 ∧ ∀ j, j < 7 → l.getD j 0 = xs j
theorem st_same {A : Nat → Prop} {s : State} {H : Heap} {t N N' : Nat} {f f' : Nat → Value} (h : va_T .int t N f A s H) (h' : va_T .int t N' f' A s H) : Int32.ofNat N = Int32.ofNat N' ∧ ∀ j, j < N → j < N' → f j = f' j := by
  obtain ⟨c, h1, -, -, -, h3, h2, -⟩ := h
  obtain ⟨c', h1', -, -, -, h3', h2', -⟩ := h'
  cases h1.symm.trans h1'
  exact ⟨h3.symm.trans h3', fun j hj hj' => Option.some.inj ((h2 j hj).symm.trans (h2' j hj'))⟩
theorem st_al_of {A : Nat → Prop} {s : State} {H : Heap} {t b L : Nat} {l : List Int32} {xs : Nat → Int32} (hL : L ≤ 3072) (h : va_T .int t 7 (fun j => .int (l.getD j 0)) A s H) (h' : va_T .int b L (fun j => .int (xs j)) A s H) (e : b = t) : st_al L xs l := by
  subst e
  obtain ⟨h1, h2⟩ := st_same h h'
  have h3 : L = 7 := by
    have h4 := congrArg Int32.toInt h1
    rw [Int32.toInt_ofNat_of_lt (by decide), Int32.toInt_ofNat_of_lt (by omega)] at h4
    omega
  subst h3
  refine ⟨rfl, fun j hj => ?_⟩
  have h5 := h2 j hj hj
  injection h5
/-- the law comes to its end in the mini machine -/
def st_Goal : Prop := ∀ (B tS tL tM b n : Nat) (xs : Nat → Int32) (g : List mm_S), g.length = 5 → en_ST (st_E B tS tL tM b n xs g) → n ≤ 3072 → tS < B → tL < B → tM < B → b < B → tS ≠ tL → tS ≠ tM → tL ≠ tM → (b = tS → st_al n xs st_S) → (b = tL → st_al n xs st_L) → (b = tM → st_al n xs st_M) → en_Good (st_E B tS tL tM b n xs g) mt_kds mt_P 1000 st_FIN ([(291, 0, lv_args 0 [.ref b], [], 600000, 7302250)], [], none)
theorem st_K {s : State} {args : Array Value} (hts : ∀ w ∈ lw_tbl, w.before args s = true) : ∃ (D : va_G) (cA : Nat → ClassId), va_K D mt_cl (rf_tys cA) s := by
  have hW : ∀ w ∈ mt_W, w.before args s = true := fun w hw => hts w (List.mem_filter.mp hw).1
  have hk : ∀ c : Nat, ∃ r : ClassId × (Nat → Nat), ∀ q : vw_C, mt_cl[c]? = some q → u_Kn s q.1 q.2.1 q.2.2 r.1 r.2 := by
    intro c
    cases hc : mt_cl[c]? with
    | none => exact ⟨(0, fun _ => 0), fun q h => by cases h⟩
    | some q =>
      obtain ⟨C, TT, N⟩ := q
      obtain ⟨h1, -, -, h4, -, -⟩ := mt_Cl c C TT N hc
      obtain ⟨cC, iS, h⟩ := u_known hW h1 (hW _ h4)
      exact ⟨(cC, iS), fun q hq => by cases hq; exact h⟩
  obtain ⟨D, hD⟩ := Classical.axiomOfChoice hk
  obtain ⟨c0, a0, b0⟩ := st_arr (hts _ (st_in (w := 160) (X := .arrayClass .int) (by decide +kernel)))
  obtain ⟨c1, a1, b1⟩ := st_arr (hts _ (st_in (w := 159) (X := .arrayClass .byte) (by decide +kernel)))
  obtain ⟨c2, a2, b2⟩ := st_arr (hts _ (st_in (w := 382) (X := .arrayClass .boolean) (by decide +kernel)))
  obtain ⟨c3, a3, b3⟩ := st_arr (hts _ (st_in (w := 235) (X := .arrayClass .long) (by decide +kernel)))
  obtain ⟨comp, c4, k4, p1, p2, p3, p4, p5⟩ := arrayOver_specB (hts _ (List.mem_of_getElem? (i := 364) (a := Cond.arrayOver (.array .int)) (by decide +kernel)))
  refine ⟨(fun c => (D c).1, fun c => (D c).2), fun k => match k with | 0 => c0 | 1 => c1 | 2 => c2 | 3 => c3 | _ => c4, fun c q hq => hD c q hq, ?_⟩
  intro k q hk
  rcases k with _ | _ | _ | _ | _ | k
  · cases hk; exact ⟨a0, b0⟩
  · cases hk; exact ⟨a1, b1⟩
  · cases hk; exact ⟨a2, b2⟩
  · cases hk; exact ⟨a3, b3⟩
  · cases hk; exact ⟨fun N z => ⟨(fun k h => by cases h), k4, p3, comp, p4⟩, p5⟩
  · cases hk
theorem st_flat : (∀ w ∈ st_fw "SEEN" st_S, w ∈ flatC (Jvm.Cond.and given_1 narrow_1)) ∧ (∀ w ∈ st_fw "LEAST" st_L, w ∈ flatC (Jvm.Cond.and given_1 narrow_1)) ∧ ∀ w ∈ st_fw "MOST" st_M, w ∈ flatC (Jvm.Cond.and given_1 narrow_1) := ⟨by decide +kernel, by decide +kernel, by decide +kernel⟩
/-- the String constants' words, and the JDK's statics -/
def st_tm (i : Nat) : Term := .string "StrawWatch$Tokens" (if i = 0 then 83 else 66)
def st_B0 : List Int32 := [109, 97, 110, 32, 32, 32, 32, 32, 119, 105, 110, 100, 32, 32, 32, 32, 100, 97, 110, 103, 101, 114, 32, 32, 111, 114, 100, 101, 114, 115, 32, 32, 114, 117, 110, 115, 32, 32, 32, 32, 115, 116, 114, 105, 107, 101, 115, 32, 101, 97, 116, 115, 32, 32, 32, 32, 109, 111, 111, 100, 115, 32, 32, 32, 115, 104, 105, 112, 32, 32, 32, 32, 103, 111, 97, 108, 32, 32, 32, 32, 98, 114, 111, 111, 109, 32, 32, 32, 115, 101, 101, 100, 32, 32, 32, 32, 105, 102, 32, 32, 32, 32, 32, 32, 116, 104, 101, 110, 32, 32, 32, 32, 101, 108, 115, 101, 32, 32, 32, 32, 119, 97, 116, 99, 104, 32, 32, 32, 108, 101, 97, 103, 117, 101, 32, 32, 115, 107, 105, 108, 108, 32, 32, 32, 104, 101, 108, 109, 32, 32, 32, 32, 108, 111, 111, 107, 32, 32, 32, 32, 99, 111, 111, 107, 32, 32, 32, 32, 115, 97, 105, 108, 32, 32, 32, 32, 98, 108, 111, 119, 115, 32, 32, 32, 110, 101, 97, 114, 32, 32, 32, 32]
def st_B1 : List Int32 := [59, 61, 43, 45, 42, 47, 60, 40, 41]
def st_SL : List Nat := [192, 9]
def st_SBy : List (List Int32) := [st_B0, st_B1]
def st_vf (i : Nat) : Term := .field (st_tm i) "java/lang/String" "value" "[B"
def st_sw (i : Nat) : List Cond := Cond.exactly (st_tm i) "java/lang/String" :: Cond.eq (.field (st_tm i) "java/lang/String" "coder" "B") (.int 0) :: Cond.arrayOf (st_vf i) .byte :: Cond.eq (.length (st_vf i)) (.int (Int32.ofNat (st_SL.getD i 0))) :: (List.range (st_SL.getD i 0)).map (fun j => Cond.eq (.elem (st_vf i) (.int (Int32.ofNat j))) (.int ((st_SBy.getD i []).getD j 0)))
theorem st_sw0 : ((flatC (Jvm.Cond.and given_1 narrow_1)).drop 39).take 196 = st_sw 0 := by decide +kernel
theorem st_sw1 : ((flatC (Jvm.Cond.and given_1 narrow_1)).drop 235).take 13 = st_sw 1 := by decide +kernel
theorem st_sw_in (i : Nat) (hi : i < 2) : ∀ w ∈ st_sw i, w ∈ flatC (Jvm.Cond.and given_1 narrow_1) := by
  intro w hw
  rcases i with _ | _ | i
  · rw [← st_sw0] at hw
    exact List.mem_of_mem_drop (List.mem_of_mem_take hw)
  · have hw : w ∈ st_sw 1 := hw
    rw [← st_sw1] at hw
    exact List.mem_of_mem_drop (List.mem_of_mem_take hw)
  · omega
theorem st_cs : Cond.eq (.static "java/lang/String" "COMPACT_STRINGS" "Z") (.int 1) ∈ flatC (Jvm.Cond.and given_1 narrow_1) := List.mem_of_getElem? (i := 4) (by decide +kernel)
theorem st_sf : Cond.isRef (.static "jdk/internal/util/Preconditions" "SIOOBE_FORMATTER" "Ljava/util/function/BiFunction;") ∈ flatC (Jvm.Cond.and given_1 narrow_1) := List.mem_of_getElem? (i := 5) (by decide +kernel)
theorem st_ns : Cond.not (Cond.eq (st_tm 0) (st_tm 1)) ∈ flatC (Jvm.Cond.and given_1 narrow_1) := List.mem_of_getElem? (i := 248) (by decide +kernel)
theorem st_byte : (∀ j, -128 ≤ (st_B0.getD j 0).toInt ∧ (st_B0.getD j 0).toInt ≤ 127) ∧ ∀ j, -128 ≤ (st_B1.getD j 0).toInt ∧ (st_B1.getD j 0).toInt ≤ 127 := by
  have key : ∀ l : List Int32, (∀ x ∈ l, -128 ≤ x.toInt ∧ x.toInt ≤ 127) → ∀ j, -128 ≤ (l.getD j 0).toInt ∧ (l.getD j 0).toInt ≤ 127 := by
    intro l hl j
    rw [List.getD_eq_getElem?_getD]
    cases hj : l[j]? with
    | none => exact ⟨by decide, by decide⟩
    | some x => exact hl x (List.mem_of_getElem? hj)
  exact ⟨key _ (by decide +kernel), key _ (by decide +kernel)⟩
theorem st_strs {args : Array Value} {s : State} {A : Nat → Prop} (hs : ∀ c ∈ flatC (Jvm.Cond.and given_1 narrow_1), c.before args s = true) (hA : ∀ a : Nat, a < s.heap.size → ¬ A a) : ∃ adK adV : Nat → Nat, vk_S 2 st_SL st_SBy adK adV A s s.heap ∧ ∀ i : Nat, i < 2 → (st_tm i).eval args s none [] s = some (.ref (adK i)) := by
  refine vk_Sof (tm := st_tm) ?_ (fun i hi => hs _ (st_sw_in i hi _ ?_)) (fun i hi => hs _ (st_sw_in i hi _ ?_)) (fun i hi => hs _ (st_sw_in i hi _ ?_)) (fun i hi => hs _ (st_sw_in i hi _ ?_)) (fun i hi j hj => hs _ (st_sw_in i hi _ ?_)) (fun i j hi hj hn => ?_) hA
  · intro i hi
    rcases i with _ | _ | i
    · decide
    · decide
    · omega
  · exact List.mem_cons_self
  · exact List.mem_cons_of_mem _ List.mem_cons_self
  · exact List.mem_cons_of_mem _ (List.mem_cons_of_mem _ List.mem_cons_self)
  · exact List.mem_cons_of_mem _ (List.mem_cons_of_mem _ (List.mem_cons_of_mem _ List.mem_cons_self))
  · exact List.mem_cons_of_mem _ (List.mem_cons_of_mem _ (List.mem_cons_of_mem _ (List.mem_cons_of_mem _ (List.mem_map.mpr ⟨j, List.mem_range.mpr hj, rfl⟩))))
  · rcases i with _ | _ | i
    · rcases j with _ | _ | j
      · exact absurd rfl hn
      · exact Or.inl (hs _ st_ns)
      · omega
    · rcases j with _ | _ | j
      · exact Or.inr (hs _ st_ns)
      · exact absurd rfl hn
      · omega
    · omega
theorem st_SA {B tS tL tM b n : Nat} {xs : Nat → Int32} {g : List mm_S} {ω : Nat → Value} {ρ : Nat → Int32} (hST : en_ST (st_E B tS tL tM b n xs g)) (h1 : tS < B) (h2 : tL < B) (h3 : tM < B) (n1 : tS ≠ tL) (n2 : tS ≠ tM) (n4 : tL ≠ tM) : en_SA (st_E B tS tL tM b n xs g) ρ ω mt_SB := by
  refine ⟨hST, ?_⟩
  intro s m row hs
  have tk : (st_E B tS tL tM b n xs g).2.take 4 = [(tS, 7, fun j => st_S.getD j 0), (tL, 7, fun j => st_L.getD j 0), (tM, 7, fun j => st_M.getD j 0), (b, n, xs)] := rfl
  have ld : ∀ (N : Nat) (x : Int32) (j : Nat), en_elt N j < 4294967296 → en_d (en_elt N j) = x → en_v (st_E B tS tL tM b n xs g) ρ ω (en_elt N j) (.int x) := fun N x j h e => by rw [en_v_const h, e]
  rcases s with _ | _ | _ | s
  · cases hs
    refine ⟨_, (tS, 7, fun j => st_S.getD j 0), rfl, h1, ?_, rfl, ?_⟩
    · rw [show mm_stat (st_E B tS tL tM b n xs g) _ = _ from by unfold mm_stat; rw [tk]]; simp only [st_E, if_neg (Nat.not_le.mpr h1), List.find?_cons, beq_self_eq_true]
    · intro j hj
      apply ld
      · revert j; decide +kernel
      · simp only []; revert j; decide +kernel
  · cases hs
    refine ⟨_, (tL, 7, fun j => st_L.getD j 0), rfl, h2, ?_, rfl, ?_⟩
    · rw [show mm_stat (st_E B tS tL tM b n xs g) _ = _ from by unfold mm_stat; rw [tk]]; simp only [st_E, if_neg (Nat.not_le.mpr h2), List.find?_cons, beq_self_eq_true, beq_eq_false_iff_ne.mpr n1]
    · intro j hj
      apply ld
      · revert j; decide +kernel
      · simp only []; revert j; decide +kernel
  · cases hs
    refine ⟨_, (tM, 7, fun j => st_M.getD j 0), rfl, h3, ?_, rfl, ?_⟩
    · rw [show mm_stat (st_E B tS tL tM b n xs g) _ = _ from by unfold mm_stat; rw [tk]]; simp only [st_E, if_neg (Nat.not_le.mpr h3), List.find?_cons, beq_self_eq_true, beq_eq_false_iff_ne.mpr n2, beq_eq_false_iff_ne.mpr n4]
    · intro j hj
      apply ld
      · revert j; decide +kernel
      · simp only []; revert j; decide +kernel
  · cases hs
