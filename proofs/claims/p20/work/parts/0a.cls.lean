/-! THE TABLES AGAINST THE WORDS, 1, by program (wip/p1/chk.py): classes and their fields -/
def mt_W : List Cond := lw_tbl.filter goodWord
theorem mt_w_in {w : Nat} {X : Cond} (h : rf_w lw_tbl w X = true) : X ∈ mt_W := by
  simp only [rf_w, Bool.and_eq_true, decide_eq_true_eq] at h
  exact List.mem_filter.mpr ⟨List.mem_of_getElem? h.1, h.2⟩
theorem mt_lays {C : String} {TT : u_T} {N : Nat} {ix : List Nat} (h : (List.range N).all (fun k => rf_w lw_tbl (ix.getD k 0) (u_lay C TT k)) = true) : ∀ w ∈ u_ws C TT N, w ∈ mt_W := by
  intro w hw
  obtain ⟨k, hk, rfl⟩ := List.mem_map.mp hw
  exact mt_w_in (List.all_eq_true.mp h k hk)
def mt_T0 : u_T := fun k => match k with
  | 0 => ("StrawWatch$Draws", "text", "LStrawWatch$Text;", true)
  | 1 => ("StrawWatch$Draws", "who", "[I", true)
  | 2 => ("StrawWatch$Draws", "left", "[I", true)
  | 3 => ("StrawWatch$Draws", "tally", "[I", true)
  | 4 => ("StrawWatch$Draws", "goesOn", "[I", true)
  | 5 => ("StrawWatch$Draws", "ways", "[I", true)
  | _ => ("StrawWatch$Draws", "size", "I", false)
def mt_ty0 : Nat → FieldType := fun k => match k with
  | 0 => (.object "StrawWatch$Text")
  | 1 => (.array .int)
  | 2 => (.array .int)
  | 3 => (.array .int)
  | 4 => (.array .int)
  | 5 => (.array .int)
  | _ => .int
def mt_T1 : u_T := fun k => match k with
  | 0 => ("StrawWatch$Laws", "vars", "[I", true)
  | 1 => ("StrawWatch$Laws", "code", "[I", true)
  | 2 => ("StrawWatch$Laws", "starts", "[I", true)
  | 3 => ("StrawWatch$Laws", "stack", "[I", true)
  | _ => ("StrawWatch$Laws", "size", "I", false)
def mt_ty1 : Nat → FieldType := fun k => match k with
  | 0 => (.array .int)
  | 1 => (.array .int)
  | 2 => (.array .int)
  | 3 => (.array .int)
  | _ => .int
def mt_T2 : u_T := fun k => match k with
  | 0 => ("StrawWatch$Notes", "captains", "[I", true)
  | 1 => ("StrawWatch$Notes", "watches", "[I", true)
  | 2 => ("StrawWatch$Notes", "leagues", "[I", true)
  | 3 => ("StrawWatch$Notes", "told", "I", false)
  | _ => ("StrawWatch$Notes", "logged", "I", false)
def mt_ty2 : Nat → FieldType := fun k => match k with
  | 0 => (.array .int)
  | 1 => (.array .int)
  | 2 => (.array .int)
  | 3 => .int
  | _ => .int
def mt_T3 : u_T := fun k => match k with
  | 0 => ("StrawWatch$Past", "rows", "[[I", true)
  | 1 => ("StrawWatch$Past", "slots", "[[I", true)
  | 2 => ("StrawWatch$Past", "holds", "[Z", true)
  | 3 => ("StrawWatch$Past", "next", "I", false)
  | _ => ("StrawWatch$Past", "undoable", "I", false)
def mt_ty3 : Nat → FieldType := fun k => match k with
  | 0 => (.array (.array .int))
  | 1 => (.array (.array .int))
  | 2 => (.array .boolean)
  | 3 => .int
  | _ => .int
def mt_T4 : u_T := fun k => match k with
  | 0 => ("StrawWatch$Reader", "tokens", "LStrawWatch$Tokens;", true)
  | 1 => ("StrawWatch$Reader", "into", "LStrawWatch$Text;", true)
  | 2 => ("StrawWatch$Reader", "at", "I", false)
  | 3 => ("StrawWatch$Reader", "kind", "I", false)
  | 4 => ("StrawWatch$Reader", "value", "J", false)
  | 5 => ("StrawWatch$Reader", "start", "I", false)
  | 6 => ("StrawWatch$Reader", "fault", "I", false)
  | 7 => ("StrawWatch$Reader", "place", "I", false)
  | 8 => ("StrawWatch$Reader", "laterFault", "I", false)
  | _ => ("StrawWatch$Reader", "laterPlace", "I", false)
def mt_ty4 : Nat → FieldType := fun k => match k with
  | 0 => (.object "StrawWatch$Tokens")
  | 1 => (.object "StrawWatch$Text")
  | 2 => .int
  | 3 => .int
  | 4 => .long
  | 5 => .int
  | 6 => .int
  | 7 => .int
  | 8 => .int
  | _ => .int
def mt_T5 : u_T := fun k => match k with
  | 0 => ("StrawWatch$Ship", "cell", "[I", true)
  | 1 => ("StrawWatch$Ship", "left", "[I", true)
  | 2 => ("StrawWatch$Ship", "text", "LStrawWatch$Text;", true)
  | 3 => ("StrawWatch$Ship", "seed", "I", false)
  | _ => ("StrawWatch$Ship", "sailForAll", "I", false)
def mt_ty5 : Nat → FieldType := fun k => match k with
  | 0 => (.array .int)
  | 1 => (.array .int)
  | 2 => (.object "StrawWatch$Text")
  | 3 => .int
  | _ => .int
def mt_T6 : u_T := fun k => match k with
  | 0 => ("StrawWatch$Text", "laws", "LStrawWatch$Laws;", true)
  | 1 => ("StrawWatch$Text", "skills", "[I", true)
  | 2 => ("StrawWatch$Text", "sleeves", "[I", true)
  | 3 => ("StrawWatch$Text", "names", "[J", true)
  | 4 => ("StrawWatch$Text", "men", "I", false)
  | 5 => ("StrawWatch$Text", "hull", "I", false)
  | 6 => ("StrawWatch$Text", "food", "I", false)
  | 7 => ("StrawWatch$Text", "mood", "I", false)
  | 8 => ("StrawWatch$Text", "goal", "I", false)
  | 9 => ("StrawWatch$Text", "broom", "I", false)
  | _ => ("StrawWatch$Text", "seed", "I", false)
def mt_ty6 : Nat → FieldType := fun k => match k with
  | 0 => (.object "StrawWatch$Laws")
  | 1 => (.array .int)
  | 2 => (.array .int)
  | 3 => (.array .long)
  | 4 => .int
  | 5 => .int
  | 6 => .int
  | 7 => .int
  | 8 => .int
  | 9 => .int
  | _ => .int
def mt_T7 : u_T := fun k => match k with
  | 0 => ("StrawWatch$Tokens", "kinds", "[I", true)
  | 1 => ("StrawWatch$Tokens", "places", "[I", true)
  | 2 => ("StrawWatch$Tokens", "values", "[J", true)
  | 3 => ("StrawWatch$Tokens", "size", "I", false)
  | 4 => ("StrawWatch$Tokens", "tape", "[B", true)
  | 5 => ("StrawWatch$Tokens", "length", "I", false)
  | _ => ("StrawWatch$Tokens", "at", "I", false)
def mt_ty7 : Nat → FieldType := fun k => match k with
  | 0 => (.array .int)
  | 1 => (.array .int)
  | 2 => (.array .long)
  | 3 => .int
  | 4 => (.array .byte)
  | 5 => .int
  | _ => .int
def mt_T8 : u_T := fun k => match k with
  | 0 => ("StrawWatch", "tape", "[B", true)
  | 1 => ("StrawWatch", "tapeLength", "I", false)
  | 2 => ("StrawWatch", "faultPlace", "I", false)
  | 3 => ("StrawWatch", "text", "LStrawWatch$Text;", true)
  | 4 => ("StrawWatch", "fresh", "LStrawWatch$Text;", true)
  | 5 => ("StrawWatch", "reader", "LStrawWatch$Reader;", true)
  | 6 => ("StrawWatch", "now", "LStrawWatch$Ship;", true)
  | 7 => ("StrawWatch", "trial", "LStrawWatch$Ship;", true)
  | 8 => ("StrawWatch", "draws", "LStrawWatch$Draws;", true)
  | 9 => ("StrawWatch", "past", "LStrawWatch$Past;", true)
  | _ => ("StrawWatch", "notes", "LStrawWatch$Notes;", true)
def mt_ty8 : Nat → FieldType := fun k => match k with
  | 0 => (.array .byte)
  | 1 => .int
  | 2 => .int
  | 3 => (.object "StrawWatch$Text")
  | 4 => (.object "StrawWatch$Text")
  | 5 => (.object "StrawWatch$Reader")
  | 6 => (.object "StrawWatch$Ship")
  | 7 => (.object "StrawWatch$Ship")
  | 8 => (.object "StrawWatch$Draws")
  | 9 => (.object "StrawWatch$Past")
  | _ => (.object "StrawWatch$Notes")
def mt_T9 : u_T := fun k => match k with
  | 0 => ("StrawWatchModel", "thrown", "I", false)
  | 1 => ("StrawWatchModel", "tape", "[B", true)
  | 2 => ("StrawWatchModel", "taped", "I", false)
  | 3 => ("StrawWatchModel", "text", "[B", true)
  | 4 => ("StrawWatchModel", "size", "I", false)
  | 5 => ("StrawWatchModel", "tKind", "[I", true)
  | 6 => ("StrawWatchModel", "tPlace", "[I", true)
  | 7 => ("StrawWatchModel", "tValue", "[I", true)
  | 8 => ("StrawWatchModel", "tName", "[J", true)
  | 9 => ("StrawWatchModel", "keys", "[J", true)
  | 10 => ("StrawWatchModel", "tokens", "I", false)
  | 11 => ("StrawWatchModel", "t", "I", false)
  | 12 => ("StrawWatchModel", "open", "I", false)
  | 13 => ("StrawWatchModel", "fault", "I", false)
  | 14 => ("StrawWatchModel", "faultPlace", "I", false)
  | 15 => ("StrawWatchModel", "worst", "I", false)
  | 16 => ("StrawWatchModel", "worstPlace", "I", false)
  | 17 => ("StrawWatchModel", "place", "I", false)
  | 18 => ("StrawWatchModel", "live", "I", false)
  | 19 => ("StrawWatchModel", "side", "I", false)
  | 20 => ("StrawWatchModel", "names", "I", false)
  | 21 => ("StrawWatchModel", "nameOf", "[J", true)
  | 22 => ("StrawWatchModel", "men", "[I", true)
  | 23 => ("StrawWatchModel", "skillOf", "[I", true)
  | 24 => ("StrawWatchModel", "sleeveTold", "[I", true)
  | 25 => ("StrawWatchModel", "hullTold", "[I", true)
  | 26 => ("StrawWatchModel", "foodTold", "[I", true)
  | 27 => ("StrawWatchModel", "moodTold", "[I", true)
  | 28 => ("StrawWatchModel", "goal", "[I", true)
  | 29 => ("StrawWatchModel", "strawsTold", "[I", true)
  | 30 => ("StrawWatchModel", "seed", "[I", true)
  | 31 => ("StrawWatchModel", "lawFirst", "[I", true)
  | 32 => ("StrawWatchModel", "lawLast", "[I", true)
  | 33 => ("StrawWatchModel", "branches", "I", false)
  | 34 => ("StrawWatchModel", "hasTest", "[Z", true)
  | 35 => ("StrawWatchModel", "testFrom", "[I", true)
  | 36 => ("StrawWatchModel", "testMid", "[I", true)
  | 37 => ("StrawWatchModel", "testTo", "[I", true)
  | 38 => ("StrawWatchModel", "termTo", "[I", true)
  | 39 => ("StrawWatchModel", "codes", "I", false)
  | 40 => ("StrawWatchModel", "code", "[I", true)
  | 41 => ("StrawWatchModel", "codeInt", "[I", true)
  | 42 => ("StrawWatchModel", "waits", "[I", true)
  | 43 => ("StrawWatchModel", "waiting", "I", false)
  | 44 => ("StrawWatchModel", "variables", "[I", true)
  | 45 => ("StrawWatchModel", "pile", "[I", true)
  | 46 => ("StrawWatchModel", "isBroken", "Z", false)
  | 47 => ("StrawWatchModel", "now", "[I", true)
  | 48 => ("StrawWatchModel", "row", "[I", true)
  | 49 => ("StrawWatchModel", "lots", "I", false)
  | 50 => ("StrawWatchModel", "steadily", "I", false)
  | 51 => ("StrawWatchModel", "blows", "I", false)
  | 52 => ("StrawWatchModel", "near", "I", false)
  | 53 => ("StrawWatchModel", "doing", "[I", true)
  | 54 => ("StrawWatchModel", "undos", "I", false)
  | 55 => ("StrawWatchModel", "history", "[I", true)
  | 56 => ("StrawWatchModel", "strikesBy", "[I", true)
  | 57 => ("StrawWatchModel", "isFilled", "[Z", true)
  | 58 => ("StrawWatchModel", "safeMany", "I", false)
  | 59 => ("StrawWatchModel", "safeWay", "I", false)
  | 60 => ("StrawWatchModel", "firstRuns", "[I", true)
  | 61 => ("StrawWatchModel", "firstStrikes", "[I", true)
  | 62 => ("StrawWatchModel", "firstEats", "[I", true)
  | 63 => ("StrawWatchModel", "bestDraw", "I", false)
  | 64 => ("StrawWatchModel", "bestSum", "I", false)
  | 65 => ("StrawWatchModel", "tolds", "I", false)
  | 66 => ("StrawWatchModel", "toldCaptain", "[I", true)
  | 67 => ("StrawWatchModel", "logs", "I", false)
  | 68 => ("StrawWatchModel", "logWatch", "[I", true)
  | 69 => ("StrawWatchModel", "logLeague", "[I", true)
  | 70 => ("StrawWatchModel", "leagueIn", "[I", true)
  | 71 => ("StrawWatchModel", "isHeld", "[Z", true)
  | _ => ("StrawWatchModel", "heldRows", "[I", true)
def mt_ty9 : Nat → FieldType := fun k => match k with
  | 0 => .int
  | 1 => (.array .byte)
  | 2 => .int
  | 3 => (.array .byte)
  | 4 => .int
  | 5 => (.array .int)
  | 6 => (.array .int)
  | 7 => (.array .int)
  | 8 => (.array .long)
  | 9 => (.array .long)
  | 10 => .int
  | 11 => .int
  | 12 => .int
  | 13 => .int
  | 14 => .int
  | 15 => .int
  | 16 => .int
  | 17 => .int
  | 18 => .int
  | 19 => .int
  | 20 => .int
  | 21 => (.array .long)
  | 22 => (.array .int)
  | 23 => (.array .int)
  | 24 => (.array .int)
  | 25 => (.array .int)
  | 26 => (.array .int)
  | 27 => (.array .int)
  | 28 => (.array .int)
  | 29 => (.array .int)
  | 30 => (.array .int)
  | 31 => (.array .int)
  | 32 => (.array .int)
  | 33 => .int
  | 34 => (.array .boolean)
  | 35 => (.array .int)
  | 36 => (.array .int)
  | 37 => (.array .int)
  | 38 => (.array .int)
  | 39 => .int
  | 40 => (.array .int)
  | 41 => (.array .int)
  | 42 => (.array .int)
  | 43 => .int
  | 44 => (.array .int)
  | 45 => (.array .int)
  | 46 => .boolean
  | 47 => (.array .int)
  | 48 => (.array .int)
  | 49 => .int
  | 50 => .int
  | 51 => .int
  | 52 => .int
  | 53 => (.array .int)
  | 54 => .int
  | 55 => (.array .int)
  | 56 => (.array .int)
  | 57 => (.array .boolean)
  | 58 => .int
  | 59 => .int
  | 60 => (.array .int)
  | 61 => (.array .int)
  | 62 => (.array .int)
  | 63 => .int
  | 64 => .int
  | 65 => .int
  | 66 => (.array .int)
  | 67 => .int
  | 68 => (.array .int)
  | 69 => (.array .int)
  | 70 => (.array .int)
  | 71 => (.array .boolean)
  | _ => (.array .int)
def mt_cl : List vw_C := [("StrawWatch$Draws", mt_T0, 7), ("StrawWatch$Laws", mt_T1, 5), ("StrawWatch$Notes", mt_T2, 5), ("StrawWatch$Past", mt_T3, 5), ("StrawWatch$Reader", mt_T4, 10), ("StrawWatch$Ship", mt_T5, 5), ("StrawWatch$Text", mt_T6, 11), ("StrawWatch$Tokens", mt_T7, 7), ("StrawWatch", mt_T8, 11), ("StrawWatchModel", mt_T9, 73)]
def mt_ty : Nat → Nat → FieldType := fun ci k => match ci with
  | 0 => mt_ty0 k
  | 1 => mt_ty1 k
  | 2 => mt_ty2 k
  | 3 => mt_ty3 k
  | 4 => mt_ty4 k
  | 5 => mt_ty5 k
  | 6 => mt_ty6 k
  | 7 => mt_ty7 k
  | 8 => mt_ty8 k
  | _ => mt_ty9 k
set_option maxRecDepth 100000 in
theorem mt_Cl0 : (∀ w ∈ u_ws "StrawWatch$Draws" mt_T0 7, w ∈ mt_W) ∧ (∀ k, k < 7 → parseFieldDescriptor (mt_T0 k).2.2.1 = some (mt_ty 0 k)) ∧ (∀ a, a < 7 → ∀ b, b < 7 → a ≠ b → (mt_T0 a).2.1 ≠ (mt_T0 b).2.1) ∧ Cond.instantiable "StrawWatch$Draws" 7 ∈ mt_W ∧ Cond.initialized "StrawWatch$Draws" ∈ mt_W ∧ ∃ l, mt_kds[0]? = some l ∧ l.length = 7 ∧ ∀ k, k < 7 → l[k]? = some (rf_kd (mt_ty 0 k)) ∧ rf_kd (mt_ty 0 k) ≠ 4 :=
  ⟨mt_lays (ix := [342, 344, 346, 348, 350, 352, 354]) (by decide +kernel), by decide +kernel, by decide +kernel, mt_w_in (w := 329) (by decide +kernel), mt_w_in (w := 108) (by decide +kernel), _, rfl, rfl, by decide +kernel⟩
set_option maxRecDepth 100000 in
theorem mt_Cl1 : (∀ w ∈ u_ws "StrawWatch$Laws" mt_T1 5, w ∈ mt_W) ∧ (∀ k, k < 5 → parseFieldDescriptor (mt_T1 k).2.2.1 = some (mt_ty 1 k)) ∧ (∀ a, a < 5 → ∀ b, b < 5 → a ≠ b → (mt_T1 a).2.1 ≠ (mt_T1 b).2.1) ∧ Cond.instantiable "StrawWatch$Laws" 5 ∈ mt_W ∧ Cond.initialized "StrawWatch$Laws" ∈ mt_W ∧ ∃ l, mt_kds[1]? = some l ∧ l.length = 5 ∧ ∀ k, k < 5 → l[k]? = some (rf_kd (mt_ty 1 k)) ∧ rf_kd (mt_ty 1 k) ≠ 4 :=
  ⟨mt_lays (ix := [148, 150, 152, 154, 156]) (by decide +kernel), by decide +kernel, by decide +kernel, mt_w_in (w := 135) (by decide +kernel), mt_w_in (w := 104) (by decide +kernel), _, rfl, rfl, by decide +kernel⟩
set_option maxRecDepth 100000 in
theorem mt_Cl2 : (∀ w ∈ u_ws "StrawWatch$Notes" mt_T2 5, w ∈ mt_W) ∧ (∀ k, k < 5 → parseFieldDescriptor (mt_T2 k).2.2.1 = some (mt_ty 2 k)) ∧ (∀ a, a < 5 → ∀ b, b < 5 → a ≠ b → (mt_T2 a).2.1 ≠ (mt_T2 b).2.1) ∧ Cond.instantiable "StrawWatch$Notes" 5 ∈ mt_W ∧ Cond.initialized "StrawWatch$Notes" ∈ mt_W ∧ ∃ l, mt_kds[2]? = some l ∧ l.length = 5 ∧ ∀ k, k < 5 → l[k]? = some (rf_kd (mt_ty 2 k)) ∧ rf_kd (mt_ty 2 k) ≠ 4 :=
  ⟨mt_lays (ix := [396, 398, 400, 402, 404]) (by decide +kernel), by decide +kernel, by decide +kernel, mt_w_in (w := 384) (by decide +kernel), mt_w_in (w := 110) (by decide +kernel), _, rfl, rfl, by decide +kernel⟩
set_option maxRecDepth 100000 in
theorem mt_Cl3 : (∀ w ∈ u_ws "StrawWatch$Past" mt_T3 5, w ∈ mt_W) ∧ (∀ k, k < 5 → parseFieldDescriptor (mt_T3 k).2.2.1 = some (mt_ty 3 k)) ∧ (∀ a, a < 5 → ∀ b, b < 5 → a ≠ b → (mt_T3 a).2.1 ≠ (mt_T3 b).2.1) ∧ Cond.instantiable "StrawWatch$Past" 5 ∈ mt_W ∧ Cond.initialized "StrawWatch$Past" ∈ mt_W ∧ ∃ l, mt_kds[3]? = some l ∧ l.length = 5 ∧ ∀ k, k < 5 → l[k]? = some (rf_kd (mt_ty 3 k)) ∧ rf_kd (mt_ty 3 k) ≠ 4 :=
  ⟨mt_lays (ix := [371, 373, 375, 377, 379]) (by decide +kernel), by decide +kernel, by decide +kernel, mt_w_in (w := 358) (by decide +kernel), mt_w_in (w := 109) (by decide +kernel), _, rfl, rfl, by decide +kernel⟩
set_option maxRecDepth 100000 in
theorem mt_Cl4 : (∀ w ∈ u_ws "StrawWatch$Reader" mt_T4 10, w ∈ mt_W) ∧ (∀ k, k < 10 → parseFieldDescriptor (mt_T4 k).2.2.1 = some (mt_ty 4 k)) ∧ (∀ a, a < 10 → ∀ b, b < 10 → a ≠ b → (mt_T4 a).2.1 ≠ (mt_T4 b).2.1) ∧ Cond.instantiable "StrawWatch$Reader" 10 ∈ mt_W ∧ Cond.initialized "StrawWatch$Reader" ∈ mt_W ∧ ∃ l, mt_kds[4]? = some l ∧ l.length = 10 ∧ ∀ k, k < 10 → l[k]? = some (rf_kd (mt_ty 4 k)) ∧ rf_kd (mt_ty 4 k) ≠ 4 :=
  ⟨mt_lays (ix := [284, 286, 288, 290, 292, 294, 296, 298, 300, 302]) (by decide +kernel), by decide +kernel, by decide +kernel, mt_w_in (w := 237) (by decide +kernel), mt_w_in (w := 105) (by decide +kernel), _, rfl, rfl, by decide +kernel⟩
set_option maxRecDepth 100000 in
theorem mt_Cl5 : (∀ w ∈ u_ws "StrawWatch$Ship" mt_T5 5, w ∈ mt_W) ∧ (∀ k, k < 5 → parseFieldDescriptor (mt_T5 k).2.2.1 = some (mt_ty 5 k)) ∧ (∀ a, a < 5 → ∀ b, b < 5 → a ≠ b → (mt_T5 a).2.1 ≠ (mt_T5 b).2.1) ∧ Cond.instantiable "StrawWatch$Ship" 5 ∈ mt_W ∧ Cond.initialized "StrawWatch$Ship" ∈ mt_W ∧ ∃ l, mt_kds[5]? = some l ∧ l.length = 5 ∧ ∀ k, k < 5 → l[k]? = some (rf_kd (mt_ty 5 k)) ∧ rf_kd (mt_ty 5 k) ≠ 4 :=
  ⟨mt_lays (ix := [317, 319, 321, 323, 325]) (by decide +kernel), by decide +kernel, by decide +kernel, mt_w_in (w := 306) (by decide +kernel), mt_w_in (w := 107) (by decide +kernel), _, rfl, rfl, by decide +kernel⟩
set_option maxRecDepth 100000 in
theorem mt_Cl6 : (∀ w ∈ u_ws "StrawWatch$Text" mt_T6 11, w ∈ mt_W) ∧ (∀ k, k < 11 → parseFieldDescriptor (mt_T6 k).2.2.1 = some (mt_ty 6 k)) ∧ (∀ a, a < 11 → ∀ b, b < 11 → a ≠ b → (mt_T6 a).2.1 ≠ (mt_T6 b).2.1) ∧ Cond.instantiable "StrawWatch$Text" 11 ∈ mt_W ∧ Cond.initialized "StrawWatch$Text" ∈ mt_W ∧ ∃ l, mt_kds[6]? = some l ∧ l.length = 11 ∧ ∀ k, k < 11 → l[k]? = some (rf_kd (mt_ty 6 k)) ∧ rf_kd (mt_ty 6 k) ≠ 4 :=
  ⟨mt_lays (ix := [212, 214, 216, 218, 220, 222, 224, 226, 228, 230, 232]) (by decide +kernel), by decide +kernel, by decide +kernel, mt_w_in (w := 129) (by decide +kernel), mt_w_in (w := 103) (by decide +kernel), _, rfl, rfl, by decide +kernel⟩
set_option maxRecDepth 100000 in
theorem mt_Cl7 : (∀ w ∈ u_ws "StrawWatch$Tokens" mt_T7 7, w ∈ mt_W) ∧ (∀ k, k < 7 → parseFieldDescriptor (mt_T7 k).2.2.1 = some (mt_ty 7 k)) ∧ (∀ a, a < 7 → ∀ b, b < 7 → a ≠ b → (mt_T7 a).2.1 ≠ (mt_T7 b).2.1) ∧ Cond.instantiable "StrawWatch$Tokens" 7 ∈ mt_W ∧ Cond.initialized "StrawWatch$Tokens" ∈ mt_W ∧ ∃ l, mt_kds[7]? = some l ∧ l.length = 7 ∧ ∀ k, k < 7 → l[k]? = some (rf_kd (mt_ty 7 k)) ∧ rf_kd (mt_ty 7 k) ≠ 4 :=
  ⟨mt_lays (ix := [259, 261, 263, 265, 267, 269, 271]) (by decide +kernel), by decide +kernel, by decide +kernel, mt_w_in (w := 243) (by decide +kernel), mt_w_in (w := 106) (by decide +kernel), _, rfl, rfl, by decide +kernel⟩
set_option maxRecDepth 100000 in
theorem mt_Cl8 : (∀ w ∈ u_ws "StrawWatch" mt_T8 11, w ∈ mt_W) ∧ (∀ k, k < 11 → parseFieldDescriptor (mt_T8 k).2.2.1 = some (mt_ty 8 k)) ∧ (∀ a, a < 11 → ∀ b, b < 11 → a ≠ b → (mt_T8 a).2.1 ≠ (mt_T8 b).2.1) ∧ Cond.instantiable "StrawWatch" 11 ∈ mt_W ∧ Cond.initialized "StrawWatch" ∈ mt_W ∧ ∃ l, mt_kds[8]? = some l ∧ l.length = 11 ∧ ∀ k, k < 11 → l[k]? = some (rf_kd (mt_ty 8 k)) ∧ rf_kd (mt_ty 8 k) ≠ 4 :=
  ⟨mt_lays (ix := [443, 445, 447, 449, 451, 453, 455, 457, 459, 461, 463]) (by decide +kernel), by decide +kernel, by decide +kernel, mt_w_in (w := 121) (by decide +kernel), mt_w_in (w := 102) (by decide +kernel), _, rfl, rfl, by decide +kernel⟩
set_option maxRecDepth 100000 in
theorem mt_Cl9 : (∀ w ∈ u_ws "StrawWatchModel" mt_T9 73, w ∈ mt_W) ∧ (∀ k, k < 73 → parseFieldDescriptor (mt_T9 k).2.2.1 = some (mt_ty 9 k)) ∧ (∀ a, a < 73 → ∀ b, b < 73 → a ≠ b → (mt_T9 a).2.1 ≠ (mt_T9 b).2.1) ∧ Cond.instantiable "StrawWatchModel" 73 ∈ mt_W ∧ Cond.initialized "StrawWatchModel" ∈ mt_W ∧ ∃ l, mt_kds[9]? = some l ∧ l.length = 73 ∧ ∀ k, k < 73 → l[k]? = some (rf_kd (mt_ty 9 k)) ∧ rf_kd (mt_ty 9 k) ≠ 4 :=
  ⟨mt_lays (ix := [1290, 1292, 1294, 1296, 1298, 1300, 1302, 1304, 1306, 1308, 1310, 1312, 1314, 1316, 1318, 1320, 1322, 1324, 1326, 1328, 1330, 1332, 1334, 1336, 1338, 1340, 1342, 1344, 1346, 1348, 1350, 1352, 1354, 1356, 1358, 1360, 1362, 1364, 1366, 1368, 1370, 1372, 1374, 1376, 1378, 1380, 1382, 1384, 1386, 1388, 1390, 1392, 1394, 1396, 1398, 1400, 1402, 1404, 1406, 1408, 1410, 1412, 1414, 1416, 1418, 1420, 1422, 1424, 1426, 1428, 1430, 1432, 1434]) (by decide +kernel), by decide +kernel, by decide +kernel, mt_w_in (w := 1186) (by decide +kernel), mt_w_in (w := 113) (by decide +kernel), _, rfl, rfl, by decide +kernel⟩
theorem mt_Cl : rf_Cl mt_cl mt_ty mt_kds mt_W := by
  intro ci C TT N h
  rcases ci with _ | _ | _ | _ | _ | _ | _ | _ | _ | _ | _
  · cases h; exact mt_Cl0
  · cases h; exact mt_Cl1
  · cases h; exact mt_Cl2
  · cases h; exact mt_Cl3
  · cases h; exact mt_Cl4
  · cases h; exact mt_Cl5
  · cases h; exact mt_Cl6
  · cases h; exact mt_Cl7
  · cases h; exact mt_Cl8
  · cases h; exact mt_Cl9
  · cases h
theorem mt_G : rf_G mt_W := ⟨mt_w_in (w := 160) (by decide +kernel), mt_w_in (w := 126) (by decide +kernel), mt_w_in (w := 127) (by decide +kernel), mt_w_in (w := 740) (by decide +kernel), mt_w_in (w := 739) (by decide +kernel), mt_w_in (w := 119) (by decide +kernel)⟩
def mt_SN : List (String × String × String) := [("StrawWatch$Laws", "SEEN", "[I"), ("StrawWatch$Laws", "LEAST", "[I"), ("StrawWatch$Laws", "MOST", "[I")]
