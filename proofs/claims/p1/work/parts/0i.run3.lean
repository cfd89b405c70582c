/-! RUNS, 3: cases by hooks of their own -/
theorem rn_tb1 {E : mm_E} {ρ : Nat → Int32} {ω : Nat → Value} {Q : Nat} {hk : en_O → en_O} (h : ∀ o, en_OS E mt_kds mt_P 1000 ρ ω [] [] st_FIN Q o → en_OS E mt_kds mt_P 1000 ρ ω [] [] st_FIN Q (hk o)) (q : Nat) (hk' : en_O → en_O) (o : en_O) (e : (en_if (Nat.beq q Q) (some hk) none : Option (en_O → en_O)) = some hk') (ho : en_OS E mt_kds mt_P 1000 ρ ω [] [] st_FIN q o) : en_OS E mt_kds mt_P 1000 ρ ω [] [] st_FIN q (hk' o) := by
  cases h1 : Nat.beq q Q with
  | false => rw [h1] at e; cases e
  | true =>
    rw [h1, en_if_t] at e
    cases e
    have e2 := en_beq_t.mp h1
    subst e2
    exact h o ho
set_option maxRecDepth 1000000 in
theorem rn_r8 : en_run (mt_SB 6) rn_fin mt_kds mt_P (fun q => en_if (Nat.beq q 18284984) (some (fun o => rn_sp 4295065600 2147483647 (rn_sp 4295065600 2147483648 (rn_sp 4295131136 2147483647 (rn_sp 4295131136 2147483648 (rn_sp 4295196672 2147483647 (rn_sp 4295196672 2147483648 (rn_sp 4295262208 2147483647 (rn_sp 4295262208 2147483648 o))))))))) none) 8000 18284984 237142198758023568230687253419235524720382322756948282300116845230250642817156096 [] rn_hp1 rn_w1 = true := by decide +kernel
theorem rn_H8 : rn_Hq 18284984 := rn_case (fun q hk o h => rn_tb1 (fun o ho => rn_sp_ok (by decide) (by decide) (by decide) (rn_sp_ok (by decide) (by decide) (by decide) (rn_sp_ok (by decide) (by decide) (by decide) (rn_sp_ok (by decide) (by decide) (by decide) (rn_sp_ok (by decide) (by decide) (by decide) (rn_sp_ok (by decide) (by decide) (by decide) (rn_sp_ok (by decide) (by decide) (by decide) (rn_sp_ok (by decide) (by decide) (by decide) (ho))))))))) q hk o h) rn_r8
set_option maxRecDepth 1000000 in
theorem rn_r35 : en_run (mt_SB 6) rn_fin mt_kds mt_P (fun _ => some rn_pin) 4000 18285927 237142198758023568230687253419235524720382322756948282300116845230250642817156096 [] rn_hp1 rn_w1 = true := by decide +kernel
theorem rn_H35 : rn_Hq 18285927 := rn_case (fun q hk o h ho => by cases h; exact rn_pin_ok ho) rn_r35
set_option maxRecDepth 1000000 in
theorem rn_r23 : en_run (mt_SB 6) rn_fin mt_kds mt_P (fun _ => none) 80000 18285575 237142198758023568230687253419235524720382322756948282300116845230250642817156096 [] rn_hp1 rn_w1 = true := by decide +kernel
theorem rn_H23 : rn_Hq 18285575 := rn_case (fun q hk o h ho => by cases h) rn_r23
