/-! RUNS, 2: the switch and its light cases -/
def rn_st : en_O → en_O := rn_stop 237142198758023568230687253419235524720382322756948282300116845230250642817156096 [] rn_hp1 rn_w1
noncomputable def rn_tb : en_T := fun q => en_if (Nat.beq (Nat.div q 65536) 279) (en_if (Nat.beq q 18285677) (some rn_st) (en_if (Nat.beq q 18285598) (some rn_st) (en_if (Nat.beq q 18285575) (some rn_st) (en_if (Nat.beq q 18285499) (some rn_st) (en_if (Nat.beq q 18285460) (some rn_st) (en_if (Nat.beq q 18285414) (some rn_st) (en_if (Nat.beq q 18285365) (some rn_st) (en_if (Nat.beq q 18285273) (some rn_st) (en_if (Nat.beq q 18285214) (some rn_st) (en_if (Nat.beq q 18285037) (some rn_st) none)))))))))) none
set_option maxRecDepth 1000000 in
theorem rn_long : en_run (mt_SB 6) rn_fin mt_kds mt_P rn_tb 10000 18284544 1422853192879425234015608139717524697174391146560864407338173043287075352173609984 [] rn_hp0 rn_w0 = true := by decide +kernel
