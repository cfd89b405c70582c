section
-- ===== PART A: goes FIRST, ahead of the names: the tables' words, and 'selects' of the private methods out of them =====
/-- a private method of a class that the tables say can be made, by its rows of tables_1 -/
def lw_okq (q : MethodName × Nat) : Prop := (q.1.cls ≠ "java/lang/invoke/MethodHandle" ∧ q.1.cls ≠ "java/lang/invoke/VarHandle") ∧ Cond.instantiable q.1.cls q.2 ∈ tables_1 ∧ Cond.privateMethod q.1 ∈ tables_1 ∧ Cond.instanceMethod q.1 ∈ tables_1
theorem lw_p0 : lw_okq (⟨"StrawWatch$Laws", "setNumber", "(II)V"⟩, 5) := ⟨⟨by decide +kernel, by decide +kernel⟩, List.mem_of_getElem? (i := 34) (by decide +kernel), List.mem_of_getElem? (i := 69) (by decide +kernel), List.mem_of_getElem? (i := 70) (by decide +kernel)⟩
theorem lw_p1 : lw_okq (⟨"StrawWatch$Ship", "findEnd", "()V"⟩, 5) := ⟨⟨by decide +kernel, by decide +kernel⟩, List.mem_of_getElem? (i := 205) (by decide +kernel), List.mem_of_getElem? (i := 314) (by decide +kernel), List.mem_of_getElem? (i := 315) (by decide +kernel)⟩
theorem lw_p2 : lw_okq (⟨"StrawWatch$Draws", "dealOne", "(I)V"⟩, 7) := ⟨⟨by decide +kernel, by decide +kernel⟩, List.mem_of_getElem? (i := 228) (by decide +kernel), List.mem_of_getElem? (i := 325) (by decide +kernel), List.mem_of_getElem? (i := 326) (by decide +kernel)⟩
theorem lw_p3 : lw_okq (⟨"StrawWatch", "append", "(I)V"⟩, 11) := ⟨⟨by decide +kernel, by decide +kernel⟩, List.mem_of_getElem? (i := 20) (by decide +kernel), List.mem_of_getElem? (i := 370) (by decide +kernel), List.mem_of_getElem? (i := 371) (by decide +kernel)⟩
theorem lw_p4 : lw_okq (⟨"StrawWatch$Tokens", "scan", "()Z"⟩, 7) := ⟨⟨by decide +kernel, by decide +kernel⟩, List.mem_of_getElem? (i := 142) (by decide +kernel), List.mem_of_getElem? (i := 394) (by decide +kernel), List.mem_of_getElem? (i := 395) (by decide +kernel)⟩
theorem lw_p5 : lw_okq (⟨"StrawWatch$Tokens", "put", "(IJI)V"⟩, 7) := ⟨⟨by decide +kernel, by decide +kernel⟩, List.mem_of_getElem? (i := 142) (by decide +kernel), List.mem_of_getElem? (i := 401) (by decide +kernel), List.mem_of_getElem? (i := 402) (by decide +kernel)⟩
theorem lw_p6 : lw_okq (⟨"StrawWatch$Tokens", "scanLetters", "()Z"⟩, 7) := ⟨⟨by decide +kernel, by decide +kernel⟩, List.mem_of_getElem? (i := 142) (by decide +kernel), List.mem_of_getElem? (i := 408) (by decide +kernel), List.mem_of_getElem? (i := 409) (by decide +kernel)⟩
theorem lw_p7 : lw_okq (⟨"StrawWatch$Tokens", "wordAt", "(II)I"⟩, 7) := ⟨⟨by decide +kernel, by decide +kernel⟩, List.mem_of_getElem? (i := 142) (by decide +kernel), List.mem_of_getElem? (i := 413) (by decide +kernel), List.mem_of_getElem? (i := 414) (by decide +kernel)⟩
theorem lw_p8 : lw_okq (⟨"StrawWatch$Tokens", "isWord", "(III)Z"⟩, 7) := ⟨⟨by decide +kernel, by decide +kernel⟩, List.mem_of_getElem? (i := 142) (by decide +kernel), List.mem_of_getElem? (i := 417) (by decide +kernel), List.mem_of_getElem? (i := 418) (by decide +kernel)⟩
theorem lw_p9 : lw_okq (⟨"StrawWatch$Tokens", "scanDigits", "()Z"⟩, 7) := ⟨⟨by decide +kernel, by decide +kernel⟩, List.mem_of_getElem? (i := 142) (by decide +kernel), List.mem_of_getElem? (i := 473) (by decide +kernel), List.mem_of_getElem? (i := 474) (by decide +kernel)⟩
theorem lw_p10 : lw_okq (⟨"StrawWatch$Reader", "accept", "()V"⟩, 10) := ⟨⟨by decide +kernel, by decide +kernel⟩, List.mem_of_getElem? (i := 136) (by decide +kernel), List.mem_of_getElem? (i := 533) (by decide +kernel), List.mem_of_getElem? (i := 534) (by decide +kernel)⟩
theorem lw_p11 : lw_okq (⟨"StrawWatch$Reader", "readTell", "()V"⟩, 10) := ⟨⟨by decide +kernel, by decide +kernel⟩, List.mem_of_getElem? (i := 136) (by decide +kernel), List.mem_of_getElem? (i := 537) (by decide +kernel), List.mem_of_getElem? (i := 538) (by decide +kernel)⟩
theorem lw_p12 : lw_okq (⟨"StrawWatch$Reader", "readMan", "()V"⟩, 10) := ⟨⟨by decide +kernel, by decide +kernel⟩, List.mem_of_getElem? (i := 136) (by decide +kernel), List.mem_of_getElem? (i := 541) (by decide +kernel), List.mem_of_getElem? (i := 542) (by decide +kernel)⟩
theorem lw_p13 : lw_okq (⟨"StrawWatch$Reader", "refuse", "(I)V"⟩, 10) := ⟨⟨by decide +kernel, by decide +kernel⟩, List.mem_of_getElem? (i := 136) (by decide +kernel), List.mem_of_getElem? (i := 545) (by decide +kernel), List.mem_of_getElem? (i := 546) (by decide +kernel)⟩
theorem lw_p14 : lw_okq (⟨"StrawWatch$Reader", "noteLater", "(I)V"⟩, 10) := ⟨⟨by decide +kernel, by decide +kernel⟩, List.mem_of_getElem? (i := 136) (by decide +kernel), List.mem_of_getElem? (i := 553) (by decide +kernel), List.mem_of_getElem? (i := 554) (by decide +kernel)⟩
theorem lw_p15 : lw_okq (⟨"StrawWatch$Reader", "number", "(II)I"⟩, 10) := ⟨⟨by decide +kernel, by decide +kernel⟩, List.mem_of_getElem? (i := 136) (by decide +kernel), List.mem_of_getElem? (i := 561) (by decide +kernel), List.mem_of_getElem? (i := 562) (by decide +kernel)⟩
def lw_privs_1 : List (MethodName × Nat) := [(⟨"StrawWatch$Laws", "setNumber", "(II)V"⟩, 5), (⟨"StrawWatch$Ship", "findEnd", "()V"⟩, 5), (⟨"StrawWatch$Draws", "dealOne", "(I)V"⟩, 7), (⟨"StrawWatch", "append", "(I)V"⟩, 11), (⟨"StrawWatch$Tokens", "scan", "()Z"⟩, 7), (⟨"StrawWatch$Tokens", "put", "(IJI)V"⟩, 7), (⟨"StrawWatch$Tokens", "scanLetters", "()Z"⟩, 7), (⟨"StrawWatch$Tokens", "wordAt", "(II)I"⟩, 7), (⟨"StrawWatch$Tokens", "isWord", "(III)Z"⟩, 7), (⟨"StrawWatch$Tokens", "scanDigits", "()Z"⟩, 7), (⟨"StrawWatch$Reader", "accept", "()V"⟩, 10), (⟨"StrawWatch$Reader", "readTell", "()V"⟩, 10), (⟨"StrawWatch$Reader", "readMan", "()V"⟩, 10), (⟨"StrawWatch$Reader", "refuse", "(I)V"⟩, 10), (⟨"StrawWatch$Reader", "noteLater", "(I)V"⟩, 10), (⟨"StrawWatch$Reader", "number", "(II)I"⟩, 10)]
theorem lw_r1 : ∀ q ∈ lw_privs_1, lw_okq q := List.forall_mem_cons.mpr ⟨lw_p0, List.forall_mem_cons.mpr ⟨lw_p1, List.forall_mem_cons.mpr ⟨lw_p2, List.forall_mem_cons.mpr ⟨lw_p3, List.forall_mem_cons.mpr ⟨lw_p4, List.forall_mem_cons.mpr ⟨lw_p5, List.forall_mem_cons.mpr ⟨lw_p6, List.forall_mem_cons.mpr ⟨lw_p7, List.forall_mem_cons.mpr ⟨lw_p8, List.forall_mem_cons.mpr ⟨lw_p9, List.forall_mem_cons.mpr ⟨lw_p10, List.forall_mem_cons.mpr ⟨lw_p11, List.forall_mem_cons.mpr ⟨lw_p12, List.forall_mem_cons.mpr ⟨lw_p13, List.forall_mem_cons.mpr ⟨lw_p14, List.forall_mem_cons.mpr ⟨lw_p15, fun _ h => absurd h List.not_mem_nil⟩⟩⟩⟩⟩⟩⟩⟩⟩⟩⟩⟩⟩⟩⟩⟩
theorem lw_p16 : lw_okq (⟨"StrawWatch$Reader", "sign", "(C)V"⟩, 10) := ⟨⟨by decide +kernel, by decide +kernel⟩, List.mem_of_getElem? (i := 136) (by decide +kernel), List.mem_of_getElem? (i := 569) (by decide +kernel), List.mem_of_getElem? (i := 570) (by decide +kernel)⟩
theorem lw_p17 : lw_okq (⟨"StrawWatch$Reader", "isSign", "(C)Z"⟩, 10) := ⟨⟨by decide +kernel, by decide +kernel⟩, List.mem_of_getElem? (i := 136) (by decide +kernel), List.mem_of_getElem? (i := 573) (by decide +kernel), List.mem_of_getElem? (i := 574) (by decide +kernel)⟩
theorem lw_p18 : lw_okq (⟨"StrawWatch$Reader", "readLaw", "(I)V"⟩, 10) := ⟨⟨by decide +kernel, by decide +kernel⟩, List.mem_of_getElem? (i := 136) (by decide +kernel), List.mem_of_getElem? (i := 577) (by decide +kernel), List.mem_of_getElem? (i := 578) (by decide +kernel)⟩
theorem lw_p19 : lw_okq (⟨"StrawWatch$Reader", "isWord", "(I)Z"⟩, 10) := ⟨⟨by decide +kernel, by decide +kernel⟩, List.mem_of_getElem? (i := 136) (by decide +kernel), List.mem_of_getElem? (i := 585) (by decide +kernel), List.mem_of_getElem? (i := 586) (by decide +kernel)⟩
theorem lw_p20 : lw_okq (⟨"StrawWatch$Reader", "readSum", "(II)V"⟩, 10) := ⟨⟨by decide +kernel, by decide +kernel⟩, List.mem_of_getElem? (i := 136) (by decide +kernel), List.mem_of_getElem? (i := 589) (by decide +kernel), List.mem_of_getElem? (i := 590) (by decide +kernel)⟩
theorem lw_p21 : lw_okq (⟨"StrawWatch$Reader", "readUnit", "(II)V"⟩, 10) := ⟨⟨by decide +kernel, by decide +kernel⟩, List.mem_of_getElem? (i := 136) (by decide +kernel), List.mem_of_getElem? (i := 593) (by decide +kernel), List.mem_of_getElem? (i := 594) (by decide +kernel)⟩
theorem lw_p22 : lw_okq (⟨"StrawWatch$Reader", "operator", "()I"⟩, 10) := ⟨⟨by decide +kernel, by decide +kernel⟩, List.mem_of_getElem? (i := 136) (by decide +kernel), List.mem_of_getElem? (i := 606) (by decide +kernel), List.mem_of_getElem? (i := 607) (by decide +kernel)⟩
theorem lw_p23 : lw_okq (⟨"StrawWatch$Reader", "word", "(I)V"⟩, 10) := ⟨⟨by decide +kernel, by decide +kernel⟩, List.mem_of_getElem? (i := 136) (by decide +kernel), List.mem_of_getElem? (i := 610) (by decide +kernel), List.mem_of_getElem? (i := 611) (by decide +kernel)⟩
theorem lw_p24 : lw_okq (⟨"StrawWatch$Reader", "readNumbers", "(I)V"⟩, 10) := ⟨⟨by decide +kernel, by decide +kernel⟩, List.mem_of_getElem? (i := 136) (by decide +kernel), List.mem_of_getElem? (i := 622) (by decide +kernel), List.mem_of_getElem? (i := 623) (by decide +kernel)⟩
theorem lw_p25 : lw_okq (⟨"StrawWatch$Laws", "run", "(I)I"⟩, 5) := ⟨⟨by decide +kernel, by decide +kernel⟩, List.mem_of_getElem? (i := 34) (by decide +kernel), List.mem_of_getElem? (i := 707) (by decide +kernel), List.mem_of_getElem? (i := 708) (by decide +kernel)⟩
theorem lw_p26 : lw_okq (⟨"StrawWatch", "mayStand", "(I)Z"⟩, 11) := ⟨⟨by decide +kernel, by decide +kernel⟩, List.mem_of_getElem? (i := 20) (by decide +kernel), List.mem_of_getElem? (i := 737) (by decide +kernel), List.mem_of_getElem? (i := 738) (by decide +kernel)⟩
theorem lw_p27 : lw_okq (⟨"StrawWatch$Ship", "sailNow", "()I"⟩, 5) := ⟨⟨by decide +kernel, by decide +kernel⟩, List.mem_of_getElem? (i := 205) (by decide +kernel), List.mem_of_getElem? (i := 758) (by decide +kernel), List.mem_of_getElem? (i := 759) (by decide +kernel)⟩
theorem lw_p28 : lw_okq (⟨"StrawWatch$Ship", "passMutiny", "()V"⟩, 5) := ⟨⟨by decide +kernel, by decide +kernel⟩, List.mem_of_getElem? (i := 205) (by decide +kernel), List.mem_of_getElem? (i := 766) (by decide +kernel), List.mem_of_getElem? (i := 767) (by decide +kernel)⟩
theorem lw_p29 : lw_okq (⟨"StrawWatch$Ship", "drawStraws", "()V"⟩, 5) := ⟨⟨by decide +kernel, by decide +kernel⟩, List.mem_of_getElem? (i := 205) (by decide +kernel), List.mem_of_getElem? (i := 778) (by decide +kernel), List.mem_of_getElem? (i := 779) (by decide +kernel)⟩
theorem lw_p30 : lw_okq (⟨"StrawWatch$Ship", "lot", "(II)I"⟩, 5) := ⟨⟨by decide +kernel, by decide +kernel⟩, List.mem_of_getElem? (i := 205) (by decide +kernel), List.mem_of_getElem? (i := 782) (by decide +kernel), List.mem_of_getElem? (i := 783) (by decide +kernel)⟩
theorem lw_p31 : lw_okq (⟨"StrawWatch$Ship", "hideCaptain", "()V"⟩, 5) := ⟨⟨by decide +kernel, by decide +kernel⟩, List.mem_of_getElem? (i := 205) (by decide +kernel), List.mem_of_getElem? (i := 791) (by decide +kernel), List.mem_of_getElem? (i := 792) (by decide +kernel)⟩
def lw_privs_2 : List (MethodName × Nat) := [(⟨"StrawWatch$Reader", "sign", "(C)V"⟩, 10), (⟨"StrawWatch$Reader", "isSign", "(C)Z"⟩, 10), (⟨"StrawWatch$Reader", "readLaw", "(I)V"⟩, 10), (⟨"StrawWatch$Reader", "isWord", "(I)Z"⟩, 10), (⟨"StrawWatch$Reader", "readSum", "(II)V"⟩, 10), (⟨"StrawWatch$Reader", "readUnit", "(II)V"⟩, 10), (⟨"StrawWatch$Reader", "operator", "()I"⟩, 10), (⟨"StrawWatch$Reader", "word", "(I)V"⟩, 10), (⟨"StrawWatch$Reader", "readNumbers", "(I)V"⟩, 10), (⟨"StrawWatch$Laws", "run", "(I)I"⟩, 5), (⟨"StrawWatch", "mayStand", "(I)Z"⟩, 11), (⟨"StrawWatch$Ship", "sailNow", "()I"⟩, 5), (⟨"StrawWatch$Ship", "passMutiny", "()V"⟩, 5), (⟨"StrawWatch$Ship", "drawStraws", "()V"⟩, 5), (⟨"StrawWatch$Ship", "lot", "(II)I"⟩, 5), (⟨"StrawWatch$Ship", "hideCaptain", "()V"⟩, 5)]
theorem lw_r2 : ∀ q ∈ lw_privs_2, lw_okq q := List.forall_mem_cons.mpr ⟨lw_p16, List.forall_mem_cons.mpr ⟨lw_p17, List.forall_mem_cons.mpr ⟨lw_p18, List.forall_mem_cons.mpr ⟨lw_p19, List.forall_mem_cons.mpr ⟨lw_p20, List.forall_mem_cons.mpr ⟨lw_p21, List.forall_mem_cons.mpr ⟨lw_p22, List.forall_mem_cons.mpr ⟨lw_p23, List.forall_mem_cons.mpr ⟨lw_p24, List.forall_mem_cons.mpr ⟨lw_p25, List.forall_mem_cons.mpr ⟨lw_p26, List.forall_mem_cons.mpr ⟨lw_p27, List.forall_mem_cons.mpr ⟨lw_p28, List.forall_mem_cons.mpr ⟨lw_p29, List.forall_mem_cons.mpr ⟨lw_p30, List.forall_mem_cons.mpr ⟨lw_p31, fun _ h => absurd h List.not_mem_nil⟩⟩⟩⟩⟩⟩⟩⟩⟩⟩⟩⟩⟩⟩⟩⟩
theorem lw_p32 : lw_okq (⟨"StrawWatch$Draws", "noteDraw", "(II)V"⟩, 7) := ⟨⟨by decide +kernel, by decide +kernel⟩, List.mem_of_getElem? (i := 228) (by decide +kernel), List.mem_of_getElem? (i := 845) (by decide +kernel), List.mem_of_getElem? (i := 846) (by decide +kernel)⟩
theorem lw_p33 : lw_okq (⟨"StrawWatch$Draws", "weighOne", "([I)V"⟩, 7) := ⟨⟨by decide +kernel, by decide +kernel⟩, List.mem_of_getElem? (i := 228) (by decide +kernel), List.mem_of_getElem? (i := 882) (by decide +kernel), List.mem_of_getElem? (i := 883) (by decide +kernel)⟩
theorem lw_p34 : lw_okq (⟨"StrawWatch$Draws", "weighFirst", "(I[I)V"⟩, 7) := ⟨⟨by decide +kernel, by decide +kernel⟩, List.mem_of_getElem? (i := 228) (by decide +kernel), List.mem_of_getElem? (i := 889) (by decide +kernel), List.mem_of_getElem? (i := 890) (by decide +kernel)⟩
theorem lw_p35 : lw_okq (⟨"StrawWatch$Draws", "weighSecond", "([I)V"⟩, 7) := ⟨⟨by decide +kernel, by decide +kernel⟩, List.mem_of_getElem? (i := 228) (by decide +kernel), List.mem_of_getElem? (i := 893) (by decide +kernel), List.mem_of_getElem? (i := 894) (by decide +kernel)⟩
theorem lw_p36 : lw_okq (⟨"StrawWatch$Draws", "isReached", "(I)Z"⟩, 7) := ⟨⟨by decide +kernel, by decide +kernel⟩, List.mem_of_getElem? (i := 228) (by decide +kernel), List.mem_of_getElem? (i := 897) (by decide +kernel), List.mem_of_getElem? (i := 898) (by decide +kernel)⟩
theorem lw_p37 : lw_okq (⟨"StrawWatch$Draws", "addWays", "(III)V"⟩, 7) := ⟨⟨by decide +kernel, by decide +kernel⟩, List.mem_of_getElem? (i := 228) (by decide +kernel), List.mem_of_getElem? (i := 901) (by decide +kernel), List.mem_of_getElem? (i := 902) (by decide +kernel)⟩
theorem lw_p38 : lw_okq (⟨"StrawWatch", "endOfTrial", "(I)I"⟩, 11) := ⟨⟨by decide +kernel, by decide +kernel⟩, List.mem_of_getElem? (i := 20) (by decide +kernel), List.mem_of_getElem? (i := 958) (by decide +kernel), List.mem_of_getElem? (i := 959) (by decide +kernel)⟩
theorem lw_p39 : lw_okq (⟨"StrawWatch", "timesCaptain", "(IIZ)I"⟩, 11) := ⟨⟨by decide +kernel, by decide +kernel⟩, List.mem_of_getElem? (i := 20) (by decide +kernel), List.mem_of_getElem? (i := 974) (by decide +kernel), List.mem_of_getElem? (i := 975) (by decide +kernel)⟩
theorem lw_p40 : lw_okq (⟨"StrawWatch", "voyagesWith", "(III)I"⟩, 11) := ⟨⟨by decide +kernel, by decide +kernel⟩, List.mem_of_getElem? (i := 20) (by decide +kernel), List.mem_of_getElem? (i := 986) (by decide +kernel), List.mem_of_getElem? (i := 987) (by decide +kernel)⟩
theorem lw_p41 : lw_okq (⟨"StrawWatch", "fitsLog", "(II)Z"⟩, 11) := ⟨⟨by decide +kernel, by decide +kernel⟩, List.mem_of_getElem? (i := 20) (by decide +kernel), List.mem_of_getElem? (i := 1034) (by decide +kernel), List.mem_of_getElem? (i := 1035) (by decide +kernel)⟩
theorem lw_p42 : lw_okq (⟨"StrawWatchModel", "plain", "(I)V"⟩, 73) := ⟨⟨by decide +kernel, by decide +kernel⟩, List.mem_of_getElem? (i := 1085) (by decide +kernel), List.mem_of_getElem? (i := 1091) (by decide +kernel), List.mem_of_getElem? (i := 1092) (by decide +kernel)⟩
theorem lw_p43 : lw_okq (⟨"StrawWatchModel", "begins", "()V"⟩, 73) := ⟨⟨by decide +kernel, by decide +kernel⟩, List.mem_of_getElem? (i := 1085) (by decide +kernel), List.mem_of_getElem? (i := 1102) (by decide +kernel), List.mem_of_getElem? (i := 1103) (by decide +kernel)⟩
theorem lw_p44 : lw_okq (⟨"StrawWatchModel", "beginsAt", "(I)V"⟩, 73) := ⟨⟨by decide +kernel, by decide +kernel⟩, List.mem_of_getElem? (i := 1085) (by decide +kernel), List.mem_of_getElem? (i := 1106) (by decide +kernel), List.mem_of_getElem? (i := 1107) (by decide +kernel)⟩
theorem lw_p45 : lw_okq (⟨"StrawWatchModel", "howOver", "()I"⟩, 73) := ⟨⟨by decide +kernel, by decide +kernel⟩, List.mem_of_getElem? (i := 1085) (by decide +kernel), List.mem_of_getElem? (i := 1110) (by decide +kernel), List.mem_of_getElem? (i := 1111) (by decide +kernel)⟩
theorem lw_p46 : lw_okq (⟨"StrawWatchModel", "keepsRow", "()V"⟩, 73) := ⟨⟨by decide +kernel, by decide +kernel⟩, List.mem_of_getElem? (i := 1085) (by decide +kernel), List.mem_of_getElem? (i := 1114) (by decide +kernel), List.mem_of_getElem? (i := 1115) (by decide +kernel)⟩
theorem lw_p47 : lw_okq (⟨"StrawWatchModel", "put", "(I)V"⟩, 73) := ⟨⟨by decide +kernel, by decide +kernel⟩, List.mem_of_getElem? (i := 1085) (by decide +kernel), List.mem_of_getElem? (i := 1341) (by decide +kernel), List.mem_of_getElem? (i := 1342) (by decide +kernel)⟩
def lw_privs_3 : List (MethodName × Nat) := [(⟨"StrawWatch$Draws", "noteDraw", "(II)V"⟩, 7), (⟨"StrawWatch$Draws", "weighOne", "([I)V"⟩, 7), (⟨"StrawWatch$Draws", "weighFirst", "(I[I)V"⟩, 7), (⟨"StrawWatch$Draws", "weighSecond", "([I)V"⟩, 7), (⟨"StrawWatch$Draws", "isReached", "(I)Z"⟩, 7), (⟨"StrawWatch$Draws", "addWays", "(III)V"⟩, 7), (⟨"StrawWatch", "endOfTrial", "(I)I"⟩, 11), (⟨"StrawWatch", "timesCaptain", "(IIZ)I"⟩, 11), (⟨"StrawWatch", "voyagesWith", "(III)I"⟩, 11), (⟨"StrawWatch", "fitsLog", "(II)Z"⟩, 11), (⟨"StrawWatchModel", "plain", "(I)V"⟩, 73), (⟨"StrawWatchModel", "begins", "()V"⟩, 73), (⟨"StrawWatchModel", "beginsAt", "(I)V"⟩, 73), (⟨"StrawWatchModel", "howOver", "()I"⟩, 73), (⟨"StrawWatchModel", "keepsRow", "()V"⟩, 73), (⟨"StrawWatchModel", "put", "(I)V"⟩, 73)]
theorem lw_r3 : ∀ q ∈ lw_privs_3, lw_okq q := List.forall_mem_cons.mpr ⟨lw_p32, List.forall_mem_cons.mpr ⟨lw_p33, List.forall_mem_cons.mpr ⟨lw_p34, List.forall_mem_cons.mpr ⟨lw_p35, List.forall_mem_cons.mpr ⟨lw_p36, List.forall_mem_cons.mpr ⟨lw_p37, List.forall_mem_cons.mpr ⟨lw_p38, List.forall_mem_cons.mpr ⟨lw_p39, List.forall_mem_cons.mpr ⟨lw_p40, List.forall_mem_cons.mpr ⟨lw_p41, List.forall_mem_cons.mpr ⟨lw_p42, List.forall_mem_cons.mpr ⟨lw_p43, List.forall_mem_cons.mpr ⟨lw_p44, List.forall_mem_cons.mpr ⟨lw_p45, List.forall_mem_cons.mpr ⟨lw_p46, List.forall_mem_cons.mpr ⟨lw_p47, fun _ h => absurd h List.not_mem_nil⟩⟩⟩⟩⟩⟩⟩⟩⟩⟩⟩⟩⟩⟩⟩⟩
theorem lw_p48 : lw_okq (⟨"StrawWatchModel", "cut", "()V"⟩, 73) := ⟨⟨by decide +kernel, by decide +kernel⟩, List.mem_of_getElem? (i := 1085) (by decide +kernel), List.mem_of_getElem? (i := 1353) (by decide +kernel), List.mem_of_getElem? (i := 1354) (by decide +kernel)⟩
theorem lw_p49 : lw_okq (⟨"StrawWatchModel", "byteAt", "(I)I"⟩, 73) := ⟨⟨by decide +kernel, by decide +kernel⟩, List.mem_of_getElem? (i := 1085) (by decide +kernel), List.mem_of_getElem? (i := 1357) (by decide +kernel), List.mem_of_getElem? (i := 1358) (by decide +kernel)⟩
theorem lw_p50 : lw_okq (⟨"StrawWatchModel", "token", "(IIIJ)V"⟩, 73) := ⟨⟨by decide +kernel, by decide +kernel⟩, List.mem_of_getElem? (i := 1085) (by decide +kernel), List.mem_of_getElem? (i := 1361) (by decide +kernel), List.mem_of_getElem? (i := 1362) (by decide +kernel)⟩
theorem lw_p51 : lw_okq (⟨"StrawWatchModel", "sign", "(III)I"⟩, 73) := ⟨⟨by decide +kernel, by decide +kernel⟩, List.mem_of_getElem? (i := 1085) (by decide +kernel), List.mem_of_getElem? (i := 1371) (by decide +kernel), List.mem_of_getElem? (i := 1372) (by decide +kernel)⟩
theorem lw_p52 : lw_okq (⟨"StrawWatchModel", "is", "(I)Z"⟩, 73) := ⟨⟨by decide +kernel, by decide +kernel⟩, List.mem_of_getElem? (i := 1085) (by decide +kernel), List.mem_of_getElem? (i := 1375) (by decide +kernel), List.mem_of_getElem? (i := 1376) (by decide +kernel)⟩
theorem lw_p53 : lw_okq (⟨"StrawWatchModel", "tellOne", "()V"⟩, 73) := ⟨⟨by decide +kernel, by decide +kernel⟩, List.mem_of_getElem? (i := 1085) (by decide +kernel), List.mem_of_getElem? (i := 1379) (by decide +kernel), List.mem_of_getElem? (i := 1380) (by decide +kernel)⟩
theorem lw_p54 : lw_okq (⟨"StrawWatchModel", "fail", "(I)V"⟩, 73) := ⟨⟨by decide +kernel, by decide +kernel⟩, List.mem_of_getElem? (i := 1085) (by decide +kernel), List.mem_of_getElem? (i := 1383) (by decide +kernel), List.mem_of_getElem? (i := 1384) (by decide +kernel)⟩
theorem lw_p55 : lw_okq (⟨"StrawWatchModel", "tellMan", "()V"⟩, 73) := ⟨⟨by decide +kernel, by decide +kernel⟩, List.mem_of_getElem? (i := 1085) (by decide +kernel), List.mem_of_getElem? (i := 1387) (by decide +kernel), List.mem_of_getElem? (i := 1388) (by decide +kernel)⟩
theorem lw_p56 : lw_okq (⟨"StrawWatchModel", "goesOn", "()V"⟩, 73) := ⟨⟨by decide +kernel, by decide +kernel⟩, List.mem_of_getElem? (i := 1085) (by decide +kernel), List.mem_of_getElem? (i := 1391) (by decide +kernel), List.mem_of_getElem? (i := 1392) (by decide +kernel)⟩
theorem lw_p57 : lw_okq (⟨"StrawWatchModel", "must", "(I)V"⟩, 73) := ⟨⟨by decide +kernel, by decide +kernel⟩, List.mem_of_getElem? (i := 1085) (by decide +kernel), List.mem_of_getElem? (i := 1395) (by decide +kernel), List.mem_of_getElem? (i := 1396) (by decide +kernel)⟩
theorem lw_p58 : lw_okq (⟨"StrawWatchModel", "wrong", "(II)V"⟩, 73) := ⟨⟨by decide +kernel, by decide +kernel⟩, List.mem_of_getElem? (i := 1085) (by decide +kernel), List.mem_of_getElem? (i := 1399) (by decide +kernel), List.mem_of_getElem? (i := 1400) (by decide +kernel)⟩
theorem lw_p59 : lw_okq (⟨"StrawWatchModel", "bounded", "(II)I"⟩, 73) := ⟨⟨by decide +kernel, by decide +kernel⟩, List.mem_of_getElem? (i := 1085) (by decide +kernel), List.mem_of_getElem? (i := 1403) (by decide +kernel), List.mem_of_getElem? (i := 1404) (by decide +kernel)⟩
theorem lw_p60 : lw_okq (⟨"StrawWatchModel", "tellLaw", "(I)V"⟩, 73) := ⟨⟨by decide +kernel, by decide +kernel⟩, List.mem_of_getElem? (i := 1085) (by decide +kernel), List.mem_of_getElem? (i := 1407) (by decide +kernel), List.mem_of_getElem? (i := 1408) (by decide +kernel)⟩
theorem lw_p61 : lw_okq (⟨"StrawWatchModel", "expression", "()V"⟩, 73) := ⟨⟨by decide +kernel, by decide +kernel⟩, List.mem_of_getElem? (i := 1085) (by decide +kernel), List.mem_of_getElem? (i := 1411) (by decide +kernel), List.mem_of_getElem? (i := 1412) (by decide +kernel)⟩
theorem lw_p62 : lw_okq (⟨"StrawWatchModel", "unit", "()V"⟩, 73) := ⟨⟨by decide +kernel, by decide +kernel⟩, List.mem_of_getElem? (i := 1085) (by decide +kernel), List.mem_of_getElem? (i := 1415) (by decide +kernel), List.mem_of_getElem? (i := 1416) (by decide +kernel)⟩
theorem lw_p63 : lw_okq (⟨"StrawWatchModel", "emit", "(II)V"⟩, 73) := ⟨⟨by decide +kernel, by decide +kernel⟩, List.mem_of_getElem? (i := 1085) (by decide +kernel), List.mem_of_getElem? (i := 1419) (by decide +kernel), List.mem_of_getElem? (i := 1420) (by decide +kernel)⟩
def lw_privs_4 : List (MethodName × Nat) := [(⟨"StrawWatchModel", "cut", "()V"⟩, 73), (⟨"StrawWatchModel", "byteAt", "(I)I"⟩, 73), (⟨"StrawWatchModel", "token", "(IIIJ)V"⟩, 73), (⟨"StrawWatchModel", "sign", "(III)I"⟩, 73), (⟨"StrawWatchModel", "is", "(I)Z"⟩, 73), (⟨"StrawWatchModel", "tellOne", "()V"⟩, 73), (⟨"StrawWatchModel", "fail", "(I)V"⟩, 73), (⟨"StrawWatchModel", "tellMan", "()V"⟩, 73), (⟨"StrawWatchModel", "goesOn", "()V"⟩, 73), (⟨"StrawWatchModel", "must", "(I)V"⟩, 73), (⟨"StrawWatchModel", "wrong", "(II)V"⟩, 73), (⟨"StrawWatchModel", "bounded", "(II)I"⟩, 73), (⟨"StrawWatchModel", "tellLaw", "(I)V"⟩, 73), (⟨"StrawWatchModel", "expression", "()V"⟩, 73), (⟨"StrawWatchModel", "unit", "()V"⟩, 73), (⟨"StrawWatchModel", "emit", "(II)V"⟩, 73)]
theorem lw_r4 : ∀ q ∈ lw_privs_4, lw_okq q := List.forall_mem_cons.mpr ⟨lw_p48, List.forall_mem_cons.mpr ⟨lw_p49, List.forall_mem_cons.mpr ⟨lw_p50, List.forall_mem_cons.mpr ⟨lw_p51, List.forall_mem_cons.mpr ⟨lw_p52, List.forall_mem_cons.mpr ⟨lw_p53, List.forall_mem_cons.mpr ⟨lw_p54, List.forall_mem_cons.mpr ⟨lw_p55, List.forall_mem_cons.mpr ⟨lw_p56, List.forall_mem_cons.mpr ⟨lw_p57, List.forall_mem_cons.mpr ⟨lw_p58, List.forall_mem_cons.mpr ⟨lw_p59, List.forall_mem_cons.mpr ⟨lw_p60, List.forall_mem_cons.mpr ⟨lw_p61, List.forall_mem_cons.mpr ⟨lw_p62, List.forall_mem_cons.mpr ⟨lw_p63, fun _ h => absurd h List.not_mem_nil⟩⟩⟩⟩⟩⟩⟩⟩⟩⟩⟩⟩⟩⟩⟩⟩
theorem lw_p64 : lw_okq (⟨"StrawWatchModel", "comesOut", "(Z)V"⟩, 73) := ⟨⟨by decide +kernel, by decide +kernel⟩, List.mem_of_getElem? (i := 1085) (by decide +kernel), List.mem_of_getElem? (i := 1423) (by decide +kernel), List.mem_of_getElem? (i := 1424) (by decide +kernel)⟩
theorem lw_p65 : lw_okq (⟨"StrawWatchModel", "term", "()V"⟩, 73) := ⟨⟨by decide +kernel, by decide +kernel⟩, List.mem_of_getElem? (i := 1085) (by decide +kernel), List.mem_of_getElem? (i := 1427) (by decide +kernel), List.mem_of_getElem? (i := 1428) (by decide +kernel)⟩
theorem lw_p66 : lw_okq (⟨"StrawWatchModel", "isMan", "(I)Z"⟩, 73) := ⟨⟨by decide +kernel, by decide +kernel⟩, List.mem_of_getElem? (i := 1085) (by decide +kernel), List.mem_of_getElem? (i := 1439) (by decide +kernel), List.mem_of_getElem? (i := 1440) (by decide +kernel)⟩
theorem lw_p67 : lw_okq (⟨"StrawWatchModel", "copies", "()V"⟩, 73) := ⟨⟨by decide +kernel, by decide +kernel⟩, List.mem_of_getElem? (i := 1085) (by decide +kernel), List.mem_of_getElem? (i := 1446) (by decide +kernel), List.mem_of_getElem? (i := 1447) (by decide +kernel)⟩
theorem lw_p68 : lw_okq (⟨"StrawWatchModel", "skillAt", "(II)I"⟩, 73) := ⟨⟨by decide +kernel, by decide +kernel⟩, List.mem_of_getElem? (i := 1085) (by decide +kernel), List.mem_of_getElem? (i := 1450) (by decide +kernel), List.mem_of_getElem? (i := 1451) (by decide +kernel)⟩
theorem lw_p69 : lw_okq (⟨"StrawWatchModel", "postOf", "(I)I"⟩, 73) := ⟨⟨by decide +kernel, by decide +kernel⟩, List.mem_of_getElem? (i := 1085) (by decide +kernel), List.mem_of_getElem? (i := 1454) (by decide +kernel), List.mem_of_getElem? (i := 1455) (by decide +kernel)⟩
theorem lw_p70 : lw_okq (⟨"StrawWatchModel", "shipIs", "(I)I"⟩, 73) := ⟨⟨by decide +kernel, by decide +kernel⟩, List.mem_of_getElem? (i := 1085) (by decide +kernel), List.mem_of_getElem? (i := 1466) (by decide +kernel), List.mem_of_getElem? (i := 1467) (by decide +kernel)⟩
theorem lw_p71 : lw_okq (⟨"StrawWatchModel", "windNow", "()I"⟩, 73) := ⟨⟨by decide +kernel, by decide +kernel⟩, List.mem_of_getElem? (i := 1085) (by decide +kernel), List.mem_of_getElem? (i := 1470) (by decide +kernel), List.mem_of_getElem? (i := 1471) (by decide +kernel)⟩
theorem lw_p72 : lw_okq (⟨"StrawWatchModel", "looks", "()V"⟩, 73) := ⟨⟨by decide +kernel, by decide +kernel⟩, List.mem_of_getElem? (i := 1085) (by decide +kernel), List.mem_of_getElem? (i := 1474) (by decide +kernel), List.mem_of_getElem? (i := 1475) (by decide +kernel)⟩
theorem lw_p73 : lw_okq (⟨"StrawWatchModel", "asks", "(IIII)I"⟩, 73) := ⟨⟨by decide +kernel, by decide +kernel⟩, List.mem_of_getElem? (i := 1085) (by decide +kernel), List.mem_of_getElem? (i := 1478) (by decide +kernel), List.mem_of_getElem? (i := 1479) (by decide +kernel)⟩
theorem lw_p74 : lw_okq (⟨"StrawWatchModel", "lawTells", "(I)I"⟩, 73) := ⟨⟨by decide +kernel, by decide +kernel⟩, List.mem_of_getElem? (i := 1085) (by decide +kernel), List.mem_of_getElem? (i := 1482) (by decide +kernel), List.mem_of_getElem? (i := 1483) (by decide +kernel)⟩
theorem lw_p75 : lw_okq (⟨"StrawWatchModel", "termOf", "(II)I"⟩, 73) := ⟨⟨by decide +kernel, by decide +kernel⟩, List.mem_of_getElem? (i := 1085) (by decide +kernel), List.mem_of_getElem? (i := 1486) (by decide +kernel), List.mem_of_getElem? (i := 1487) (by decide +kernel)⟩
theorem lw_p76 : lw_okq (⟨"StrawWatchModel", "dangerNow", "()I"⟩, 73) := ⟨⟨by decide +kernel, by decide +kernel⟩, List.mem_of_getElem? (i := 1085) (by decide +kernel), List.mem_of_getElem? (i := 1490) (by decide +kernel), List.mem_of_getElem? (i := 1491) (by decide +kernel)⟩
theorem lw_p77 : lw_okq (⟨"StrawWatchModel", "keeps", "()V"⟩, 73) := ⟨⟨by decide +kernel, by decide +kernel⟩, List.mem_of_getElem? (i := 1085) (by decide +kernel), List.mem_of_getElem? (i := 1498) (by decide +kernel), List.mem_of_getElem? (i := 1499) (by decide +kernel)⟩
theorem lw_p78 : lw_okq (⟨"StrawWatchModel", "isCrew", "(I)Z"⟩, 73) := ⟨⟨by decide +kernel, by decide +kernel⟩, List.mem_of_getElem? (i := 1085) (by decide +kernel), List.mem_of_getElem? (i := 1506) (by decide +kernel), List.mem_of_getElem? (i := 1507) (by decide +kernel)⟩
theorem lw_p79 : lw_okq (⟨"StrawWatchModel", "sails", "()I"⟩, 73) := ⟨⟨by decide +kernel, by decide +kernel⟩, List.mem_of_getElem? (i := 1085) (by decide +kernel), List.mem_of_getElem? (i := 1513) (by decide +kernel), List.mem_of_getElem? (i := 1514) (by decide +kernel)⟩
def lw_privs_5 : List (MethodName × Nat) := [(⟨"StrawWatchModel", "comesOut", "(Z)V"⟩, 73), (⟨"StrawWatchModel", "term", "()V"⟩, 73), (⟨"StrawWatchModel", "isMan", "(I)Z"⟩, 73), (⟨"StrawWatchModel", "copies", "()V"⟩, 73), (⟨"StrawWatchModel", "skillAt", "(II)I"⟩, 73), (⟨"StrawWatchModel", "postOf", "(I)I"⟩, 73), (⟨"StrawWatchModel", "shipIs", "(I)I"⟩, 73), (⟨"StrawWatchModel", "windNow", "()I"⟩, 73), (⟨"StrawWatchModel", "looks", "()V"⟩, 73), (⟨"StrawWatchModel", "asks", "(IIII)I"⟩, 73), (⟨"StrawWatchModel", "lawTells", "(I)I"⟩, 73), (⟨"StrawWatchModel", "termOf", "(II)I"⟩, 73), (⟨"StrawWatchModel", "dangerNow", "()I"⟩, 73), (⟨"StrawWatchModel", "keeps", "()V"⟩, 73), (⟨"StrawWatchModel", "isCrew", "(I)Z"⟩, 73), (⟨"StrawWatchModel", "sails", "()I"⟩, 73)]
theorem lw_r5 : ∀ q ∈ lw_privs_5, lw_okq q := List.forall_mem_cons.mpr ⟨lw_p64, List.forall_mem_cons.mpr ⟨lw_p65, List.forall_mem_cons.mpr ⟨lw_p66, List.forall_mem_cons.mpr ⟨lw_p67, List.forall_mem_cons.mpr ⟨lw_p68, List.forall_mem_cons.mpr ⟨lw_p69, List.forall_mem_cons.mpr ⟨lw_p70, List.forall_mem_cons.mpr ⟨lw_p71, List.forall_mem_cons.mpr ⟨lw_p72, List.forall_mem_cons.mpr ⟨lw_p73, List.forall_mem_cons.mpr ⟨lw_p74, List.forall_mem_cons.mpr ⟨lw_p75, List.forall_mem_cons.mpr ⟨lw_p76, List.forall_mem_cons.mpr ⟨lw_p77, List.forall_mem_cons.mpr ⟨lw_p78, List.forall_mem_cons.mpr ⟨lw_p79, fun _ h => absurd h List.not_mem_nil⟩⟩⟩⟩⟩⟩⟩⟩⟩⟩⟩⟩⟩⟩⟩⟩
theorem lw_p80 : lw_okq (⟨"StrawWatchModel", "weathers", "()V"⟩, 73) := ⟨⟨by decide +kernel, by decide +kernel⟩, List.mem_of_getElem? (i := 1085) (by decide +kernel), List.mem_of_getElem? (i := 1517) (by decide +kernel), List.mem_of_getElem? (i := 1518) (by decide +kernel)⟩
theorem lw_p81 : lw_okq (⟨"StrawWatchModel", "ordersOf", "(I)I"⟩, 73) := ⟨⟨by decide +kernel, by decide +kernel⟩, List.mem_of_getElem? (i := 1085) (by decide +kernel), List.mem_of_getElem? (i := 1521) (by decide +kernel), List.mem_of_getElem? (i := 1522) (by decide +kernel)⟩
theorem lw_p82 : lw_okq (⟨"StrawWatchModel", "fillsDoing", "(IIIII)V"⟩, 73) := ⟨⟨by decide +kernel, by decide +kernel⟩, List.mem_of_getElem? (i := 1085) (by decide +kernel), List.mem_of_getElem? (i := 1527) (by decide +kernel), List.mem_of_getElem? (i := 1528) (by decide +kernel)⟩
theorem lw_p83 : lw_okq (⟨"StrawWatchModel", "watchGoes", "()Z"⟩, 73) := ⟨⟨by decide +kernel, by decide +kernel⟩, List.mem_of_getElem? (i := 1085) (by decide +kernel), List.mem_of_getElem? (i := 1538) (by decide +kernel), List.mem_of_getElem? (i := 1539) (by decide +kernel)⟩
theorem lw_p84 : lw_okq (⟨"StrawWatchModel", "draws", "()V"⟩, 73) := ⟨⟨by decide +kernel, by decide +kernel⟩, List.mem_of_getElem? (i := 1085) (by decide +kernel), List.mem_of_getElem? (i := 1542) (by decide +kernel), List.mem_of_getElem? (i := 1543) (by decide +kernel)⟩
theorem lw_p85 : lw_okq (⟨"StrawWatchModel", "lotOf", "(II)I"⟩, 73) := ⟨⟨by decide +kernel, by decide +kernel⟩, List.mem_of_getElem? (i := 1085) (by decide +kernel), List.mem_of_getElem? (i := 1546) (by decide +kernel), List.mem_of_getElem? (i := 1547) (by decide +kernel)⟩
theorem lw_p86 : lw_okq (⟨"StrawWatchModel", "isAsked", "(II)Z"⟩, 73) := ⟨⟨by decide +kernel, by decide +kernel⟩, List.mem_of_getElem? (i := 1085) (by decide +kernel), List.mem_of_getElem? (i := 1576) (by decide +kernel), List.mem_of_getElem? (i := 1577) (by decide +kernel)⟩
theorem lw_p87 : lw_okq (⟨"StrawWatchModel", "isDraw", "(I)Z"⟩, 73) := ⟨⟨by decide +kernel, by decide +kernel⟩, List.mem_of_getElem? (i := 1085) (by decide +kernel), List.mem_of_getElem? (i := 1581) (by decide +kernel), List.mem_of_getElem? (i := 1582) (by decide +kernel)⟩
theorem lw_p88 : lw_okq (⟨"StrawWatchModel", "fillsDraw", "(II)V"⟩, 73) := ⟨⟨by decide +kernel, by decide +kernel⟩, List.mem_of_getElem? (i := 1085) (by decide +kernel), List.mem_of_getElem? (i := 1591) (by decide +kernel), List.mem_of_getElem? (i := 1592) (by decide +kernel)⟩
theorem lw_p89 : lw_okq (⟨"StrawWatchModel", "drawsAll", "()I"⟩, 73) := ⟨⟨by decide +kernel, by decide +kernel⟩, List.mem_of_getElem? (i := 1085) (by decide +kernel), List.mem_of_getElem? (i := 1595) (by decide +kernel), List.mem_of_getElem? (i := 1596) (by decide +kernel)⟩
theorem lw_p90 : lw_okq (⟨"StrawWatchModel", "fillsSafest", "(I)V"⟩, 73) := ⟨⟨by decide +kernel, by decide +kernel⟩, List.mem_of_getElem? (i := 1085) (by decide +kernel), List.mem_of_getElem? (i := 1611) (by decide +kernel), List.mem_of_getElem? (i := 1612) (by decide +kernel)⟩
theorem lw_p91 : lw_okq (⟨"StrawWatchModel", "fillsFirst", "(I)V"⟩, 73) := ⟨⟨by decide +kernel, by decide +kernel⟩, List.mem_of_getElem? (i := 1085) (by decide +kernel), List.mem_of_getElem? (i := 1615) (by decide +kernel), List.mem_of_getElem? (i := 1616) (by decide +kernel)⟩
theorem lw_p92 : lw_okq (⟨"StrawWatchModel", "safeOf", "(III)I"⟩, 73) := ⟨⟨by decide +kernel, by decide +kernel⟩, List.mem_of_getElem? (i := 1085) (by decide +kernel), List.mem_of_getElem? (i := 1619) (by decide +kernel), List.mem_of_getElem? (i := 1620) (by decide +kernel)⟩
theorem lw_p93 : lw_okq (⟨"StrawWatchModel", "safeBehind", "(III)I"⟩, 73) := ⟨⟨by decide +kernel, by decide +kernel⟩, List.mem_of_getElem? (i := 1085) (by decide +kernel), List.mem_of_getElem? (i := 1623) (by decide +kernel), List.mem_of_getElem? (i := 1624) (by decide +kernel)⟩
theorem lw_p94 : lw_okq (⟨"StrawWatchModel", "fillsBehind", "(I)V"⟩, 73) := ⟨⟨by decide +kernel, by decide +kernel⟩, List.mem_of_getElem? (i := 1085) (by decide +kernel), List.mem_of_getElem? (i := 1627) (by decide +kernel), List.mem_of_getElem? (i := 1628) (by decide +kernel)⟩
theorem lw_p95 : lw_okq (⟨"StrawWatchModel", "fillsRoster", "()V"⟩, 73) := ⟨⟨by decide +kernel, by decide +kernel⟩, List.mem_of_getElem? (i := 1085) (by decide +kernel), List.mem_of_getElem? (i := 1639) (by decide +kernel), List.mem_of_getElem? (i := 1640) (by decide +kernel)⟩
def lw_privs_6 : List (MethodName × Nat) := [(⟨"StrawWatchModel", "weathers", "()V"⟩, 73), (⟨"StrawWatchModel", "ordersOf", "(I)I"⟩, 73), (⟨"StrawWatchModel", "fillsDoing", "(IIIII)V"⟩, 73), (⟨"StrawWatchModel", "watchGoes", "()Z"⟩, 73), (⟨"StrawWatchModel", "draws", "()V"⟩, 73), (⟨"StrawWatchModel", "lotOf", "(II)I"⟩, 73), (⟨"StrawWatchModel", "isAsked", "(II)Z"⟩, 73), (⟨"StrawWatchModel", "isDraw", "(I)Z"⟩, 73), (⟨"StrawWatchModel", "fillsDraw", "(II)V"⟩, 73), (⟨"StrawWatchModel", "drawsAll", "()I"⟩, 73), (⟨"StrawWatchModel", "fillsSafest", "(I)V"⟩, 73), (⟨"StrawWatchModel", "fillsFirst", "(I)V"⟩, 73), (⟨"StrawWatchModel", "safeOf", "(III)I"⟩, 73), (⟨"StrawWatchModel", "safeBehind", "(III)I"⟩, 73), (⟨"StrawWatchModel", "fillsBehind", "(I)V"⟩, 73), (⟨"StrawWatchModel", "fillsRoster", "()V"⟩, 73)]
theorem lw_r6 : ∀ q ∈ lw_privs_6, lw_okq q := List.forall_mem_cons.mpr ⟨lw_p80, List.forall_mem_cons.mpr ⟨lw_p81, List.forall_mem_cons.mpr ⟨lw_p82, List.forall_mem_cons.mpr ⟨lw_p83, List.forall_mem_cons.mpr ⟨lw_p84, List.forall_mem_cons.mpr ⟨lw_p85, List.forall_mem_cons.mpr ⟨lw_p86, List.forall_mem_cons.mpr ⟨lw_p87, List.forall_mem_cons.mpr ⟨lw_p88, List.forall_mem_cons.mpr ⟨lw_p89, List.forall_mem_cons.mpr ⟨lw_p90, List.forall_mem_cons.mpr ⟨lw_p91, List.forall_mem_cons.mpr ⟨lw_p92, List.forall_mem_cons.mpr ⟨lw_p93, List.forall_mem_cons.mpr ⟨lw_p94, List.forall_mem_cons.mpr ⟨lw_p95, fun _ h => absurd h List.not_mem_nil⟩⟩⟩⟩⟩⟩⟩⟩⟩⟩⟩⟩⟩⟩⟩⟩
theorem lw_p96 : lw_okq (⟨"StrawWatchModel", "skillBy", "(I)I"⟩, 73) := ⟨⟨by decide +kernel, by decide +kernel⟩, List.mem_of_getElem? (i := 1085) (by decide +kernel), List.mem_of_getElem? (i := 1643) (by decide +kernel), List.mem_of_getElem? (i := 1644) (by decide +kernel)⟩
theorem lw_p97 : lw_okq (⟨"StrawWatchModel", "goes", "(I)V"⟩, 73) := ⟨⟨by decide +kernel, by decide +kernel⟩, List.mem_of_getElem? (i := 1085) (by decide +kernel), List.mem_of_getElem? (i := 1662) (by decide +kernel), List.mem_of_getElem? (i := 1663) (by decide +kernel)⟩
theorem lw_p98 : lw_okq (⟨"StrawWatchModel", "endsBy", "(I)I"⟩, 73) := ⟨⟨by decide +kernel, by decide +kernel⟩, List.mem_of_getElem? (i := 1085) (by decide +kernel), List.mem_of_getElem? (i := 1674) (by decide +kernel), List.mem_of_getElem? (i := 1675) (by decide +kernel)⟩
theorem lw_p99 : lw_okq (⟨"StrawWatchModel", "captainIn", "(III)I"⟩, 73) := ⟨⟨by decide +kernel, by decide +kernel⟩, List.mem_of_getElem? (i := 1085) (by decide +kernel), List.mem_of_getElem? (i := 1686) (by decide +kernel), List.mem_of_getElem? (i := 1687) (by decide +kernel)⟩
theorem lw_p100 : lw_okq (⟨"StrawWatchModel", "isSo", "(II)Z"⟩, 73) := ⟨⟨by decide +kernel, by decide +kernel⟩, List.mem_of_getElem? (i := 1085) (by decide +kernel), List.mem_of_getElem? (i := 1726) (by decide +kernel), List.mem_of_getElem? (i := 1727) (by decide +kernel)⟩
def lw_privs_7 : List (MethodName × Nat) := [(⟨"StrawWatchModel", "skillBy", "(I)I"⟩, 73), (⟨"StrawWatchModel", "goes", "(I)V"⟩, 73), (⟨"StrawWatchModel", "endsBy", "(I)I"⟩, 73), (⟨"StrawWatchModel", "captainIn", "(III)I"⟩, 73), (⟨"StrawWatchModel", "isSo", "(II)Z"⟩, 73)]
theorem lw_r7 : ∀ q ∈ lw_privs_7, lw_okq q := List.forall_mem_cons.mpr ⟨lw_p96, List.forall_mem_cons.mpr ⟨lw_p97, List.forall_mem_cons.mpr ⟨lw_p98, List.forall_mem_cons.mpr ⟨lw_p99, List.forall_mem_cons.mpr ⟨lw_p100, fun _ h => absurd h List.not_mem_nil⟩⟩⟩⟩⟩
def lw_privs : List (MethodName × Nat) := lw_privs_1 ++ (lw_privs_2 ++ (lw_privs_3 ++ (lw_privs_4 ++ (lw_privs_5 ++ (lw_privs_6 ++ (lw_privs_7))))))
def lw_tbl : List Cond := k2_sels lw_privs ++ tables_1
theorem lw_privs_ok : ∀ q ∈ lw_privs, lw_okq q := by
  show ∀ q ∈ lw_privs_1 ++ (lw_privs_2 ++ (lw_privs_3 ++ (lw_privs_4 ++ (lw_privs_5 ++ (lw_privs_6 ++ (lw_privs_7)))))), lw_okq q
  exact List.forall_mem_append.mpr ⟨lw_r1, List.forall_mem_append.mpr ⟨lw_r2, List.forall_mem_append.mpr ⟨lw_r3, List.forall_mem_append.mpr ⟨lw_r4, List.forall_mem_append.mpr ⟨lw_r5, List.forall_mem_append.mpr ⟨lw_r6, lw_r7⟩⟩⟩⟩⟩⟩
end
section
/-! THE MINI MACHINE: frames, locals as a list of pairs, a heap as a list of cells (the cell number k stands at the address base + k); a deterministic step. Array kinds: 0 int, 1 byte, 2 boolean, 3 long, 4 references. -/
/-- a decoded instruction: pc, length, instruction, two resolved numbers, a constant, the place of its link word -/
abbrev mm_I : Type := Nat × Nat × Instr × Nat × Nat × Int × Nat
abbrev mm_V : Type := List (Nat × Value)
abbrev mm_H : Type := List va_E
/-- a static int array: address, length, contents -/
abbrev mm_S : Type := Nat × Nat × (Nat → Int32)
abbrev mm_E : Type := Nat × List mm_S
/-- a frame: method, pc, locals, stack, cells and slots that it may still make -/
abbrev mm_F : Type := Nat × Nat × mm_V × List Value × Nat × Nat
/-- what a simple instruction leaves -/
abbrev mm_O : Type := Option (Nat × mm_V × List Value × Nat × Nat × mm_H)
/-- a method for the mini machine: parameters (without the receiver), kind (0 static, 1 virtual, 2 constructor, 3 native copy), class number of the receiver, return kind (0 void, 1 int, 2 boolean, 3 long), cells, slots -/
abbrev mm_M : Type := Nat × Nat × Nat × Nat × Nat × Nat
def mm_get (lv : mm_V) (i : Nat) : Option Value := (lv.find? (fun q => q.1 == i)).map (fun q => q.2)
def mm_p1 (lv : mm_V) (i : Nat) (v : Value) : mm_V := (i, v) :: lv.filter (fun q => !(q.1 == i) && !(q.1 + 1 == i && q.2.category == 2))
def mm_p2 (lv : mm_V) (i : Nat) (v : Value) : mm_V := (i, v) :: lv.filter (fun q => !(q.1 == i) && (!(q.1 == i + 1) && !(q.1 + 1 == i && q.2.category == 2)))
def mm_cell (E : mm_E) (h : mm_H) (a : Nat) : Option va_E := if E.1 ≤ a then h[a - E.1]? else none
def mm_stat (E : mm_E) (a : Nat) : Option mm_S := if E.1 ≤ a then none else E.2.find? (fun q => q.1 == a)
def mm_cond (k : Jvm.ClassFile.Cond) (x y : Int32) : Bool := match k with
  | .eq => decide (x = y)
  | .ne => decide (¬ x = y)
  | .lt => decide (x < y)
  | .ge => decide (y ≤ x)
  | .gt => decide (y < x)
  | .le => decide (x ≤ y)
def mm_jump (lv : mm_V) (st : List Value) (cb sb : Nat) (h : mm_H) (pc : Nat) (off : Int) : mm_O := if 0 ≤ (pc : Int) + off then some (((pc : Int) + off).toNat, lv, st, cb, sb, h) else none
/-- the value of a local of a kind: 0 int, 1 long, 2 reference -/
def mm_kind (v : Value) : Nat := match v with
  | .int _ => 0
  | .long _ => 1
  | .ref _ => 2
  | .null => 3
  | _ => 4
def mm_load (lv : mm_V) (st : List Value) (cb sb : Nat) (h : mm_H) (pc' : Nat) (kd i : Nat) : mm_O := match mm_get lv i with
  | some v => if mm_kind v = kd then some (pc', lv, v :: st, cb, sb, h) else none
  | none => none
def mm_store (nL : Nat) (lv : mm_V) (st : List Value) (cb sb : Nat) (h : mm_H) (pc' : Nat) (kd i : Nat) : mm_O := match st with
  | v :: r => if mm_kind v = kd then (if kd = 1 then (if i + 1 < nL then some (pc', mm_p2 lv i v, r, cb, sb, h) else none) else (if i < nL then some (pc', mm_p1 lv i v, r, cb, sb, h) else none)) else none
  | [] => none
def mm_bin (lv : mm_V) (st : List Value) (cb sb : Nat) (h : mm_H) (pc' : Nat) (g : Int32 → Int32 → Option Int32) : mm_O := match st with
  | .int y :: .int x :: r => (g x y).map (fun v => (pc', lv, .int v :: r, cb, sb, h))
  | _ => none
def mm_binL (lv : mm_V) (st : List Value) (cb sb : Nat) (h : mm_H) (pc' : Nat) (g : Int64 → Int64 → Value) : mm_O := match st with
  | .long y :: .long x :: r => some (pc', lv, g x y :: r, cb, sb, h)
  | _ => none
def mm_un (lv : mm_V) (st : List Value) (cb sb : Nat) (h : mm_H) (pc' : Nat) (g : Int32 → Value) : mm_O := match st with
  | .int x :: r => some (pc', lv, g x :: r, cb, sb, h)
  | _ => none
def mm_inr (i : Int32) (n : Nat) : Bool := decide (0 ≤ i.toInt) && decide (i.toInt < (n : Int))
def mm_ald (E : mm_E) (lv : mm_V) (st : List Value) (cb sb : Nat) (h : mm_H) (pc' : Nat) (kd kd2 : Nat) : mm_O := match st with
  | .int i :: .ref a :: r => match mm_cell E h a with
    | some (.inl (t, n, .inl f)) => if (t = kd ∨ t = kd2) ∧ mm_inr i n = true then some (pc', lv, .int (f i.toNatClampNeg) :: r, cb, sb, h) else none
    | some _ => none
    | none => match mm_stat E a with
      | some (_, n, f) => if kd = 0 ∧ mm_inr i n = true then some (pc', lv, .int (f i.toNatClampNeg) :: r, cb, sb, h) else none
      | none => none
  | _ => none
def mm_nar (t : Nat) (x : Int32) : Int32 := if t = 0 then x else if t = 1 then vp_nar .byte x else vp_nar .boolean x
def mm_ast (E : mm_E) (lv : mm_V) (st : List Value) (cb sb : Nat) (h : mm_H) (pc' : Nat) (kd kd2 : Nat) : mm_O := match st with
  | .int x :: .int i :: .ref a :: r => match mm_cell E h a with
    | some (.inl (t, n, .inl f)) => if (t = kd ∨ t = kd2) ∧ mm_inr i n = true then some (pc', lv, r, cb, sb, h.set (a - E.1) (.inl (t, n, .inl (upd f i.toNatClampNeg (mm_nar t x))))) else none
    | _ => none
  | _ => none
def mm_lald (E : mm_E) (lv : mm_V) (st : List Value) (cb sb : Nat) (h : mm_H) (pc' : Nat) : mm_O := match st with
  | .int i :: .ref a :: r => match mm_cell E h a with
    | some (.inl (t, n, .inr (.inl f))) => if t = 3 ∧ mm_inr i n = true then some (pc', lv, .long (f i.toNatClampNeg) :: r, cb, sb, h) else none
    | _ => none
  | _ => none
def mm_last (E : mm_E) (lv : mm_V) (st : List Value) (cb sb : Nat) (h : mm_H) (pc' : Nat) : mm_O := match st with
  | .long x :: .int i :: .ref a :: r => match mm_cell E h a with
    | some (.inl (t, n, .inr (.inl f))) => if t = 3 ∧ mm_inr i n = true then some (pc', lv, r, cb, sb, h.set (a - E.1) (.inl (t, n, .inr (.inl (vp_updL f i.toNatClampNeg x))))) else none
    | _ => none
  | _ => none
def mm_aald (E : mm_E) (lv : mm_V) (st : List Value) (cb sb : Nat) (h : mm_H) (pc' : Nat) : mm_O := match st with
  | .int i :: .ref a :: r => match mm_cell E h a with
    | some (.inl (t, n, .inr (.inr (.inr (.inr f))))) => if t = 4 ∧ mm_inr i n = true then some (pc', lv, va_rf (f i.toNatClampNeg) :: r, cb, sb, h) else none
    | _ => none
  | _ => none
def mm_alen (E : mm_E) (lv : mm_V) (st : List Value) (cb sb : Nat) (h : mm_H) (pc' : Nat) : mm_O := match st with
  | .ref a :: r => match mm_cell E h a with
    | some (.inl (t, n, _)) => if t < 5 then some (pc', lv, .int (Int32.ofNat n) :: r, cb, sb, h) else none
    | some (.inr _) => none
    | none => match mm_stat E a with
      | some (_, n, _) => some (pc', lv, .int (Int32.ofNat n) :: r, cb, sb, h)
      | none => none
  | _ => none
def mm_getf (E : mm_E) (lv : mm_V) (st : List Value) (cb sb : Nat) (h : mm_H) (pc' : Nat) (ci k : Nat) : mm_O := match st with
  | .ref a :: r => match mm_cell E h a with
    | some (.inr (c, fs)) => if c = ci then (match fs[k]? with
      | some v => some (pc', lv, v :: r, cb, sb, h)
      | none => none) else none
    | _ => none
  | _ => none
/-- may a value stand in a field of a kind: 0 int, 1 long, 2 boolean, 3 reference -/
def mm_fits (kd : Nat) (v : Value) : Bool := match v with
  | .int x => decide (kd = 0) || (decide (kd = 2) && (decide (x = 0) || decide (x = 1)))
  | .long _ => decide (kd = 1)
  | .ref _ => decide (kd = 3)
  | .null => decide (kd = 3)
  | _ => false
def mm_putf (E : mm_E) (lv : mm_V) (st : List Value) (cb sb : Nat) (h : mm_H) (pc' : Nat) (ci k : Nat) (kd : Nat) : mm_O := match st with
  | v :: .ref a :: r => match mm_cell E h a with
    | some (.inr (c, fs)) => if c = ci ∧ k < fs.length ∧ mm_fits kd v = true then some (pc', lv, r, cb, sb, h.set (a - E.1) (.inr (c, fs.set k v))) else none
    | _ => none
  | _ => none
/-- the default of a field of a kind -/
def mm_dflt (kd : Nat) : Value := match kd with
  | 0 => .int 0
  | 1 => .long 0
  | 2 => .int 0
  | _ => .null
def mm_new (E : mm_E) (lv : mm_V) (st : List Value) (cb sb : Nat) (h : mm_H) (pc' : Nat) (ci : Nat) (kds : List Nat) : mm_O :=
  if 1 ≤ cb ∧ kds.length ≤ sb then some (pc', lv, .ref (E.1 + h.length) :: st, cb - 1, sb - kds.length, h ++ [.inr (ci, kds.map mm_dflt)]) else none
def mm_newa (E : mm_E) (lv : mm_V) (st : List Value) (cb sb : Nat) (h : mm_H) (pc' : Nat) (t : ArrayType) : mm_O := match st with
  | .int n :: r => if 0 ≤ n.toInt ∧ n.toInt ≤ 100000 ∧ 1 ≤ cb ∧ n.toNatClampNeg ≤ sb then (match t with
    | .int => some (pc', lv, .ref (E.1 + h.length) :: r, cb - 1, sb - n.toNatClampNeg, h ++ [.inl (0, n.toNatClampNeg, .inl (fun _ => 0))])
    | .byte => some (pc', lv, .ref (E.1 + h.length) :: r, cb - 1, sb - n.toNatClampNeg, h ++ [.inl (1, n.toNatClampNeg, .inl (fun _ => 0))])
    | .boolean => some (pc', lv, .ref (E.1 + h.length) :: r, cb - 1, sb - n.toNatClampNeg, h ++ [.inl (2, n.toNatClampNeg, .inl (fun _ => 0))])
    | .long => some (pc', lv, .ref (E.1 + h.length) :: r, cb - 1, sb - n.toNatClampNeg, h ++ [.inl (3, n.toNatClampNeg, .inr (.inl (fun _ => 0)))])
    | _ => none) else none
  | _ => none
def mm_newm (E : mm_E) (lv : mm_V) (st : List Value) (cb sb : Nat) (h : mm_H) (pc' : Nat) : mm_O := match st with
  | .int k :: .int n :: r => if 0 ≤ n.toInt ∧ n.toInt ≤ 10000 ∧ 0 ≤ k.toInt ∧ k.toInt ≤ 10000 ∧ 1 + n.toNatClampNeg ≤ cb ∧ n.toNatClampNeg + n.toNatClampNeg * k.toNatClampNeg ≤ sb then
      some (pc', lv, .ref (E.1 + h.length) :: r, cb - (1 + n.toNatClampNeg), sb - (n.toNatClampNeg + n.toNatClampNeg * k.toNatClampNeg),
        h ++ (.inl (4, n.toNatClampNeg, .inr (.inr (.inr (.inr (fun i => if i < n.toNatClampNeg then some (E.1 + h.length + 1 + i) else none))))) :: List.replicate n.toNatClampNeg (.inl (0, k.toNatClampNeg, .inl (fun _ => 0))))) else none
  | _ => none
/-- System.arraycopy of two int arrays -/
def mm_copy (E : mm_E) (lv : mm_V) (st : List Value) (cb sb : Nat) (h : mm_H) (pc' : Nat) : mm_O := match st with
  | .int n :: .int dp :: .ref a :: .int sp :: .ref a0 :: r => match mm_cell E h a0, mm_cell E h a with
    | some (.inl (t0, n0, .inl f)), some (.inl (t1, n1, .inl g)) => if t0 = 0 ∧ t1 = 0 ∧ 0 ≤ n.toInt ∧ 0 ≤ dp.toInt ∧ 0 ≤ sp.toInt ∧ sp.toNatClampNeg + n.toNatClampNeg ≤ n0 ∧ dp.toNatClampNeg + n.toNatClampNeg ≤ n1 ∧ (r.map fun v => v.category).sum ≤ 8 then
        some (pc', lv, r, cb, sb, h.set (a - E.1) (.inl (t1, n1, .inl (va_cpy f g sp.toNatClampNeg dp.toNatClampNeg n.toNatClampNeg)))) else none
    | _, _ => none
  | _ => none
def mm_sw (lv : mm_V) (st : List Value) (cb sb : Nat) (h : mm_H) (pc : Nat) (dflt lo hi : Int) (offs : Array Int) : mm_O := match st with
  | .int x :: r => if x.toInt < lo ∨ hi < x.toInt then mm_jump lv r cb sb h pc dflt else (match offs[(x.toInt - lo).toNat]? with
    | some off => mm_jump lv r cb sb h pc off
    | none => none)
  | _ => none
/-- a simple instruction: no frame comes or goes -/
def mm_ex (E : mm_E) (kds : List (List Nat)) (nL : Nat) (ins : Instr) (len a b : Nat) (z : Int) (pc : Nat) (lv : mm_V) (st : List Value) (cb sb : Nat) (h : mm_H) : mm_O := match ins with
  | .iconst n => some (pc + len, lv, .int (Int32.ofInt n) :: st, cb, sb, h)
  | .bipush n => some (pc + len, lv, .int (Int8.ofInt n).toInt32 :: st, cb, sb, h)
  | .sipush n => some (pc + len, lv, .int (Int16.ofInt n).toInt32 :: st, cb, sb, h)
  | .lconst n => some (pc + len, lv, .long (Int64.ofNat (n : Nat)) :: st, cb, sb, h)
  | .ldc _ => some (pc + len, lv, .int (Int32.ofInt z) :: st, cb, sb, h)
  | .ldc_w _ => some (pc + len, lv, .int (Int32.ofInt z) :: st, cb, sb, h)
  | .ldc2_w _ => some (pc + len, lv, .long (Int64.ofInt z) :: st, cb, sb, h)
  | .iload_n k => mm_load lv st cb sb h (pc + len) 0 k
  | .iload k => mm_load lv st cb sb h (pc + len) 0 k
  | .lload_n k => mm_load lv st cb sb h (pc + len) 1 k
  | .lload k => mm_load lv st cb sb h (pc + len) 1 k
  | .aload_n k => mm_load lv st cb sb h (pc + len) 2 k
  | .aload k => mm_load lv st cb sb h (pc + len) 2 k
  | .istore_n k => mm_store nL lv st cb sb h (pc + len) 0 k
  | .istore k => mm_store nL lv st cb sb h (pc + len) 0 k
  | .lstore_n k => mm_store nL lv st cb sb h (pc + len) 1 k
  | .lstore k => mm_store nL lv st cb sb h (pc + len) 1 k
  | .astore_n k => mm_store nL lv st cb sb h (pc + len) 2 k
  | .astore k => mm_store nL lv st cb sb h (pc + len) 2 k
  | .iinc i n => match mm_get lv i with
    | some (.int x) => if i < nL then some (pc + len, mm_p1 lv i (.int (x + Int32.ofInt n)), st, cb, sb, h) else none
    | _ => none
  | .iadd => mm_bin lv st cb sb h (pc + len) (fun x y => some (x + y))
  | .isub => mm_bin lv st cb sb h (pc + len) (fun x y => some (x - y))
  | .imul => mm_bin lv st cb sb h (pc + len) (fun x y => some (x * y))
  | .idiv => mm_bin lv st cb sb h (pc + len) (fun x y => if y = 0 then none else some (x / y))
  | .irem => mm_bin lv st cb sb h (pc + len) (fun x y => if y = 0 then none else some (x - x / y * y))
  | .iand => mm_bin lv st cb sb h (pc + len) (fun x y => some (x &&& y))
  | .ior => mm_bin lv st cb sb h (pc + len) (fun x y => some (x ||| y))
  | .ixor => mm_bin lv st cb sb h (pc + len) (fun x y => some (x ^^^ y))
  | .ishl => mm_bin lv st cb sb h (pc + len) (fun x y => some (x <<< (y &&& 31)))
  | .ishr => mm_bin lv st cb sb h (pc + len) (fun x y => some (x >>> (y &&& 31)))
  | .iushr => mm_bin lv st cb sb h (pc + len) (fun x y => some (x.toUInt32 >>> (y.toUInt32 &&& Int32.toUInt32 31)).toInt32)
  | .ineg => mm_un lv st cb sb h (pc + len) (fun x => .int (-x))
  | .i2l => mm_un lv st cb sb h (pc + len) (fun x => .long x.toInt64)
  | .i2b => mm_un lv st cb sb h (pc + len) (fun x => .int x.toInt8.toInt32)
  | .i2c => mm_un lv st cb sb h (pc + len) (fun x => .int (x.toUInt32 % 65536).toInt32)
  | .l2i => match st with
    | .long x :: r => some (pc + len, lv, .int x.toInt32 :: r, cb, sb, h)
    | _ => none
  | .ladd => mm_binL lv st cb sb h (pc + len) (fun x y => .long (x + y))
  | .lmul => mm_binL lv st cb sb h (pc + len) (fun x y => .long (x * y))
  | .lcmp => mm_binL lv st cb sb h (pc + len) (fun x y => .int (lg_cmp x y))
  | .dup => match st with
    | v :: r => if v.category = 1 then some (pc + len, lv, v :: v :: r, cb, sb, h) else none
    | [] => none
  | .pop => match st with
    | v :: r => if v.category = 1 then some (pc + len, lv, r, cb, sb, h) else none
    | [] => none
  | .dup2 => match st with
    | v :: w :: r => if v.category = 1 ∧ w.category = 1 then some (pc + len, lv, v :: w :: v :: w :: r, cb, sb, h) else none
    | _ => none
  | .if_icmp k off => match st with
    | .int y :: .int x :: r => if mm_cond k x y = true then mm_jump lv r cb sb h pc off else some (pc + len, lv, r, cb, sb, h)
    | _ => none
  | .ifCond k off => match st with
    | .int x :: r => if mm_cond k x 0 = true then mm_jump lv r cb sb h pc off else some (pc + len, lv, r, cb, sb, h)
    | _ => none
  | .goto off => mm_jump lv st cb sb h pc off
  | .tableswitch dflt lo hi offs => mm_sw lv st cb sb h pc dflt lo hi offs
  | .getstatic _ => match E.2[a]? with
    | some q => some (pc + len, lv, .ref q.1 :: st, cb, sb, h)
    | none => none
  | .iaload => mm_ald E lv st cb sb h (pc + len) 0 0
  | .baload => mm_ald E lv st cb sb h (pc + len) 1 2
  | .iastore => mm_ast E lv st cb sb h (pc + len) 0 0
  | .bastore => mm_ast E lv st cb sb h (pc + len) 1 2
  | .laload => mm_lald E lv st cb sb h (pc + len)
  | .lastore => mm_last E lv st cb sb h (pc + len)
  | .aaload => mm_aald E lv st cb sb h (pc + len)
  | .arraylength => mm_alen E lv st cb sb h (pc + len)
  | .getfield _ => mm_getf E lv st cb sb h (pc + len) a b
  | .putfield _ => match kds[a]? with
    | some l => (match l[b]? with
      | some kd => mm_putf E lv st cb sb h (pc + len) a b kd
      | none => none)
    | none => none
  | .new _ => match kds[a]? with
    | some l => mm_new E lv st cb sb h (pc + len) a l
    | none => none
  | .newarray t => mm_newa E lv st cb sb h (pc + len) t
  | .multianewarray _ 2 => mm_newm E lv st cb sb h (pc + len)
  | _ => none
/-- does the instruction call, and how: 0 static, 1 virtual, 2 special -/
def mm_inv (ins : Instr) : Option Nat := match ins with
  | .invokestatic _ => some 0
  | .invokevirtual _ => some 1
  | .invokespecial _ => some 2
  | _ => none
/-- does the instruction return: 0 nothing, 1 an int, 3 a long -/
def mm_rtn (ins : Instr) : Option Nat := match ins with
  | .return_ => some 0
  | .ireturn => some 1
  | .lreturn => some 3
  | _ => none
/-- the methods: code in chunks of 16 bytes, locals, and the rest -/
abbrev mm_T : Type := List (List (List mm_I) × Nat × mm_M)
def mm_at (P : mm_T) (m pc : Nat) : Option (mm_I × Nat × mm_M) := match P[m]? with
  | some (cs, nL, d) => (match cs[pc / 16]? with
    | some l => (l.find? (fun q => q.1 == pc)).map (fun q => (q, nL, d))
    | none => none)
  | none => none
/-- a machine: frames, heap, the last answer -/
abbrev mm_C : Type := List mm_F × mm_H × Option Value
/-- what a method answers, by its kind -/
def mm_ans (rk ik : Nat) (st : List Value) : Option (Option Value) := match st with
  | [] => if rk = 0 ∧ ik = 0 then some none else none
  | [.int v] => if ik = 1 ∧ (rk = 1 ∨ (rk = 2 ∧ (v = 0 ∨ v = 1))) then some (some (.int v)) else none
  | [.long v] => if ik = 3 ∧ rk = 3 then some (some (.long v)) else none
  | _ => none
def mm_back (v : Option Value) (fs : List mm_F) (h : mm_H) : mm_C := match fs with
  | [] => ([], h, v)
  | (m, pc, lv, st, cb, sb) :: fs => ((m, pc, lv, v.toList ++ st, cb, sb) :: fs, h, none)
/-- the receiver of a call: none is wanted, or an object of the class -/
def mm_recv (E : mm_E) (h : mm_H) (kd ci : Nat) (st : List Value) : Option (List Value × List Value) := if kd = 0 then some ([], st) else match st with
  | .ref a :: r => match mm_cell E h a with
    | some (.inr (c, _)) => if c = ci then some ([.ref a], r) else none
    | _ => none
  | _ => none
/-- the two special callees: method 0 is java.lang.Object's constructor, method 1 System.arraycopy -/
def mm_sp (E : mm_E) (a ik : Nat) (lv : mm_V) (st : List Value) (cb sb : Nat) (h : mm_H) (pc' : Nat) : mm_O := if a = 0 then (match st with
  | .ref _ :: r => if ik = 2 ∧ (r.map fun v => v.category).sum ≤ 8 then some (pc', lv, r, cb, sb, h) else none
  | _ => none) else (if ik = 0 then mm_copy E lv st cb sb h pc' else none)
def mm_call (E : mm_E) (L : Nat) (P : mm_T) (k : Nat) (ik : Nat) (m pc' : Nat) (lv : mm_V) (st : List Value) (cb sb : Nat) (fs : List mm_F) (h : mm_H) : Option mm_C := match P[k]? with
  | some (_, nL, np, kd, ci, _, mc, ms) => if kd = ik ∧ fs.length + 1 < L ∧ mc ≤ cb ∧ ms ≤ sb ∧ np ≤ st.length then
      (match mm_recv E h kd ci (st.drop np) with
      | some (rv, r) => if (r.map fun v => v.category).sum ≤ 8 ∧ (lg_sl (rv ++ (st.take np).reverse)).length ≤ nL then some ((k, 0, lv_args 0 (rv ++ (st.take np).reverse), [], mc, ms) :: (m, pc', lv, r, cb - mc, sb - ms) :: fs, h, none) else none
      | none => none) else none
  | none => none
/-- a step -/
def mm_stp (E : mm_E) (kds : List (List Nat)) (P : mm_T) (L : Nat) (c : mm_C) : Option mm_C := match c with
  | ([], _, _) => none
  | ((m, pc, lv, st, cb, sb) :: fs, h, _) => match mm_at P m pc with
    | none => none
    | some ((_, len, ins, a, b, z, _), nL, (_, _, _, rk, _, _)) => match mm_inv ins with
      | some ik => if a < 2 then (if fs.length + 1 < L then (match mm_sp E a ik lv st cb sb h (pc + len) with
          | some (pc', lv', st', cb', sb', h') => some ((m, pc', lv', st', cb', sb') :: fs, h', none)
          | none => none) else none)
        else mm_call E L P a ik m (pc + len) lv st cb sb fs h
      | none => match mm_rtn ins with
        | some ik => (match mm_ans rk ik st with
          | some v => some (mm_back v fs h)
          | none => none)
        | none => match mm_ex E kds nL ins len a b z pc lv st cb sb h with
          | some (pc', lv', st', cb', sb', h') => some ((m, pc', lv', st', cb', sb') :: fs, h', none)
          | none => none
def mm_run (E : mm_E) (kds : List (List Nat)) (P : mm_T) (L : Nat) : Nat → mm_C → Option mm_C
  | 0, c => some c
  | n + 1, c => match mm_stp E kds P L c with
    | some c' => mm_run E kds P L n c'
    | none => none
end
section
/-! THE REFINEMENT, its rows: the world of a heap of the mini machine, and the rows that write, with the heap's size -/
def rf_E (cA : Nat → ClassId) (e : va_E) : va_E := match e with
  | .inl (t, a) => .inl (cA t, a)
  | .inr o => .inr o
def rf_ws (cA : Nat → ClassId) (base : Nat) (h : mm_H) : va_W := h.mapIdx (fun k e => (base + k, rf_E cA e))
theorem rf_ws_get (cA : Nat → ClassId) (base : Nat) (h : mm_H) (k : Nat) : (rf_ws cA base h)[k]? = h[k]?.map (fun e => (base + k, rf_E cA e)) := by simp [rf_ws]
theorem rf_ws_at {cA : Nat → ClassId} {base : Nat} {h : mm_H} {k : Nat} {e : va_E} (hk : h[k]? = some e) : (rf_ws cA base h)[k]? = some (base + k, rf_E cA e) := by rw [rf_ws_get, hk]; rfl
theorem rf_ws_set (cA : Nat → ClassId) (base : Nat) (h : mm_H) (k : Nat) (e : va_E) : (rf_ws cA base h).set k (base + k, rf_E cA e) = rf_ws cA base (h.set k e) := by
  apply List.ext_getElem?
  intro i
  rw [List.getElem?_set, rf_ws_get, rf_ws_get, List.getElem?_set]
  by_cases hik : k = i
  · subst hik
    by_cases hl : k < h.length
    · simp [hl, rf_ws]
    · simp [hl, rf_ws]
  · simp [hik]
theorem rf_ws_app (cA : Nat → ClassId) (base : Nat) (h : mm_H) (e : va_E) : rf_ws cA base (h ++ [e]) = rf_ws cA base h ++ [(base + h.length, rf_E cA e)] := by
  simp [rf_ws, List.mapIdx_append]
theorem rf_D (cA : Nat → ClassId) (base : Nat) (h : mm_H) : va_D (fun q : Nat => base ≤ q) (rf_ws cA base h) := by
  have key : ∀ (k : Nat) (q : Nat × va_E), (rf_ws cA base h)[k]? = some q → q.1 = base + k := by
    intro k q hq
    rw [rf_ws_get] at hq
    cases hk : h[k]? with
    | none => rw [hk] at hq; cases hq
    | some e => rw [hk] at hq; cases hq; rfl
  refine ⟨fun i j p q hp hq hpq => ?_, fun k q hq => ?_⟩
  · have h1 := key i p hp
    have h2 := key j q hq
    omega
  · have h1 := key k q hq
    show base ≤ q.1
    omega
/-- the heap H holds the cells h from base on, and nothing below base has changed since s -/
def rf_I (D : va_G) (cl : List vw_C) (cA : Nat → ClassId) (base : Nat) (s : State) (h : mm_H) (H : Heap) (locs : List Loc) : Prop :=
  H.size = base + h.length ∧ va_P D cl (rf_ws cA base h) H ∧ va_S (fun q : Nat => base ≤ q) s.heap H locs
theorem rf_I.set {D : va_G} {cl : List vw_C} {cA : Nat → ClassId} {base : Nat} {s : State} {h : mm_H} {H H1 : Heap} {locs : List Loc} (hI : rf_I D cl cA base s h H locs) {k : Nat} {e e' : va_E} (hk : h[k]? = some e)
    (hat : va_at D cl (base + k, rf_E cA e') H1) (hz : H1.size = H.size) (ho : ∀ q : Nat, q ≠ base + k → H1[q]? = H[q]?) (j : Nat) : rf_I D cl cA base s (h.set k e') H1 (locs ++ [⟨base + k, j⟩]) := by
  obtain ⟨h1, h2, h3⟩ := hI
  refine ⟨by rw [hz, h1, List.length_set], ?_, h3.put hz ho (Nat.le_add_right base k)⟩
  rw [← rf_ws_set]
  exact h2.set (rf_D cA base h) (rf_ws_at hk) hat ho
theorem rf_I.push {D : va_G} {cl : List vw_C} {cA : Nat → ClassId} {base : Nat} {s : State} {h : mm_H} {H H1 : Heap} {locs : List Loc} (hI : rf_I D cl cA base s h H locs) {e' : va_E}
    (hat : va_at D cl (H.size, rf_E cA e') H1) (hz : H1.size = H.size + 1) (ho : ∀ q : Nat, q < H.size → H1[q]? = H[q]?) : rf_I D cl cA base s (h ++ [e']) H1 locs := by
  obtain ⟨h1, h2, h3⟩ := hI
  refine ⟨by rw [hz, h1, List.length_append, List.length_singleton]; omega, ?_, by rw [hz]; exact Nat.le_succ_of_le h3.1, fun q a b => (ho q (Nat.lt_of_lt_of_le a h3.1)).trans (h3.2.1 q a b), h3.2.2⟩
  rw [rf_ws_app]
  refine (h2.kept (fun k q hq => ho q.1 ((h2 k q hq).lt))).app (fun k q hq => ?_)
  have h0 : k < 1 := (List.getElem?_eq_some_iff.mp hq).1
  rw [show k = 0 by omega] at hq
  cases hq
  rw [← h1]
  exact hat
def rf_kd (ty : FieldType) : Nat := match ty with
  | .int => 0
  | .long => 1
  | .boolean => 2
  | .object _ => 3
  | .array _ => 3
  | _ => 4
theorem rf_fits {ty : FieldType} {v : Value} (h : mm_fits (rf_kd ty) v = true) : narrow ty v = v ∧ fits ty v = true := by
  cases v with
  | int x =>
    cases ty <;> simp [mm_fits, rf_kd] at h
    · exact ⟨rfl, rfl⟩
    · rcases h with h | h <;> subst h <;> exact ⟨by decide, by decide⟩
  | long x => cases ty <;> simp [mm_fits, rf_kd] at h <;> exact ⟨rfl, rfl⟩
  | ref x => cases ty <;> simp [mm_fits, rf_kd] at h <;> exact ⟨rfl, rfl⟩
  | null => cases ty <;> simp [mm_fits, rf_kd] at h <;> exact ⟨rfl, rfl⟩
  | _ => simp [mm_fits] at h
theorem rf_dflt {ty : FieldType} (h : rf_kd ty ≠ 4) : defaultValue ty = mm_dflt (rf_kd ty) := by
  cases ty <;> first | rfl | exact absurd rfl h
/-- the classes' table against the words -/
def rf_Cl (cl : List vw_C) (ty : Nat → Nat → FieldType) (kds : List (List Nat)) (T : List Cond) : Prop := ∀ (ci : Nat) (C : String) (TT : u_T) (N : Nat), cl[ci]? = some (C, TT, N) →
  (∀ w ∈ u_ws C TT N, w ∈ T) ∧ (∀ k, k < N → parseFieldDescriptor (TT k).2.2.1 = some (ty ci k)) ∧ (∀ a, a < N → ∀ b, b < N → a ≠ b → (TT a).2.1 ≠ (TT b).2.1) ∧ Cond.instantiable C N ∈ T ∧ Cond.initialized C ∈ T ∧
  ∃ l, kds[ci]? = some l ∧ l.length = N ∧ ∀ k, k < N → l[k]? = some (rf_kd (ty ci k)) ∧ rf_kd (ty ci k) ≠ 4
section RFR
variable {p : Program} {l : Launch} {e : Env} {R : Room} {s : State} {m : MethodId} {args : Array Value} {below : List Frame} {meth : Method} {c : Code} {H : Heap} {locs : List Loc} {cells slots : Nat} {Q : State → Prop}
variable {cc : ByteArray} {pc : Nat} {ls : Array Slot} {rest : List Value} {D : va_G} {cl : List vw_C} {cA : Nat → ClassId} {base : Nat} {tys : List (ClassId × FieldType)} {h : mm_H}
theorem rf_put (hexec : p.tables.exec = Jvm.exec) (hb : c.code = cc) {own C : String} {TT : u_T} {N ci index : Nat} {T : List Cond} {ty : Nat → Nat → FieldType} {kds : List (List Nat)} (hts : ∀ w ∈ T, w.before args s = true) (hCl : rf_Cl cl ty kds T) (hown : s.vm.findClass own = some m.cls) (hK : va_K D cl tys s) (hI : rf_I D cl cA base s h H locs) {q0 : Nat} {fs : List Value} (he : h[q0]? = some (.inr (ci, fs))) (hc : cl[ci]? = some (C, TT, N)) {k : Nat} (hk : k < N) (hlink : (Cond.fieldLink own index (TT k).1 (TT k).2.1 (TT k).2.2.1).before args s = true) (hfin : (TT k).2.2.2 = false ∨ (meth.name = "<init>" ∧ (TT k).1 = own)) {v : Value} (hf : mm_fits (rf_kd (ty ci k)) v = true) (hl : k < fs.length)
    (hdg : decode cc pc = .ok (.putfield index, 3)) (kk : ∀ (H1 : Heap) (locs1 : List Loc), rf_I D cl cA base s (h.set q0 (.inr (ci, fs.set k v))) H1 locs1 → W p l e R s m args below meth c H1 locs1 cells slots Q (F0 m (pc + 3) ls rest)) : W p l e R s m args below meth c H locs cells slots Q (F0 m pc ls (v :: .ref (base + q0) :: rest)) := by
  obtain ⟨hin, hty, hnm, -, -, -⟩ := hCl ci C TT N hc
  have hap := va_apart (own := own) hts hin (ty ci) hty hnm hK hc
  obtain ⟨hn, hfit⟩ := rf_fits hf
  have hd := hty k hk
  obtain ⟨r, h1, cell, q1, q2, q3, q4⟩ := hI.2.1 q0 _ (rf_ws_at he)
  have hr : r = (C, TT, N) := Option.some.inj (h1.symm.trans hc)
  subst hr
  obtain ⟨hS, hfc, kC, hkC, hkind⟩ := hK.1 ci _ hc
  obtain ⟨cf, kf, fi, f, hi, hsl⟩ := hS k hk
  have hlay := hts _ (hin _ (u_in_lay hk))
  unfold u_lay at hlay
  have hst := (u_facts hfc hkC (u_lays hts hin hk) hi).1
  have fin : ∀ H' : Heap, H'[base + q0]? = some (cell.setSlot f.slot v) → H'.size = H.size → (∀ q, q ≠ base + q0 → H'[q]? = H[q]?) → W p l e R s m args below meth c H' (locs ++ [⟨base + q0, f.slot⟩]) cells slots Q (F0 m (pc + 3) ls rest) := by
    intro H' e1 e2 e3
    rw [hsl] at e1 ⊢
    exact kk H' _ (hI.set he (e' := .inr (ci, fs.set k v)) ⟨_, hc, t_OB.to (V := updV (vp_V fs) k v) ⟨_, e1, q2, q3, t_set q4 hap hk v⟩ (fun j _ => vp_updV_set hl v j)⟩ e2 e3 _)
  by_cases hff : (TT k).2.2.2 = false
  · rw [if_neg (by rw [hff]; decide)] at hlay
    have h6 := u_store hfc hkC hkind hlay hi hd hn hfit
    exact W.putK hexec hb (f := f) ⟨hown, hlink, ⟨_, _, _, hi⟩, hst⟩ (by rw [q2]; exact h6) q1 q3 (by rw [hsl]; exact k2_hasslot (q4 k hk)) rfl rfl hdg fin
  · have hff2 : (TT k).2.2.2 = true := by simpa using hff
    obtain ⟨hin2, hdecl⟩ := hfin.resolve_left hff
    rw [if_pos hff2] at hlay
    have hcf : m.cls = cf := by
      obtain ⟨_, _, c', _, _, _, -, -, hf', -, -, -, hown2, -⟩ := Cond.laysFinal_spec hlay
      have e1 : c' = cf := by have := hi.symm.trans hf'; simp at this; exact this.1.symm
      rw [hdecl] at hown2
      rw [← e1]; exact Option.some.inj (hown.symm.trans hown2)
    have h6 := u_fits hfc hkC hkind (Or.inr hlay) hi hd hn hfit
    exact W.putFinK hexec hb hown hlink hi hst hcf hin2 (by rw [q2]; exact h6) q1 q3 (by rw [hsl]; exact k2_hasslot (q4 k hk)) rfl rfl hdg fin
theorem rf_get (hexec : p.tables.exec = Jvm.exec) (hb : c.code = cc) {own C : String} {TT : u_T} {N ci index : Nat} {T : List Cond} {ty : Nat → Nat → FieldType} {kds : List (List Nat)} (hts : ∀ w ∈ T, w.before args s = true) (hCl : rf_Cl cl ty kds T) (hown : s.vm.findClass own = some m.cls) (hK : va_K D cl tys s) (hI : rf_I D cl cA base s h H locs) {q0 : Nat} {fs : List Value} (he : h[q0]? = some (.inr (ci, fs))) (hc : cl[ci]? = some (C, TT, N)) {k : Nat} (hk : k < N) (hlink : (Cond.fieldLink own index (TT k).1 (TT k).2.1 (TT k).2.2.1).before args s = true) {v : Value} (hv : fs[k]? = some v) (hdg : decode cc pc = .ok (.getfield index, 3))
    (kk : W p l e R s m args below meth c H locs cells slots Q (F0 m (pc + 3) ls (v :: rest))) : W p l e R s m args below meth c H locs cells slots Q (F0 m pc ls (.ref (base + q0) :: rest)) := by
  obtain ⟨hin, -⟩ := hCl ci C TT N hc
  exact va_get hexec hb hts hin hown hK hI.2.1 q0 (rf_ws_at he) hc k hk hlink (fun _ h9 => h9) hv hdg kk
theorem rf_iast (hexec : p.tables.exec = Jvm.exec) (hb : c.code = cc) (hK : va_K D cl tys s) (hI : rf_I D cl cA base s h H locs) {q0 t : Nat} {n : Nat} {f : Nat → Int32} (ha : h[q0]? = some (.inl (t, n, .inl f))) (ht : tys[t]? = some (cA t, .int)) {i : Int32} {x : Int32} (hin : vp_in i n) (hdg : decode cc pc = .ok (.iastore, 1))
    (kk : ∀ (H1 : Heap) (locs1 : List Loc), rf_I D cl cA base s (h.set q0 (.inl (t, n, .inl (upd f i.toNatClampNeg x)))) H1 locs1 → W p l e R s m args below meth c H1 locs1 cells slots Q (F0 m (pc + 1) ls rest)) : W p l e R s m args below meth c H locs cells slots Q (F0 m pc ls (.int x :: .int i :: .ref (base + q0) :: rest)) := by
  refine W.iast hexec hb (hI.2.1 q0 _ (rf_ws_at ha)) ((hK.2 t _ ht).1 n (fun j => .int (f j))) (fun q => by cases q) (by show ¬ (i < 0 ∨ (arrV _ _ _).slots.size ≤ _); rw [arrV_size]; exact hin) rfl rfl hdg fun H1 e z oq => ?_
  refine kk H1 _ (hI.set ha ?_ z oq _)
  show H1[base + q0]? = some (vp_cell _ _)
  rw [e]
  rw [vp_cell_i, vp_cell_i, arrV_store]
  congr 2
  funext q
  by_cases hq : q = i.toNatClampNeg
  · subst hq
    simp [updV, upd]
  · simp [updV, upd, hq]
theorem rf_bast (hexec : p.tables.exec = Jvm.exec) (hb : c.code = cc) (hK : va_K D cl tys s) (hI : rf_I D cl cA base s h H locs) {q0 t : Nat} {n : Nat} {f : Nat → Int32} (ha : h[q0]? = some (.inl (t, n, .inl f))) (ht : tys[t]? = some (cA t, .byte)) {i : Int32} {x : Int32} (hin : vp_in i n) (hdg : decode cc pc = .ok (.bastore, 1))
    (kk : ∀ (H1 : Heap) (locs1 : List Loc), rf_I D cl cA base s (h.set q0 (.inl (t, n, .inl (upd f i.toNatClampNeg (vp_nar .byte x))))) H1 locs1 → W p l e R s m args below meth c H1 locs1 cells slots Q (F0 m (pc + 1) ls rest)) : W p l e R s m args below meth c H locs cells slots Q (F0 m pc ls (.int x :: .int i :: .ref (base + q0) :: rest)) := by
  refine W.bast hexec hb (hI.2.1 q0 _ (rf_ws_at ha)) ((hK.2 t _ ht).1 n (fun j => .int (f j))) (fun q => by cases q) (by show ¬ (i < 0 ∨ (arrV _ _ _).slots.size ≤ _); rw [arrV_size]; exact hin) rfl rfl hdg fun H1 e z oq => ?_
  refine kk H1 _ (hI.set ha ?_ z oq _)
  show H1[base + q0]? = some (vp_cell _ _)
  rw [e]
  rw [vp_cell_i, vp_cell_i, arrV_store]
  congr 2
  funext q
  by_cases hq : q = i.toNatClampNeg
  · subst hq
    simp [updV, upd, vp_nar]
    try rfl
  · simp [updV, upd, hq]
theorem rf_zast (hexec : p.tables.exec = Jvm.exec) (hb : c.code = cc) (hK : va_K D cl tys s) (hI : rf_I D cl cA base s h H locs) {q0 t : Nat} {n : Nat} {f : Nat → Int32} (ha : h[q0]? = some (.inl (t, n, .inl f))) (ht : tys[t]? = some (cA t, .boolean)) {i : Int32} {x : Int32} (hin : vp_in i n) (hdg : decode cc pc = .ok (.bastore, 1))
    (kk : ∀ (H1 : Heap) (locs1 : List Loc), rf_I D cl cA base s (h.set q0 (.inl (t, n, .inl (upd f i.toNatClampNeg (vp_nar .boolean x))))) H1 locs1 → W p l e R s m args below meth c H1 locs1 cells slots Q (F0 m (pc + 1) ls rest)) : W p l e R s m args below meth c H locs cells slots Q (F0 m pc ls (.int x :: .int i :: .ref (base + q0) :: rest)) := by
  refine W.zast hexec hb (hI.2.1 q0 _ (rf_ws_at ha)) ((hK.2 t _ ht).1 n (fun j => .int (f j))) (fun q => by cases q) (by show ¬ (i < 0 ∨ (arrV _ _ _).slots.size ≤ _); rw [arrV_size]; exact hin) rfl rfl hdg fun H1 e z oq => ?_
  refine kk H1 _ (hI.set ha ?_ z oq _)
  show H1[base + q0]? = some (vp_cell _ _)
  rw [e]
  rw [vp_cell_i, vp_cell_i, arrV_store]
  congr 2
  funext q
  by_cases hq : q = i.toNatClampNeg
  · subst hq
    simp [updV, upd, vp_nar]
    try rfl
  · simp [updV, upd, hq]
theorem rf_last (hexec : p.tables.exec = Jvm.exec) (hb : c.code = cc) (hK : va_K D cl tys s) (hI : rf_I D cl cA base s h H locs) {q0 t : Nat} {n : Nat} {f : Nat → Int64} (ha : h[q0]? = some (.inl (t, n, .inr (.inl f)))) (ht : tys[t]? = some (cA t, .long)) {i : Int32} {x : Int64} (hin : vp_in i n) (hdg : decode cc pc = .ok (.lastore, 1))
    (kk : ∀ (H1 : Heap) (locs1 : List Loc), rf_I D cl cA base s (h.set q0 (.inl (t, n, .inr (.inl (vp_updL f i.toNatClampNeg x))))) H1 locs1 → W p l e R s m args below meth c H1 locs1 cells slots Q (F0 m (pc + 1) ls rest)) : W p l e R s m args below meth c H locs cells slots Q (F0 m pc ls (.long x :: .int i :: .ref (base + q0) :: rest)) := by
  refine W.last hexec hb (hI.2.1 q0 _ (rf_ws_at ha)) ((hK.2 t _ ht).1 n (fun j => .long (f j))) (fun q => by cases q) (by show ¬ (i < 0 ∨ (arrV _ _ _).slots.size ≤ _); rw [arrV_size]; exact hin) rfl rfl hdg fun H1 e z oq => ?_
  refine kk H1 _ (hI.set ha ?_ z oq _)
  show H1[base + q0]? = some (vp_cell _ _)
  rw [e]
  rw [vp_cell_l, vp_cell_l, arrV_store]
  congr 2
  funext q
  by_cases hq : q = i.toNatClampNeg
  · subst hq
    simp [updV, vp_updL]
  · simp [updV, vp_updL, hq]
theorem rf_newa (hexec : p.tables.exec = Jvm.exec) (hb : c.code = cc) {atype : ArrayType} (harr : (Cond.arrayClass (newarray.typeOf atype)).before args s = true) {ty : FieldType} (hty : newarray.typeOf atype = ty) {t : Nat} (hfc : s.vm.findClass ("[" ++ ty.toString) = some (cA t)) (hI : rf_I D cl cA base s h H locs)
    {n : Int32} {N' : Nat} {a0 : vp_A} (ha : ∀ cA : ClassId, vp_cell cA a0 = arrV cA N' (fun _ => defaultValue ty)) (hn : ¬ n < 0) (hN : n.toNatClampNeg = N') (hbytes : N' * componentBytes ty ≤ 536870912) (hcells : cells + 1 ≤ R.cells) (hslots : slots + N' ≤ R.slots) (hdg : decode cc pc = .ok (.newarray atype, 2))
    (kk : ∀ (H1 : Heap), rf_I D cl cA base s (h ++ [.inl (t, a0)]) H1 locs → W p l e R s m args below meth c H1 locs (cells + 1) (slots + N') Q (F0 m (pc + 2) ls (.ref (base + h.length) :: rest))) : W p l e R s m args below meth c H locs cells slots Q (F0 m pc ls (.int n :: rest)) := by
  subst hty
  refine va_newaK hexec hb harr rfl hdg rfl hn hN hbytes hcells hslots hI.1 fun H1 c1 e1 z1 o1 hAr hNm => ?_
  have hc1 : c1 = cA t := Option.some.inj (hNm.symm.trans hfc)
  subst hc1
  refine kk H1 (hI.push (e' := .inl (t, a0)) ?_ (by rw [z1, hI.1]) (fun q hq => o1 q (by rw [← hI.1]; exact hq)))
  show H1[H.size]? = some (vp_cell _ _)
  rw [ha, hI.1]
  exact e1
theorem rf_new (hexec : p.tables.exec = Jvm.exec) (hb : c.code = cc) {own C : String} {TT : u_T} {N ci index : Nat} {T : List Cond} {ty : Nat → Nat → FieldType} {kds : List (List Nat)} (hts : ∀ w ∈ T, w.before args s = true) (hCl : rf_Cl cl ty kds T) (hown : s.vm.findClass own = some m.cls) (hcl : (Cond.classLink own index C).before args s = true)
    (hK : va_K D cl tys s) (hI : rf_I D cl cA base s h H locs) (hc : cl[ci]? = some (C, TT, N)) {ks : List Nat} (hks : kds[ci]? = some ks) (hcells : cells + 1 ≤ R.cells) (hslots : slots + ks.length ≤ R.slots) (hdg : decode cc pc = .ok (.new index, 3))
    (kk : ∀ (H1 : Heap), rf_I D cl cA base s (h ++ [.inr (ci, ks.map mm_dflt)]) H1 locs → W p l e R s m args below meth c H1 locs (cells + 1) (slots + ks.length) Q (F0 m (pc + 3) ls (.ref (base + h.length) :: rest))) : W p l e R s m args below meth c H locs cells slots Q (F0 m pc ls rest) := by
  obtain ⟨hin, hty, hnm, hinst, hini, ks', hks', hlen, hall⟩ := hCl ci C TT N hc
  cases hks.symm.trans hks'
  have hKn := hK.1 ci _ hc
  rw [hlen] at hslots kk
  refine W.newcK hexec hb hown hcl (hts _ hinst) (hts _ hini) rfl hdg hcells hslots hKn.2.1 hI.1 fun H1 kC hkC e1 z1 o1 => ?_
  refine kk H1 (hI.push (e' := .inr (ci, ks.map mm_dflt)) ?_ (by rw [z1, hI.1]) (fun q hq => o1 q (by rw [← hI.1]; exact hq)))
  rw [hI.1]
  refine ⟨_, hc, (u_born (ty ci) hts hin hKn hkC e1 hty).to (fun j hj => ?_)⟩
  obtain ⟨hj1, hj2⟩ := hall j hj
  rw [rf_dflt hj2]
  simp [vp_V, List.getD_eq_getElem?_getD, hj1]
end RFR
end
section
/-! THE REFINEMENT, two more rows: System.arraycopy of int arrays, new int[n][k] -/
theorem rf_I.set2 {D : va_G} {cl : List vw_C} {cA : Nat → ClassId} {base : Nat} {s : State} {h : mm_H} {H H1 : Heap} {locs locs' : List Loc} (hI : rf_I D cl cA base s h H locs) {k : Nat} {e e' : va_E} (hk : h[k]? = some e)
    (hat : va_at D cl (base + k, rf_E cA e') H1) (hz : H1.size = H.size) (ho : ∀ q : Nat, q ≠ base + k → H1[q]? = H[q]?) (hl : ∀ q ∈ locs', base ≤ q.base) : rf_I D cl cA base s (h.set k e') H1 locs' := by
  obtain ⟨h1, h2, h3⟩ := hI
  refine ⟨by rw [hz, h1, List.length_set], ?_, by rw [hz]; exact h3.1, fun q a b => ?_, hl⟩
  · rw [← rf_ws_set]
    exact h2.set (rf_D cA base h) (rf_ws_at hk) hat ho
  · rw [ho q (fun e => b (by rw [e]; exact Nat.le_add_right base k))]
    exact h3.2.1 q a b
theorem rf_I.app {D : va_G} {cl : List vw_C} {cA : Nat → ClassId} {base : Nat} {s : State} {h es : mm_H} {H H1 : Heap} {locs : List Loc} (hI : rf_I D cl cA base s h H locs)
    (hat : ∀ (j : Nat) (e : va_E), es[j]? = some e → va_at D cl (H.size + j, rf_E cA e) H1) (hz : H1.size = H.size + es.length) (ho : ∀ q : Nat, q < H.size → H1[q]? = H[q]?) : rf_I D cl cA base s (h ++ es) H1 locs := by
  obtain ⟨h1, h2, h3⟩ := hI
  refine ⟨by rw [hz, h1, List.length_append]; omega, fun k q hq => ?_, by rw [hz]; exact Nat.le_trans h3.1 (Nat.le_add_right _ _), fun q a b => (ho q (Nat.lt_of_lt_of_le a h3.1)).trans (h3.2.1 q a b), h3.2.2⟩
  rw [rf_ws_get] at hq
  by_cases hl : k < h.length
  · rw [List.getElem?_append_left hl, ← rf_ws_get] at hq
    exact (h2 k q hq).kept (ho q.1 ((h2 k q hq).lt))
  · rw [List.getElem?_append_right (Nat.le_of_not_lt hl)] at hq
    cases hj : es[k - h.length]? with
    | none => rw [hj] at hq; cases hq
    | some e =>
      rw [hj] at hq
      cases hq
      have h9 := hat _ e hj
      rw [h1, show base + h.length + (k - h.length) = base + k by omega] at h9
      exact h9
section RFC
variable {p : Program} {l : Launch} {e : Env} {R : Room} {s : State} {m : MethodId} {args : Array Value} {below : List Frame} {meth : Method} {c : Code} {H : Heap} {locs : List Loc} {cells slots : Nat} {Q : State → Prop}
variable {cc : ByteArray} {pc : Nat} {ls : Array Slot} {rest : List Value} {D : va_G} {cl : List vw_C} {cA : Nat → ClassId} {base : Nat} {tys : List (ClassId × FieldType)} {h : mm_H}
theorem rf_nn {z : Int32} (hz : ¬ z < 0) : z.toInt = (z.toNatClampNeg : Int) := by
  have hz0 : (0 : Int) ≤ z.toInt := by
    have := Int32.not_lt.mp hz
    simpa using Int32.le_iff_toInt_le.mp this
  show z.toInt = ((z.toInt.toNat : Nat) : Int)
  omega
theorem rf_copy (hexec : p.tables.exec = Jvm.exec) (hb : c.code = cc) (hml : c.maxLocals = ls.size) {own : String} {index : Nat} (hown : s.vm.findClass own = some m.cls) (hlink : (Cond.methodLink own index arraycopyName).before args s = true) (hnat : (Cond.native arraycopyName).before args s = true) (hstat : (Cond.static arraycopyName).before args s = true) (hini : (Cond.initialized "java/lang/System").before args s = true)
    (hK : va_K D cl tys s) (hI : rf_I D cl cA base s h H locs) {q0 q1 t0 t1 : Nat} {n0 n1 : Nat} {f g : Nat → Int32} (ha0 : h[q0]? = some (.inl (t0, n0, .inl f))) (ha1 : h[q1]? = some (.inl (t1, n1, .inl g))) (ht0 : tys[t0]? = some (cA t0, .int)) (ht1 : tys[t1]? = some (cA t1, .int))
    {sp dp n : Int32} (h1 : ¬ sp < 0) (h2 : ¬ dp < 0) (h3 : ¬ n < 0) (h4 : sp.toNatClampNeg + n.toNatClampNeg ≤ n0) (h5 : dp.toNatClampNeg + n.toNatClampNeg ≤ n1)
    (hframes : 1 ≤ R.frames) (hlocals : (rest.map fun v => v.category).sum + (nativeFrameWords "java/lang/System" "arraycopy" 5 + 11) ≤ R.locals) (hdg : decode cc pc = .ok (.invokestatic index, 3))
    (kk : ∀ (H1 : Heap) (locs1 : List Loc), rf_I D cl cA base s (h.set q1 (.inl (t1, n1, .inl (va_cpy f g sp.toNatClampNeg dp.toNatClampNeg n.toNatClampNeg)))) H1 locs1 → W p l e R s m args below meth c H1 locs1 cells slots Q (F0 m (pc + 3) ls rest)) : W p l e R s m args below meth c H locs cells slots Q (F0 m pc ls (.int n :: .int dp :: .ref (base + q1) :: .int sp :: .ref (base + q0) :: rest)) := by
  intro T hT X
  have hc0 : H[base + q0]? = some (vp_cell (cA t0) (n0, .inl f)) := hI.2.1 q0 _ (rf_ws_at ha0)
  have hc1 : H[base + q1]? = some (vp_cell (cA t1) (n1, .inl g)) := hI.2.1 q1 _ (rf_ws_at ha1)
  obtain ⟨-, k0, hk0, cm0, hkk0⟩ := (hK.2 t0 _ ht0).1 n0 (fun j => .int (f j))
  obtain ⟨-, k1, hk1, cm1, hkk1⟩ := (hK.2 t1 _ ht1).1 n1 (fun j => .int (g j))
  obtain ⟨vm', X', step⟩ := X.arraycopy hexec hown hlink hnat hstat hini (src := base + q0) (dst := base + q1) (cs := vp_cell (cA t0) (n0, .inl f)) (cd := vp_cell (cA t1) (n1, .inl g)) (srcPos := sp) (destPos := dp) (n := n) (by rw [hT]; exact hc0) (by rw [hT]; exact hc1)
    (fun _ h => by cases h) (fun _ h => by cases h) (fun h => by cases h) (fun h => by cases h) hk0 hk1 hkk0 hkk1 (by simp [refKind]) h1 h2 h3
    (by rw [rf_nn h1, rf_nn h3]; show ¬ _ > ((arrV (cA t0) n0 (fun j => .int (f j))).slots.size : Int); rw [arrV_size]; omega)
    (by rw [rf_nn h2, rf_nn h3]; show ¬ _ > ((arrV (cA t1) n1 (fun j => .int (g j))).slots.size : Int); rw [arrV_size]; omega)
    (fun vm₁ _ i hi => by
      have e : (vp_cell (cA t0) (n0, .inl f)).slots.getD (sp.toNatClampNeg + i) .null = .int (f (sp.toNatClampNeg + i)) := by
        show (arrV (cA t0) n0 (fun j => .int (f j))).slots.getD _ _ = _
        rw [Array.getD_eq_getD_getElem?, arrV_read _ _ (by omega)]
        rfl
      refine ⟨?_, ?_⟩
      · rw [e]
        rfl
      · rw [e]
        exact trivial)
    (g := F0 m pc ls (.int n :: .int dp :: .ref (base + q1) :: .int sp :: .ref (base + q0) :: rest)) rfl (by rw [hml]) (rest := rest) rfl (by rw [hb]; exact hdg) hframes (by show 2 * 0 + _ + _ ≤ _; omega)
  have e1 : copied (vp_cell (cA t0) (n0, .inl f)) (vp_cell (cA t1) (n1, .inl g)) sp dp n = vp_cell (cA t1) (n1, .inl (va_cpy f g sp.toNatClampNeg dp.toNatClampNeg n.toNatClampNeg)) := va_copied (fun z => .int z) (cA t0) (cA t1) f g h4
  rw [e1] at X' step
  have hl : base + q1 < H.size := (Array.getElem?_eq_some_iff.mp hc1).1
  have hheap : ((T.setVm vm').setCell (base + q1) (vp_cell (cA t1) (n1, .inl (va_cpy f g sp.toNatClampNeg dp.toNatClampNeg n.toNatClampNeg)))).heap = H.setIfInBounds (base + q1) (vp_cell (cA t1) (n1, .inl (va_cpy f g sp.toNatClampNeg dp.toNatClampNeg n.toNatClampNeg))) := by rw [← hT]; rfl
  obtain ⟨t, a1, b1⟩ := kk _ _ (hI.set2 ha1 (e' := .inl (t1, n1, .inl (va_cpy f g sp.toNatClampNeg dp.toNatClampNeg n.toNatClampNeg))) (show (H.setIfInBounds (base + q1) _)[base + q1]? = some _ by simp [Array.getElem?_setIfInBounds, hl]) (by simp) (fun q hq => by simp [Array.getElem?_setIfInBounds, Ne.symm hq]) (fun q hq => by
      rcases List.mem_append.mp hq with h | h
      · exact hI.2.2.2.2 q h
      · obtain ⟨z, -, hz⟩ := List.mem_map.mp h
        rw [← hz]
        exact Nat.le_add_right base q1)) _ hheap X'
  exact ⟨t, step t a1, b1⟩
theorem rf_outer (c : ClassId) (N h0 : Nat) : ∀ i : Nat, Jvm.Free.Multi.outerC c N h0 i = arrV c N (fun j => va_rf (if j < i then some (h0 + 1 + j) else none))
  | 0 => by
    show ({ cls := c, slots := Array.replicate N .null, vm := .none } : Cell) = _
    rw [arrV_new]
    refine congrArg (arrV c N) (funext fun j => ?_)
    simp [va_rf]
  | i + 1 => by
    show (Jvm.Free.Multi.outerC c N h0 i).setSlot i (.ref (h0 + 1 + i)) = _
    rw [rf_outer c N h0 i, arrV_store]
    refine congrArg (arrV c N) (funext fun j => ?_)
    by_cases e : j = i
    · subst e
      simp [updV, va_rf]
    · by_cases h : j < i
      · simp [updV, e, h, Nat.lt_succ_of_lt h]
      · simp [updV, e, h, show ¬ j < i + 1 by omega]
theorem rf_mna (hexec : p.tables.exec = Jvm.exec) (hb : c.code = cc) {own : String} {index : Nat} (hown : s.vm.findClass own = some m.cls) (hclink : (Cond.classLink own index "[[I").before args s = true) (hover : (Cond.arrayOver (.array .int)).before args s = true) (harr : (Cond.arrayClass .int).before args s = true)
    (hc0 : s.vm.findClass "[I" = some (cA 0)) (hc4 : s.vm.findClass "[[I" = some (cA 4)) (hI : rf_I D cl cA base s h H locs) {n k : Int32} {N' K' : Nat} (hn : ¬ n < 0) (hk : ¬ k < 0) (hN : n.toNatClampNeg = N') (hM : k.toNatClampNeg = K')
    (hb1 : N' * 4 ≤ 536870912) (hb2 : K' * 4 ≤ 536870912) (hcells : cells + (1 + N') ≤ R.cells) (hslots : slots + (N' + N' * K') ≤ R.slots) (hdg : decode cc pc = .ok (.multianewarray index 2, 4))
    (kk : ∀ (H1 : Heap), rf_I D cl cA base s (h ++ (.inl (4, N', .inr (.inr (.inr (.inr (fun i => if i < N' then some (base + h.length + 1 + i) else none))))) :: List.replicate N' (.inl (0, K', .inl (fun _ => 0))))) H1 locs → W p l e R s m args below meth c H1 locs (cells + (1 + N')) (slots + (N' + N' * K')) Q (F0 m (pc + 4) ls (.ref (base + h.length) :: rest))) : W p l e R s m args below meth c H locs cells slots Q (F0 m pc ls (.int k :: .int n :: rest)) := by
  subst hN
  subst hM
  intro T hT Xs
  obtain ⟨vm₁, c4, c0, -, fA, fC, hO, -, X', step⟩ := Xs.multianewarray2F hexec hown hclink hover harr (g := F0 m pc ls (.int k :: .int n :: rest)) rfl (by rw [hb]; exact hdg) rfl hn hk hb1 hb2 (by omega) rfl rfl hcells hslots
  have ec : c0 = cA 0 := Option.some.inj (fC.symm.trans hc0)
  have ea : c4 = cA 4 := Option.some.inj (fA.symm.trans hc4)
  subst ec
  subst ea
  generalize hF : Jvm.Free.Multi.fill (T.setVm vm₁) (cA 4) (cA 0) n.toNatClampNeg k.toNatClampNeg (defaultValue .int) n.toNatClampNeg = F at X' step
  have hTh : (T.setVm vm₁).heap = H := hT
  obtain ⟨f1, f2, -, -⟩ := Jvm.Free.Multi.fill_facts (T.setVm vm₁) (cA 4) (cA 0) n.toNatClampNeg k.toNatClampNeg (defaultValue .int) n.toNatClampNeg
  rw [hF, hTh] at f1 f2
  have hold : ∀ x : Nat, x < H.size → F.heap[x]? = H[x]? := fun x hx => by
    have := Jvm.Free.Multi.fill_old (T.setVm vm₁) (cA 4) (cA 0) n.toNatClampNeg k.toNatClampNeg (defaultValue .int) (a := x) (by rw [hTh]; exact hx) n.toNatClampNeg
    rw [hF, hTh] at this
    exact this
  have hrow : ∀ j : Nat, j < n.toNatClampNeg → F.heap[H.size + 1 + j]? = some (vp_cell (cA 0) (k.toNatClampNeg, .inl (fun _ => 0))) := fun j hj => by
    have := Jvm.Free.Multi.fill_inner (T.setVm vm₁) (cA 4) (cA 0) n.toNatClampNeg k.toNatClampNeg (defaultValue .int) n.toNatClampNeg j hj
    rw [hF, hTh] at this
    rw [this, vp_cell_i, ← arrV_new]
    rfl
  rw [rf_outer] at f2
  have hI1 : rf_I D cl cA base s (h ++ (.inl (4, n.toNatClampNeg, .inr (.inr (.inr (.inr (fun i => if i < n.toNatClampNeg then some (base + h.length + 1 + i) else none))))) :: List.replicate n.toNatClampNeg (.inl (0, k.toNatClampNeg, .inl (fun _ => 0))))) F.heap locs := by
    refine hI.app (fun j e hj => ?_) (by rw [f1]; simp; omega) hold
    cases j with
    | zero =>
      cases hj
      show F.heap[H.size + 0]? = some (vp_cell _ _)
      rw [Nat.add_zero, f2, vp_cell_q, hI.1]
    | succ j =>
      rw [List.getElem?_cons_succ, List.getElem?_replicate] at hj
      by_cases hjn : j < n.toNatClampNeg
      · rw [if_pos hjn] at hj
        cases hj
        show F.heap[H.size + (j + 1)]? = some (vp_cell _ _)
        rw [show H.size + (j + 1) = H.size + 1 + j by omega]
        exact hrow j hjn
      · rw [if_neg hjn] at hj
        cases hj
  have X2 : Stand p l e R s m args below meth c F locs (cells + (1 + n.toNatClampNeg)) (slots + (n.toNatClampNeg + n.toNatClampNeg * k.toNatClampNeg)) := by
    rw [← Nat.add_assoc, ← Nat.add_assoc]
    exact X'
  obtain ⟨t, a1, b1⟩ := kk F.heap hI1 F rfl X2
  refine ⟨t, step t ?_, b1⟩
  have e : T.heap.size = base + h.length := by rw [hT, hI.1]
  rw [e]
  exact a1
end RFC
end
section
/-! THE REFINEMENT, a simple instruction: what the mini machine does, the machine does -/
def rf_tys (cA : Nat → ClassId) : List (ClassId × FieldType) := [(cA 0, .int), (cA 1, .byte), (cA 2, .boolean), (cA 3, .long), (cA 4, .array .int)]
def rf_nest (w : Cond) : Bool := match w with
  | .methodLinkNest _ _ _ _ => true
  | _ => false
/-- what holds at every method's start: classes, nest words, static arrays -/
def rf_Cx (E : mm_E) (SN : List (String × String × String)) (Tw : List Cond) (D : va_G) (cl : List vw_C) (cA : Nat → ClassId) (s : State) : Prop :=
  va_K D cl (rf_tys cA) s ∧ (∀ w ∈ Tw, rf_nest w = true → va_Nw w s) ∧ (Cond.arrayOver (.array .int)).before #[] s = true ∧
  (∀ q ∈ E.2, va_T .int q.1 q.2.1 (fun j => .int (q.2.2 j)) (fun x : Nat => E.1 ≤ x) s s.heap) ∧ (∀ (k : Nat) (nm : String × String × String), SN[k]? = some nm → ∃ q, E.2[k]? = some q ∧ va_Z nm.1 nm.2.1 nm.2.2 (.ref q.1) (fun x : Nat => E.1 ≤ x) s s.heap) ∧ E.1 ≤ s.heap.size
def rf_w (Tw : List Cond) (w : Nat) (X : Cond) : Bool := decide (Tw[w]? = some X) && goodWord X
def rf_len (ins : Instr) : Nat := match ins with
  | .bipush _ => 2
  | .sipush _ => 3
  | .ldc _ => 2
  | .ldc_w _ => 3
  | .ldc2_w _ => 3
  | .iload _ => 2
  | .lload _ => 2
  | .aload _ => 2
  | .istore _ => 2
  | .lstore _ => 2
  | .astore _ => 2
  | .iinc _ _ => 3
  | .if_icmp _ _ => 3
  | .ifCond _ _ => 3
  | .goto _ => 3
  | .getstatic _ => 3
  | .getfield _ => 3
  | .putfield _ => 3
  | .new _ => 3
  | .newarray _ => 2
  | .multianewarray _ _ => 4
  | .invokestatic _ => 3
  | .invokevirtual _ => 3
  | .invokespecial _ => 3
  | _ => 1
/-- is an instruction of a method of the class own as the table says: its length, its links -/
def rf_ck (Tw : List Cond) (cl : List vw_C) (SN : List (String × String × String)) (own : String) (ini : Bool) (pc len : Nat) (ins : Instr) (a b : Nat) (z : Int) (w : Nat) : Bool := match ins with
  | .ldc i => decide (len = 2) && rf_w Tw w (.constant own i (Int32.ofInt z))
  | .ldc_w i => decide (len = 3) && rf_w Tw w (.constant own i (Int32.ofInt z))
  | .ldc2_w i => decide (len = 3) && rf_w Tw w (.constantLong own i (Int64.ofInt z))
  | .if_icmp _ off => decide (len = 3) && decide (0 ≤ (pc : Int) + off)
  | .ifCond _ off => decide (len = 3) && decide (0 ≤ (pc : Int) + off)
  | .goto off => decide (len = 3) && decide (0 ≤ (pc : Int) + off)
  | .tableswitch _ _ _ _ => true
  | .getstatic i => decide (len = 3) && (match SN[a]? with
    | some nm => rf_w Tw w (.fieldLink own i nm.1 nm.2.1 nm.2.2)
    | none => false)
  | .getfield i => decide (len = 3) && (match cl[a]? with
    | some (_, TT, N) => decide (b < N) && rf_w Tw w (.fieldLink own i (TT b).1 (TT b).2.1 (TT b).2.2.1)
    | none => false)
  | .putfield i => decide (len = 3) && (match cl[a]? with
    | some (_, TT, N) => decide (b < N) && (rf_w Tw w (.fieldLink own i (TT b).1 (TT b).2.1 (TT b).2.2.1) && (!(TT b).2.2.2 || (ini && decide ((TT b).1 = own))))
    | none => false)
  | .new i => decide (len = 3) && (match cl[a]? with
    | some (C, _, _) => rf_w Tw w (.classLink own i C)
    | none => false)
  | .newarray t => decide (len = 2) && rf_w Tw w (.arrayClass (newarray.typeOf t))
  | .multianewarray i _ => decide (len = 4) && rf_w Tw w (.classLink own i "[[I")
  | _ => decide (len = rf_len ins)
theorem rf_w_in {Tw T : List Cond} {args : Array Value} {s : State} {w : Nat} {X : Cond} (hTw : ∀ X ∈ Tw, goodWord X = true → X ∈ T) (hts : ∀ w ∈ T, w.before args s = true) (h : rf_w Tw w X = true) : X.before args s = true := by
  simp only [rf_w, Bool.and_eq_true, decide_eq_true_eq] at h
  exact hts _ (hTw _ (List.mem_of_getElem? h.1) h.2)
theorem rf_cell {E : mm_E} {h : mm_H} {a : Nat} {x : va_E} (hc : mm_cell E h a = some x) : ∃ k, a = E.1 + k ∧ h[k]? = some x := by
  unfold mm_cell at hc
  split at hc
  · exact ⟨a - E.1, by omega, hc⟩
  · cases hc
theorem rf_at {ls : Array Slot} {nL i : Nat} {lv : mm_V} {v : Value} (hl : lv_has ls nL lv) (hg : mm_get lv i = some v) : ls[i]? = some (.val v) ∧ ∃ k : Nat, lv[k]? = some (i, v) := by
  unfold mm_get at hg
  cases hf : lv.find? (fun q => q.1 == i) with
  | none => rw [hf] at hg; cases hg
  | some q =>
    rw [hf] at hg
    cases hg
    have h1 := List.find?_some hf
    have h2 := List.mem_of_find?_eq_some hf
    have h3 : q.1 = i := by simpa using h1
    subst h3
    exact ⟨hl.2.2 q h2, List.getElem?_of_mem h2⟩
theorem rf_inr {i : Int32} {n : Nat} (h : mm_inr i n = true) : vp_in i n := by
  simp only [mm_inr, Bool.and_eq_true, decide_eq_true_eq] at h
  exact vp_in_iff.mpr h
theorem rf_nlt {n : Int32} (h : 0 ≤ n.toInt) : ¬ n < 0 := by
  intro q
  have := Int32.lt_iff_toInt_lt.mp q
  have h0 : (0 : Int32).toInt = 0 := by decide
  omega
theorem rf_clamp {n : Int32} {M : Nat} (h : 0 ≤ n.toInt) (h2 : n.toInt ≤ (M : Int)) : n.toNatClampNeg ≤ M := by
  have := rf_nn (rf_nlt h)
  omega
theorem rf_tgt {pc : Nat} {off : Int} (h : 0 ≤ (pc : Int) + off) : (pc : Int) + off = ((((pc : Int) + off).toNat : Nat) : Int) := (Int.toNat_of_nonneg h).symm
theorem rf_kd0 {v : Value} (h : mm_kind v = 0) : ∃ x, v = .int x := by cases v <;> simp [mm_kind] at h <;> exact ⟨_, rfl⟩
theorem rf_kd1 {v : Value} (h : mm_kind v = 1) : ∃ x, v = .long x := by cases v <;> simp [mm_kind] at h <;> exact ⟨_, rfl⟩
theorem rf_kd2 {v : Value} (h : mm_kind v = 2) : ∃ x, v = .ref x := by cases v <;> simp [mm_kind] at h <;> exact ⟨_, rfl⟩
theorem rf_load {lv : mm_V} {st : List Value} {cb sb : Nat} {h : mm_H} {pc' kd i : Nat} {r : Nat × mm_V × List Value × Nat × Nat × mm_H} (hh : mm_load lv st cb sb h pc' kd i = some r) : ∃ v, mm_get lv i = some v ∧ mm_kind v = kd ∧ r = (pc', lv, v :: st, cb, sb, h) := by
  unfold mm_load at hh
  split at hh
  · split at hh
    · cases hh
      exact ⟨_, by assumption, by assumption, rfl⟩
    · cases hh
  · cases hh
theorem rf_store {nL : Nat} {lv : mm_V} {st : List Value} {cb sb : Nat} {h : mm_H} {pc' kd i : Nat} {r : Nat × mm_V × List Value × Nat × Nat × mm_H} (hh : mm_store nL lv st cb sb h pc' kd i = some r) : ∃ v rest, st = v :: rest ∧ mm_kind v = kd ∧ ((kd = 1 ∧ i + 1 < nL ∧ r = (pc', mm_p2 lv i v, rest, cb, sb, h)) ∨ (kd ≠ 1 ∧ i < nL ∧ r = (pc', mm_p1 lv i v, rest, cb, sb, h))) := by
  unfold mm_store at hh
  split at hh
  · rename_i v rest
    split at hh
    · split at hh
      · split at hh
        · cases hh
          exact ⟨v, rest, rfl, by assumption, Or.inl ⟨by assumption, by assumption, rfl⟩⟩
        · cases hh
      · split at hh
        · cases hh
          exact ⟨v, rest, rfl, by assumption, Or.inr ⟨by assumption, by assumption, rfl⟩⟩
        · cases hh
    · cases hh
  · cases hh
theorem rf_bin {lv : mm_V} {st : List Value} {cb sb : Nat} {h : mm_H} {pc' : Nat} {g : Int32 → Int32 → Option Int32} {r : Nat × mm_V × List Value × Nat × Nat × mm_H} (hh : mm_bin lv st cb sb h pc' g = some r) : ∃ y x rest v, st = .int y :: .int x :: rest ∧ g x y = some v ∧ r = (pc', lv, .int v :: rest, cb, sb, h) := by
  unfold mm_bin at hh
  split at hh
  · rename_i y x rest
    cases hg : g x y with
    | none => rw [hg] at hh; cases hh
    | some v => rw [hg] at hh; cases hh; exact ⟨y, x, rest, v, rfl, hg, rfl⟩
  · cases hh
theorem rf_binL {lv : mm_V} {st : List Value} {cb sb : Nat} {h : mm_H} {pc' : Nat} {g : Int64 → Int64 → Value} {r : Nat × mm_V × List Value × Nat × Nat × mm_H} (hh : mm_binL lv st cb sb h pc' g = some r) : ∃ y x rest, st = .long y :: .long x :: rest ∧ r = (pc', lv, g x y :: rest, cb, sb, h) := by
  unfold mm_binL at hh
  split at hh
  · cases hh; exact ⟨_, _, _, rfl, rfl⟩
  · cases hh
theorem rf_un {lv : mm_V} {st : List Value} {cb sb : Nat} {h : mm_H} {pc' : Nat} {g : Int32 → Value} {r : Nat × mm_V × List Value × Nat × Nat × mm_H} (hh : mm_un lv st cb sb h pc' g = some r) : ∃ x rest, st = .int x :: rest ∧ r = (pc', lv, g x :: rest, cb, sb, h) := by
  unfold mm_un at hh
  split at hh
  · cases hh; exact ⟨_, _, rfl, rfl⟩
  · cases hh
theorem rf_jump {lv : mm_V} {st : List Value} {cb sb : Nat} {h : mm_H} {pc : Nat} {off : Int} {r : Nat × mm_V × List Value × Nat × Nat × mm_H} (hh : mm_jump lv st cb sb h pc off = some r) : 0 ≤ (pc : Int) + off ∧ r = (((pc : Int) + off).toNat, lv, st, cb, sb, h) := by
  unfold mm_jump at hh
  split at hh
  · cases hh; exact ⟨by assumption, rfl⟩
  · cases hh
section RFX
variable {p : Program} {l : Launch} {e : Env} {R : Room} {s : State} {m : MethodId} {args : Array Value} {below : List Frame} {meth : Method} {c : Code} {H : Heap} {locs : List Loc} {cells slots : Nat} {Q : State → Prop}
variable {cc : ByteArray} {ls : Array Slot} {D : va_G} {cl : List vw_C} {cA : Nat → ClassId}
set_option maxHeartbeats 4000000 in
set_option maxRecDepth 100000 in
theorem rf_ex {E : mm_E} {SN : List (String × String × String)} {Tw T : List Cond} {ty : Nat → Nat → FieldType} {kds : List (List Nat)} {own : String} {ini : Bool} {nL : Nat} (hexec : p.tables.exec = Jvm.exec) (hb : c.code = cc) (hTw : ∀ X ∈ Tw, goodWord X = true → X ∈ T) (hts : ∀ w ∈ T, w.before args s = true) (hCl : rf_Cl cl ty kds T) (hown : s.vm.findClass own = some m.cls) (hini : ini = true → meth.name = "<init>") (hC : rf_Cx E SN Tw D cl cA s) (hAi : Cond.arrayClass .int ∈ T)
    {ins : Instr} {len a b : Nat} {z : Int} {w pc : Nat} {lv : mm_V} {st : List Value} {cb sb : Nat} {h : mm_H} {pc' : Nat} {lv' : mm_V} {st' : List Value} {cb' sb' : Nat} {h' : mm_H}
    (hd : decode cc pc = .ok (ins, len)) (hck : rf_ck Tw cl SN own ini pc len ins a b z w = true) (hex : mm_ex E kds nL ins len a b z pc lv st cb sb h = some (pc', lv', st', cb', sb', h')) (hl : lv_has ls nL lv) (hI : rf_I D cl cA E.1 s h H locs) (hcb : cells + cb ≤ R.cells) (hsb : slots + sb ≤ R.slots)
    (kk : ∀ (H' : Heap) (locs' : List Loc) (cells' slots' : Nat) (ls' : Array Slot), rf_I D cl cA E.1 s h' H' locs' → lv_has ls' nL lv' → cells' + cb' = cells + cb → slots' + sb' = slots + sb → W p l e R s m args below meth c H' locs' cells' slots' Q (F0 m pc' ls' st')) :
    W p l e R s m args below meth c H locs cells slots Q (F0 m pc ls st) := by
  obtain ⟨hK, hNe, hAO, hTb, hZs, hbs⟩ := hC
  cases ins
  case iconst n =>
    cases hex
    have hlen : len = 1 := of_decide_eq_true hck
    subst hlen
    exact lv_iconst hexec hb hd rfl (kk _ _ _ _ _ hI hl rfl rfl)
  case bipush n =>
    cases hex
    have hlen : len = 2 := of_decide_eq_true hck
    subst hlen
    exact lv_bipush hexec hb hd rfl (kk _ _ _ _ _ hI hl rfl rfl)
  case sipush n =>
    cases hex
    have hlen : len = 3 := of_decide_eq_true hck
    subst hlen
    exact lv_sipush hexec hb hd rfl (kk _ _ _ _ _ hI hl rfl rfl)
  case lconst n =>
    cases hex
    have hlen : len = 1 := of_decide_eq_true hck
    subst hlen
    exact lv_lconst hexec hb hd rfl (kk _ _ _ _ _ hI hl rfl rfl)
  case ldc n =>
    cases hex
    simp only [rf_ck, Bool.and_eq_true, decide_eq_true_eq] at hck
    obtain ⟨rfl, hck⟩ := hck
    exact lv_ldc hexec hb hown (rf_w_in hTw hts hck) hd (kk _ _ _ _ _ hI hl rfl rfl)
  case ldc_w n =>
    cases hex
    simp only [rf_ck, Bool.and_eq_true, decide_eq_true_eq] at hck
    obtain ⟨rfl, hck⟩ := hck
    exact lv_ldcw hexec hb hown (rf_w_in hTw hts hck) hd (kk _ _ _ _ _ hI hl rfl rfl)
  case ldc2_w n =>
    cases hex
    simp only [rf_ck, Bool.and_eq_true, decide_eq_true_eq] at hck
    obtain ⟨rfl, hck⟩ := hck
    exact lv_ldc2 hexec hb hown (rf_w_in hTw hts hck) hd (kk _ _ _ _ _ hI hl rfl rfl)
  case iload_n k =>
    obtain ⟨v, h1, h2, h3⟩ := rf_load hex
    obtain ⟨x, rfl⟩ := rf_kd0 h2
    cases h3
    have hlen : len = 1 := of_decide_eq_true hck
    subst hlen
    exact lv_iload_n hexec hb hd rfl (rf_at hl h1).1 (kk _ _ _ _ _ hI hl rfl rfl)
  case iload k =>
    obtain ⟨v, h1, h2, h3⟩ := rf_load hex
    obtain ⟨x, rfl⟩ := rf_kd0 h2
    cases h3
    have hlen : len = 2 := of_decide_eq_true hck
    subst hlen
    exact lv_iload hexec hb hd (rf_at hl h1).1 (kk _ _ _ _ _ hI hl rfl rfl)
  case lload_n k =>
    obtain ⟨v, h1, h2, h3⟩ := rf_load hex
    obtain ⟨x, rfl⟩ := rf_kd1 h2
    cases h3
    have hlen : len = 1 := of_decide_eq_true hck
    subst hlen
    exact lv_lload_n hexec hb hd rfl (rf_at hl h1).1 (kk _ _ _ _ _ hI hl rfl rfl)
  case lload k =>
    obtain ⟨v, h1, h2, h3⟩ := rf_load hex
    obtain ⟨x, rfl⟩ := rf_kd1 h2
    cases h3
    have hlen : len = 2 := of_decide_eq_true hck
    subst hlen
    exact lv_lload hexec hb hd (rf_at hl h1).1 (kk _ _ _ _ _ hI hl rfl rfl)
  case aload_n k =>
    obtain ⟨v, h1, h2, h3⟩ := rf_load hex
    obtain ⟨x, rfl⟩ := rf_kd2 h2
    cases h3
    have hlen : len = 1 := of_decide_eq_true hck
    subst hlen
    exact lv_aload_n hexec hb hd rfl (rf_at hl h1).1 (kk _ _ _ _ _ hI hl rfl rfl)
  case aload k =>
    obtain ⟨v, h1, h2, h3⟩ := rf_load hex
    obtain ⟨x, rfl⟩ := rf_kd2 h2
    cases h3
    have hlen : len = 2 := of_decide_eq_true hck
    subst hlen
    exact lv_aload hexec hb hd (rf_at hl h1).1 (kk _ _ _ _ _ hI hl rfl rfl)
  case istore_n k =>
    obtain ⟨v, rest, rfl, h2, ⟨h9, -, -⟩ | ⟨-, h4, h3⟩⟩ := rf_store hex
    · cases h9
    · obtain ⟨x, rfl⟩ := rf_kd0 h2
      cases h3
      have hlen : len = 1 := of_decide_eq_true hck
      subst hlen
      exact lv_istore_n hexec hb hd rfl hl h4 rfl (fun ls' hl' => kk _ _ _ _ ls' hI hl' rfl rfl)
  case istore k =>
    obtain ⟨v, rest, rfl, h2, ⟨h9, -, -⟩ | ⟨-, h4, h3⟩⟩ := rf_store hex
    · cases h9
    · obtain ⟨x, rfl⟩ := rf_kd0 h2
      cases h3
      have hlen : len = 2 := of_decide_eq_true hck
      subst hlen
      exact lv_istore hexec hb hd hl h4 rfl (fun ls' hl' => kk _ _ _ _ ls' hI hl' rfl rfl)
  case astore_n k =>
    obtain ⟨v, rest, rfl, h2, ⟨h9, -, -⟩ | ⟨-, h4, h3⟩⟩ := rf_store hex
    · cases h9
    · obtain ⟨x, rfl⟩ := rf_kd2 h2
      cases h3
      have hlen : len = 1 := of_decide_eq_true hck
      subst hlen
      exact lv_astore_n hexec hb hd rfl hl h4 rfl (fun ls' hl' => kk _ _ _ _ ls' hI hl' rfl rfl)
  case astore k =>
    obtain ⟨v, rest, rfl, h2, ⟨h9, -, -⟩ | ⟨-, h4, h3⟩⟩ := rf_store hex
    · cases h9
    · obtain ⟨x, rfl⟩ := rf_kd2 h2
      cases h3
      have hlen : len = 2 := of_decide_eq_true hck
      subst hlen
      exact lv_astore hexec hb hd hl h4 rfl (fun ls' hl' => kk _ _ _ _ ls' hI hl' rfl rfl)
  case lstore_n k =>
    obtain ⟨v, rest, rfl, h2, ⟨-, h4, h3⟩ | ⟨h9, -, -⟩⟩ := rf_store hex
    · obtain ⟨x, rfl⟩ := rf_kd1 h2
      cases h3
      have hlen : len = 1 := of_decide_eq_true hck
      subst hlen
      exact lv_lstore_n hexec hb hd rfl hl h4 rfl (fun ls' hl' => kk _ _ _ _ ls' hI hl' rfl rfl)
    · exact absurd rfl h9
  case lstore k =>
    obtain ⟨v, rest, rfl, h2, ⟨-, h4, h3⟩ | ⟨h9, -, -⟩⟩ := rf_store hex
    · obtain ⟨x, rfl⟩ := rf_kd1 h2
      cases h3
      have hlen : len = 2 := of_decide_eq_true hck
      subst hlen
      exact lv_lstore hexec hb hd hl h4 rfl (fun ls' hl' => kk _ _ _ _ ls' hI hl' rfl rfl)
    · exact absurd rfl h9
  case iinc i n =>
    have hlen : len = 3 := of_decide_eq_true hck
    subst hlen
    simp only [mm_ex] at hex
    split at hex
    · rename_i x hg
      split at hex
      · rename_i hi
        cases hex
        obtain ⟨-, k, hk⟩ := rf_at hl hg
        exact lv_iinc hexec hb hd hl hk rfl hi rfl (fun ls' hl' => kk _ _ _ _ ls' hI hl' rfl rfl)
      · cases hex
    · cases hex
  case iadd =>
    obtain ⟨y, x, rest, v, rfl, h2, h3⟩ := rf_bin hex
    cases h2
    cases h3
    have hlen : len = 1 := of_decide_eq_true hck
    subst hlen
    exact lv_iadd hexec hb hd (kk _ _ _ _ _ hI hl rfl rfl)
  case isub =>
    obtain ⟨y, x, rest, v, rfl, h2, h3⟩ := rf_bin hex
    cases h2
    cases h3
    have hlen : len = 1 := of_decide_eq_true hck
    subst hlen
    exact lv_isub hexec hb hd (kk _ _ _ _ _ hI hl rfl rfl)
  case imul =>
    obtain ⟨y, x, rest, v, rfl, h2, h3⟩ := rf_bin hex
    cases h2
    cases h3
    have hlen : len = 1 := of_decide_eq_true hck
    subst hlen
    exact lv_imul hexec hb hd (kk _ _ _ _ _ hI hl rfl rfl)
  case idiv =>
    obtain ⟨y, x, rest, v, rfl, h2, h3⟩ := rf_bin hex
    cases h3
    have hlen : len = 1 := of_decide_eq_true hck
    subst hlen
    split at h2
    · cases h2
    · rename_i hy
      cases h2
      exact lv_idiv hexec hb hd hy (kk _ _ _ _ _ hI hl rfl rfl)
  case irem =>
    obtain ⟨y, x, rest, v, rfl, h2, h3⟩ := rf_bin hex
    cases h3
    have hlen : len = 1 := of_decide_eq_true hck
    subst hlen
    split at h2
    · cases h2
    · rename_i hy
      cases h2
      exact lv_irem hexec hb hd hy (kk _ _ _ _ _ hI hl rfl rfl)
  case iand =>
    obtain ⟨y, x, rest, v, rfl, h2, h3⟩ := rf_bin hex
    cases h2
    cases h3
    have hlen : len = 1 := of_decide_eq_true hck
    subst hlen
    exact lv_iand hexec hb hd (kk _ _ _ _ _ hI hl rfl rfl)
  case ior =>
    obtain ⟨y, x, rest, v, rfl, h2, h3⟩ := rf_bin hex
    cases h2
    cases h3
    have hlen : len = 1 := of_decide_eq_true hck
    subst hlen
    exact lv_ior hexec hb hd (kk _ _ _ _ _ hI hl rfl rfl)
  case ixor =>
    obtain ⟨y, x, rest, v, rfl, h2, h3⟩ := rf_bin hex
    cases h2
    cases h3
    have hlen : len = 1 := of_decide_eq_true hck
    subst hlen
    exact lv_ixor hexec hb hd (kk _ _ _ _ _ hI hl rfl rfl)
  case ishl =>
    obtain ⟨y, x, rest, v, rfl, h2, h3⟩ := rf_bin hex
    cases h2
    cases h3
    have hlen : len = 1 := of_decide_eq_true hck
    subst hlen
    exact lv_ishl hexec hb hd (kk _ _ _ _ _ hI hl rfl rfl)
  case ishr =>
    obtain ⟨y, x, rest, v, rfl, h2, h3⟩ := rf_bin hex
    cases h2
    cases h3
    have hlen : len = 1 := of_decide_eq_true hck
    subst hlen
    exact lv_ishr hexec hb hd (kk _ _ _ _ _ hI hl rfl rfl)
  case iushr =>
    obtain ⟨y, x, rest, v, rfl, h2, h3⟩ := rf_bin hex
    cases h2
    cases h3
    have hlen : len = 1 := of_decide_eq_true hck
    subst hlen
    exact lv_iushr hexec hb hd rfl (kk _ _ _ _ _ hI hl rfl rfl)
  case ineg =>
    obtain ⟨x, rest, rfl, h3⟩ := rf_un hex
    cases h3
    have hlen : len = 1 := of_decide_eq_true hck
    subst hlen
    exact lv_ineg hexec hb hd (kk _ _ _ _ _ hI hl rfl rfl)
  case i2l =>
    obtain ⟨x, rest, rfl, h3⟩ := rf_un hex
    cases h3
    have hlen : len = 1 := of_decide_eq_true hck
    subst hlen
    exact lv_i2l hexec hb hd rfl (kk _ _ _ _ _ hI hl rfl rfl)
  case i2b =>
    obtain ⟨x, rest, rfl, h3⟩ := rf_un hex
    cases h3
    have hlen : len = 1 := of_decide_eq_true hck
    subst hlen
    exact lv_i2b hexec hb hd rfl (kk _ _ _ _ _ hI hl rfl rfl)
  case i2c =>
    obtain ⟨x, rest, rfl, h3⟩ := rf_un hex
    cases h3
    have hlen : len = 1 := of_decide_eq_true hck
    subst hlen
    exact lv_i2c hexec hb hd rfl (kk _ _ _ _ _ hI hl rfl rfl)
  case l2i =>
    have hlen : len = 1 := of_decide_eq_true hck
    subst hlen
    simp only [mm_ex] at hex
    split at hex
    · cases hex
      exact lv_l2i hexec hb hd rfl (kk _ _ _ _ _ hI hl rfl rfl)
    · cases hex
  case ladd =>
    obtain ⟨y, x, rest, rfl, h3⟩ := rf_binL hex
    cases h3
    have hlen : len = 1 := of_decide_eq_true hck
    subst hlen
    exact lv_ladd hexec hb hd (kk _ _ _ _ _ hI hl rfl rfl)
  case lmul =>
    obtain ⟨y, x, rest, rfl, h3⟩ := rf_binL hex
    cases h3
    have hlen : len = 1 := of_decide_eq_true hck
    subst hlen
    exact lv_lmul hexec hb hd (kk _ _ _ _ _ hI hl rfl rfl)
  case lcmp =>
    obtain ⟨y, x, rest, rfl, h3⟩ := rf_binL hex
    cases h3
    have hlen : len = 1 := of_decide_eq_true hck
    subst hlen
    exact W.lcmp hexec hb hd (kk _ _ _ _ _ hI hl rfl rfl)
  case dup =>
    have hlen : len = 1 := of_decide_eq_true hck
    subst hlen
    simp only [mm_ex] at hex
    split at hex
    · split at hex
      · cases hex
        exact lv_dup hexec hb hd (by assumption) (kk _ _ _ _ _ hI hl rfl rfl)
      · cases hex
    · cases hex
  case pop =>
    have hlen : len = 1 := of_decide_eq_true hck
    subst hlen
    simp only [mm_ex] at hex
    split at hex
    · split at hex
      · cases hex
        exact lv_pop hexec hb hd (by assumption) (kk _ _ _ _ _ hI hl rfl rfl)
      · cases hex
    · cases hex
  case dup2 =>
    have hlen : len = 1 := of_decide_eq_true hck
    subst hlen
    simp only [mm_ex] at hex
    split at hex
    · split at hex
      · rename_i hc2
        cases hex
        exact lv_dup2_11 hexec hb hd hc2.1 hc2.2 (kk _ _ _ _ _ hI hl rfl rfl)
      · cases hex
    · cases hex
  case if_icmp k off =>
    simp only [rf_ck, Bool.and_eq_true, decide_eq_true_eq] at hck
    obtain ⟨rfl, h0⟩ := hck
    have ht := rf_tgt h0
    simp only [mm_ex] at hex
    split at hex
    · rename_i y x rest
      have kt : mm_cond k x y = true → W p l e R s m args below meth c H locs cells slots Q (F0 m ((pc : Int) + off).toNat ls rest) := by
        intro hc
        rw [if_pos hc] at hex
        obtain ⟨-, h3⟩ := rf_jump hex
        cases h3
        exact kk _ _ _ _ _ hI hl rfl rfl
      have kf : ¬ mm_cond k x y = true → W p l e R s m args below meth c H locs cells slots Q (F0 m (pc + 3) ls rest) := by
        intro hc
        rw [if_neg hc] at hex
        cases hex
        exact kk _ _ _ _ _ hI hl rfl rfl
      cases k
      · exact lv_icmp_eq hexec hb hd ht (fun hc => kt (by simpa [mm_cond] using hc)) (fun hc => kf (by simpa [mm_cond] using hc))
      · exact lv_icmp_ne hexec hb hd ht (fun hc => kt (by simpa [mm_cond] using hc)) (fun hc => kf (by simpa [mm_cond] using hc))
      · exact lv_icmp_lt hexec hb hd ht (fun hc => kt (by simpa [mm_cond] using hc)) (fun hc => kf (by simpa [mm_cond] using hc))
      · exact lv_icmp_ge hexec hb hd ht (fun hc => kt (by simpa [mm_cond] using hc)) (fun hc => kf (by simpa [mm_cond] using hc))
      · exact lv_icmp_gt hexec hb hd ht (fun hc => kt (by simpa [mm_cond] using hc)) (fun hc => kf (by simpa [mm_cond] using hc))
      · exact lv_icmp_le hexec hb hd ht (fun hc => kt (by simpa [mm_cond] using hc)) (fun hc => kf (by simpa [mm_cond] using hc))
    · cases hex
  case ifCond k off =>
    simp only [rf_ck, Bool.and_eq_true, decide_eq_true_eq] at hck
    obtain ⟨rfl, h0⟩ := hck
    have ht := rf_tgt h0
    simp only [mm_ex] at hex
    split at hex
    · rename_i x rest
      have kt : mm_cond k x 0 = true → W p l e R s m args below meth c H locs cells slots Q (F0 m ((pc : Int) + off).toNat ls rest) := by
        intro hc
        rw [if_pos hc] at hex
        obtain ⟨-, h3⟩ := rf_jump hex
        cases h3
        exact kk _ _ _ _ _ hI hl rfl rfl
      have kf : ¬ mm_cond k x 0 = true → W p l e R s m args below meth c H locs cells slots Q (F0 m (pc + 3) ls rest) := by
        intro hc
        rw [if_neg hc] at hex
        cases hex
        exact kk _ _ _ _ _ hI hl rfl rfl
      cases k
      · exact lv_if_eq hexec hb hd ht (fun hc => kt (by simpa [mm_cond] using hc)) (fun hc => kf (by simpa [mm_cond] using hc))
      · exact lv_if_ne hexec hb hd ht (fun hc => kt (by simpa [mm_cond] using hc)) (fun hc => kf (by simpa [mm_cond] using hc))
      · exact lv_if_lt hexec hb hd ht (fun hc => kt (by simpa [mm_cond] using hc)) (fun hc => kf (by simpa [mm_cond] using hc))
      · exact lv_if_ge hexec hb hd ht (fun hc => kt (by simpa [mm_cond] using hc)) (fun hc => kf (by simpa [mm_cond] using hc))
      · exact lv_if_gt hexec hb hd ht (fun hc => kt (by simpa [mm_cond] using hc)) (fun hc => kf (by simpa [mm_cond] using hc))
      · exact lv_if_le hexec hb hd ht (fun hc => kt (by simpa [mm_cond] using hc)) (fun hc => kf (by simpa [mm_cond] using hc))
    · cases hex
  case goto off =>
    simp only [rf_ck, Bool.and_eq_true, decide_eq_true_eq] at hck
    obtain ⟨rfl, h0⟩ := hck
    obtain ⟨-, h3⟩ := rf_jump hex
    cases h3
    exact lv_goto hexec hb hd (rf_tgt h0) (kk _ _ _ _ _ hI hl rfl rfl)
  case tableswitch dflt lo hi offs =>
    simp only [mm_ex, mm_sw] at hex
    split at hex
    · rename_i x rest
      split at hex
      · rename_i hx
        obtain ⟨h0, h3⟩ := rf_jump hex
        cases h3
        exact lv_tableOut hexec hb hd hx (rf_tgt h0) (kk _ _ _ _ _ hI hl rfl rfl)
      · rename_i hx
        split at hex
        · rename_i off ho
          obtain ⟨h0, h3⟩ := rf_jump hex
          cases h3
          exact lv_tableIn hexec hb hd (fun q => hx (Or.inl q)) (fun q => hx (Or.inr q)) ho (rf_tgt h0) (kk _ _ _ _ _ hI hl rfl rfl)
        · cases hex
    · cases hex
  case getstatic i =>
    simp only [rf_ck, Bool.and_eq_true, decide_eq_true_eq] at hck
    obtain ⟨rfl, hck⟩ := hck
    split at hck
    · rename_i nm hnm
      obtain ⟨q, hq, hZ⟩ := hZs a nm hnm
      simp only [mm_ex, hq] at hex
      cases hex
      have hbA : E.1 ≤ s.heap.size := hbs
      exact va_gets hexec hb hZ hI.2.2 hown (rf_w_in hTw hts hck) (fun _ h9 => h9) hd (kk _ _ _ _ _ hI hl rfl rfl)
    · cases hck
  case iaload =>
    have hlen : len = 1 := of_decide_eq_true hck
    subst hlen
    simp only [mm_ex, mm_ald] at hex
    split at hex
    · rename_i i q rest
      split at hex
      · rename_i t n f hc
        split at hex
        · rename_i hh
          cases hex
          obtain ⟨k, rfl, hk⟩ := rf_cell hc
          obtain ⟨ht, hin⟩ := hh
          have ht : t = 0 := ht.elim id id
          subst ht
          exact va_iald hexec hb hK hI.2.1 k 0 (rf_ws_at hk) rfl (rf_inr hin) hd (kk _ _ _ _ _ hI hl rfl rfl)
        · cases hex
      · cases hex
      · split at hex
        · rename_i a0 n f hs
          split at hex
          · rename_i hh
            cases hex
            unfold mm_stat at hs
            split at hs
            · cases hs
            · have hq1 := List.find?_some hs
              have hq2 := List.mem_of_find?_eq_some hs
              have hq3 : a0 = q := by simpa using hq1
              subst hq3
              exact va_ti hexec hb (hTb _ hq2) hI.2.2 (rf_inr hh.2) rfl hd (kk _ _ _ _ _ hI hl rfl rfl)
          · cases hex
        · cases hex
    · cases hex
  case baload =>
    have hlen : len = 1 := of_decide_eq_true hck
    subst hlen
    simp only [mm_ex, mm_ald] at hex
    split at hex
    · rename_i i q rest
      split at hex
      · rename_i t n f hc
        split at hex
        · rename_i hh
          cases hex
          obtain ⟨k, rfl, hk⟩ := rf_cell hc
          obtain ⟨ht, hin⟩ := hh
          rcases ht with rfl | rfl
          · exact va_bald hexec hb hK hI.2.1 k 1 (rf_ws_at hk) rfl (rf_inr hin) hd (kk _ _ _ _ _ hI hl rfl rfl)
          · exact va_zald hexec hb hK hI.2.1 k 2 (rf_ws_at hk) rfl (rf_inr hin) hd (kk _ _ _ _ _ hI hl rfl rfl)
        · cases hex
      · cases hex
      · split at hex
        · split at hex
          · rename_i hh
            exact absurd hh.1 (by decide)
          · cases hex
        · cases hex
    · cases hex
  case iastore =>
    have hlen : len = 1 := of_decide_eq_true hck
    subst hlen
    simp only [mm_ex, mm_ast] at hex
    split at hex
    · rename_i x i q rest
      split at hex
      · rename_i t n f hc
        split at hex
        · rename_i hh
          cases hex
          obtain ⟨k, rfl, hk⟩ := rf_cell hc
          obtain ⟨ht, hin⟩ := hh
          have ht : t = 0 := ht.elim id id
          subst ht
          refine rf_iast hexec hb hK hI hk rfl (rf_inr hin) hd (fun H1 locs1 hI1 => ?_)
          refine kk _ _ _ _ _ ?_ hl rfl rfl
          rw [Nat.add_sub_cancel_left]
          exact hI1
        · cases hex
      · cases hex
    · cases hex
  case bastore =>
    have hlen : len = 1 := of_decide_eq_true hck
    subst hlen
    simp only [mm_ex, mm_ast] at hex
    split at hex
    · rename_i x i q rest
      split at hex
      · rename_i t n f hc
        split at hex
        · rename_i hh
          cases hex
          obtain ⟨k, rfl, hk⟩ := rf_cell hc
          obtain ⟨ht, hin⟩ := hh
          rcases ht with rfl | rfl
          · refine rf_bast hexec hb hK hI hk rfl (rf_inr hin) hd (fun H1 locs1 hI1 => ?_)
            refine kk _ _ _ _ _ ?_ hl rfl rfl
            rw [Nat.add_sub_cancel_left]
            exact hI1
          · refine rf_zast hexec hb hK hI hk rfl (rf_inr hin) hd (fun H1 locs1 hI1 => ?_)
            refine kk _ _ _ _ _ ?_ hl rfl rfl
            rw [Nat.add_sub_cancel_left]
            exact hI1
        · cases hex
      · cases hex
    · cases hex
  case laload =>
    have hlen : len = 1 := of_decide_eq_true hck
    subst hlen
    simp only [mm_ex, mm_lald] at hex
    split at hex
    · rename_i i q rest
      split at hex
      · rename_i t n f hc
        split at hex
        · rename_i hh
          cases hex
          obtain ⟨k, rfl, hk⟩ := rf_cell hc
          obtain ⟨rfl, hin⟩ := hh
          exact va_lald hexec hb hK hI.2.1 k 3 (rf_ws_at hk) rfl (rf_inr hin) hd (kk _ _ _ _ _ hI hl rfl rfl)
        · cases hex
      · cases hex
    · cases hex
  case lastore =>
    have hlen : len = 1 := of_decide_eq_true hck
    subst hlen
    simp only [mm_ex, mm_last] at hex
    split at hex
    · rename_i x i q rest
      split at hex
      · rename_i t n f hc
        split at hex
        · rename_i hh
          cases hex
          obtain ⟨k, rfl, hk⟩ := rf_cell hc
          obtain ⟨rfl, hin⟩ := hh
          refine rf_last hexec hb hK hI hk rfl (rf_inr hin) hd (fun H1 locs1 hI1 => ?_)
          refine kk _ _ _ _ _ ?_ hl rfl rfl
          rw [Nat.add_sub_cancel_left]
          exact hI1
        · cases hex
      · cases hex
    · cases hex
  case aaload =>
    have hlen : len = 1 := of_decide_eq_true hck
    subst hlen
    simp only [mm_ex, mm_aald] at hex
    split at hex
    · rename_i i q rest
      split at hex
      · rename_i t n f hc
        split at hex
        · rename_i hh
          cases hex
          obtain ⟨k, rfl, hk⟩ := rf_cell hc
          obtain ⟨rfl, hin⟩ := hh
          have hin := rf_inr hin
          have hlt : i.toNatClampNeg < n := Nat.not_le.mp fun q => hin (Or.inr q)
          exact W.aald (v := va_rf (f i.toNatClampNeg)) (ty := .array .int) hexec hb (hI.2.1 k _ (rf_ws_at hk)) ((hK.2 4 _ rfl).1 n (fun j => va_rf (f j))) rfl (fun q => by cases q) (by show ¬ (i < 0 ∨ (arrV _ _ _).slots.size ≤ _); rw [arrV_size]; exact hin) (by show (arrV _ _ _).slots[_]? = _; rw [arrV_read _ _ hlt]) rfl rfl hd (kk _ _ _ _ _ hI hl rfl rfl)
        · cases hex
      · cases hex
    · cases hex
  case arraylength =>
    have hlen : len = 1 := of_decide_eq_true hck
    subst hlen
    simp only [mm_ex, mm_alen] at hex
    split at hex
    · rename_i q rest
      split at hex
      · rename_i t n f hc
        split at hex
        · rename_i hh
          cases hex
          obtain ⟨k, rfl, hk⟩ := rf_cell hc
          obtain ⟨ty0, hty0⟩ : ∃ ty0, (rf_tys cA)[t]? = some (cA t, ty0) := by
            rcases t with _ | _ | _ | _ | _ | t
            · exact ⟨_, rfl⟩
            · exact ⟨_, rfl⟩
            · exact ⟨_, rfl⟩
            · exact ⟨_, rfl⟩
            · exact ⟨_, rfl⟩
            · exact absurd hh (Nat.not_lt.mpr (Nat.le_add_left 5 t))
          exact va_alen hexec hb hK hI.2.1 k t (rf_ws_at hk) hty0 rfl hd (kk _ _ _ _ _ hI hl rfl rfl)
        · cases hex
      · cases hex
      · split at hex
        · rename_i a0 n f hs
          cases hex
          unfold mm_stat at hs
          split at hs
          · cases hs
          · have hq1 := List.find?_some hs
            have hq2 := List.mem_of_find?_eq_some hs
            have hq3 : a0 = q := by simpa using hq1
            subst hq3
            exact va_tlen hexec hb (hTb _ hq2) hI.2.2 rfl hd (kk _ _ _ _ _ hI hl rfl rfl)
        · cases hex
    · cases hex
  case getfield i =>
    simp only [rf_ck, Bool.and_eq_true, decide_eq_true_eq] at hck
    obtain ⟨rfl, hck⟩ := hck
    split at hck
    · rename_i C TT N hcl
      simp only [Bool.and_eq_true, decide_eq_true_eq] at hck
      simp only [mm_ex, mm_getf] at hex
      split at hex
      · rename_i q rest
        split at hex
        · rename_i ci fs hc
          split at hex
          · rename_i hci
            split at hex
            · rename_i v hv
              cases hex
              obtain ⟨k, rfl, hk⟩ := rf_cell hc
              subst hci
              exact rf_get hexec hb hts hCl hown hK hI hk hcl hck.1 (rf_w_in hTw hts hck.2) hv hd (kk _ _ _ _ _ hI hl rfl rfl)
            · cases hex
          · cases hex
        · cases hex
      · cases hex
    · cases hck
  case putfield i =>
    simp only [rf_ck, Bool.and_eq_true, decide_eq_true_eq] at hck
    obtain ⟨rfl, hck⟩ := hck
    split at hck
    · rename_i C TT N hcl
      simp only [Bool.and_eq_true, decide_eq_true_eq] at hck
      obtain ⟨hbN, hwd, hfin⟩ := hck
      simp only [mm_ex] at hex
      split at hex
      · rename_i lk hlk
        split at hex
        · rename_i kd hkd
          simp only [mm_putf] at hex
          split at hex
          · rename_i v q rest
            split at hex
            · rename_i ci fs hc
              split at hex
              · rename_i hh
                cases hex
                obtain ⟨k, rfl, hk⟩ := rf_cell hc
                obtain ⟨rfl, hlt, hfit⟩ := hh
                obtain ⟨-, -, -, -, -, ks, hks, -, hall⟩ := hCl _ C TT N hcl
                cases hlk.symm.trans hks
                have e1 := (hall b hbN).1
                cases hkd.symm.trans e1
                refine rf_put hexec hb hts hCl hown hK hI hk hcl hbN (rf_w_in hTw hts hwd) ?_ hfit hlt hd (fun H1 locs1 hI1 => ?_)
                · simp only [Bool.or_eq_true, Bool.not_eq_true', Bool.and_eq_true, decide_eq_true_eq] at hfin
                  rcases hfin with hf | ⟨hf1, hf2⟩
                  · exact Or.inl hf
                  · exact Or.inr ⟨hini hf1, hf2⟩
                · refine kk _ _ _ _ _ ?_ hl rfl rfl
                  rw [Nat.add_sub_cancel_left]
                  exact hI1
              · cases hex
            · cases hex
          · cases hex
        · cases hex
      · cases hex
    · cases hck
  case new i =>
    simp only [rf_ck, Bool.and_eq_true, decide_eq_true_eq] at hck
    obtain ⟨rfl, hck⟩ := hck
    split at hck
    · rename_i C TT N hcl
      simp only [mm_ex] at hex
      split at hex
      · rename_i lk hlk
        simp only [mm_new] at hex
        split at hex
        · rename_i hh
          cases hex
          refine rf_new hexec hb hts hCl hown (rf_w_in hTw hts hck) hK hI hcl hlk (by omega) (by omega) hd (fun H1 hI1 => ?_)
          exact kk _ _ _ _ _ hI1 hl (by omega) (by omega)
        · cases hex
      · cases hex
    · cases hck
  case newarray t =>
    simp only [rf_ck, Bool.and_eq_true, decide_eq_true_eq] at hck
    obtain ⟨rfl, hck⟩ := hck
    have hwd := rf_w_in hTw hts hck
    simp only [mm_ex, mm_newa] at hex
    split at hex
    · rename_i n rest
      split at hex
      · rename_i hh
        obtain ⟨g1, g2, g3, g4⟩ := hh
        have hcl := rf_clamp g1 (M := 100000) g2
        cases t <;> simp only [reduceCtorEq, Option.some.injEq, Prod.mk.injEq] at hex <;> obtain ⟨rfl, rfl, rfl, rfl, rfl, rfl⟩ := hex
        · exact rf_newa hexec hb hwd rfl (t := 2) ((hK.2 2 _ rfl).2) hI (fun _ => rfl) (rf_nlt g1) rfl (by show n.toNatClampNeg * 1 ≤ 536870912; omega) (by omega) (by omega) hd (fun H1 hI1 => kk _ _ _ _ _ hI1 hl (by omega) (by omega))
        · exact rf_newa hexec hb hwd rfl (t := 1) ((hK.2 1 _ rfl).2) hI (fun _ => rfl) (rf_nlt g1) rfl (by show n.toNatClampNeg * 1 ≤ 536870912; omega) (by omega) (by omega) hd (fun H1 hI1 => kk _ _ _ _ _ hI1 hl (by omega) (by omega))
        · exact rf_newa hexec hb hwd rfl (t := 0) ((hK.2 0 _ rfl).2) hI (fun _ => rfl) (rf_nlt g1) rfl (by show n.toNatClampNeg * 4 ≤ 536870912; omega) (by omega) (by omega) hd (fun H1 hI1 => kk _ _ _ _ _ hI1 hl (by omega) (by omega))
        · exact rf_newa hexec hb hwd rfl (t := 3) ((hK.2 3 _ rfl).2) hI (fun _ => rfl) (rf_nlt g1) rfl (by show n.toNatClampNeg * 8 ≤ 536870912; omega) (by omega) (by omega) hd (fun H1 hI1 => kk _ _ _ _ _ hI1 hl (by omega) (by omega))
      · cases hex
    · cases hex
  case multianewarray i dims =>
    simp only [rf_ck, Bool.and_eq_true, decide_eq_true_eq] at hck
    obtain ⟨rfl, hck⟩ := hck
    have hwd := rf_w_in hTw hts hck
    rcases dims with _ | _ | _ | dims
    · cases hex
    · cases hex
    · simp only [mm_ex, mm_newm] at hex
      split at hex
      · rename_i k n rest
        split at hex
        · rename_i hh
          obtain ⟨g1, g2, g3, g4, g5, g6⟩ := hh
          have hn := rf_clamp g1 (M := 10000) g2
          have hk := rf_clamp g3 (M := 10000) g4
          cases hex
          exact rf_mna hexec hb hown hwd hAO (hts _ hAi) ((hK.2 0 _ rfl).2) ((hK.2 4 _ rfl).2) hI (rf_nlt g1) (rf_nlt g3) rfl rfl (by omega) (by omega) (by omega) (by omega) hd (fun H1 hI1 => kk _ _ _ _ _ hI1 hl (by omega) (by omega))
        · cases hex
      · cases hex
    · cases hex
  all_goals (exact absurd hex (by simp [mm_ex]))
end RFX
end
section
/-! THE REFINEMENT, whole runs: a big step of the mini machine, and the machine's contracts out of it -/
def mm_big (E : mm_E) (kds : List (List Nat)) (P : mm_T) : Nat → Nat → mm_F → mm_H → Option (Option Value × mm_H)
  | 0, _, _, _ => none
  | n + 1, d, (m, pc, lv, st, cb, sb), h => match mm_at P m pc with
    | none => none
    | some ((_, len, ins, a, b, z, _), nL, (_, _, _, rk, _, _)) => match mm_inv ins with
      | some ik => if d = 0 then none else if a < 2 then (match mm_sp E a ik lv st cb sb h (pc + len) with
          | some (pc', lv', st', cb', sb', h') => mm_big E kds P n d (m, pc', lv', st', cb', sb') h'
          | none => none)
        else (match P[a]? with
          | some (_, nL', np, kd, ci, _, mc, ms) => if kd = ik ∧ mc ≤ cb ∧ ms ≤ sb ∧ np ≤ st.length then
              (match mm_recv E h kd ci (st.drop np) with
              | some (rv, r) => if (r.map fun v => v.category).sum ≤ 8 ∧ (lg_sl (rv ++ (st.take np).reverse)).length ≤ nL' then
                  (match mm_big E kds P n (d - 1) (a, 0, lv_args 0 (rv ++ (st.take np).reverse), [], mc, ms) h with
                  | some (v1, h1) => mm_big E kds P n d (m, pc + len, lv, v1.toList ++ r, cb - mc, sb - ms) h1
                  | none => none) else none
              | none => none) else none
          | none => none)
      | none => match mm_rtn ins with
        | some ik => (match mm_ans rk ik st with
          | some v => some (v, h)
          | none => none)
        | none => match mm_ex E kds nL ins len a b z pc lv st cb sb h with
          | some (pc', lv', st', cb', sb', h') => mm_big E kds P n d (m, pc', lv', st', cb', sb') h'
          | none => none
abbrev rf_Y : Type := MethodName × ByteArray × Option FieldType
def rf_rk (rk : Nat) (ret : Option FieldType) : Bool := match ret with
  | none => decide (rk = 0)
  | some .int => decide (rk = 1)
  | some .boolean => decide (rk = 2)
  | some .long => decide (rk = 3)
  | _ => false
def rf_nlk (Tw : List Cond) (own : String) (w i : Nat) (y : MethodName) : Bool := match Tw[w]? with
  | some (.methodLinkNest o j y' _) => decide (o = own) && (decide (j = i) && decide (y' = y))
  | _ => false
/-- is an instruction as the table says -/
def rf_cks (Tw : List Cond) (cl : List vw_C) (SN : List (String × String × String)) (DS : List rf_Y) (nM : Nat) (own : String) (ini : Bool) (q : mm_I) : Bool := match q with
  | (pc, len, ins, a, b, z, w) => match ins with
    | .invokestatic i => decide (len = 3) && (match a with
      | 0 => false
      | 1 => rf_w Tw w (.methodLink own i arraycopyName)
      | a => decide (a < nM) && (match DS[a]? with
        | some y => rf_w Tw w (.methodLink own i y.1) || rf_nlk Tw own w i y.1
        | none => false))
    | .invokevirtual i => decide (len = 3) && (decide (2 ≤ a) && (decide (a < nM) && (match DS[a]? with
      | some y => rf_w Tw w (.methodLink own i y.1)
      | none => false)))
    | .invokespecial i => decide (len = 3) && (match a with
      | 0 => rf_w Tw w (.methodLink own i objectInit)
      | 1 => false
      | a => decide (a < nM) && (match DS[a]? with
        | some y => rf_w Tw w (.methodLink own i y.1)
        | none => false))
    | _ => rf_ck Tw cl SN own ini pc len ins a b z w
/-- a method as the words say -/
def rf_M (T : List Cond) (cl : List vw_C) (y : MethodName) (cc : ByteArray) (ret : Option FieldType) (nL np kd ci rk : Nat) : Prop :=
  Cond.code y cc nL ret ∈ T ∧ Cond.initialized y.cls ∈ T ∧ plainName y.cls = true ∧ (y.cls ≠ "java/lang/invoke/MethodHandle" ∧ y.cls ≠ "java/lang/invoke/VarHandle" ∧ (parseMethodDescriptor y.desc).map (fun d => d.parameters.length) = some np) ∧ rf_rk rk ret = true ∧ nL ≤ 40 ∧
  (kd = 0 → Cond.static y ∈ T) ∧ (kd = 1 → Cond.instanceMethod y ∈ T ∧ Cond.selects y.cls y y ∈ T ∧ ∃ TT N, cl[ci]? = some (y.cls, TT, N)) ∧ (kd = 2 → Cond.instanceMethod y ∈ T ∧ y.name = "<init>" ∧ ret = none)
def rf_P (P : mm_T) (DS : List rf_Y) (nM : Nat) (Tw T : List Cond) (cl : List vw_C) (SN : List (String × String × String)) : Prop := ∀ (k : Nat) (cs : List (List mm_I)) (nL np kd ci rk mc ms : Nat), P[k]? = some (cs, nL, np, kd, ci, rk, mc, ms) → 2 ≤ k → k < nM →
  ∃ y cc ret, DS[k]? = some (y, cc, ret) ∧ rf_M T cl y cc ret nL np kd ci rk ∧ ∀ ch ∈ cs, ∀ q ∈ ch, decode cc q.1 = .ok (q.2.2.1, q.2.1) ∧ rf_cks Tw cl SN DS nM y.cls (decide (y.name = "<init>")) q = true
def rf_G (T : List Cond) : Prop := Cond.arrayClass .int ∈ T ∧ Cond.instanceMethod objectInit ∈ T ∧ Cond.code objectInit ⟨#[0xb1]⟩ 1 none ∈ T ∧ Cond.native arraycopyName ∈ T ∧ Cond.static arraycopyName ∈ T ∧ Cond.initialized "java/lang/System" ∈ T
theorem rf_mmat {P : mm_T} {k pc : Nat} {q : mm_I} {nL : Nat} {dd : mm_M} (h : mm_at P k pc = some (q, nL, dd)) : ∃ cs, P[k]? = some (cs, nL, dd) ∧ q.1 = pc ∧ ∃ ch ∈ cs, q ∈ ch := by
  unfold mm_at at h
  split at h
  · rename_i cs nL' d hk
    split at h
    · rename_i ch hch
      cases hf : ch.find? (fun q => q.1 == pc) with
      | none => rw [hf] at h; cases h
      | some q' =>
        rw [hf] at h
        cases h
        have h1 := List.find?_some hf
        exact ⟨cs, hk, by simpa using h1, ch, List.mem_of_getElem? hch, List.mem_of_find?_eq_some hf⟩
    · cases h
  · cases h
def rf_rm (d mc ms : Nat) : Room := { frames := d, cells := mc, slots := ms, locals := 60 * d }
def rf_Pc (E : mm_E) (SN : List (String × String × String)) (Tw : List Cond) (D : va_G) (cl : List vw_C) (cA : Nat → ClassId) (av : List Value) (h : mm_H) : Array Value → State → Prop := fun v U => v = av.toArray ∧ rf_Cx E SN Tw D cl cA U ∧ U.heap.size = E.1 + h.length ∧ va_P D cl (rf_ws cA E.1 h) U.heap
def rf_Qc (E : mm_E) (D : va_G) (cl : List vw_C) (cA : Nat → ClassId) (v : Option Value) (h' : mm_H) : Array Value → State → Outcome → State → Prop := fun _ st oc t => oc = .returned v ∧ t.heap.size = E.1 + h'.length ∧ va_P D cl (rf_ws cA E.1 h') t.heap ∧ va_F (fun q : Nat => E.1 ≤ q) st t
theorem rf_Cx.same {E : mm_E} {SN : List (String × String × String)} {Tw : List Cond} {D : va_G} {cl : List vw_C} {cA : Nat → ClassId} {u U : State} (h : rf_Cx E SN Tw D cl cA u) (hv : u.vm = U.vm) (hh : U.heap = u.heap) : rf_Cx E SN Tw D cl cA U := by
  have hal : u.vm.Alike U.vm := by rw [hv]; exact Vm.Alike.refl U.vm
  obtain ⟨h1, h2, h3, h4, h5, h6⟩ := h
  refine ⟨va_K.moved hal h1, fun w hw hn => ?_, Jvm.Stand.arrayOver_alikeB hal h3, fun q hq => ?_, fun k nm hk => ?_, by rw [hh]; exact h6⟩
  · refine va_Nw.same ?_ hv (h2 w hw hn)
    cases w <;> first | rfl | exact absurd hn Bool.false_ne_true
  · rw [hh]; exact va_T.moved hal (h4 q hq)
  · obtain ⟨q, hq, hz⟩ := h5 k nm hk
    rw [hh]
    exact ⟨q, hq, va_Z.moved hal hz⟩
theorem rf_Cx.warm {E : mm_E} {SN : List (String × String × String)} {Tw : List Cond} {D : va_G} {cl : List vw_C} {cA : Nat → ClassId} {s U : State} (h : rf_Cx E SN Tw D cl cA s) (hW : s.WarmedH U.vm) (hz : E.1 ≤ U.heap.size) (hh : ∀ q : Nat, q < s.heap.size → ¬ E.1 ≤ q → U.heap[q]? = s.heap[q]?) : rf_Cx E SN Tw D cl cA U := by
  have hal := hW.alike
  obtain ⟨h1, h2, h3, h4, h5, h6⟩ := h
  refine ⟨va_K.moved hal h1, fun w hw hn => ?_, Jvm.Stand.arrayOver_alikeB hal h3, fun q hq => va_T.moved hal ((h4 q hq).kept hh), fun k nm hk => ?_, hz⟩
  · have h9 := h2 w hw hn
    cases w <;> first | exact va_Nw.warmM hW h9 | exact absurd hn Bool.false_ne_true
  · obtain ⟨q, hq, hz⟩ := h5 k nm hk
    exact ⟨q, hq, va_Z.moved hal (hz.kept hh)⟩
section RFB
variable {p : Program} {l : Launch} {e : Env} {R : Room} {s : State} {m : MethodId} {args : Array Value} {below : List Frame} {meth : Method} {c : Code} {H : Heap} {locs : List Loc} {cells slots : Nat} {Q : State → Prop}
variable {D : va_G} {cl : List vw_C} {cA : Nat → ClassId}
theorem rf_call {E : mm_E} {mc ms pc : Nat} {ls : Array Slot} {st0 rest : List Value} {a : Array Value} {v1 : Option Value} {h h1 : mm_H} (hr : va_Run p l e R s m args below meth c H locs cells slots mc ms (F0 m pc ls st0) rest (rf_Qc E D cl cA v1 h1 a) (fun q : Nat => E.1 ≤ q)) (hI : rf_I D cl cA E.1 s h H locs)
    (kk : ∀ (H1 : Heap) (locs1 : List Loc), rf_I D cl cA E.1 s h1 H1 locs1 → W p l e R s m args below meth c H1 locs1 (cells + mc) (slots + ms) Q (F0 m (pc + 3) ls (v1.toList ++ rest))) : W p l e R s m args below meth c H locs cells slots Q (F0 m pc ls st0) := by
  intro T hT X
  obtain ⟨v, st₀, t, T', L, h0, X', hL, e1, e2, ⟨hv, hz, hP, hF⟩, st⟩ := hr T hT X
  cases hv
  have hF1 := hF.1
  have hF2 := hF.2
  rw [h0, ← e1] at hF1
  rw [h0, ← e1] at hF2
  rw [← e1] at hz hP
  obtain ⟨t2, a1, b1⟩ := kk T'.heap (locs ++ L) ⟨hz, hP, Nat.le_trans hI.2.2.1 hF1, fun q g1 g2 => (hF2 q (Nat.lt_of_lt_of_le g1 hI.2.2.1) g2).trans (hI.2.2.2.1 q g1 g2), fun q hq => by
    rcases List.mem_append.mp hq with h | h
    · exact hI.2.2.2.2 q h
    · exact hL q h⟩ T' rfl X'
  exact ⟨t2, st t2 a1, b1⟩
end RFB
theorem rf_blind {E : mm_E} {SN : List (String × String × String)} {Tw : List Cond} {D : va_G} {cl : List vw_C} {cA : Nat → ClassId} {av : List Value} {h : mm_H} : FrameBlind (rf_Pc E SN Tw D cl cA av h) := by
  intro a U g mk q
  obtain ⟨q0, q1, q2, q3⟩ := q
  exact ⟨q0, q1.same rfl rfl, q2, q3⟩
theorem rf_pre {E : mm_E} {SN : List (String × String × String)} {Tw : List Cond} {D : va_G} {cl : List vw_C} {cA : Nat → ClassId} {s : State} {H : Heap} {locs : List Loc} {av : List Value} {h : mm_H} (hC : rf_Cx E SN Tw D cl cA s) (hI : rf_I D cl cA E.1 s h H locs) : PreS s H (rf_Pc E SN Tw D cl cA av h) av := by
  refine ⟨rf_blind, fun U hU hW => ⟨rfl, hC.warm hW ?_ ?_, by rw [hU]; exact hI.1, by rw [hU]; exact hI.2.1⟩⟩
  · rw [hU, hI.1]; exact Nat.le_add_right _ _
  · intro q h1 h2
    rw [hU]
    exact hI.2.2.2.1 q h1 h2
end
section
/-! THE REFINEMENT: what the mini machine's big step answers, the machine answers -/
theorem rf_nfw : nativeFrameWords "java/lang/System" "arraycopy" 5 = 7 := by decide
section RFW
variable {E : mm_E} {SN : List (String × String × String)} {Tw T : List Cond} {D : va_G} {cl : List vw_C} {cA : Nat → ClassId} {ty : Nat → Nat → FieldType} {kds : List (List Nat)} {P : mm_T} {DS : List rf_Y} {nM : Nat}
/-- a method's contract out of W of its body -/
theorem rf_met {l : Launch} {y : MethodName} {cc : ByteArray} {ret : Option FieldType} {nL np kd ci rk mc ms d : Nat} {av : List Value} {h h1 : mm_H} {v1 : Option Value} (hM : rf_M T cl y cc ret nL np kd ci rk) (hav : (lg_sl av).length ≤ nL)
    (body : ∀ {p : Program} {e : Env} {s : State} {m : MethodId} {args : Array Value} {below : List Frame} {meth : Method} {c : Code} {Q : State → Prop} {ls : Array Slot}, p.tables.exec = Jvm.exec → c.code = cc → c.maxLocals = nL → s.vm.findClass y.cls = some m.cls → (decide (y.name = "<init>") = true → meth.name = "<init>") → (∀ w ∈ T, w.before args s = true) → rf_Cx E SN Tw D cl cA s → lv_has ls nL (lv_args 0 av) → rf_I D cl cA E.1 s h s.heap [] →
      (∀ (H' : Heap) (locs' : List Loc) (cells' slots' : Nat) (pc' : Nat) (ls' : Array Slot) (st' : List Value) (ins : Instr) (ik : Nat), decode cc pc' = .ok (ins, 1) → mm_rtn ins = some ik → mm_ans rk ik st' = some v1 → rf_I D cl cA E.1 s h1 H' locs' → cells' ≤ mc → slots' ≤ ms → W p l e (rf_rm d mc ms) s m args below meth c H' locs' cells' slots' Q (F0 m pc' ls' st')) →
      W p l e (rf_rm d mc ms) s m args below meth c s.heap [] 0 0 Q (F0 m 0 ls [])) :
    Met l y (Cond.code y cc nL ret :: T) (rf_rm d mc ms) (rf_Pc E SN Tw D cl cA av h) (rf_Qc E D cl cA v1 h1) mc ms (fun q : Nat => E.1 ≤ q) := by
  obtain ⟨-, -, hpl, -, hrk, -⟩ := hM
  refine Met.ofW (cc := cc) (maxL := nL) (ret := ret) hpl rfl ?_
  intro p e s m args below meth c s₁ B hml hv
  obtain ⟨rfl, hC, hsz, hP⟩ := hv
  have hx := B.exec
  have hb := B.bytes
  have hr := B.returns
  have hts := atoms_spec (ws := Cond.code y cc nL ret :: T) B.pre
  have hown : s.vm.findClass y.cls = some m.cls := findClass_of_methodNamed B.named
  have hlocks := B.notSynchronized
  have hnm := (name_of_methodNamed B.named B.method).1
  have hl := lv_entry av (n := nL) hav
  rw [lg_entry_eq]
  refine body hx hb hml hown (fun q => hnm.trans (of_decide_eq_true q)) (fun w hw => hts w (List.mem_cons_of_mem _ hw)) hC hl ⟨hsz, hP, va_S.rf⟩ ?_
  intro H' locs' cells' slots' pc' ls' st' ins ik hdg hrt hans hI hcm hsm
  refine W.widen (k := mc) (n := ms) hcm hsm ?_
  have fin : ∀ t : State, t.heap = H' → ∀ oc, oc = Outcome.returned v1 → rf_Qc E D cl cA v1 h1 av.toArray s oc t := fun t ht oc hoc => ⟨hoc, by rw [ht]; exact hI.1, by rw [ht]; exact hI.2.1, hI.2.2.F ht⟩
  cases ins <;> simp only [mm_rtn, reduceCtorEq, Option.some.injEq] at hrt
  · -- ireturn
    subst hrt
    unfold mm_ans at hans
    split at hans
    · split at hans
      · rename_i hh; exact absurd hh.2 (by decide)
      · cases hans
    · rename_i v
      split at hans
      · rename_i hh
        cases hans
        rcases hh.2 with h9 | ⟨h9, h8⟩
        · subst h9
          have hret : ret = some .int := by
            unfold rf_rk at hrk
            split at hrk <;> simp_all
          rw [hret] at hr
          exact W.iret hx hb hr (fun t ht _ => fin t ht _ rfl) hI.2.2.2.2 hdg
        · subst h9
          have hret : ret = some .boolean := by
            unfold rf_rk at hrk
            split at hrk <;> simp_all
          rw [hret] at hr
          exact W.zret hx hb hr (by rcases h8 with h8 | h8 <;> subst h8 <;> rfl) (fun t ht _ => fin t ht _ rfl) hI.2.2.2.2 hdg
      · cases hans
    · split at hans
      · rename_i hh; exact absurd hh.1 (by decide)
      · cases hans
    · cases hans
  · -- lreturn
    subst hrt
    unfold mm_ans at hans
    split at hans
    · split at hans
      · rename_i hh; exact absurd hh.2 (by decide)
      · cases hans
    · split at hans
      · rename_i hh; exact absurd hh.1 (by decide)
      · cases hans
    · split at hans
      · rename_i hh
        cases hans
        obtain ⟨-, h9⟩ := hh
        subst h9
        have hret : ret = some .long := by
          unfold rf_rk at hrk
          split at hrk <;> simp_all
        rw [hret] at hr
        exact W.lret hx hb hr (fun t ht _ => fin t ht _ rfl) hI.2.2.2.2 hdg
      · cases hans
    · cases hans
  · -- return
    subst hrt
    unfold mm_ans at hans
    split at hans
    · split at hans
      · rename_i hh
        cases hans
        obtain ⟨h9, -⟩ := hh
        subst h9
        have hret : ret = none := by
          unfold rf_rk at hrk
          split at hrk <;> simp_all
        rw [hret] at hr
        exact W.vret hx hb hr (fun t ht _ => fin t ht _ rfl) hI.2.2.2.2 hdg
      · cases hans
    · split at hans
      · rename_i hh; exact absurd hh.1 (by decide)
      · cases hans
    · split at hans
      · rename_i hh; exact absurd hh.1 (by decide)
      · cases hans
    · cases hans
set_option maxHeartbeats 4000000 in
theorem rf_W (hTw : ∀ X ∈ Tw, goodWord X = true → X ∈ T) (hTg : ∀ X ∈ T, goodWord X = true) (hCl : rf_Cl cl ty kds T) (hPt : rf_P P DS nM Tw T cl SN) (hG : rf_G T) (l : Launch) : ∀ (n d k pc : Nat) (lv : mm_V) (st : List Value) (cb sb : Nat) (h : mm_H) (v : Option Value) (h' : mm_H), mm_big E kds P n d (k, pc, lv, st, cb, sb) h = some (v, h') →
    ∀ {p : Program} {e : Env} {R : Room} {s : State} {m : MethodId} {args : Array Value} {below : List Frame} {meth : Method} {c : Code} {H : Heap} {locs : List Loc} {cells slots : Nat} {Q : State → Prop} {ls : Array Slot} {cs : List (List mm_I)} {nL np kd ci rk mc ms : Nat} {own : String} {cc : ByteArray} {ini : Bool},
    P[k]? = some (cs, nL, np, kd, ci, rk, mc, ms) → (∀ ch ∈ cs, ∀ q ∈ ch, decode cc q.1 = .ok (q.2.2.1, q.2.1) ∧ rf_cks Tw cl SN DS nM own ini q = true) → p.tables.exec = Jvm.exec → c.code = cc → c.maxLocals = nL → s.vm.findClass own = some m.cls → (ini = true → meth.name = "<init>") → (∀ w ∈ T, w.before args s = true) → rf_Cx E SN Tw D cl cA s → lv_has ls nL lv → rf_I D cl cA E.1 s h H locs → cells + cb ≤ R.cells → slots + sb ≤ R.slots → d ≤ R.frames → 60 * d ≤ R.locals →
    (∀ (H' : Heap) (locs' : List Loc) (cells' slots' : Nat) (pc' : Nat) (ls' : Array Slot) (st' : List Value) (ins : Instr) (ik : Nat), decode cc pc' = .ok (ins, 1) → mm_rtn ins = some ik → mm_ans rk ik st' = some v → rf_I D cl cA E.1 s h' H' locs' → cells' ≤ cells + cb → slots' ≤ slots + sb → W p l e R s m args below meth c H' locs' cells' slots' Q (F0 m pc' ls' st')) →
    W p l e R s m args below meth c H locs cells slots Q (F0 m pc ls st) := by
  intro n
  induction n with
  | zero => intro d k pc lv st cb sb h v h' hh; cases hh
  | succ n ih =>
    intro d k pc lv st cb sb h v h' hh p e R s m args below meth c H locs cells slots Q ls cs nL np kd ci rk mc ms own cc ini hPk hcs hexec hb hml hown hini hts hC hl hI hcb hsb hdR hlR HR
    unfold mm_big at hh
    split at hh
    · cases hh
    · rename_i q0 len ins a b z w nL0 np0 kd0 ci0 rk0 mc0 ms0 hat
      obtain ⟨cs', hPk', hpc, ch, hch, hq⟩ := rf_mmat hat
      cases hPk.symm.trans hPk'
      obtain ⟨hd, hck⟩ := hcs ch hch _ hq
      replace hpc : q0 = pc := hpc
      subst hpc
      replace hd : decode cc q0 = .ok (ins, len) := hd
      split at hh
      · -- a call
        rename_i ik hinv
        split at hh
        · cases hh
        · rename_i hd0
          split at hh
          · -- a special callee
            rename_i ha2
            split at hh
            · rename_i pc' lv' st' cb' sb' h1 hsp
              unfold mm_sp at hsp
              split at hsp
              · -- Object.<init>
                rename_i ha0
                subst ha0
                split at hsp
                · rename_i a0 r
                  split at hsp
                  · rename_i hh2
                    obtain ⟨hik, hsum⟩ := hh2
                    cases hsp
                    cases ins <;> simp only [mm_inv, reduceCtorEq, Option.some.injEq] at hinv <;> subst hinv <;> first | (exact absurd hik (by decide)) | skip
                    simp only [rf_cks, Bool.and_eq_true, decide_eq_true_eq] at hck
                    obtain ⟨hlen, hck⟩ := hck
                    subst hlen
                    refine W.objInit hexec hb hown (rf_w_in hTw hts hck) (hts _ hG.2.1) (hts _ hG.2.2.1) rfl (by rw [hml]; exact hl.1) rfl hd (by omega) (by show 2 * 0 + _ + 12 ≤ _; omega) ?_
                    exact ih d k _ lv _ cb sb h v h' hh hPk hcs hexec hb hml hown hini hts hC hl hI hcb hsb hdR hlR HR
                  · cases hsp
                · cases hsp
              · -- System.arraycopy
                rename_i ha0
                have ha1 : a = 1 := by omega
                subst ha1
                split at hsp
                · rename_i hik
                  cases ins <;> simp only [mm_inv, reduceCtorEq, Option.some.injEq] at hinv <;> subst hinv <;> first | (exact absurd hik (by decide)) | skip
                  simp only [rf_cks, Bool.and_eq_true, decide_eq_true_eq] at hck
                  obtain ⟨hlen, hck⟩ := hck
                  subst hlen
                  unfold mm_copy at hsp
                  split at hsp
                  · rename_i nn dp a1 sp a0 r
                    split at hsp
                    · rename_i t0 n0 f t1 n1 g hc0 hc1
                      split at hsp
                      · rename_i hh2
                        obtain ⟨g1, g2, g3, g4, g5, g6, g7, g8⟩ := hh2
                        cases hsp
                        obtain ⟨k0, rfl, hk0⟩ := rf_cell hc0
                        obtain ⟨k1, rfl, hk1⟩ := rf_cell hc1
                        subst g1
                        subst g2
                        refine rf_copy hexec hb (hml.trans hl.1.symm) hown (rf_w_in hTw hts hck) (hts _ hG.2.2.2.1) (hts _ hG.2.2.2.2.1) (hts _ hG.2.2.2.2.2) hC.1 hI hk0 hk1 rfl rfl (rf_nlt g5) (rf_nlt g4) (rf_nlt g3) g6 g7 (by omega) (by rw [rf_nfw]; omega) hd (fun H1 locs1 hI1 => ?_)
                        rw [Nat.add_sub_cancel_left] at hh
                        exact ih d k _ lv _ cb sb _ v h' hh hPk hcs hexec hb hml hown hini hts hC hl hI1 hcb hsb hdR hlR HR
                      · cases hsp
                    · cases hsp
                  · cases hsp
                · cases hsp
            · cases hh
          · -- a method of the table
            rename_i ha2
            split at hh
            · rename_i cs1 nL1 np1 kd1 ci1 rk1 mc1 ms1 hPa
              split at hh
              · rename_i hh1
                obtain ⟨hkd, hmc, hms, hnp⟩ := hh1
                split at hh
                · rename_i rv r hrv
                  split at hh
                  · rename_i hh2
                    obtain ⟨hsum, hav⟩ := hh2
                    split at hh
                    · rename_i v1 h1 hbig
                      have hlt : a < nM := by
                        cases ins <;> simp only [mm_inv, reduceCtorEq, Option.some.injEq] at hinv <;> simp only [rf_cks, Bool.and_eq_true, decide_eq_true_eq] at hck
                        · split at hck
                          · omega
                          · exact absurd hck.2 (by decide)
                          · simp only [Bool.and_eq_true, decide_eq_true_eq] at hck; exact hck.2.1
                        · split at hck
                          · exact absurd hck.2 (by decide)
                          · omega
                          · simp only [Bool.and_eq_true, decide_eq_true_eq] at hck; exact hck.2.1
                        · exact hck.2.2.1
                      obtain ⟨y, cc1, ret1, hDS, hM, hcs1⟩ := hPt a cs1 nL1 np1 kd1 ci1 rk1 mc1 ms1 hPa (by omega) hlt
                      have hMet : Met l y (Cond.code y cc1 nL1 ret1 :: T) (rf_rm (d - 1) mc1 ms1) (rf_Pc E SN Tw D cl cA (rv ++ (st.take np1).reverse) h) (rf_Qc E D cl cA v1 h1) mc1 ms1 (fun q : Nat => E.1 ≤ q) := by
                        refine rf_met hM hav ?_
                        intro p e s m args below meth c Q ls hexec hb hml hown hini hts hC hl hI HR
                        refine ih (d - 1) a 0 _ [] mc1 ms1 h v1 h1 hbig hPa hcs1 hexec hb hml hown hini hts hC hl hI ?_ ?_ ?_ ?_ ?_
                        · show 0 + mc1 ≤ mc1; omega
                        · show 0 + ms1 ≤ ms1; omega
                        · exact Nat.le_refl _
                        · exact Nat.le_refl _
                        · intro H' locs' cells' slots' pc' ls' st' ins ik q1 q2 q3 q4 q5 q6
                          exact HR H' locs' cells' slots' pc' ls' st' ins ik q1 q2 q3 q4 (by omega) (by omega)
                      obtain ⟨mcode, mini, -, mdesc, -, mnL, mk0, mk1, mk2⟩ := hM
                      have hG1 : GoodIn T (Cond.code y cc1 nL1 ret1 :: T) := by
                        intro w hw
                        have hw2 : w ∈ T := by
                          rcases List.mem_cons.mp hw with h9 | h9
                          · rw [h9]; exact mcode
                          · exact h9
                        exact ⟨hw2, good_of_word (hTg w hw2)⟩
                      have hRm : (rf_rm (d - 1) mc1 ms1).frames + 1 ≤ R.frames ∧ 8 + (nL1 + 11) + (rf_rm (d - 1) mc1 ms1).locals ≤ R.locals := by
                        refine ⟨?_, ?_⟩
                        · show d - 1 + 1 ≤ _; omega
                        · show 8 + (nL1 + 11) + 60 * (d - 1) ≤ _; omega
                      have hgood : ∀ X, X ∈ T → X ∈ T ∧ ((X.onTables && X.keeps) = true ∨ ∃ ty, X = .arrayClass ty) := fun X hX => ⟨hX, good_of_word (hTg X hX)⟩
                      have hCF : CallFix p m c cc nL s args T own := ⟨hexec, hb, hml, hown, hts⟩
                      have hst : st = (st.take np1) ++ (st.drop np1) := (List.take_append_drop np1 st).symm
                      have hn1 : ((st.take np1).reverse).length = np1 := by rw [List.length_reverse, List.length_take]; omega
                      have next : ∀ (H1 : Heap) (locs1 : List Loc), rf_I D cl cA E.1 s h1 H1 locs1 → len = 3 → W p l e R s m args below meth c H1 locs1 (cells + mc1) (slots + ms1) Q (F0 m (q0 + 3) ls (v1.toList ++ r)) := by
                        intro H1 locs1 hI1 hlen
                        subst hlen
                        refine ih d k _ lv _ (cb - mc1) (sb - ms1) h1 v h' hh hPk hcs hexec hb hml hown hini hts hC hl hI1 (by omega) (by omega) hdR hlR ?_
                        intro H' locs' cells' slots' pc' ls' st' ins ik q1 q2 q3 q4 q5 q6
                        exact HR H' locs' cells' slots' pc' ls' st' ins ik q1 q2 q3 q4 (by omega) (by omega)
                      have wmem : ∀ {w X}, rf_w Tw w X = true → X ∈ T := by
                        intro w X hw
                        simp only [rf_w, Bool.and_eq_true, decide_eq_true_eq] at hw
                        exact hTw _ (List.mem_of_getElem? hw.1) hw.2
                      cases ins <;> simp only [mm_inv, reduceCtorEq, Option.some.injEq] at hinv <;> subst hinv <;> simp only [rf_cks, Bool.and_eq_true, decide_eq_true_eq] at hck
                      · -- invokespecial
                        rename_i i
                        obtain ⟨hlen, hck⟩ := hck
                        subst hkd
                        obtain ⟨hinst, hnm, hret⟩ := mk2 rfl
                        subst hret
                        have hlk : rf_w Tw w (.methodLink own i y) = true := by
                          split at hck
                          · omega
                          · exact absurd hck (by decide)
                          · rw [hDS] at hck
                            simp only [Bool.and_eq_true] at hck
                            exact hck.2
                        unfold mm_recv at hrv
                        rw [if_neg (by decide)] at hrv
                        split at hrv
                        · rename_i a0 r0 hdr
                          split at hrv
                          · rename_i c0 fs hc0
                            split at hrv
                            · cases hrv
                              subst hlen
                              rw [hst, hdr]
                              have hrun := va_runI (e := e) (below := below) (meth := meth) (b := a0) (As := (st.take np1).reverse) (rest := r) (H := H) (locs := locs) (cells := cells) (slots := slots) (g := F0 m q0 ls (st.take np1 ++ .ref a0 :: r)) hCF hMet (cwI np1 hts hG1 rfl rfl rfl (hts _ mini) (hts _ (wmem hlk)) (hts _ hinst) hnm mdesc hRm) (rf_pre hC hI) rfl hn1 hl.1 (by show st.take np1 ++ _ = _; rw [List.reverse_reverse]) (lv_room hsum) hd ⟨by omega, by omega⟩
                              exact rf_call hrun hI (fun H1 locs1 hI1 => next H1 locs1 hI1 rfl)
                            · cases hrv
                          · cases hrv
                        · cases hrv
                      · -- invokestatic
                        rename_i i
                        obtain ⟨hlen, hck⟩ := hck
                        subst hkd
                        have hsta := mk0 rfl
                        unfold mm_recv at hrv
                        rw [if_pos rfl] at hrv
                        cases hrv
                        subst hlen
                        have hlk : rf_w Tw w (.methodLink own i y) = true ∨ rf_nlk Tw own w i y = true := by
                          split at hck
                          · exact absurd hck (by decide)
                          · omega
                          · rw [hDS] at hck
                            simp only [Bool.and_eq_true, Bool.or_eq_true] at hck
                            exact hck.2
                        rw [hst]
                        rcases hlk with hlk | hlk
                        · have hGS : GoodIn T (va_wsS own i y (Cond.code y cc1 nL1 ret1 :: T)) := by
                            intro w hw
                            unfold va_wsS at hw
                            rcases List.mem_append.mp hw with h9 | h9
                            · simp only [List.mem_cons, List.not_mem_nil, or_false] at h9
                              rcases h9 with h9 | h9 | h9
                              · rw [h9]; exact hgood _ (wmem hlk)
                              · rw [h9]; exact hgood _ hsta
                              · rw [h9]; exact hgood _ mini
                            · exact hG1 w h9
                          have hrun := va_runS (e := e) (below := below) (meth := meth) (As := (st.take np1).reverse) (rest := st.drop np1) (H := H) (locs := locs) (cells := cells) (slots := slots) (g := F0 m q0 ls (st.take np1 ++ st.drop np1)) hCF hMet (va_cwS np1 hts hGS rfl rfl rfl mdesc hRm) (rf_pre hC hI) rfl hn1 hl.1 (by show st.take np1 ++ _ = _; rw [List.reverse_reverse]) (lv_room hsum) hd ⟨by omega, by omega⟩
                          exact rf_call hrun hI (fun H1 locs1 hI1 => next H1 locs1 hI1 rfl)
                        · unfold rf_nlk at hlk
                          split at hlk
                          · rename_i o j y' host hTwn
                            simp only [Bool.and_eq_true, decide_eq_true_eq] at hlk
                            obtain ⟨rfl, rfl, rfl⟩ := hlk
                            have hNw := hC.2.1 _ (List.mem_of_getElem? hTwn) rfl
                            have hrun := va_runSN (e := e) (below := below) (meth := meth) (As := (st.take np1).reverse) (rest := st.drop np1) (H := H) (locs := locs) (cells := cells) (slots := slots) (g := F0 m q0 ls (st.take np1 ++ st.drop np1)) hCF hMet ⟨va_cnB np1 hts hG1 rfl rfl rfl hNw (hts _ mini) mdesc hRm, hts _ hsta, trivial⟩ (rf_pre hC hI) rfl hn1 hl.1 (by show st.take np1 ++ _ = _; rw [List.reverse_reverse]) (lv_room hsum) hd ⟨by omega, by omega⟩
                            exact rf_call hrun hI (fun H1 locs1 hI1 => next H1 locs1 hI1 rfl)
                          · cases hlk
                      · -- invokevirtual
                        rename_i i
                        obtain ⟨hlen, -, -, hck⟩ := hck
                        subst hkd
                        obtain ⟨hinst, hsel, TT, N, hcl⟩ := mk1 rfl
                        rw [hDS] at hck
                        have hlk : rf_w Tw w (.methodLink own i y) = true := hck
                        unfold mm_recv at hrv
                        rw [if_neg (by decide)] at hrv
                        split at hrv
                        · rename_i a0 r0 hdr
                          split at hrv
                          · rename_i c0 fs hc0
                            split at hrv
                            · rename_i hc0e
                              subst hc0e
                              cases hrv
                              subst hlen
                              rw [hst, hdr]
                              have hGV : GoodIn T (wsV own i y.cls y (Cond.code y cc1 nL1 ret1 :: T)) := by
                                intro w hw
                                unfold wsV at hw
                                rcases List.mem_append.mp hw with h9 | h9
                                · simp only [List.mem_cons, List.not_mem_nil, or_false] at h9
                                  rcases h9 with h9 | h9 | h9 | h9
                                  · rw [h9]; exact hgood _ (wmem hlk)
                                  · rw [h9]; exact hgood _ hinst
                                  · rw [h9]; exact hgood _ hsel
                                  · rw [h9]; exact hgood _ mini
                                · exact hG1 w h9
                              obtain ⟨k9, rfl, hk9⟩ := rf_cell hc0
                              have hpre := rf_pre (av := Value.ref (E.1 + k9) :: (st.take np1).reverse) hC hI
                              have hrun := va_runV (e := e) (below := below) (meth := meth) (b := E.1 + k9) (As := (st.take np1).reverse) (rest := r) (H := H) (locs := locs) (cells := cells) (slots := slots) (g := F0 m q0 ls (st.take np1 ++ .ref (E.1 + k9) :: r)) hCF hMet (cwV np1 hts hGV rfl rfl rfl ⟨rfl, mdesc⟩ hRm) ⟨hpre.1, va_recv hC.1 hI.2.1 hcl (rf_ws_at hk9), hpre.2⟩ rfl hn1 hl.1 (by show st.take np1 ++ _ = _; rw [List.reverse_reverse]) (lv_room hsum) hd ⟨by omega, by omega⟩
                              exact rf_call hrun hI (fun H1 locs1 hI1 => next H1 locs1 hI1 rfl)
                            · cases hrv
                          · cases hrv
                        · cases hrv
                    · cases hh
                  · cases hh
                · cases hh
              · cases hh
            · cases hh
      · rename_i hinv
        split at hh
        · -- a return
          rename_i ik hrt
          split at hh
          · rename_i v2 hans
            cases hh
            have hlen : len = 1 := by
              cases ins <;> simp only [mm_rtn, reduceCtorEq] at hrt <;> exact of_decide_eq_true hck
            subst hlen
            exact HR H locs cells slots q0 ls st ins ik hd hrt hans hI (Nat.le_add_right _ _) (Nat.le_add_right _ _)
          · cases hh
        · -- a simple instruction
          rename_i hrt
          split at hh
          · rename_i pc' lv' st' cb' sb' h1 hex
            have hck2 : rf_ck Tw cl SN own ini q0 len ins a b z w = true := by
              cases ins <;> first | exact hck | (simp only [mm_inv, reduceCtorEq] at hinv)
            refine rf_ex hexec hb hTw hts hCl hown hini hC hG.1 hd hck2 hex hl hI hcb hsb ?_
            intro H' locs' cells' slots' ls' hI' hl' hc' hs'
            refine ih d k pc' lv' st' cb' sb' h1 v h' hh hPk hcs hexec hb hml hown hini hts hC hl' hI' (by omega) (by omega) hdR hlR ?_
            intro H2 locs2 cells2 slots2 pc2 ls2 st2 ins2 ik2 q1 q2 q3 q4 q5 q6
            exact HR H2 locs2 cells2 slots2 pc2 ls2 st2 ins2 ik2 q1 q2 q3 q4 (by omega) (by omega)
          · cases hh
end RFW
end
section
/-! THE ENGINE: the mini machine over codes. A code is a number: below 2^32 an int (2^31 more than it is); from 2^32 on a named int and what is added to it (65536 times the name, 32768 more than what is added); from 2 * 2^32 on the cell of that number; 3 * 2^32 null, 2 more any long, 3 more nothing known, from 16 more on a static array; from 4 * 2^32 on a named value; from 2^65 on a long; from 2^66 on an int from .. to. A row of codes is one number, 68 bits each, behind 32 bits: kind (1 int, 2 byte, 3 boolean, 4 long, 5 references, 6 + a class) and length. A place is 65536 times the method and the pc. -/
noncomputable def en_if {α : Type} (b : Bool) (t f : α) : α := Bool.rec (motive := fun _ => α) f t b
noncomputable def en_nth {α : Type} (d : α) (l : List α) : Nat → α := List.rec (motive := fun _ => Nat → α) (fun _ => d) (fun a _ ih i => Nat.rec (motive := fun _ => α) a (fun j _ => ih j) i) l
noncomputable def en_set {α : Type} (l : List α) : Nat → α → List α := List.rec (motive := fun _ => Nat → α → List α) (fun _ _ => []) (fun a r ih i v => Nat.rec (motive := fun _ => List α) (v :: r) (fun j _ => a :: ih j v) i) l
/-- the heap: a tree of cells, by numbers -/
abbrev en_H : Type := (((((((Nat × Nat) × Nat) × Nat) × ((Nat × Nat) × (Nat × Nat))) × ((((((Nat × (Nat × Nat)) × Nat) × Nat) × ((((Nat × Nat) × (Nat × (Nat × Nat))) × (((Nat × Nat) × Nat) × (Nat × (Nat × (Nat × Nat))))) × Nat)) × ((Nat × Nat) × Nat)) × (Nat × ((((Nat × Nat) × ((Nat × Nat) × ((Nat × Nat) × Nat))) × (((Nat × (Nat × Nat)) × ((Nat × Nat) × (Nat × Nat))) × (((Nat × Nat) × (Nat × Nat)) × ((Nat × Nat) × (Nat × Nat))))) × (((((Nat × Nat) × (Nat × Nat)) × ((Nat × Nat) × (Nat × Nat))) × (((Nat × Nat) × (Nat × Nat)) × ((Nat × Nat) × (Nat × Nat)))) × ((((Nat × Nat) × (Nat × Nat)) × ((Nat × Nat) × (Nat × (Nat × Nat)))) × ((((Nat × Nat) × (Nat × Nat)) × ((Nat × Nat) × Nat)) × (Nat × (Nat × (Nat × Nat)))))))))) × Nat) × ((((((Nat × Nat) × Nat) × (Nat × (Nat × Nat))) × (Nat × Nat)) × Nat) × ((((((((Nat × Nat) × Nat) × (Nat × Nat)) × (Nat × (Nat × Nat))) × Nat) × (Nat × (((Nat × Nat) × (Nat × Nat)) × ((Nat × Nat) × (Nat × Nat))))) × Nat) × (((Nat × Nat) × Nat) × (Nat × ((Nat × ((Nat × Nat) × (Nat × Nat))) × (((Nat × Nat) × (Nat × Nat)) × ((Nat × Nat) × ((Nat × Nat) × (Nat × Nat))))))))))
abbrev en_V : Type := List (Nat × Nat)
/-- a frame that waits: place, locals, stack, cells, slots, depth -/
abbrev en_F : Type := Nat × Nat × List Nat × Nat × Nat × Nat
/-- the rest of a state: cells, slots, depth, frames, cells made, ranges of named ints -/
abbrev en_W : Type := Nat × Nat × Nat × List en_F × Nat × en_V
/-- what goes on from a state: place, locals, stack, heap, rest -/
abbrev en_C : Type := Nat → Nat → List Nat → en_H → en_W → Bool
/-- an instruction -/
abbrev en_O : Type := Nat → List Nat → en_H → en_W → en_C → Bool
noncomputable def en_lg (t : Nat) (_ : Nat) : Nat := t
noncomputable def en_lp (_ : Nat) (_ N : Nat) : Nat := N
noncomputable def en_ng {α β : Type} (mid : Nat) (ga : α → Nat → Nat) (gb : β → Nat → Nat) (t : α × β) (k : Nat) : Nat := en_if (Nat.ble mid k) (gb t.2 k) (ga t.1 k)
noncomputable def en_np {α β : Type} (mid : Nat) (pa : α → Nat → Nat → α) (pb : β → Nat → Nat → β) (t : α × β) (k N : Nat) : α × β := en_if (Nat.ble mid k) (t.1, pb t.2 k N) (pa t.1 k N, t.2)
noncomputable def en_get : en_H → Nat → Nat := (en_ng 89 (en_ng 88 (en_ng 8 (en_ng 4 (en_ng 3 (en_ng 2 (en_ng 1 en_lg en_lg) en_lg) en_lg) (en_ng 6 (en_ng 5 en_lg en_lg) (en_ng 7 en_lg en_lg))) (en_ng 29 (en_ng 26 (en_ng 13 (en_ng 12 (en_ng 11 (en_ng 9 en_lg (en_ng 10 en_lg en_lg)) en_lg) en_lg) (en_ng 25 (en_ng 18 (en_ng 15 (en_ng 14 en_lg en_lg) (en_ng 16 en_lg (en_ng 17 en_lg en_lg))) (en_ng 21 (en_ng 20 (en_ng 19 en_lg en_lg) en_lg) (en_ng 22 en_lg (en_ng 23 en_lg (en_ng 24 en_lg en_lg))))) en_lg)) (en_ng 28 (en_ng 27 en_lg en_lg) en_lg)) (en_ng 30 en_lg (en_ng 52 (en_ng 37 (en_ng 32 (en_ng 31 en_lg en_lg) (en_ng 34 (en_ng 33 en_lg en_lg) (en_ng 36 (en_ng 35 en_lg en_lg) en_lg))) (en_ng 44 (en_ng 40 (en_ng 38 en_lg (en_ng 39 en_lg en_lg)) (en_ng 42 (en_ng 41 en_lg en_lg) (en_ng 43 en_lg en_lg))) (en_ng 48 (en_ng 46 (en_ng 45 en_lg en_lg) (en_ng 47 en_lg en_lg)) (en_ng 50 (en_ng 49 en_lg en_lg) (en_ng 51 en_lg en_lg))))) (en_ng 68 (en_ng 60 (en_ng 56 (en_ng 54 (en_ng 53 en_lg en_lg) (en_ng 55 en_lg en_lg)) (en_ng 58 (en_ng 57 en_lg en_lg) (en_ng 59 en_lg en_lg))) (en_ng 64 (en_ng 62 (en_ng 61 en_lg en_lg) (en_ng 63 en_lg en_lg)) (en_ng 66 (en_ng 65 en_lg en_lg) (en_ng 67 en_lg en_lg)))) (en_ng 77 (en_ng 72 (en_ng 70 (en_ng 69 en_lg en_lg) (en_ng 71 en_lg en_lg)) (en_ng 74 (en_ng 73 en_lg en_lg) (en_ng 75 en_lg (en_ng 76 en_lg en_lg)))) (en_ng 84 (en_ng 81 (en_ng 79 (en_ng 78 en_lg en_lg) (en_ng 80 en_lg en_lg)) (en_ng 83 (en_ng 82 en_lg en_lg) en_lg)) (en_ng 85 en_lg (en_ng 86 en_lg (en_ng 87 en_lg en_lg)))))))))) en_lg) (en_ng 98 (en_ng 97 (en_ng 95 (en_ng 92 (en_ng 91 (en_ng 90 en_lg en_lg) en_lg) (en_ng 93 en_lg (en_ng 94 en_lg en_lg))) (en_ng 96 en_lg en_lg)) en_lg) (en_ng 117 (en_ng 116 (en_ng 107 (en_ng 106 (en_ng 103 (en_ng 101 (en_ng 100 (en_ng 99 en_lg en_lg) en_lg) (en_ng 102 en_lg en_lg)) (en_ng 104 en_lg (en_ng 105 en_lg en_lg))) en_lg) (en_ng 108 en_lg (en_ng 112 (en_ng 110 (en_ng 109 en_lg en_lg) (en_ng 111 en_lg en_lg)) (en_ng 114 (en_ng 113 en_lg en_lg) (en_ng 115 en_lg en_lg))))) en_lg) (en_ng 120 (en_ng 119 (en_ng 118 en_lg en_lg) en_lg) (en_ng 121 en_lg (en_ng 126 (en_ng 122 en_lg (en_ng 124 (en_ng 123 en_lg en_lg) (en_ng 125 en_lg en_lg))) (en_ng 130 (en_ng 128 (en_ng 127 en_lg en_lg) (en_ng 129 en_lg en_lg)) (en_ng 132 (en_ng 131 en_lg en_lg) (en_ng 134 (en_ng 133 en_lg en_lg) (en_ng 135 en_lg en_lg))))))))))
noncomputable def en_put : en_H → Nat → Nat → en_H := (en_np 89 (en_np 88 (en_np 8 (en_np 4 (en_np 3 (en_np 2 (en_np 1 en_lp en_lp) en_lp) en_lp) (en_np 6 (en_np 5 en_lp en_lp) (en_np 7 en_lp en_lp))) (en_np 29 (en_np 26 (en_np 13 (en_np 12 (en_np 11 (en_np 9 en_lp (en_np 10 en_lp en_lp)) en_lp) en_lp) (en_np 25 (en_np 18 (en_np 15 (en_np 14 en_lp en_lp) (en_np 16 en_lp (en_np 17 en_lp en_lp))) (en_np 21 (en_np 20 (en_np 19 en_lp en_lp) en_lp) (en_np 22 en_lp (en_np 23 en_lp (en_np 24 en_lp en_lp))))) en_lp)) (en_np 28 (en_np 27 en_lp en_lp) en_lp)) (en_np 30 en_lp (en_np 52 (en_np 37 (en_np 32 (en_np 31 en_lp en_lp) (en_np 34 (en_np 33 en_lp en_lp) (en_np 36 (en_np 35 en_lp en_lp) en_lp))) (en_np 44 (en_np 40 (en_np 38 en_lp (en_np 39 en_lp en_lp)) (en_np 42 (en_np 41 en_lp en_lp) (en_np 43 en_lp en_lp))) (en_np 48 (en_np 46 (en_np 45 en_lp en_lp) (en_np 47 en_lp en_lp)) (en_np 50 (en_np 49 en_lp en_lp) (en_np 51 en_lp en_lp))))) (en_np 68 (en_np 60 (en_np 56 (en_np 54 (en_np 53 en_lp en_lp) (en_np 55 en_lp en_lp)) (en_np 58 (en_np 57 en_lp en_lp) (en_np 59 en_lp en_lp))) (en_np 64 (en_np 62 (en_np 61 en_lp en_lp) (en_np 63 en_lp en_lp)) (en_np 66 (en_np 65 en_lp en_lp) (en_np 67 en_lp en_lp)))) (en_np 77 (en_np 72 (en_np 70 (en_np 69 en_lp en_lp) (en_np 71 en_lp en_lp)) (en_np 74 (en_np 73 en_lp en_lp) (en_np 75 en_lp (en_np 76 en_lp en_lp)))) (en_np 84 (en_np 81 (en_np 79 (en_np 78 en_lp en_lp) (en_np 80 en_lp en_lp)) (en_np 83 (en_np 82 en_lp en_lp) en_lp)) (en_np 85 en_lp (en_np 86 en_lp (en_np 87 en_lp en_lp)))))))))) en_lp) (en_np 98 (en_np 97 (en_np 95 (en_np 92 (en_np 91 (en_np 90 en_lp en_lp) en_lp) (en_np 93 en_lp (en_np 94 en_lp en_lp))) (en_np 96 en_lp en_lp)) en_lp) (en_np 117 (en_np 116 (en_np 107 (en_np 106 (en_np 103 (en_np 101 (en_np 100 (en_np 99 en_lp en_lp) en_lp) (en_np 102 en_lp en_lp)) (en_np 104 en_lp (en_np 105 en_lp en_lp))) en_lp) (en_np 108 en_lp (en_np 112 (en_np 110 (en_np 109 en_lp en_lp) (en_np 111 en_lp en_lp)) (en_np 114 (en_np 113 en_lp en_lp) (en_np 115 en_lp en_lp))))) en_lp) (en_np 120 (en_np 119 (en_np 118 en_lp en_lp) en_lp) (en_np 121 en_lp (en_np 126 (en_np 122 en_lp (en_np 124 (en_np 123 en_lp en_lp) (en_np 125 en_lp en_lp))) (en_np 130 (en_np 128 (en_np 127 en_lp en_lp) (en_np 129 en_lp en_lp)) (en_np 132 (en_np 131 en_lp en_lp) (en_np 134 (en_np 133 en_lp en_lp) (en_np 135 en_lp en_lp))))))))))
def en_elt (N j : Nat) : Nat := Nat.mod (Nat.shiftRight N (Nat.add 32 (Nat.mul 68 j))) 295147905179352825856
def en_eset (N j v : Nat) : Nat := Nat.xor N (Nat.shiftLeft (Nat.xor (en_elt N j) v) (Nat.add 32 (Nat.mul 68 j)))
def en_kind (N : Nat) : Nat := Nat.mod N 256
def en_len (N : Nat) : Nat := Nat.mod (Nat.div N 256) 16777216
/-- a row of n times the code D -/
def en_rep (kind n D : Nat) : Nat := Nat.add (Nat.add kind (Nat.mul 256 n)) (Nat.mul 4294967296 (Nat.mul D (Nat.div (Nat.sub (Nat.pow 2 (Nat.mul 68 n)) 1) 295147905179352825855)))
/-- is a code an int, a long, a cell or a static array -/
noncomputable def en_isI (c : Nat) : Bool := en_if (Nat.ble c 8589934591) true (Nat.ble 73786976294838206464 c)
noncomputable def en_isL (c : Nat) : Bool := en_if (Nat.ble 36893488147419103232 c) (Nat.ble c 73786976294838206463) (Nat.beq c 12884901890)
noncomputable def en_isR (c : Nat) : Bool := en_if (Nat.ble 8589934592 c) (en_if (Nat.ble c 8589934727) true (en_if (Nat.ble 12884901904 c) (Nat.ble c 12884902911) false)) false
noncomputable def en_ev (w : en_W) : en_V := w.2.2.2.2.2
noncomputable def en_sev (w : en_W) (i : Nat) (q : Nat × Nat) : en_W := (w.1, w.2.1, w.2.2.1, w.2.2.2.1, w.2.2.2.2.1, en_set w.2.2.2.2.2 i q)
/-- an int from lo to hi -/
noncomputable def en_mk (lo hi : Nat) : Nat := en_if (Nat.beq lo hi) lo (Nat.add 73786976294838206464 (Nat.add (Nat.mul lo 4294967296) hi))
/-- from where to where an int goes; a named one with its name and what is added, if nothing wraps -/
noncomputable def en_iv {α : Type} (w : en_W) (c : Nat) (k : Nat → Nat → α) : α := en_if (Nat.ble c 4294967295) (k c c) (en_if (Nat.ble c 8589934591)
  (Prod.rec (motive := fun _ => α) (fun lo hi => en_if (Nat.ble 32768 (Nat.add lo (Nat.mod c 65536))) (en_if (Nat.ble (Nat.add hi (Nat.mod c 65536)) 4295000063) (k (Nat.sub (Nat.add lo (Nat.mod c 65536)) 32768) (Nat.sub (Nat.add hi (Nat.mod c 65536)) 32768)) (k 0 4294967295)) (k 0 4294967295)) (en_nth (0, 4294967295) (en_ev w) (Nat.div (Nat.sub c 4294967296) 65536)))
  (en_if (Nat.ble 73786976294838206464 c) (k (Nat.div (Nat.sub c 73786976294838206464) 4294967296) (Nat.mod c 4294967296)) (k 0 4294967295)))
/-- a named int is from lo to hi -/
noncomputable def en_ref (w : en_W) (c lo hi : Nat) (k : en_W → Bool) : Bool := en_if (Nat.ble lo hi) (en_if (Nat.ble c 4294967295) (k w) (en_if (Nat.ble c 8589934591)
  (Prod.rec (motive := fun _ => Bool) (fun l h => en_if (Nat.ble 32768 (Nat.add l (Nat.mod c 65536))) (en_if (Nat.ble (Nat.add h (Nat.mod c 65536)) 4295000063) (k (en_sev w (Nat.div (Nat.sub c 4294967296) 65536) (Nat.sub (Nat.add lo 32768) (Nat.mod c 65536), Nat.sub (Nat.add hi 32768) (Nat.mod c 65536)))) (k w)) (k w)) (en_nth (0, 4294967295) (en_ev w) (Nat.div (Nat.sub c 4294967296) 65536)))
  (k w))) true
noncomputable def en_all (f : Nat → Bool) (n : Nat) : Nat → Bool := Nat.rec (motive := fun _ => Nat → Bool) (fun lo => f lo) (fun _ ih lo => en_if (f lo) (ih (Nat.succ lo)) false) n
/-- an int that is to be known: it is; or a named one of few values, each of them, once more; or one of few values, each; or the rest -/
noncomputable def en_pt (w : en_W) (c : Nat) (k : Nat → Bool) (r : en_W → Bool) (o : Bool) : Bool :=
  en_if (Nat.ble c 4294967295) (k c) (en_iv w c (fun lo hi => en_if (Nat.beq lo hi) (k lo) (en_if (Nat.ble (Nat.sub hi lo) 300) (en_if (Nat.ble lo hi)
    (en_if (Nat.ble c 8589934591) (en_all (fun v => en_ref w c v v r) (Nat.sub hi lo) lo) (en_all k (Nat.sub hi lo) lo)) true) o)))
noncomputable def en_pop (st : List Nat) (k : Nat → List Nat → Bool) : Bool := List.rec (motive := fun _ => Bool) false (fun a r _ => k a r) st
noncomputable def en_push (q c : Nat) : en_O := fun loc st hp w ih => ih q loc (c :: st) hp w
noncomputable def en_load (t : Nat → Bool) (q i : Nat) : en_O := fun loc st hp w ih => en_if (t (en_elt loc i)) (ih q loc (en_elt loc i :: st) hp w) false
/-- the slot ahead holds no long and no value of a kind that isn't known -/
noncomputable def en_free (loc i : Nat) : Bool := Nat.rec (motive := fun _ => Bool) true (fun j _ => en_if (Nat.ble (en_elt loc j) 12884902911) (en_if (Nat.beq (en_elt loc j) 12884901890) false true) (Nat.ble 73786976294838206464 (en_elt loc j))) i
noncomputable def en_store (t : Nat → Bool) (q i : Nat) : en_O := fun loc st hp w ih => en_pop st (fun c r => en_if (t c) (en_if (en_free loc i) (ih q (en_eset loc i c) r hp w) false) false)
noncomputable def en_storeL (q i : Nat) : en_O := fun loc st hp w ih => en_pop st (fun c r => en_if (en_isL c) (en_if (en_free loc i) (ih q (en_eset (en_eset loc i c) (Nat.succ i) 12884901891) r hp w) false) false)
/-- two ints by a rule -/
noncomputable def en_bin (g : en_W → Nat → Nat → (Nat → Bool) → Bool) (q : Nat) : en_O := fun loc st hp w ih => en_pop st (fun y r => en_pop r (fun x r => en_if (en_isI x) (en_if (en_isI y) (g w x y (fun v => ih q loc (v :: r) hp w)) false) false))
noncomputable def en_nm (c n : Nat) : Nat := Nat.add (Nat.mul (Nat.div c 65536) 65536) n
noncomputable def en_addI (w : en_W) (x y : Nat) (k : Nat → Bool) : Bool := en_iv w x (fun a b => en_iv w y (fun c d => en_if (Nat.ble 2147483648 (Nat.add a c)) (en_if (Nat.ble (Nat.add b d) 6442450943) (k (en_mk (Nat.sub (Nat.add a c) 2147483648) (Nat.sub (Nat.add b d) 2147483648))) (k 73786976299133173759)) (k 73786976299133173759)))
/-- a named int and a known one -/
noncomputable def en_addN (w : en_W) (x y : Nat) (k : Nat → Bool) : Bool := en_if (Nat.ble 2147483648 (Nat.add (Nat.mod x 65536) y)) (en_if (Nat.ble (Nat.add (Nat.mod x 65536) y) 2147549183) (k (en_nm x (Nat.sub (Nat.add (Nat.mod x 65536) y) 2147483648))) (en_addI w x y k)) (en_addI w x y k)
noncomputable def en_add (w : en_W) (x y : Nat) (k : Nat → Bool) : Bool := en_if (Nat.ble y 4294967295) (en_if (Nat.ble x 4294967295) (k (Nat.mod (Nat.add (Nat.add x y) 2147483648) 4294967296)) (en_if (Nat.ble x 8589934591) (en_addN w x y k) (en_addI w x y k)))
  (en_if (Nat.ble x 4294967295) (en_if (Nat.ble y 8589934591) (en_addN w y x k) (en_addI w x y k)) (en_addI w x y k))
noncomputable def en_subI (w : en_W) (x y : Nat) (k : Nat → Bool) : Bool := en_iv w x (fun a b => en_iv w y (fun c d => en_if (Nat.ble d (Nat.add a 2147483648)) (en_if (Nat.ble (Nat.add b 2147483648) (Nat.add c 4294967295)) (k (en_mk (Nat.sub (Nat.add a 2147483648) d) (Nat.sub (Nat.add b 2147483648) c))) (k 73786976299133173759)) (k 73786976299133173759)))
noncomputable def en_sub (w : en_W) (x y : Nat) (k : Nat → Bool) : Bool := en_if (Nat.ble y 4294967295) (en_if (Nat.ble x 4294967295) (k (Nat.mod (Nat.sub (Nat.add x 6442450944) y) 4294967296)) (en_if (Nat.ble x 8589934591)
  (en_if (Nat.ble y (Nat.add (Nat.mod x 65536) 2147483648)) (en_if (Nat.ble (Nat.add (Nat.mod x 65536) 2147483648) (Nat.add y 65535)) (k (en_nm x (Nat.sub (Nat.add (Nat.mod x 65536) 2147483648) y))) (en_subI w x y k)) (en_subI w x y k)) (en_subI w x y k))) (en_subI w x y k)
noncomputable def en_mul (w : en_W) (x y : Nat) (k : Nat → Bool) : Bool := en_if (Nat.ble y 4294967295) (en_if (Nat.ble x 4294967295) (k (Nat.mod (Nat.add (Nat.mul (Nat.add x 2147483648) (Nat.add y 2147483648)) 2147483648) 4294967296)) (k 73786976299133173759)) (k 73786976299133173759)
/-- an int that is not below 0, by a known one above 0 -/
noncomputable def en_div (w : en_W) (x y : Nat) (k : Nat → Bool) : Bool := en_if (Nat.ble y 4294967295) (en_if (Nat.ble 2147483649 y) (en_iv w x (fun a b => en_if (Nat.ble 2147483648 a) (k (en_mk (Nat.add (Nat.div (Nat.sub a 2147483648) (Nat.sub y 2147483648)) 2147483648) (Nat.add (Nat.div (Nat.sub b 2147483648) (Nat.sub y 2147483648)) 2147483648))) false)) false) false
noncomputable def en_rem (w : en_W) (x y : Nat) (k : Nat → Bool) : Bool := en_if (Nat.ble y 4294967295) (en_if (Nat.ble 2147483649 y) (en_iv w x (fun a b => en_if (Nat.ble 2147483648 a) (en_if (Nat.beq (Nat.div (Nat.sub a 2147483648) (Nat.sub y 2147483648)) (Nat.div (Nat.sub b 2147483648) (Nat.sub y 2147483648)))
  (k (en_mk (Nat.add (Nat.mod (Nat.sub a 2147483648) (Nat.sub y 2147483648)) 2147483648) (Nat.add (Nat.mod (Nat.sub b 2147483648) (Nat.sub y 2147483648)) 2147483648))) (k (en_mk 2147483648 (Nat.sub y 1)))) false)) false) false
/-- rules of known ints that are not below 0, else any -/
noncomputable def en_pos (f : Nat → Nat → Nat) (x y : Nat) (k : Nat → Bool) : Bool := en_if (Nat.ble y 4294967295) (en_if (Nat.ble x 4294967295) (en_if (Nat.ble 2147483648 x) (en_if (Nat.ble 2147483648 y) (en_if (Nat.ble (f (Nat.sub x 2147483648) (Nat.sub y 2147483648)) 2147483647) (k (Nat.add (f (Nat.sub x 2147483648) (Nat.sub y 2147483648)) 2147483648)) (k 73786976299133173759)) (k 73786976299133173759)) (k 73786976299133173759)) (k 73786976299133173759)) (k 73786976299133173759)
noncomputable def en_and (_ : en_W) (x y : Nat) (k : Nat → Bool) : Bool := en_if (Nat.ble x 4294967295) (en_pos Nat.land x y k) (en_if (Nat.ble y 4294967295) (en_if (Nat.ble 2147483648 y) (k (en_mk 2147483648 y)) (k 73786976299133173759)) (k 73786976299133173759))
noncomputable def en_or (_ : en_W) (x y : Nat) (k : Nat → Bool) : Bool := en_pos Nat.lor x y k
noncomputable def en_shl (_ : en_W) (x y : Nat) (k : Nat → Bool) : Bool := en_if (Nat.ble y 2147483679) (en_pos (fun x y => Nat.shiftLeft x y) x y k) (k 73786976299133173759)
noncomputable def en_shr (_ : en_W) (x y : Nat) (k : Nat → Bool) : Bool := en_if (Nat.ble y 2147483679) (en_pos (fun x y => Nat.shiftRight x y) x y k) (k 73786976299133173759)
noncomputable def en_un (c q : Nat) : en_O := fun loc st hp w ih => en_pop st (fun x r => en_if (en_isI x) (ih q loc (c :: r) hp w) false)
/-- an int that is not below 0 as a long -/
noncomputable def en_i2l (q : Nat) : en_O := fun loc st hp w ih => en_pop st (fun x r => en_if (Nat.ble x 4294967295) (en_if (Nat.ble 2147483648 x) (ih q loc (Nat.add 36893488147419103232 (Nat.sub x 2147483648) :: r) hp w) (ih q loc (12884901890 :: r) hp w)) (en_if (en_isI x) (ih q loc (12884901890 :: r) hp w) false))
noncomputable def en_binL (f : Nat → Nat → Nat) (q : Nat) : en_O := fun loc st hp w ih => en_pop st (fun y r => en_pop r (fun x r => en_if (en_isL x) (en_if (en_isL y) (en_if (Nat.ble 36893488147419103232 x) (en_if (Nat.ble 36893488147419103232 y)
  (en_if (Nat.ble (f (Nat.sub x 36893488147419103232) (Nat.sub y 36893488147419103232)) 9223372036854775807) (ih q loc (Nat.add 36893488147419103232 (f (Nat.sub x 36893488147419103232) (Nat.sub y 36893488147419103232)) :: r) hp w) (ih q loc (12884901890 :: r) hp w)) (ih q loc (12884901890 :: r) hp w)) (ih q loc (12884901890 :: r) hp w)) false) false))
noncomputable def en_iinc (q i k : Nat) : en_O := fun loc st hp w ih => en_if (en_isI (en_elt loc i)) (en_if (en_free loc i) (en_add w (en_elt loc i) k (fun v => ih q (en_eset loc i v) st hp w)) false) false
/-- a value of one word -/
noncomputable def en_one (c : Nat) : Bool := en_if (Nat.ble c 12884902911) (en_if (Nat.beq c 12884901890) false (en_if (Nat.beq c 12884901891) false true)) (Nat.ble 73786976294838206464 c)
noncomputable def en_dup (q : Nat) : en_O := fun loc st hp w ih => en_pop st (fun x _ => en_if (en_one x) (ih q loc (x :: st) hp w) false)
noncomputable def en_drop (q : Nat) : en_O := fun loc st hp w ih => en_pop st (fun x r => en_if (en_one x) (ih q loc r hp w) false)
noncomputable def en_dup2 (q : Nat) : en_O := fun loc st hp w ih => en_pop st (fun x r => en_pop r (fun y _ => en_if (en_one x) (en_if (en_one y) (ih q loc (x :: y :: st) hp w) false) false))
/-- x < y: what goes on if so, if not -/
noncomputable def en_lt (x y : Nat) (w : en_W) (kt kf : en_W → Bool) : Bool := en_if (en_if (Nat.ble x 4294967295) (Nat.ble y 4294967295) false) (en_if (Nat.ble y x) (kf w) (kt w))
  (en_iv w x (fun a b => en_iv w y (fun c d => en_if (Nat.ble (Nat.succ b) c) (kt w) (en_if (Nat.ble d a) (kf w)
    (en_if (en_ref w x a (Nat.pred d) (fun w => en_ref w y (Nat.succ a) d kt)) (en_ref w x c b (fun w => en_ref w y c b kf)) false)))))
/-- a number is left out of a range's end -/
noncomputable def en_cut (w : en_W) (x a b c : Nat) (k : en_W → Bool) : Bool := en_if (Nat.beq c a) (en_ref w x (Nat.succ a) b k) (en_if (Nat.beq c b) (en_ref w x a (Nat.pred b) k) (k w))
noncomputable def en_eq (x y : Nat) (w : en_W) (kt kf : en_W → Bool) : Bool := en_if (en_if (Nat.ble x 4294967295) (Nat.ble y 4294967295) false) (en_if (Nat.beq x y) (kt w) (kf w))
  (en_if (en_if (Nat.beq x y) (Nat.ble x 8589934591) false) (kt w) (en_iv w x (fun a b => en_iv w y (fun c d => en_if (Nat.ble (Nat.succ b) c) (kf w) (en_if (Nat.ble (Nat.succ d) a) (kf w)
    (en_if (en_if (Nat.beq c d) (en_ref w x c c kt) (en_if (Nat.beq a b) (en_ref w y a a kt) (kt w))) (en_if (Nat.beq c d) (en_if (Nat.beq a b) true (en_cut w x a b c kf)) (en_if (Nat.beq a b) (en_cut w y c d a kf) (kf w))) false))))))
noncomputable def en_cmp (k : Jvm.ClassFile.Cond) (x y : Nat) (w : en_W) (kt kf : en_W → Bool) : Bool := Jvm.ClassFile.Cond.rec (motive := fun _ => Bool) (en_eq x y w kt kf) (en_eq x y w kf kt) (en_lt x y w kt kf) (en_lt x y w kf kt) (en_lt y x w kt kf) (en_lt y x w kf kt) k
noncomputable def en_icmp (k : Jvm.ClassFile.Cond) (qt qf : Nat) : en_O := fun loc st hp w ih => en_pop st (fun y r => en_pop r (fun x r => en_if (en_isI x) (en_if (en_isI y) (en_cmp k x y w (fun w => ih qt loc r hp w) (fun w => ih qf loc r hp w)) false) false))
noncomputable def en_if0 (k : Jvm.ClassFile.Cond) (qt qf : Nat) : en_O := fun loc st hp w ih => en_pop st (fun x r => en_if (en_isI x) (en_cmp k x 2147483648 w (fun w => ih qt loc r hp w) (fun w => ih qf loc r hp w)) false)
noncomputable def en_goto (q : Nat) : en_O := fun loc st hp w ih => ih q loc st hp w
/-- the switch: places by numbers from lo on -/
noncomputable def en_sw (q0 qd lo n : Nat) (qs : List Nat) : en_O := fun loc st hp w ih => en_pop st (fun x r => en_if (en_isI x)
  (en_pt w x (fun x => en_if (Nat.ble lo x) (en_if (Nat.ble x (Nat.add lo n)) (ih (en_nth qd qs (Nat.sub x lo)) loc r hp w) (ih qd loc r hp w)) (ih qd loc r hp w)) (fun w => ih q0 loc st hp w)
    (en_lt x lo w (fun w => ih qd loc r hp w) (fun w => en_lt (Nat.add lo n) x w (fun w => ih qd loc r hp w) (fun w => en_pt w x (fun _ => false) (fun w => ih q0 loc st hp w) false)))) false)
/-- an index that is known and in the row -/
noncomputable def en_idx (len i : Nat) (k : Nat → Bool) : Bool := en_if (Nat.ble 2147483648 i) (en_if (Nat.ble (Nat.succ (Nat.sub i 2147483648)) len) (k (Nat.sub i 2147483648)) false) false
/-- the cell of a code, or the static array -/
noncomputable def en_cell (c : Nat) (k : Nat → Bool) (s : Nat → Bool) : Bool := en_if (Nat.ble 8589934592 c) (en_if (Nat.ble c 8589934727) (k (Nat.sub c 8589934592)) (en_if (Nat.ble 12884901904 c) (en_if (Nat.ble c 12884902911) (s (Nat.sub c 12884901904)) false) false)) false
noncomputable def en_aload (SA : List (Nat × Nat)) (t : Nat → Bool) (q0 q : Nat) : en_O := fun loc st hp w ih => en_pop st (fun i r => en_pop r (fun a r =>
  en_if (en_isI i) (en_pt w i (fun i => en_cell a
    (fun a => en_if (t (en_kind (en_get hp a))) (en_idx (en_len (en_get hp a)) i (fun i => ih q loc (en_elt (en_get hp a) i :: r) hp w)) false)
    (fun s => en_if (t 1) (Prod.rec (motive := fun _ => Bool) (fun n row => en_idx n i (fun i => ih q loc (en_elt row i :: r) hp w)) (en_nth (0, 0) SA s)) false))
    (fun w => ih q0 loc st hp w) false) false))
/-- may a value be stored in a row of a kind: ints, bytes and booleans if they are such, longs -/
noncomputable def en_fit (kind v : Nat) (k : Nat → Bool) : Bool := en_if (Nat.beq kind 1) (en_if (en_isI v) (k v) false) (en_if (Nat.beq kind 4) (en_if (en_isL v) (k v) false)
  (en_if (Nat.beq kind 3) (en_if (Nat.ble v 4294967295) (en_if (Nat.ble 2147483648 v) (en_if (Nat.ble v 2147483649) (k v) false) false) (en_if (en_isI v) (k 73786976299133173759) false))
  (en_if (Nat.beq kind 2) (en_if (Nat.ble v 4294967295) (en_if (Nat.ble 2147483520 v) (en_if (Nat.ble v 2147483775) (k v) false) false) (en_if (en_isI v) (k 73786976299133173759) false)) false)))
noncomputable def en_astore (t : Nat → Bool) (q0 q : Nat) : en_O := fun loc st hp w ih => en_pop st (fun v r => en_pop r (fun i r => en_pop r (fun a r =>
  en_if (en_isI i) (en_pt w i (fun i => en_cell a
    (fun a => en_if (t (en_kind (en_get hp a))) (en_fit (en_kind (en_get hp a)) v (fun v => en_idx (en_len (en_get hp a)) i (fun i => ih q loc r (en_put hp a (en_eset (en_get hp a) i v)) w))) false)
    (fun _ => false)) (fun w => ih q0 loc st hp w) false) false)))
noncomputable def en_alen (SA : List (Nat × Nat)) (q : Nat) : en_O := fun loc st hp w ih => en_pop st (fun a r => en_cell a
    (fun a => en_if (Nat.ble 1 (en_kind (en_get hp a))) (en_if (Nat.ble (en_kind (en_get hp a)) 5) (ih q loc (Nat.add 2147483648 (en_len (en_get hp a)) :: r) hp w) false) false)
    (fun s => Prod.rec (motive := fun _ => Bool) (fun n _ => en_if (Nat.ble n 16777215) (en_if (Nat.ble (Nat.succ s) (List.rec (motive := fun _ => Nat) 0 (fun _ _ n => Nat.succ n) SA)) (ih q loc (Nat.add 2147483648 n :: r) hp w) false) false) (en_nth (0, 0) SA s)))
noncomputable def en_getf (q ci b : Nat) : en_O := fun loc st hp w ih => en_pop st (fun a r => en_cell a
    (fun a => en_if (Nat.beq (en_kind (en_get hp a)) (Nat.add 6 ci)) (en_if (Nat.ble (Nat.succ b) (en_len (en_get hp a))) (ih q loc (en_elt (en_get hp a) b :: r) hp w) false) false) (fun _ => false))
noncomputable def en_ffit (kd v : Nat) : Bool := en_if (Nat.beq kd 0) (en_isI v) (en_if (Nat.beq kd 1) (en_isL v) (en_if (Nat.beq kd 2) (en_if (Nat.ble 2147483648 v) (Nat.ble v 2147483649) false) (en_if (Nat.beq kd 3) (en_if (en_isR v) true (Nat.beq v 12884901888)) false)))
noncomputable def en_putf (q ci b kd : Nat) : en_O := fun loc st hp w ih => en_pop st (fun v r => en_pop r (fun a r => en_cell a
    (fun a => en_if (Nat.beq (en_kind (en_get hp a)) (Nat.add 6 ci)) (en_if (Nat.ble (Nat.succ b) (en_len (en_get hp a))) (en_if (en_ffit kd v) (ih q loc r (en_put hp a (en_eset (en_get hp a) b v)) w) false) false) false) (fun _ => false)))
/-- a new cell N of n slots -/
noncomputable def en_new (q n N : Nat) : en_O := fun loc st hp w ih => en_if (Nat.ble 1 w.1) (en_if (Nat.ble n w.2.1) (en_if (Nat.ble (Nat.succ w.2.2.2.2.1) 136)
  (ih q loc (Nat.add 8589934592 w.2.2.2.2.1 :: st) (en_put hp w.2.2.2.2.1 N) (Nat.sub w.1 1, Nat.sub w.2.1 n, w.2.2.1, w.2.2.2.1, Nat.succ w.2.2.2.2.1, w.2.2.2.2.2)) false) false) false
def en_dfl (kd : Nat) : Nat := match kd with
  | 0 => 2147483648
  | 1 => 36893488147419103232
  | 2 => 2147483648
  | _ => 12884901888
def en_obj (l : List Nat) (N j : Nat) : Nat := match l with
  | [] => N
  | k :: r => en_obj r (en_eset N j (en_dfl k)) (Nat.succ j)
noncomputable def en_newo (q ci : Nat) (l : List Nat) : en_O := fun loc st hp w ih => en_new q l.length (en_obj l (Nat.add (Nat.add 6 ci) (Nat.mul 256 l.length)) 0) loc st hp w ih
noncomputable def en_newa (q kind D : Nat) : en_O := fun loc st hp w ih => en_pop st (fun n r => en_if (Nat.ble 2147483648 n) (en_if (Nat.ble n 2147583648) (en_new q (Nat.sub n 2147483648) (en_rep kind (Nat.sub n 2147483648) D) loc r hp w ih) false) false)
/-- n new rows N from the cell k on -/
noncomputable def en_rows (n : Nat) : en_H → Nat → Nat → en_H := Nat.rec (motive := fun _ => en_H → Nat → Nat → en_H) (fun hp _ _ => hp) (fun _ ih hp k N => ih (en_put hp k N) (Nat.succ k) N) n
noncomputable def en_refs (n : Nat) : Nat → Nat → Nat → Nat := Nat.rec (motive := fun _ => Nat → Nat → Nat → Nat) (fun N _ _ => N) (fun _ ih N j c => ih (en_eset N j c) (Nat.succ j) (Nat.succ c)) n
noncomputable def en_mna (q : Nat) : en_O := fun loc st hp w ih => en_pop st (fun k r => en_pop r (fun n r =>
  en_if (Nat.ble 2147483648 n) (en_if (Nat.ble n 2147483748) (en_if (Nat.ble 2147483648 k) (en_if (Nat.ble k 2147483748)
    (en_if (Nat.ble (Nat.succ (Nat.sub n 2147483648)) w.1) (en_if (Nat.ble (Nat.add (Nat.sub n 2147483648) (Nat.mul (Nat.sub n 2147483648) (Nat.sub k 2147483648))) w.2.1) (en_if (Nat.ble (Nat.add (Nat.succ w.2.2.2.2.1) (Nat.sub n 2147483648)) 136)
      (ih q loc (Nat.add 8589934592 w.2.2.2.2.1 :: r)
        (en_rows (Nat.sub n 2147483648) (en_put hp w.2.2.2.2.1 (en_refs (Nat.sub n 2147483648) (Nat.add 5 (Nat.mul 256 (Nat.sub n 2147483648))) 0 (Nat.add 8589934592 (Nat.succ w.2.2.2.2.1)))) (Nat.succ w.2.2.2.2.1) (en_rep 1 (Nat.sub k 2147483648) 2147483648))
        (Nat.sub w.1 (Nat.succ (Nat.sub n 2147483648)), Nat.sub w.2.1 (Nat.add (Nat.sub n 2147483648) (Nat.mul (Nat.sub n 2147483648) (Nat.sub k 2147483648))), w.2.2.1, w.2.2.2.1, Nat.add (Nat.succ w.2.2.2.2.1) (Nat.sub n 2147483648), w.2.2.2.2.2)) false) false) false) false) false) false) false))
/-- the words of a stack, at most -/
noncomputable def en_cat (st : List Nat) : Nat := List.rec (motive := fun _ => Nat) 0 (fun c _ ih => en_if (en_one c) (Nat.succ ih) (Nat.succ (Nat.succ ih))) st
noncomputable def en_oinit (q : Nat) : en_O := fun loc st hp w ih => en_pop st (fun a r => en_if (en_isR a) (en_if (Nat.ble 1 w.2.2.1) (en_if (Nat.ble (en_cat r) 8) (ih q loc r hp w) false) false) false)
/-- a whole row of ints over another of its length -/
noncomputable def en_copy (q : Nat) : en_O := fun loc st hp w ih => en_pop st (fun n r => en_pop r (fun p r => en_pop r (fun d r => en_pop r (fun o r => en_pop r (fun s r =>
  en_if (Nat.beq p 2147483648) (en_if (Nat.beq o 2147483648) (en_if (Nat.ble 1 w.2.2.1) (en_if (Nat.ble (en_cat r) 8) (en_cell s (fun s => en_cell d (fun d =>
    en_if (Nat.beq (en_kind (en_get hp s)) 1) (en_if (Nat.beq (en_kind (en_get hp d)) 1) (en_if (Nat.beq n (Nat.add 2147483648 (en_len (en_get hp s)))) (en_if (Nat.beq n (Nat.add 2147483648 (en_len (en_get hp d))))
      (ih q loc r (en_put hp d (en_get hp s)) w) false) false) false) false) (fun _ => false)) (fun _ => false)) false) false) false) false)))))
/-- the callee's locals out of its values -/
noncomputable def en_args (l : List Nat) : Nat → Nat → (Nat → Nat → Bool) → Bool := List.rec (motive := fun _ => Nat → Nat → (Nat → Nat → Bool) → Bool) (fun j loc k => k j loc)
  (fun c _ ih j loc k => en_if (en_one c) (ih (Nat.succ j) (en_eset loc j c) k) (en_if (en_isL c) (ih (Nat.succ (Nat.succ j)) (en_eset loc j c) k) false)) l
noncomputable def en_take (n : Nat) : List Nat → List Nat → (List Nat → List Nat → Bool) → Bool := Nat.rec (motive := fun _ => List Nat → List Nat → (List Nat → List Nat → Bool) → Bool) (fun acc st k => k acc st) (fun _ ih acc st k => en_pop st (fun a r => ih (a :: acc) r k)) n
/-- a frame more -/
noncomputable def en_go (q k nL mc ms : Nat) (as r : List Nat) : en_O := fun loc _ hp w ih => en_if (Nat.ble (en_cat r) 8) (en_args as 0 (en_rep 0 nL 12884901891) (fun j l => en_if (Nat.ble j nL)
  (ih k l [] hp (mc, ms, Nat.pred w.2.2.1, (q, loc, r, Nat.sub w.1 mc, Nat.sub w.2.1 ms, w.2.2.1) :: w.2.2.2.1, w.2.2.2.2)) false)) false
noncomputable def en_call (q k nL np kd ci mc ms : Nat) : en_O := fun loc st hp w ih => en_take np [] st (fun as r =>
  en_if (Nat.ble 1 w.2.2.1) (en_if (Nat.ble mc w.1) (en_if (Nat.ble ms w.2.1)
    (en_if (Nat.beq kd 0) (en_go q k nL mc ms as r loc st hp w ih)
      (en_pop r (fun a r => en_cell a (fun a0 => en_if (Nat.beq (en_kind (en_get hp a0)) (Nat.add 6 ci)) (en_go q k nL mc ms (a :: as) r loc st hp w ih) false) (fun _ => false)))) false) false) false)
/-- a return: fin looks at what the lowest frame answers -/
noncomputable def en_back (fin : List Nat → en_H → en_W → Bool) (v : List Nat) : en_O := fun _ _ hp w ih => List.rec (motive := fun _ => Bool) (fin v hp w) (fun f fs _ => ih f.1 f.2.1 (List.rec (motive := fun _ => List Nat) f.2.2.1 (fun a _ _ => a :: f.2.2.1) v) hp (f.2.2.2.1, f.2.2.2.2.1, f.2.2.2.2.2, fs, w.2.2.2.2)) w.2.2.2.1
noncomputable def en_ret (fin : List Nat → en_H → en_W → Bool) (rk ik : Nat) : en_O := fun loc st hp w ih =>
  List.rec (motive := fun _ => Bool) (en_if (Nat.beq rk 0) (en_if (Nat.beq ik 0) (en_back fin [] loc st hp w ih) false) false)
    (fun v r _ => List.rec (motive := fun _ => Bool)
      (en_if (Nat.beq ik 1) (en_if (en_isI v) (en_if (Nat.beq rk 1) (en_back fin [v] loc st hp w ih) (en_if (Nat.beq rk 2) (en_if (Nat.ble 2147483648 v) (en_if (Nat.ble v 2147483649) (en_back fin [v] loc st hp w ih) false) false) false)) false)
        (en_if (Nat.beq ik 3) (en_if (en_isL v) (en_if (Nat.beq rk 3) (en_back fin [v] loc st hp w ih) false) false) false)) (fun _ _ _ => false) r) st
def en_c (x : Int) : Nat := (x + 2147483648).toNat
def en_tgt (pc : Nat) (off : Int) : Bool := decide (0 ≤ (pc : Int) + off) && decide ((pc : Int) + off < 65536)
/-- an instruction of the table as an instruction of the engine; q its place, n the next one, j a target -/
noncomputable def en_comp (SA : List (Nat × Nat)) (fin : List Nat → en_H → en_W → Bool) (kds : List (List Nat)) (P : mm_T) (m pc nL rk : Nat) (ins : Instr) (len a b : Nat) (z : Int) (q n : Nat) (j : Int → Nat) : Option en_O := match ins with
  | .iconst x => if -2147483648 ≤ x ∧ x < 2147483648 then some (en_push n (en_c x)) else none
  | .bipush x => if -128 ≤ x ∧ x < 128 then some (en_push n (en_c x)) else none
  | .sipush x => if -32768 ≤ x ∧ x < 32768 then some (en_push n (en_c x)) else none
  | .ldc _ => if -2147483648 ≤ z ∧ z < 2147483648 then some (en_push n (en_c z)) else none
  | .ldc_w _ => if -2147483648 ≤ z ∧ z < 2147483648 then some (en_push n (en_c z)) else none
  | .lconst x => some (en_push n (36893488147419103232 + (x : Nat)))
  | .ldc2_w _ => if 0 ≤ z ∧ z ≤ 9223372036854775807 then some (en_push n (36893488147419103232 + z.toNat)) else none
  | .iload_n k => if (k : Nat) < nL then some (en_load en_isI n k) else none
  | .iload k => if k < nL then some (en_load en_isI n k) else none
  | .lload_n k => if (k : Nat) < nL then some (en_load en_isL n k) else none
  | .lload k => if k < nL then some (en_load en_isL n k) else none
  | .aload_n k => if (k : Nat) < nL then some (en_load en_isR n k) else none
  | .aload k => if k < nL then some (en_load en_isR n k) else none
  | .istore_n k => if (k : Nat) < nL then some (en_store en_isI n k) else none
  | .istore k => if k < nL then some (en_store en_isI n k) else none
  | .astore_n k => if (k : Nat) < nL then some (en_store en_isR n k) else none
  | .astore k => if k < nL then some (en_store en_isR n k) else none
  | .lstore_n k => if (k : Nat) + 1 < nL then some (en_storeL n k) else none
  | .lstore k => if k + 1 < nL then some (en_storeL n k) else none
  | .iinc i x => if i < nL ∧ -2147483648 ≤ x ∧ x < 2147483648 then some (en_iinc n i (en_c x)) else none
  | .iadd => some (en_bin en_add n)
  | .isub => some (en_bin en_sub n)
  | .imul => some (en_bin en_mul n)
  | .idiv => some (en_bin en_div n)
  | .irem => some (en_bin en_rem n)
  | .iand => some (en_bin en_and n)
  | .ior => some (en_bin en_or n)
  | .ishl => some (en_bin en_shl n)
  | .ishr => some (en_bin en_shr n)
  | .iushr => some (en_bin (fun _ _ _ k => k 73786976299133173759) n)
  | .ixor => some (en_bin (fun _ _ _ k => k 73786976299133173759) n)
  | .ineg => some (en_un 73786976299133173759 n)
  | .i2b => some (en_un 73786976299133173759 n)
  | .i2c => some (en_un 73786976299133173759 n)
  | .i2l => some (en_i2l n)
  | .ladd => some (en_binL Nat.add n)
  | .lmul => some (en_binL Nat.mul n)
  | .dup => some (en_dup n)
  | .pop => some (en_drop n)
  | .dup2 => some (en_dup2 n)
  | .if_icmp k off => if en_tgt pc off = true then some (en_icmp k (j off) n) else none
  | .ifCond k off => if en_tgt pc off = true then some (en_if0 k (j off) n) else none
  | .goto off => if en_tgt pc off = true then some (en_goto (j off)) else none
  | .tableswitch dflt lo hi offs => if -1000000 ≤ lo ∧ hi ≤ 1000000 ∧ lo ≤ hi ∧ offs.size = (hi - lo).toNat + 1 ∧ en_tgt pc dflt = true ∧ offs.toList.all (en_tgt pc) = true then some (en_sw q (j dflt) (en_c lo) (hi - lo).toNat (offs.toList.map j)) else none
  | .getstatic _ => if a < 4 ∧ a < SA.length then some (en_push n (12884901904 + a)) else none
  | .iaload => some (en_aload SA (fun k => Nat.beq k 1) q n)
  | .baload => some (en_aload SA (fun k => en_if (Nat.beq k 2) true (Nat.beq k 3)) q n)
  | .laload => some (en_aload SA (fun k => Nat.beq k 4) q n)
  | .aaload => some (en_aload SA (fun k => Nat.beq k 5) q n)
  | .iastore => some (en_astore (fun k => Nat.beq k 1) q n)
  | .bastore => some (en_astore (fun k => en_if (Nat.beq k 2) true (Nat.beq k 3)) q n)
  | .lastore => some (en_astore (fun k => Nat.beq k 4) q n)
  | .arraylength => some (en_alen SA n)
  | .getfield _ => some (en_getf n a b)
  | .putfield _ => match kds[a]? with
    | some l => (match l[b]? with
      | some kd => some (en_putf n a b kd)
      | none => none)
    | none => none
  | .new _ => if a < 200 then (match kds[a]? with
    | some l => if l.length < 10000 then some (en_newo n a l) else none
    | none => none) else none
  | .newarray t => match t with
    | .int => some (en_newa n 1 2147483648)
    | .byte => some (en_newa n 2 2147483648)
    | .boolean => some (en_newa n 3 2147483648)
    | .long => some (en_newa n 4 36893488147419103232)
    | _ => none
  | .multianewarray _ 2 => some (en_mna n)
  | .return_ => some (en_ret fin rk 0)
  | .ireturn => some (en_ret fin rk 1)
  | .lreturn => some (en_ret fin rk 3)
  | .invokestatic _ => if a = 1 then some (en_copy n) else if a < 2 then none else (match P[a]? with
    | some (_, nL', np, kd, ci, _, mc, ms) => if kd = 0 then some (en_call n (65536 * a) nL' np kd ci mc ms) else none
    | none => none)
  | .invokevirtual _ => if a < 2 then none else (match P[a]? with
    | some (_, nL', np, kd, ci, _, mc, ms) => if kd = 1 then some (en_call n (65536 * a) nL' np kd ci mc ms) else none
    | none => none)
  | .invokespecial _ => if a = 0 then some (en_oinit n) else if a < 2 then none else (match P[a]? with
    | some (_, nL', np, kd, ci, _, mc, ms) => if kd = 2 then some (en_call n (65536 * a) nL' np kd ci mc ms) else none
    | none => none)
  | _ => none
/-- what is done at a place instead of its instruction, if anything -/
abbrev en_T : Type := Nat → Option (en_O → en_O)
noncomputable def en_fetch (SA : List (Nat × Nat)) (fin : List Nat → en_H → en_W → Bool) (kds : List (List Nat)) (P : mm_T) (tb : en_T) (q : Nat) : Option en_O := match mm_at P (q / 65536) (q % 65536) with
  | none => none
  | some ((_, len, ins, a, b, z, _), nL, (_, _, _, rk, _, _)) => if 65536 ≤ q % 65536 + len then none else match en_comp SA fin kds P (q / 65536) (q % 65536) nL rk ins len a b z q (q + len) (fun off => q / 65536 * 65536 + (((q % 65536 : Nat) : Int) + off).toNat) with
    | none => none
    | some o => match tb q with
      | none => some o
      | some hk => some (hk o)
/-- n steps at most -/
noncomputable def en_run (SA : List (Nat × Nat)) (fin : List Nat → en_H → en_W → Bool) (kds : List (List Nat)) (P : mm_T) (tb : en_T) (n : Nat) : en_C :=
  Nat.rec (motive := fun _ => en_C) (fun _ _ _ _ _ => false) (fun _ ih q loc st hp w =>
    Nat.rec (motive := fun _ => Bool) false (fun q _ => Option.rec (motive := fun _ => Bool) false (fun o => o loc st hp w ih) (en_fetch SA fin kds P tb (Nat.succ q))) q) n
end
section
/-! THE ENGINE IS SOUND, 1: numbers, rows, the tree -/
theorem en_if_t {α : Type} (x y : α) : en_if true x y = x := rfl
theorem en_if_f {α : Type} (x y : α) : en_if false x y = y := rfl
theorem en_if_and {b x : Bool} : en_if b x false = true ↔ b = true ∧ x = true := by cases b <;> simp [en_if]
theorem en_if_or {b x y : Bool} : en_if b x y = true ↔ (b = true ∧ x = true) ∨ (b = false ∧ y = true) := by cases b <;> simp [en_if]
theorem en_if_cases {α : Type} {b : Bool} {x y : α} {p : α → Prop} (h : p (en_if b x y)) : (b = true ∧ p x) ∨ (b = false ∧ p y) := by
  cases b
  · exact Or.inr ⟨rfl, h⟩
  · exact Or.inl ⟨rfl, h⟩
theorem en_pop_t {st : List Nat} {k : Nat → List Nat → Bool} (h : en_pop st k = true) : ∃ a r, st = a :: r ∧ k a r = true := by
  cases st with
  | nil => cases h
  | cons a r => exact ⟨a, r, rfl, h⟩
theorem en_nth_nil {α : Type} (d : α) (i : Nat) : en_nth d [] i = d := rfl
theorem en_nth_zero {α : Type} (d a : α) (r : List α) : en_nth d (a :: r) 0 = a := rfl
theorem en_nth_succ {α : Type} (d a : α) (r : List α) (i : Nat) : en_nth d (a :: r) (i + 1) = en_nth d r i := rfl
theorem en_nth_eq {α : Type} (d : α) (l : List α) (i : Nat) : en_nth d l i = (l[i]?).getD d := by
  induction l generalizing i with
  | nil => simp [en_nth_nil]
  | cons a r ih =>
    cases i with
    | zero => simp [en_nth_zero]
    | succ i => rw [en_nth_succ, ih]; simp
theorem en_set_eq {α : Type} (l : List α) (i : Nat) (v : α) : en_set l i v = l.set i v := by
  induction l generalizing i with
  | nil => rfl
  | cons a r ih =>
    cases i with
    | zero => rfl
    | succ i => show a :: en_set r i v = _; rw [ih]; rfl
/-- cells of a tree from lo to hi -/
def en_lens {α : Type} (lo hi : Nat) (g : α → Nat → Nat) (p : α → Nat → Nat → α) : Prop := ∀ (t : α) (k N j : Nat), lo ≤ k → k < hi → lo ≤ j → j < hi → g (p t k N) j = if k = j then N else g t j
theorem en_lens_leaf (i : Nat) : en_lens i (i + 1) en_lg en_lp := by
  intro t k N j h1 h2 h3 h4
  rw [if_pos (by omega)]
  rfl
theorem en_lens_node {α β : Type} {lo mid hi : Nat} {ga : α → Nat → Nat} {pa : α → Nat → Nat → α} {gb : β → Nat → Nat} {pb : β → Nat → Nat → β} (ha : en_lens lo mid ga pa) (hb : en_lens mid hi gb pb) : en_lens lo hi (en_ng mid ga gb) (en_np mid pa pb) := by
  intro t k N j h1 h2 h3 h4
  unfold en_ng en_np
  by_cases hk : mid ≤ k
  · have e1 : Nat.ble mid k = true := Nat.ble_eq_true_of_le hk
    rw [e1, en_if_t]
    by_cases hj : mid ≤ j
    · have e2 : Nat.ble mid j = true := Nat.ble_eq_true_of_le hj
      rw [e2, en_if_t, en_if_t]
      exact hb t.2 k N j hk h2 hj h4
    · have e2 : Nat.ble mid j = false := by
        cases h : Nat.ble mid j with
        | true => exact absurd (Nat.le_of_ble_eq_true h) hj
        | false => rfl
      rw [e2, en_if_f, en_if_f, if_neg (by omega)]
  · have e1 : Nat.ble mid k = false := by
      cases h : Nat.ble mid k with
      | true => exact absurd (Nat.le_of_ble_eq_true h) hk
      | false => rfl
    rw [e1, en_if_f]
    by_cases hj : mid ≤ j
    · have e2 : Nat.ble mid j = true := Nat.ble_eq_true_of_le hj
      rw [e2, en_if_t, en_if_t, if_neg (by omega)]
    · have e2 : Nat.ble mid j = false := by
        cases h : Nat.ble mid j with
        | true => exact absurd (Nat.le_of_ble_eq_true h) hj
        | false => rfl
      rw [e2, en_if_f, en_if_f]
      exact ha t.1 k N j h1 (by omega) h3 (by omega)
theorem en_ble_f {a b : Nat} : Nat.ble a b = false ↔ b < a := by
  constructor
  · intro h
    rcases Nat.lt_or_ge b a with q | q
    · exact q
    · rw [Nat.ble_eq_true_of_le q] at h; cases h
  · intro h
    cases q : Nat.ble a b with
    | true => exact absurd (Nat.le_of_ble_eq_true q) (by omega)
    | false => rfl
theorem en_ble_t {a b : Nat} : Nat.ble a b = true ↔ a ≤ b := ⟨Nat.le_of_ble_eq_true, Nat.ble_eq_true_of_le⟩
theorem en_beq_t {a b : Nat} : Nat.beq a b = true ↔ a = b := ⟨Nat.eq_of_beq_eq_true, fun h => by subst h; exact Nat.beq_refl a⟩
theorem en_beq_f {a b : Nat} : Nat.beq a b = false ↔ a ≠ b := by
  constructor
  · intro h e
    subst e
    rw [Nat.beq_refl] at h
    cases h
  · intro h
    cases q : Nat.beq a b with
    | true => exact absurd (Nat.eq_of_beq_eq_true q) h
    | false => rfl
theorem en_elt_lt (N j : Nat) : en_elt N j < 2 ^ 68 := Nat.mod_lt _ (by decide)
theorem en_elt_bit (N j i : Nat) : (en_elt N j).testBit i = (decide (i < 68) && N.testBit (32 + 68 * j + i)) := by
  show (N >>> (32 + 68 * j) % 2 ^ 68).testBit i = _
  rw [Nat.testBit_mod_two_pow, Nat.testBit_shiftRight]
theorem en_eset_bit (N j v i : Nat) : (en_eset N j v).testBit i = (N.testBit i ^^ (decide (32 + 68 * j ≤ i) && ((en_elt N j).testBit (i - (32 + 68 * j)) ^^ v.testBit (i - (32 + 68 * j))))) := by
  show (N ^^^ ((en_elt N j ^^^ v) <<< (32 + 68 * j))).testBit i = _
  rw [Nat.testBit_xor, Nat.testBit_shiftLeft, Nat.testBit_xor]
theorem en_bit_lt {v i : Nat} (hv : v < 2 ^ 68) (hi : 68 ≤ i) : v.testBit i = false := Nat.testBit_lt_two_pow (Nat.lt_of_lt_of_le hv (Nat.pow_le_pow_right (by decide) hi))
theorem en_elt_eset {N j v i : Nat} (hv : v < 2 ^ 68) : en_elt (en_eset N j v) i = if i = j then v else en_elt N i := by
  apply Nat.eq_of_testBit_eq
  intro b
  rw [en_elt_bit, en_eset_bit]
  by_cases hij : i = j
  · subst hij
    rw [if_pos rfl]
    by_cases hb : b < 68
    · rw [en_elt_bit]
      have e : 32 + 68 * i + b - (32 + 68 * i) = b := by omega
      simp [hb, e]
    · simp [hb, en_bit_lt hv (by omega : 68 ≤ b)]
  · rw [if_neg hij, en_elt_bit N i b]
    by_cases hb : b < 68
    · by_cases hle : 32 + 68 * j ≤ 32 + 68 * i + b
      · have h68 : 68 ≤ 32 + 68 * i + b - (32 + 68 * j) := by omega
        simp [hb, hle, en_bit_lt hv h68, en_bit_lt (en_elt_lt N j) h68]
      · simp [hb, hle]
    · simp [hb]
theorem en_eset_head {N j v : Nat} : en_eset N j v % 2 ^ 32 = N % 2 ^ 32 := by
  apply Nat.eq_of_testBit_eq
  intro b
  rw [Nat.testBit_mod_two_pow, Nat.testBit_mod_two_pow, en_eset_bit]
  by_cases hb : b < 32
  · have : ¬ 32 + 68 * j ≤ b := by omega
    simp [this]
  · simp [hb]
theorem en_kind_head (N : Nat) : en_kind N = N % 2 ^ 32 % 256 := by show N % 256 = _; omega
theorem en_len_head (N : Nat) : en_len N = N % 2 ^ 32 / 256 := by show N / 256 % 16777216 = _; omega
theorem en_eset_kind (N j v : Nat) : en_kind (en_eset N j v) = en_kind N := by rw [en_kind_head, en_kind_head, en_eset_head]
theorem en_eset_len (N j v : Nat) : en_len (en_eset N j v) = en_len N := by rw [en_len_head, en_len_head, en_eset_head]
/-- the sum of n powers -/
def en_geo : Nat → Nat
  | 0 => 0
  | n + 1 => en_geo n * 2 ^ 68 + 1
theorem en_geo_eq (n : Nat) : (2 ^ (68 * n) - 1) / (2 ^ 68 - 1) = en_geo n := by
  have h : ∀ n, (2 ^ 68 - 1) * en_geo n = 2 ^ (68 * n) - 1 := by
    intro n
    induction n with
    | zero => rfl
    | succ n ih =>
      have e : 2 ^ (68 * (n + 1)) = 2 ^ (68 * n) * 2 ^ 68 := by rw [← Nat.pow_add]; congr 1
      have hp : 1 ≤ 2 ^ (68 * n) := Nat.one_le_two_pow
      rw [e, en_geo]
      generalize 2 ^ (68 * n) = q at ih hp
      generalize en_geo n = g at ih
      omega
  rw [← h n, Nat.mul_div_cancel_left _ (by decide)]
theorem en_geo_dig {D : Nat} (hD : D < 2 ^ 68) : ∀ (n j : Nat), j < n → (D * en_geo n) / 2 ^ (68 * j) % 2 ^ 68 = D := by
  intro n
  induction n with
  | zero => intro j h; omega
  | succ n ih =>
    intro j hj
    rw [en_geo, Nat.mul_add, Nat.mul_one, ← Nat.mul_assoc]
    cases j with
    | zero =>
      rw [Nat.mul_zero, Nat.pow_zero, Nat.div_one]
      omega
    | succ j =>
      have e : 2 ^ (68 * (j + 1)) = 2 ^ 68 * 2 ^ (68 * j) := by rw [← Nat.pow_add]; congr 1; omega
      rw [e, ← Nat.div_div_eq_div_mul]
      have e2 : (D * en_geo n * 2 ^ 68 + D) / 2 ^ 68 = D * en_geo n := by omega
      rw [e2]
      exact ih j (by omega)
theorem en_rep_elt {kind n D j : Nat} (hk : kind < 256) (hn : n < 16777216) (hD : D < 2 ^ 68) (hj : j < n) : en_elt (en_rep kind n D) j = D := by
  show ((kind + 256 * n) + 4294967296 * (D * ((2 ^ (68 * n) - 1) / (2 ^ 68 - 1)))) >>> (32 + 68 * j) % 2 ^ 68 = D
  rw [en_geo_eq, Nat.shiftRight_eq_div_pow, Nat.pow_add, ← Nat.div_div_eq_div_mul]
  have e : (kind + 256 * n + 4294967296 * (D * en_geo n)) / 2 ^ 32 = D * en_geo n := by omega
  rw [e]
  exact en_geo_dig hD n j hj
theorem en_rep_kind {kind n D : Nat} (hk : kind < 256) : en_kind (en_rep kind n D) = kind := by
  show ((kind + 256 * n) + 4294967296 * (D * ((2 ^ (68 * n) - 1) / (2 ^ 68 - 1)))) % 256 = kind
  omega
theorem en_rep_len {kind n D : Nat} (hk : kind < 256) (hn : n < 16777216) : en_len (en_rep kind n D) = n := by
  show ((kind + 256 * n) + 4294967296 * (D * ((2 ^ (68 * n) - 1) / (2 ^ 68 - 1)))) / 256 % 16777216 = n
  omega
theorem en_lens_H : en_lens 0 136 en_get en_put := en_lens_node (en_lens_node (en_lens_node (en_lens_node (en_lens_node (en_lens_node (en_lens_node (en_lens_leaf 0) (en_lens_leaf 1)) (en_lens_leaf 2)) (en_lens_leaf 3)) (en_lens_node (en_lens_node (en_lens_leaf 4) (en_lens_leaf 5)) (en_lens_node (en_lens_leaf 6) (en_lens_leaf 7)))) (en_lens_node (en_lens_node (en_lens_node (en_lens_node (en_lens_node (en_lens_node (en_lens_leaf 8) (en_lens_node (en_lens_leaf 9) (en_lens_leaf 10))) (en_lens_leaf 11)) (en_lens_leaf 12)) (en_lens_node (en_lens_node (en_lens_node (en_lens_node (en_lens_leaf 13) (en_lens_leaf 14)) (en_lens_node (en_lens_leaf 15) (en_lens_node (en_lens_leaf 16) (en_lens_leaf 17)))) (en_lens_node (en_lens_node (en_lens_node (en_lens_leaf 18) (en_lens_leaf 19)) (en_lens_leaf 20)) (en_lens_node (en_lens_leaf 21) (en_lens_node (en_lens_leaf 22) (en_lens_node (en_lens_leaf 23) (en_lens_leaf 24)))))) (en_lens_leaf 25))) (en_lens_node (en_lens_node (en_lens_leaf 26) (en_lens_leaf 27)) (en_lens_leaf 28))) (en_lens_node (en_lens_leaf 29) (en_lens_node (en_lens_node (en_lens_node (en_lens_node (en_lens_leaf 30) (en_lens_leaf 31)) (en_lens_node (en_lens_node (en_lens_leaf 32) (en_lens_leaf 33)) (en_lens_node (en_lens_node (en_lens_leaf 34) (en_lens_leaf 35)) (en_lens_leaf 36)))) (en_lens_node (en_lens_node (en_lens_node (en_lens_leaf 37) (en_lens_node (en_lens_leaf 38) (en_lens_leaf 39))) (en_lens_node (en_lens_node (en_lens_leaf 40) (en_lens_leaf 41)) (en_lens_node (en_lens_leaf 42) (en_lens_leaf 43)))) (en_lens_node (en_lens_node (en_lens_node (en_lens_leaf 44) (en_lens_leaf 45)) (en_lens_node (en_lens_leaf 46) (en_lens_leaf 47))) (en_lens_node (en_lens_node (en_lens_leaf 48) (en_lens_leaf 49)) (en_lens_node (en_lens_leaf 50) (en_lens_leaf 51)))))) (en_lens_node (en_lens_node (en_lens_node (en_lens_node (en_lens_node (en_lens_leaf 52) (en_lens_leaf 53)) (en_lens_node (en_lens_leaf 54) (en_lens_leaf 55))) (en_lens_node (en_lens_node (en_lens_leaf 56) (en_lens_leaf 57)) (en_lens_node (en_lens_leaf 58) (en_lens_leaf 59)))) (en_lens_node (en_lens_node (en_lens_node (en_lens_leaf 60) (en_lens_leaf 61)) (en_lens_node (en_lens_leaf 62) (en_lens_leaf 63))) (en_lens_node (en_lens_node (en_lens_leaf 64) (en_lens_leaf 65)) (en_lens_node (en_lens_leaf 66) (en_lens_leaf 67))))) (en_lens_node (en_lens_node (en_lens_node (en_lens_node (en_lens_leaf 68) (en_lens_leaf 69)) (en_lens_node (en_lens_leaf 70) (en_lens_leaf 71))) (en_lens_node (en_lens_node (en_lens_leaf 72) (en_lens_leaf 73)) (en_lens_node (en_lens_leaf 74) (en_lens_node (en_lens_leaf 75) (en_lens_leaf 76))))) (en_lens_node (en_lens_node (en_lens_node (en_lens_node (en_lens_leaf 77) (en_lens_leaf 78)) (en_lens_node (en_lens_leaf 79) (en_lens_leaf 80))) (en_lens_node (en_lens_node (en_lens_leaf 81) (en_lens_leaf 82)) (en_lens_leaf 83))) (en_lens_node (en_lens_leaf 84) (en_lens_node (en_lens_leaf 85) (en_lens_node (en_lens_leaf 86) (en_lens_leaf 87))))))))))) (en_lens_leaf 88)) (en_lens_node (en_lens_node (en_lens_node (en_lens_node (en_lens_node (en_lens_node (en_lens_leaf 89) (en_lens_leaf 90)) (en_lens_leaf 91)) (en_lens_node (en_lens_leaf 92) (en_lens_node (en_lens_leaf 93) (en_lens_leaf 94)))) (en_lens_node (en_lens_leaf 95) (en_lens_leaf 96))) (en_lens_leaf 97)) (en_lens_node (en_lens_node (en_lens_node (en_lens_node (en_lens_node (en_lens_node (en_lens_node (en_lens_node (en_lens_leaf 98) (en_lens_leaf 99)) (en_lens_leaf 100)) (en_lens_node (en_lens_leaf 101) (en_lens_leaf 102))) (en_lens_node (en_lens_leaf 103) (en_lens_node (en_lens_leaf 104) (en_lens_leaf 105)))) (en_lens_leaf 106)) (en_lens_node (en_lens_leaf 107) (en_lens_node (en_lens_node (en_lens_node (en_lens_leaf 108) (en_lens_leaf 109)) (en_lens_node (en_lens_leaf 110) (en_lens_leaf 111))) (en_lens_node (en_lens_node (en_lens_leaf 112) (en_lens_leaf 113)) (en_lens_node (en_lens_leaf 114) (en_lens_leaf 115)))))) (en_lens_leaf 116)) (en_lens_node (en_lens_node (en_lens_node (en_lens_leaf 117) (en_lens_leaf 118)) (en_lens_leaf 119)) (en_lens_node (en_lens_leaf 120) (en_lens_node (en_lens_node (en_lens_leaf 121) (en_lens_node (en_lens_node (en_lens_leaf 122) (en_lens_leaf 123)) (en_lens_node (en_lens_leaf 124) (en_lens_leaf 125)))) (en_lens_node (en_lens_node (en_lens_node (en_lens_leaf 126) (en_lens_leaf 127)) (en_lens_node (en_lens_leaf 128) (en_lens_leaf 129))) (en_lens_node (en_lens_node (en_lens_leaf 130) (en_lens_leaf 131)) (en_lens_node (en_lens_node (en_lens_leaf 132) (en_lens_leaf 133)) (en_lens_node (en_lens_leaf 134) (en_lens_leaf 135))))))))))
end
section
/-! THE ENGINE IS SOUND, 2: what a code says -/
/-- an int and 2^31 more -/
def en_z (x : Int32) : Nat := (x.toInt + 2147483648).toNat
def en_d (c : Nat) : Int32 := Int32.ofInt ((c : Int) - 2147483648)
theorem en_z_lt (x : Int32) : en_z x < 4294967296 := by
  have h1 := x.toInt_lt
  have h2 := x.le_toInt
  unfold en_z
  omega
theorem en_z_int (x : Int32) : ((en_z x : Nat) : Int) = x.toInt + 2147483648 := by
  have h2 := x.le_toInt
  unfold en_z
  omega
theorem en_d_int {c : Nat} (h : c < 4294967296) : (en_d c).toInt = (c : Int) - 2147483648 := by
  unfold en_d
  rw [Int32.toInt_ofInt_of_le (by omega) (by omega)]
theorem en_d_z (x : Int32) : en_d (en_z x) = x := by
  apply Int32.toInt_inj.mp
  rw [en_d_int (en_z_lt x), en_z_int]
  omega
theorem en_z_d {c : Nat} (h : c < 4294967296) : en_z (en_d c) = c := by
  have h1 := en_z_int (en_d c)
  rw [en_d_int h] at h1
  omega
theorem en_z_inj {x y : Int32} (h : en_z x = en_z y) : x = y := by rw [← en_d_z x, ← en_d_z y, h]
theorem en_z_lt_iff {x y : Int32} : x < y ↔ en_z x < en_z y := by
  rw [Int32.lt_iff_toInt_lt]
  have h1 := en_z_int x
  have h2 := en_z_int y
  omega
theorem en_z_le_iff {x y : Int32} : x ≤ y ↔ en_z x ≤ en_z y := by
  rw [Int32.le_iff_toInt_le]
  have h1 := en_z_int x
  have h2 := en_z_int y
  omega
theorem en_z_eq_iff {x y : Int32} : x = y ↔ en_z x = en_z y := ⟨fun h => by rw [h], en_z_inj⟩
theorem en_d_zero : en_d 2147483648 = 0 := by decide
/-- any number with the same rest is the same int -/
theorem en_ofInt_mod {a b : Int} (h : a % 4294967296 = b % 4294967296) : Int32.ofInt a = Int32.ofInt b := by
  apply Int32.toBitVec_inj.mp
  show BitVec.ofInt 32 a = BitVec.ofInt 32 b
  apply BitVec.eq_of_toNat_eq
  rw [BitVec.toNat_ofInt, BitVec.toNat_ofInt]
  simpa using congrArg Int.toNat h
/-- what is added to a named int -/
def en_off (c : Nat) : Int32 := Int32.ofInt (((c % 65536 : Nat) : Int) - 32768)
section ENV
variable (E : mm_E) (ρ : Nat → Int32) (ω : Nat → Value)
def en_v (c : Nat) (v : Value) : Prop :=
  if c < 4294967296 then v = .int (en_d c)
  else if c < 8589934592 then v = .int (ρ ((c - 4294967296) / 65536) + en_off c)
  else if c < 8589934728 then v = .ref (E.1 + (c - 8589934592))
  else if c = 12884901888 then v = .null
  else if c = 12884901890 then ∃ x, v = .long x
  else if 12884901904 ≤ c ∧ c ≤ 12884902911 then ∃ q, E.2[c - 12884901904]? = some q ∧ v = .ref q.1
  else if 17179869184 ≤ c ∧ c < 18446744073709551616 then v = ω (c - 17179869184)
  else if 36893488147419103232 ≤ c ∧ c < 73786976294838206464 then v = .long (Int64.ofNat (c - 36893488147419103232))
  else if 73786976294838206464 ≤ c ∧ c < 147573952589676412928 then ∃ x : Int32, v = .int x ∧ (c - 73786976294838206464) / 4294967296 ≤ en_z x ∧ en_z x ≤ c % 4294967296
  else False
variable {E ρ ω}
theorem en_v_const {c : Nat} {v : Value} (h : c < 4294967296) : en_v E ρ ω c v ↔ v = .int (en_d c) := by unfold en_v; rw [if_pos h]
theorem en_v_name {c : Nat} {v : Value} (h : 4294967296 ≤ c) (h2 : c < 8589934592) : en_v E ρ ω c v ↔ v = .int (ρ ((c - 4294967296) / 65536) + en_off c) := by unfold en_v; rw [if_neg (by omega), if_pos h2]
theorem en_v_ref {c : Nat} {v : Value} (h : 8589934592 ≤ c) (h2 : c < 8589934728) : en_v E ρ ω c v ↔ v = .ref (E.1 + (c - 8589934592)) := by unfold en_v; rw [if_neg (by omega), if_neg (by omega), if_pos h2]
theorem en_v_null {v : Value} : en_v E ρ ω 12884901888 v ↔ v = .null := by unfold en_v; simp
theorem en_v_anyL {v : Value} : en_v E ρ ω 12884901890 v ↔ ∃ x, v = .long x := by unfold en_v; simp
theorem en_v_stat {c : Nat} {v : Value} (h : 12884901904 ≤ c) (h2 : c ≤ 12884902911) : en_v E ρ ω c v ↔ ∃ q, E.2[c - 12884901904]? = some q ∧ v = .ref q.1 := by unfold en_v; rw [if_neg (by omega), if_neg (by omega), if_neg (by omega), if_neg (by omega), if_neg (by omega), if_pos ⟨h, h2⟩]
theorem en_v_opq {c : Nat} {v : Value} (h : 17179869184 ≤ c) (h2 : c < 18446744073709551616) : en_v E ρ ω c v ↔ v = ω (c - 17179869184) := by unfold en_v; rw [if_neg (by omega), if_neg (by omega), if_neg (by omega), if_neg (by omega), if_neg (by omega), if_neg (by omega), if_pos ⟨h, h2⟩]
theorem en_v_long {c : Nat} {v : Value} (h : 36893488147419103232 ≤ c) (h2 : c < 73786976294838206464) : en_v E ρ ω c v ↔ v = .long (Int64.ofNat (c - 36893488147419103232)) := by unfold en_v; rw [if_neg (by omega), if_neg (by omega), if_neg (by omega), if_neg (by omega), if_neg (by omega), if_neg (by omega), if_neg (by omega), if_pos ⟨h, h2⟩]
theorem en_v_rng {c : Nat} {v : Value} (h : 73786976294838206464 ≤ c) (h2 : c < 147573952589676412928) : en_v E ρ ω c v ↔ ∃ x : Int32, v = .int x ∧ (c - 73786976294838206464) / 4294967296 ≤ en_z x ∧ en_z x ≤ c % 4294967296 := by unfold en_v; rw [if_neg (by omega), if_neg (by omega), if_neg (by omega), if_neg (by omega), if_neg (by omega), if_neg (by omega), if_neg (by omega), if_neg (by omega), if_pos ⟨h, h2⟩]
theorem en_v_big {c : Nat} {v : Value} (h : en_v E ρ ω c v) : c < 147573952589676412928 := by
  rcases Nat.lt_or_ge c 147573952589676412928 with q | q
  · exact q
  · unfold en_v at h
    rw [if_neg (by omega), if_neg (by omega), if_neg (by omega), if_neg (by omega), if_neg (by omega), if_neg (by omega), if_neg (by omega), if_neg (by omega), if_neg (by omega)] at h
    exact h.elim
theorem en_v_und {v : Value} (h : en_v E ρ ω 12884901891 v) : False := by
  unfold en_v at h
  simp at h
theorem en_v_68 {c : Nat} {v : Value} (h : en_v E ρ ω c v) : c < 2 ^ 68 := Nat.lt_of_lt_of_le (en_v_big h) (by decide)
theorem en_isI_iff {c : Nat} : en_isI c = true ↔ c < 8589934592 ∨ 73786976294838206464 ≤ c := by
  unfold en_isI
  simp only [en_if_or, en_ble_t, en_ble_f, and_true]
  omega
theorem en_isI_int {c : Nat} {v : Value} (h : en_isI c = true) (hv : en_v E ρ ω c v) : ∃ x, v = .int x := by
  have hb := en_v_big hv
  rcases en_isI_iff.mp h with h | h
  · rcases Nat.lt_or_ge c 4294967296 with q | q
    · exact ⟨_, (en_v_const q).mp hv⟩
    · exact ⟨_, (en_v_name q h).mp hv⟩
  · obtain ⟨x, h1, -⟩ := (en_v_rng h hb).mp hv
    exact ⟨x, h1⟩
theorem en_isL_iff {c : Nat} : en_isL c = true ↔ (36893488147419103232 ≤ c ∧ c < 73786976294838206464) ∨ c = 12884901890 := by
  unfold en_isL
  rw [en_if_or, en_ble_t, en_ble_f, en_ble_t, en_beq_t]
  omega
theorem en_isL_long {c : Nat} {v : Value} (h : en_isL c = true) (hv : en_v E ρ ω c v) : ∃ x, v = .long x := by
  rcases en_isL_iff.mp h with ⟨h1, h2⟩ | rfl
  · exact ⟨_, (en_v_long h1 h2).mp hv⟩
  · exact en_v_anyL.mp hv
theorem en_isR_iff {c : Nat} : en_isR c = true ↔ (8589934592 ≤ c ∧ c < 8589934728) ∨ (12884901904 ≤ c ∧ c ≤ 12884902911) := by
  unfold en_isR
  simp only [en_if_and, en_if_or, en_ble_t, en_ble_f, and_true, Bool.false_eq_true, and_false, or_false]
  omega
theorem en_isR_ref {c : Nat} {v : Value} (h : en_isR c = true) (hv : en_v E ρ ω c v) : ∃ x, v = .ref x := by
  rcases en_isR_iff.mp h with ⟨h1, h2⟩ | ⟨h1, h2⟩
  · exact ⟨_, (en_v_ref h1 h2).mp hv⟩
  · obtain ⟨q, -, hq⟩ := (en_v_stat h1 h2).mp hv
    exact ⟨_, hq⟩
theorem en_one_iff {c : Nat} : en_one c = true ↔ (c ≤ 12884902911 ∧ c ≠ 12884901890 ∧ c ≠ 12884901891) ∨ 73786976294838206464 ≤ c := by
  unfold en_one
  rw [en_if_or, en_ble_t, en_ble_f, en_ble_t, en_if_or, en_beq_t, en_beq_f, en_if_or, en_beq_t, en_beq_f]
  simp only [Bool.false_eq_true, and_false, false_or, and_true]
  omega
theorem en_one_cat {c : Nat} {v : Value} (h : en_one c = true) (hv : en_v E ρ ω c v) : v.category = 1 := by
  have hb := en_v_big hv
  rcases en_one_iff.mp h with ⟨h1, h2, h3⟩ | h
  · rcases Nat.lt_or_ge c 8589934592 with q | q
    · obtain ⟨x, rfl⟩ := en_isI_int (en_isI_iff.mpr (Or.inl q)) hv
      rfl
    · by_cases q1 : c < 8589934728
      · rw [(en_v_ref q q1).mp hv]; rfl
      · by_cases q2 : c = 12884901888
        · subst q2
          rw [en_v_null.mp hv]; rfl
        · by_cases q3 : 12884901904 ≤ c
          · obtain ⟨q, -, hq⟩ := (en_v_stat q3 h1).mp hv
            rw [hq]; rfl
          · unfold en_v at hv
            rw [if_neg (by omega), if_neg (by omega), if_neg (by omega), if_neg (by omega), if_neg (by omega), if_neg (by omega), if_neg (by omega), if_neg (by omega), if_neg (by omega)] at hv
            exact hv.elim
  · obtain ⟨x, rfl⟩ := en_isI_int (en_isI_iff.mpr (Or.inr h)) hv
    rfl
theorem en_cat_le (v : Value) : v.category ≤ 2 := by cases v <;> simp [Value.category]
/-- an int from .. to .., made -/
theorem en_mk_v {lo hi : Nat} {x : Int32} (h1 : lo ≤ en_z x) (h2 : en_z x ≤ hi) (h3 : hi < 4294967296) : en_v E ρ ω (en_mk lo hi) (.int x) := by
  unfold en_mk
  cases h : Nat.beq lo hi with
  | true =>
    rw [en_if_t]
    have e := en_beq_t.mp h
    have e2 : en_z x = lo := by omega
    rw [en_v_const (by omega), ← e2, en_d_z]
  | false =>
    rw [en_if_f]
    show en_v E ρ ω (73786976294838206464 + (lo * 4294967296 + hi)) (.int x)
    rw [en_v_rng (by omega) (by omega)]
    exact ⟨x, rfl, by omega, by omega⟩
theorem en_any_v (x : Int32) : en_v E ρ ω 73786976299133173759 (.int x) := by
  rw [en_v_rng (by decide) (by decide)]
  have := en_z_lt x
  exact ⟨x, rfl, by omega, by omega⟩
def en_e (ρ : Nat → Int32) (ev : en_V) : Prop := ∀ i : Nat, (en_nth (0, 4294967295) ev i).1 ≤ en_z (ρ i) ∧ en_z (ρ i) ≤ (en_nth (0, 4294967295) ev i).2
theorem en_e_set {ev : en_V} (h : en_e ρ ev) {i : Nat} {q : Nat × Nat} (h1 : q.1 ≤ en_z (ρ i)) (h2 : en_z (ρ i) ≤ q.2) : en_e ρ (en_set ev i q) := by
  intro j
  rw [en_set_eq, en_nth_eq, List.getElem?_set]
  by_cases hij : i = j
  · subst hij
    by_cases hl : i < ev.length
    · simp [hl, h1, h2]
    · simp only [hl, if_true, if_false, Option.getD_none]
      have := en_z_lt (ρ i)
      exact ⟨Nat.zero_le _, by show en_z (ρ i) ≤ 4294967295; omega⟩
  · rw [if_neg hij, ← en_nth_eq]
    exact h j
/-- a named int, moved: if nothing wraps, its number moves so -/
theorem en_z_off {x : Int32} {c : Nat} (h1 : 32768 ≤ en_z x + c % 65536) (h2 : en_z x + c % 65536 < 4294967296 + 32768) : en_z (x + en_off c) + 32768 = en_z x + c % 65536 := by
  have hx := en_z_int x
  have e0 : x + en_off c = Int32.ofInt (((en_z x : Nat) : Int) - 2147483648) + Int32.ofInt (((c % 65536 : Nat) : Int) - 32768) := by
    conv => lhs; rw [← en_d_z x]
    rfl
  have e : x + en_off c = en_d (en_z x + c % 65536 - 32768) := by
    rw [e0, ← Int32.ofInt_add]
    unfold en_d
    exact congrArg Int32.ofInt (by omega)
  rw [e, en_z_d (by omega)]
  omega
/-- where an int goes: the reading of a code is right -/
theorem en_iv_v {w : en_W} {c : Nat} {x : Int32} (he : en_e ρ (en_ev w)) (hv : en_v E ρ ω c (.int x)) : ∃ a b, a ≤ en_z x ∧ en_z x ≤ b ∧ b < 4294967296 ∧ ∀ {α : Type} (k : Nat → Nat → α), en_iv w c k = k a b := by
  have hb := en_v_big hv
  have hz := en_z_lt x
  rcases Nat.lt_or_ge c 4294967296 with q | q
  · have e : x = en_d c := by simpa using (en_v_const q).mp hv
    refine ⟨c, c, ?_, ?_, q, fun k => ?_⟩
    · rw [e, en_z_d q]; omega
    · rw [e, en_z_d q]; omega
    · unfold en_iv
      rw [en_ble_t.mpr (by omega), en_if_t]
  · rcases Nat.lt_or_ge c 8589934592 with q2 | q2
    · have e : x = ρ ((c - 4294967296) / 65536) + en_off c := by simpa using (en_v_name q q2).mp hv
      obtain ⟨h1, h2⟩ := he ((c - 4294967296) / 65536)
      cases hn : en_nth (0, 4294967295) (en_ev w) ((c - 4294967296) / 65536) with
      | mk lo hi =>
        rw [hn] at h1 h2
        by_cases g1 : 32768 ≤ lo + c % 65536
        · by_cases g2 : hi + c % 65536 ≤ 4295000063
          · have h3 := en_z_off (x := ρ ((c - 4294967296) / 65536)) (c := c) (by simp only [] at h1; omega) (by simp only [] at h2; omega)
            rw [← e] at h3
            refine ⟨lo + c % 65536 - 32768, hi + c % 65536 - 32768, by simp only [] at h1; omega, by simp only [] at h2; omega, by omega, fun k => ?_⟩
            unfold en_iv
            rw [en_ble_f.mpr (by omega), en_if_f, en_ble_t.mpr (by omega), en_if_t]
            have hn2 : en_nth (0, 4294967295) (en_ev w) (Nat.div (Nat.sub c 4294967296) 65536) = (lo, hi) := hn
            rw [hn2]
            show en_if (Nat.ble 32768 (lo + c % 65536)) (en_if (Nat.ble (hi + c % 65536) 4295000063) _ _) _ = _
            rw [en_ble_t.mpr g1, en_if_t, en_ble_t.mpr g2, en_if_t]
            rfl
          · refine ⟨0, 4294967295, Nat.zero_le _, by omega, by decide, fun k => ?_⟩
            unfold en_iv
            rw [en_ble_f.mpr (by omega), en_if_f, en_ble_t.mpr (by omega), en_if_t]
            have hn2 : en_nth (0, 4294967295) (en_ev w) (Nat.div (Nat.sub c 4294967296) 65536) = (lo, hi) := hn
            rw [hn2]
            show en_if (Nat.ble 32768 (lo + c % 65536)) (en_if (Nat.ble (hi + c % 65536) 4295000063) _ _) _ = _
            rw [en_ble_t.mpr g1, en_if_t, en_ble_f.mpr (by omega), en_if_f]
        · refine ⟨0, 4294967295, Nat.zero_le _, by omega, by decide, fun k => ?_⟩
          unfold en_iv
          rw [en_ble_f.mpr (by omega), en_if_f, en_ble_t.mpr (by omega), en_if_t]
          have hn2 : en_nth (0, 4294967295) (en_ev w) (Nat.div (Nat.sub c 4294967296) 65536) = (lo, hi) := hn
          rw [hn2]
          show en_if (Nat.ble 32768 (lo + c % 65536)) (en_if (Nat.ble (hi + c % 65536) 4295000063) _ _) _ = _
          rw [en_ble_f.mpr (by omega), en_if_f]
    · rcases Nat.lt_or_ge c 73786976294838206464 with q3 | q3
      · refine ⟨0, 4294967295, Nat.zero_le _, by omega, by decide, fun k => ?_⟩
        unfold en_iv
        rw [en_ble_f.mpr (by omega), en_if_f, en_ble_f.mpr (by omega), en_if_f, en_ble_f.mpr (by omega), en_if_f]
      · obtain ⟨y, hy, h1, h2⟩ := (en_v_rng q3 hb).mp hv
        have e : x = y := by simpa using hy
        subst e
        refine ⟨_, _, h1, h2, by omega, fun k => ?_⟩
        unfold en_iv
        rw [en_ble_f.mpr (by omega), en_if_f, en_ble_f.mpr (by omega), en_if_f, en_ble_t.mpr (by omega), en_if_t]
        rfl
/-- the same rest of a state, but for ranges -/
def en_wq (w w' : en_W) : Prop := w'.1 = w.1 ∧ w'.2.1 = w.2.1 ∧ w'.2.2.1 = w.2.2.1 ∧ w'.2.2.2.1 = w.2.2.2.1 ∧ w'.2.2.2.2.1 = w.2.2.2.2.1
theorem en_wq.rf (w : en_W) : en_wq w w := ⟨rfl, rfl, rfl, rfl, rfl⟩
theorem en_wq.tr {a b c : en_W} (h : en_wq a b) (g : en_wq b c) : en_wq a c := ⟨g.1.trans h.1, g.2.1.trans h.2.1, g.2.2.1.trans h.2.2.1, g.2.2.2.1.trans h.2.2.2.1, g.2.2.2.2.trans h.2.2.2.2⟩
/-- a true range of a named int may be noted -/
theorem en_ref_v {w : en_W} {c lo hi : Nat} {x : Int32} {k : en_W → Bool} (he : en_e ρ (en_ev w)) (hv : en_v E ρ ω c (.int x)) (h1 : lo ≤ en_z x) (h2 : en_z x ≤ hi) (hk : en_ref w c lo hi k = true) : ∃ w', k w' = true ∧ en_wq w w' ∧ en_e ρ (en_ev w') := by
  unfold en_ref at hk
  rw [en_ble_t.mpr (by omega), en_if_t] at hk
  rcases Nat.lt_or_ge c 4294967296 with q | q
  · rw [en_ble_t.mpr (by omega), en_if_t] at hk
    exact ⟨w, hk, en_wq.rf w, he⟩
  · rw [en_ble_f.mpr (by omega), en_if_f] at hk
    rcases Nat.lt_or_ge c 8589934592 with q2 | q2
    · rw [en_ble_t.mpr (by omega), en_if_t] at hk
      have e : x = ρ ((c - 4294967296) / 65536) + en_off c := by simpa using (en_v_name q q2).mp hv
      obtain ⟨g1, g2⟩ := he ((c - 4294967296) / 65536)
      cases hn : en_nth (0, 4294967295) (en_ev w) ((c - 4294967296) / 65536) with
      | mk l h =>
        rw [hn] at g1 g2
        have hk : en_if (Nat.ble 32768 (l + c % 65536)) (en_if (Nat.ble (h + c % 65536) 4295000063) (k (en_sev w ((c - 4294967296) / 65536) (lo + 32768 - c % 65536, hi + 32768 - c % 65536))) (k w)) (k w) = true := by
          have h9 : (Prod.rec (motive := fun _ => Bool) (fun l h => en_if (Nat.ble 32768 (l + c % 65536)) (en_if (Nat.ble (h + c % 65536) 4295000063) (k (en_sev w ((c - 4294967296) / 65536) (lo + 32768 - c % 65536, hi + 32768 - c % 65536))) (k w)) (k w)) (en_nth (0, 4294967295) (en_ev w) ((c - 4294967296) / 65536)) : Bool) = true := hk
          rw [hn] at h9
          exact h9
        rcases en_if_or.mp hk with ⟨a1, hk⟩ | ⟨a1, hk⟩
        · rcases en_if_or.mp hk with ⟨a2, hk⟩ | ⟨a2, hk⟩
          · have a1 := en_ble_t.mp a1
            have a2 := en_ble_t.mp a2
            have h3 := en_z_off (x := ρ ((c - 4294967296) / 65536)) (c := c) (by simp only [] at g1; omega) (by simp only [] at g2; omega)
            rw [← e] at h3
            exact ⟨_, hk, ⟨rfl, rfl, rfl, rfl, rfl⟩, en_e_set he (by simp only []; omega) (by simp only []; omega)⟩
          · exact ⟨w, hk, en_wq.rf w, he⟩
        · exact ⟨w, hk, en_wq.rf w, he⟩
    · rw [en_ble_f.mpr (by omega), en_if_f] at hk
      exact ⟨w, hk, en_wq.rf w, he⟩
theorem en_all_v {f : Nat → Bool} : ∀ {n lo : Nat}, en_all f n lo = true → ∀ v, lo ≤ v → v ≤ lo + n → f v = true := by
  intro n
  induction n with
  | zero => intro lo h v h1 h2; have e : v = lo := by omega
            subst e; exact h
  | succ n ih =>
    intro lo h v h1 h2
    have h9 : en_if (f lo) (en_all f n (Nat.succ lo)) false = true := h
    obtain ⟨a, b⟩ := en_if_and.mp h9
    rcases Nat.lt_or_ge lo v with q | q
    · exact ih b v q (by omega)
    · have e : v = lo := by omega
      subst e; exact a
/-- an int that is to be known -/
theorem en_pt_v {w : en_W} {c : Nat} {x : Int32} {k : Nat → Bool} {r : en_W → Bool} {o : Bool} (he : en_e ρ (en_ev w)) (hv : en_v E ρ ω c (.int x)) (h : en_pt w c k r o = true) : k (en_z x) = true ∨ (∃ w', r w' = true ∧ en_wq w w' ∧ en_e ρ (en_ev w')) ∨ o = true := by
  unfold en_pt at h
  rcases en_if_or.mp h with ⟨a1, h⟩ | ⟨a1, h⟩
  · have e : x = en_d c := by simpa using (en_v_const (by have := en_ble_t.mp a1; omega)).mp hv
    left
    rw [e, en_z_d (by have := en_ble_t.mp a1; omega)]
    exact h
  · obtain ⟨a, b, g1, g2, g3, g4⟩ := en_iv_v he hv
    rw [g4] at h
    rcases en_if_or.mp h with ⟨a2, h⟩ | ⟨a2, h⟩
    · have := en_beq_t.mp a2
      left
      rw [show en_z x = a by omega]
      exact h
    · rcases en_if_or.mp h with ⟨a3, h⟩ | ⟨a3, h⟩
      · rcases en_if_or.mp h with ⟨a4, h⟩ | ⟨a4, h⟩
        · rcases en_if_or.mp h with ⟨a5, h⟩ | ⟨a5, h⟩
          · right; left
            have h9 := en_all_v h (en_z x) g1 (by have : b - a = b - a := rfl; show en_z x ≤ a + (b - a); omega)
            exact en_ref_v he hv (Nat.le_refl _) (Nat.le_refl _) h9
          · left
            exact en_all_v h (en_z x) g1 (by show en_z x ≤ a + (b - a); omega)
        · have := en_ble_f.mp a4
          omega
      · right; right; exact h
theorem en_lt_v {w : en_W} {x y : Nat} {X Y : Int32} {kt kf : en_W → Bool} (he : en_e ρ (en_ev w)) (hx : en_v E ρ ω x (.int X)) (hy : en_v E ρ ω y (.int Y)) (h : en_lt x y w kt kf = true) : (X < Y → ∃ w', kt w' = true ∧ en_wq w w' ∧ en_e ρ (en_ev w')) ∧ (¬ X < Y → ∃ w', kf w' = true ∧ en_wq w w' ∧ en_e ρ (en_ev w')) := by
  unfold en_lt at h
  rcases en_if_or.mp h with ⟨a1, h⟩ | ⟨-, h⟩
  · obtain ⟨a1, a2⟩ := en_if_and.mp a1
    have a1 := en_ble_t.mp a1
    have a2 := en_ble_t.mp a2
    have ex : X = en_d x := by simpa using (en_v_const (by omega)).mp hx
    have ey : Y = en_d y := by simpa using (en_v_const (by omega)).mp hy
    have hlt : X < Y ↔ x < y := by rw [en_z_lt_iff, ex, ey, en_z_d (by omega), en_z_d (by omega)]
    rcases en_if_or.mp h with ⟨a3, h⟩ | ⟨a3, h⟩
    · have := en_ble_t.mp a3
      exact ⟨fun q => absurd (hlt.mp q) (by omega), fun _ => ⟨w, h, en_wq.rf w, he⟩⟩
    · have := en_ble_f.mp a3
      exact ⟨fun _ => ⟨w, h, en_wq.rf w, he⟩, fun q => absurd (hlt.mpr (by omega)) q⟩
  · obtain ⟨a, b, g1, g2, g3, g4⟩ := en_iv_v he hx
    obtain ⟨c, d, f1, f2, f3, f4⟩ := en_iv_v he hy
    rw [g4, f4] at h
    rw [en_z_lt_iff]
    rcases en_if_or.mp h with ⟨a3, h⟩ | ⟨a3, h⟩
    · have : b + 1 ≤ c := en_ble_t.mp a3
      exact ⟨fun _ => ⟨w, h, en_wq.rf w, he⟩, fun q => absurd (by omega) q⟩
    · rcases en_if_or.mp h with ⟨a4, h⟩ | ⟨a4, h⟩
      · have := en_ble_t.mp a4
        exact ⟨fun q => absurd q (by omega), fun _ => ⟨w, h, en_wq.rf w, he⟩⟩
      · obtain ⟨h1, h2⟩ := en_if_and.mp h
        refine ⟨fun q => ?_, fun q => ?_⟩
        · obtain ⟨w1, k1, e1, e2⟩ := en_ref_v he hx g1 (by show en_z X ≤ d - 1; omega) h1
          obtain ⟨w2, k2, e3, e4⟩ := en_ref_v e2 hy (by show a + 1 ≤ en_z Y; omega) f2 k1
          exact ⟨w2, k2, e1.tr e3, e4⟩
        · obtain ⟨w1, k1, e1, e2⟩ := en_ref_v he hx (by omega) g2 h2
          obtain ⟨w2, k2, e3, e4⟩ := en_ref_v e2 hy f1 (by omega) k1
          exact ⟨w2, k2, e1.tr e3, e4⟩
theorem en_cut_v {w : en_W} {x a b c : Nat} {X : Int32} {k : en_W → Bool} (he : en_e ρ (en_ev w)) (hx : en_v E ρ ω x (.int X)) (h1 : a ≤ en_z X) (h2 : en_z X ≤ b) (hn : en_z X ≠ c) (h : en_cut w x a b c k = true) : ∃ w', k w' = true ∧ en_wq w w' ∧ en_e ρ (en_ev w') := by
  unfold en_cut at h
  rcases en_if_or.mp h with ⟨a3, h⟩ | ⟨a3, h⟩
  · have := en_beq_t.mp a3
    exact en_ref_v he hx (by show a + 1 ≤ en_z X; omega) h2 h
  · rcases en_if_or.mp h with ⟨a4, h⟩ | ⟨a4, h⟩
    · have := en_beq_t.mp a4
      exact en_ref_v he hx h1 (by show en_z X ≤ b - 1; omega) h
    · exact ⟨w, h, en_wq.rf w, he⟩
theorem en_eq_v {w : en_W} {x y : Nat} {X Y : Int32} {kt kf : en_W → Bool} (he : en_e ρ (en_ev w)) (hx : en_v E ρ ω x (.int X)) (hy : en_v E ρ ω y (.int Y)) (h : en_eq x y w kt kf = true) : (X = Y → ∃ w', kt w' = true ∧ en_wq w w' ∧ en_e ρ (en_ev w')) ∧ (¬ X = Y → ∃ w', kf w' = true ∧ en_wq w w' ∧ en_e ρ (en_ev w')) := by
  unfold en_eq at h
  rcases en_if_or.mp h with ⟨a1, h⟩ | ⟨-, h⟩
  · obtain ⟨a1, a2⟩ := en_if_and.mp a1
    have a1 := en_ble_t.mp a1
    have a2 := en_ble_t.mp a2
    have ex : X = en_d x := by simpa using (en_v_const (by omega)).mp hx
    have ey : Y = en_d y := by simpa using (en_v_const (by omega)).mp hy
    have hlt : X = Y ↔ x = y := by rw [en_z_eq_iff, ex, ey, en_z_d (by omega), en_z_d (by omega)]
    rcases en_if_or.mp h with ⟨a3, h⟩ | ⟨a3, h⟩
    · have := en_beq_t.mp a3
      exact ⟨fun _ => ⟨w, h, en_wq.rf w, he⟩, fun q => absurd (hlt.mpr this) q⟩
    · have := en_beq_f.mp a3
      exact ⟨fun q => absurd (hlt.mp q) this, fun _ => ⟨w, h, en_wq.rf w, he⟩⟩
  · rcases en_if_or.mp h with ⟨a1, hk⟩ | ⟨-, h⟩
    · obtain ⟨a1, a2⟩ := en_if_and.mp a1
      have a1 := en_beq_t.mp a1
      have a2 := en_ble_t.mp a2
      subst a1
      have e : X = Y := by
        rcases Nat.lt_or_ge x 4294967296 with q | q
        · have h1 := (en_v_const q).mp hx
          have h2 := (en_v_const q).mp hy
          simpa using h1.trans h2.symm
        · have h1 := (en_v_name q (by omega)).mp hx
          have h2 := (en_v_name q (by omega)).mp hy
          simpa using h1.trans h2.symm
      exact ⟨fun _ => ⟨w, hk, en_wq.rf w, he⟩, fun q => absurd e q⟩
    · obtain ⟨a, b, g1, g2, g3, g4⟩ := en_iv_v he hx
      obtain ⟨c, d, f1, f2, f3, f4⟩ := en_iv_v he hy
      rw [g4, f4] at h
      rw [en_z_eq_iff]
      rcases en_if_or.mp h with ⟨a3, h⟩ | ⟨a3, h⟩
      · have : b + 1 ≤ c := en_ble_t.mp a3
        exact ⟨fun q => absurd q (by omega), fun _ => ⟨w, h, en_wq.rf w, he⟩⟩
      · rcases en_if_or.mp h with ⟨a4, h⟩ | ⟨a4, h⟩
        · have : d + 1 ≤ a := en_ble_t.mp a4
          exact ⟨fun q => absurd q (by omega), fun _ => ⟨w, h, en_wq.rf w, he⟩⟩
        · obtain ⟨h1, h2⟩ := en_if_and.mp h
          refine ⟨fun q => ?_, fun q => ?_⟩
          · rcases en_if_or.mp h1 with ⟨a5, h1⟩ | ⟨a5, h1⟩
            · have := en_beq_t.mp a5
              exact en_ref_v he hx (by omega) (by omega) h1
            · rcases en_if_or.mp h1 with ⟨a6, h1⟩ | ⟨a6, h1⟩
              · have := en_beq_t.mp a6
                exact en_ref_v he hy (by omega) (by omega) h1
              · exact ⟨w, h1, en_wq.rf w, he⟩
          · rcases en_if_or.mp h2 with ⟨a5, h2⟩ | ⟨a5, h2⟩
            · have := en_beq_t.mp a5
              rcases en_if_or.mp h2 with ⟨a6, h2⟩ | ⟨a6, h2⟩
              · have := en_beq_t.mp a6
                have := en_ble_f.mp a3
                have := en_ble_f.mp a4
                omega
              · exact en_cut_v he hx g1 g2 (by omega) h2
            · rcases en_if_or.mp h2 with ⟨a6, h2⟩ | ⟨a6, h2⟩
              · have := en_beq_t.mp a6
                exact en_cut_v he hy f1 f2 (by omega) h2
              · exact ⟨w, h2, en_wq.rf w, he⟩
theorem en_cmp_v {k : Jvm.ClassFile.Cond} {w : en_W} {x y : Nat} {X Y : Int32} {kt kf : en_W → Bool} (he : en_e ρ (en_ev w)) (hx : en_v E ρ ω x (.int X)) (hy : en_v E ρ ω y (.int Y)) (h : en_cmp k x y w kt kf = true) : (mm_cond k X Y = true → ∃ w', kt w' = true ∧ en_wq w w' ∧ en_e ρ (en_ev w')) ∧ (¬ mm_cond k X Y = true → ∃ w', kf w' = true ∧ en_wq w w' ∧ en_e ρ (en_ev w')) := by
  cases k with
  | eq =>
    obtain ⟨h1, h2⟩ := en_eq_v he hx hy (show en_eq x y w kt kf = true from h)
    simp only [mm_cond, decide_eq_true_eq]
    exact ⟨h1, h2⟩
  | ne =>
    obtain ⟨h1, h2⟩ := en_eq_v he hx hy (show en_eq x y w kf kt = true from h)
    simp only [mm_cond, decide_eq_true_eq, Decidable.not_not]
    exact ⟨h2, h1⟩
  | lt =>
    obtain ⟨h1, h2⟩ := en_lt_v he hx hy (show en_lt x y w kt kf = true from h)
    simp only [mm_cond, decide_eq_true_eq]
    exact ⟨h1, h2⟩
  | ge =>
    obtain ⟨h1, h2⟩ := en_lt_v he hx hy (show en_lt x y w kf kt = true from h)
    simp only [mm_cond, decide_eq_true_eq]
    exact ⟨fun q => h2 (Int32.not_lt.mpr q), fun q => h1 (Int32.not_le.mp q)⟩
  | gt =>
    obtain ⟨h1, h2⟩ := en_lt_v he hy hx (show en_lt y x w kt kf = true from h)
    simp only [mm_cond, decide_eq_true_eq]
    exact ⟨h1, h2⟩
  | le =>
    obtain ⟨h1, h2⟩ := en_lt_v he hy hx (show en_lt y x w kf kt = true from h)
    simp only [mm_cond, decide_eq_true_eq]
    exact ⟨fun q => h2 (Int32.not_lt.mpr q), fun q => h1 (Int32.not_le.mp q)⟩
end ENV
end
section
/-! THE ENGINE IS SOUND, 3: arithmetic -/
theorem en_d_nI {c : Nat} (h : 2147483648 ≤ c) : en_d c = nI (c - 2147483648) := by
  unfold en_d nI
  rw [show ((c : Int) - 2147483648) = ((c - 2147483648 : Nat) : Int) by omega]
  exact Int32.ofInt_eq_ofNat
theorem en_nI_d (n : Nat) : nI n = en_d (n + 2147483648) := by rw [en_d_nI (by omega), Nat.add_sub_cancel]
theorem en_nI_z {x : Int32} (h : 2147483648 ≤ en_z x) : x = nI (en_z x - 2147483648) := by rw [← en_d_nI h, en_d_z]
theorem en_z_nI {n : Nat} (h : n < 2147483648) : en_z (nI n) = n + 2147483648 := by rw [en_nI_d, en_z_d (by omega)]
theorem en_d_add (x y : Nat) : en_d x + en_d y = en_d ((x + y + 2147483648) % 4294967296) := by
  unfold en_d
  rw [← Int32.ofInt_add]
  apply en_ofInt_mod
  omega
theorem en_d_sub {x y : Nat} (h : y < 4294967296) : en_d x - en_d y = en_d ((x + 6442450944 - y) % 4294967296) := by
  unfold en_d
  rw [← Int32.ofInt_sub]
  apply en_ofInt_mod
  omega
theorem en_mod_aux (u : Int) (t : Nat) (h : u % 4294967296 = (t : Int) % 4294967296) : u % 4294967296 = ((((t + 2147483648) % 4294967296 : Nat) : Int) - 2147483648) % 4294967296 := by omega
theorem en_d_mul (x y : Nat) : en_d x * en_d y = en_d (((x + 2147483648) * (y + 2147483648) + 2147483648) % 4294967296) := by
  unfold en_d
  rw [← Int32.ofInt_mul]
  apply en_ofInt_mod
  have h1 : ((x : Int) - 2147483648) % 4294967296 = ((x + 2147483648 : Nat) : Int) % 4294967296 := by omega
  have h2 : ((y : Int) - 2147483648) % 4294967296 = ((y + 2147483648 : Nat) : Int) % 4294967296 := by omega
  have hm : (((x : Int) - 2147483648) * ((y : Int) - 2147483648)) % 4294967296 = (((x + 2147483648) * (y + 2147483648) : Nat) : Int) % 4294967296 := by rw [Int.natCast_mul, Int.mul_emod, h1, h2, ← Int.mul_emod]
  exact en_mod_aux _ _ hm
theorem en_z_add {X Y : Int32} (h1 : 2147483648 ≤ en_z X + en_z Y) (h2 : en_z X + en_z Y < 6442450944) : en_z (X + Y) = en_z X + en_z Y - 2147483648 := by
  have e : X + Y = en_d ((en_z X + en_z Y + 2147483648) % 4294967296) := by rw [← en_d_add, en_d_z, en_d_z]
  rw [e, en_z_d (by omega)]
  omega
theorem en_z_sub {X Y : Int32} (h1 : en_z Y ≤ en_z X + 2147483648) (h2 : en_z X + 2147483648 < en_z Y + 4294967296) : en_z (X - Y) = en_z X + 2147483648 - en_z Y := by
  have hy := en_z_lt Y
  have e : X - Y = en_d ((en_z X + 6442450944 - en_z Y) % 4294967296) := by rw [← en_d_sub hy, en_d_z, en_d_z]
  rw [e, en_z_d (by omega)]
  omega
theorem en_nI_and {a b : Nat} (ha : a < 4294967296) (hb : b < 4294967296) : nI a &&& nI b = nI (a &&& b) := by
  apply Int32.toBitVec_inj.mp
  show BitVec.ofNat 32 a &&& BitVec.ofNat 32 b = BitVec.ofNat 32 (a &&& b)
  apply BitVec.eq_of_toNat_eq
  have h : a &&& b ≤ a := Nat.and_le_left
  simp only [BitVec.toNat_and, BitVec.toNat_ofNat]
  rw [Nat.mod_eq_of_lt ha, Nat.mod_eq_of_lt hb, Nat.mod_eq_of_lt (by omega)]
theorem en_nI_or {a b : Nat} (ha : a < 4294967296) (hb : b < 4294967296) : nI a ||| nI b = nI (a ||| b) := by
  apply Int32.toBitVec_inj.mp
  show BitVec.ofNat 32 a ||| BitVec.ofNat 32 b = BitVec.ofNat 32 (a ||| b)
  apply BitVec.eq_of_toNat_eq
  have h : a ||| b < 2 ^ 32 := Nat.or_lt_two_pow ha hb
  simp only [BitVec.toNat_or, BitVec.toNat_ofNat]
  rw [Nat.mod_eq_of_lt ha, Nat.mod_eq_of_lt hb, Nat.mod_eq_of_lt h]
theorem en_and_any (X : Int32) {b : Nat} (hb : b < 2147483648) : ∃ j, j ≤ b ∧ X &&& nI b = nI j := by
  refine ⟨X.toBitVec.toNat &&& b, Nat.and_le_right, ?_⟩
  apply Int32.toBitVec_inj.mp
  show X.toBitVec &&& BitVec.ofNat 32 b = BitVec.ofNat 32 (X.toBitVec.toNat &&& b)
  apply BitVec.eq_of_toNat_eq
  have h : X.toBitVec.toNat &&& b ≤ b := Nat.and_le_right
  simp only [BitVec.toNat_and, BitVec.toNat_ofNat]
  rw [Nat.mod_eq_of_lt (by omega), Nat.mod_eq_of_lt (by omega)]
theorem en_sh31 : ∀ s, s < 32 → (nI s &&& 31) = nI s ∧ ((nI s).toBitVec.smod 32).toNat = s := by decide +kernel
section ENA
variable (E : mm_E) (ρ : Nat → Int32) (ω : Nat → Value)
/-- a rule of two ints is right -/
def en_G (g : en_W → Nat → Nat → (Nat → Bool) → Bool) (r : Int32 → Int32 → Option Int32) : Prop := ∀ (w : en_W) (x y : Nat) (k : Nat → Bool) (X Y : Int32), en_e ρ (en_ev w) → en_v E ρ ω x (.int X) → en_v E ρ ω y (.int Y) → g w x y k = true → ∃ Z, r X Y = some Z ∧ ∃ c, k c = true ∧ en_v E ρ ω c (.int Z)
variable {E ρ ω}
theorem en_mk_ex {k : Nat → Bool} {lo hi : Nat} {x : Int32} (h : k (en_mk lo hi) = true) (h1 : lo ≤ en_z x) (h2 : en_z x ≤ hi) (h3 : hi < 4294967296) : ∃ c, k c = true ∧ en_v E ρ ω c (.int x) := ⟨_, h, en_mk_v h1 h2 h3⟩
theorem en_addI_v {w : en_W} {x y : Nat} {k : Nat → Bool} {X Y : Int32} (he : en_e ρ (en_ev w)) (hx : en_v E ρ ω x (.int X)) (hy : en_v E ρ ω y (.int Y)) (h : en_addI w x y k = true) : ∃ c, k c = true ∧ en_v E ρ ω c (.int (X + Y)) := by
  unfold en_addI at h
  obtain ⟨a, b, g1, g2, g3, g4⟩ := en_iv_v he hx
  obtain ⟨c, d, f1, f2, f3, f4⟩ := en_iv_v he hy
  rw [g4, f4] at h
  rcases en_if_or.mp h with ⟨a1, h⟩ | ⟨-, h⟩
  · rcases en_if_or.mp h with ⟨a2, h⟩ | ⟨-, h⟩
    · have a1 : 2147483648 ≤ a + c := en_ble_t.mp a1
      have a2 : b + d ≤ 6442450943 := en_ble_t.mp a2
      have e := en_z_add (X := X) (Y := Y) (by omega) (by omega)
      have q1 : a + c - 2147483648 ≤ en_z (X + Y) := by omega
      have q2 : en_z (X + Y) ≤ b + d - 2147483648 := by omega
      have q3 : b + d - 2147483648 < 4294967296 := by omega
      exact en_mk_ex h q1 q2 q3
    · exact ⟨_, h, en_any_v _⟩
  · exact ⟨_, h, en_any_v _⟩
theorem en_addN_v {w : en_W} {x y : Nat} {k : Nat → Bool} {X Y : Int32} (he : en_e ρ (en_ev w)) (hx : en_v E ρ ω x (.int X)) (hy : en_v E ρ ω y (.int Y)) (q1 : 4294967296 ≤ x) (q2 : x < 8589934592) (q3 : y < 4294967296) (h : en_addN w x y k = true) : ∃ c, k c = true ∧ en_v E ρ ω c (.int (X + Y)) := by
  unfold en_addN at h
  rcases en_if_or.mp h with ⟨a1, h⟩ | ⟨-, h⟩
  · rcases en_if_or.mp h with ⟨a2, h⟩ | ⟨-, h⟩
    · have a1 : 2147483648 ≤ x % 65536 + y := en_ble_t.mp a1
      have a2 : x % 65536 + y ≤ 2147549183 := en_ble_t.mp a2
      refine ⟨_, h, ?_⟩
      have ex : X = ρ ((x - 4294967296) / 65536) + en_off x := by simpa using (en_v_name q1 q2).mp hx
      have ey : Y = en_d y := by simpa using (en_v_const q3).mp hy
      show en_v E ρ ω (x / 65536 * 65536 + (x % 65536 + y - 2147483648)) (.int (X + Y))
      rw [en_v_name (by omega) (by omega), ex, ey, Int32.add_assoc]
      rw [show (x / 65536 * 65536 + (x % 65536 + y - 2147483648) - 4294967296) / 65536 = (x - 4294967296) / 65536 by omega]
      have e9 : en_off x + en_d y = en_off (x / 65536 * 65536 + (x % 65536 + y - 2147483648)) := by
        unfold en_off en_d
        rw [← Int32.ofInt_add]
        exact congrArg Int32.ofInt (by omega)
      rw [e9]
    · exact en_addI_v he hx hy h
  · exact en_addI_v he hx hy h
theorem en_add_v {w : en_W} {x y : Nat} {k : Nat → Bool} {X Y : Int32} (he : en_e ρ (en_ev w)) (hx : en_v E ρ ω x (.int X)) (hy : en_v E ρ ω y (.int Y)) (h : en_add w x y k = true) : ∃ c, k c = true ∧ en_v E ρ ω c (.int (X + Y)) := by
  unfold en_add at h
  rcases en_if_or.mp h with ⟨a1, h⟩ | ⟨a1, h⟩
  · have a1 := en_ble_t.mp a1
    rcases en_if_or.mp h with ⟨a2, h⟩ | ⟨a2, h⟩
    · have a2 := en_ble_t.mp a2
      have ex : X = en_d x := by simpa using (en_v_const (by omega)).mp hx
      have ey : Y = en_d y := by simpa using (en_v_const (by omega)).mp hy
      refine ⟨_, h, ?_⟩
      show en_v E ρ ω ((x + y + 2147483648) % 4294967296) _
      rw [en_v_const (by omega), ex, ey, en_d_add]
    · have a2 := en_ble_f.mp a2
      rcases en_if_or.mp h with ⟨a3, h⟩ | ⟨a3, h⟩
      · have a3 := en_ble_t.mp a3
        exact en_addN_v he hx hy (by omega) (by omega) (by omega) h
      · exact en_addI_v he hx hy h
  · have a1 := en_ble_f.mp a1
    rcases en_if_or.mp h with ⟨a2, h⟩ | ⟨a2, h⟩
    · have a2 := en_ble_t.mp a2
      rcases en_if_or.mp h with ⟨a3, h⟩ | ⟨a3, h⟩
      · have a3 := en_ble_t.mp a3
        rw [Int32.add_comm]
        exact en_addN_v he hy hx (by omega) (by omega) (by omega) h
      · exact en_addI_v he hx hy h
    · exact en_addI_v he hx hy h
theorem en_add_G : en_G E ρ ω en_add (fun x y => some (x + y)) := fun _ _ _ _ _ _ he hx hy h => ⟨_, rfl, en_add_v he hx hy h⟩
theorem en_subI_v {w : en_W} {x y : Nat} {k : Nat → Bool} {X Y : Int32} (he : en_e ρ (en_ev w)) (hx : en_v E ρ ω x (.int X)) (hy : en_v E ρ ω y (.int Y)) (h : en_subI w x y k = true) : ∃ c, k c = true ∧ en_v E ρ ω c (.int (X - Y)) := by
  unfold en_subI at h
  obtain ⟨a, b, g1, g2, g3, g4⟩ := en_iv_v he hx
  obtain ⟨c, d, f1, f2, f3, f4⟩ := en_iv_v he hy
  rw [g4, f4] at h
  rcases en_if_or.mp h with ⟨a1, h⟩ | ⟨-, h⟩
  · rcases en_if_or.mp h with ⟨a2, h⟩ | ⟨-, h⟩
    · have a1 : d ≤ a + 2147483648 := en_ble_t.mp a1
      have a2 : b + 2147483648 ≤ c + 4294967295 := en_ble_t.mp a2
      have e := en_z_sub (X := X) (Y := Y) (by omega) (by omega)
      exact ⟨_, h, en_mk_v (by show a + 2147483648 - d ≤ _; omega) (by show _ ≤ b + 2147483648 - c; omega) (by show b + 2147483648 - c < _; omega)⟩
    · exact ⟨_, h, en_any_v _⟩
  · exact ⟨_, h, en_any_v _⟩
theorem en_sub_G : en_G E ρ ω en_sub (fun x y => some (x - y)) := by
  intro w x y k X Y he hx hy h
  refine ⟨_, rfl, ?_⟩
  unfold en_sub at h
  rcases en_if_or.mp h with ⟨a1, h⟩ | ⟨a1, h⟩
  · have a1 := en_ble_t.mp a1
    rcases en_if_or.mp h with ⟨a2, h⟩ | ⟨a2, h⟩
    · have a2 := en_ble_t.mp a2
      have ex : X = en_d x := by simpa using (en_v_const (by omega)).mp hx
      have ey : Y = en_d y := by simpa using (en_v_const (by omega)).mp hy
      refine ⟨_, h, ?_⟩
      show en_v E ρ ω ((x + 6442450944 - y) % 4294967296) _
      rw [en_v_const (by omega), ex, ey, en_d_sub (by omega)]
    · have a2 := en_ble_f.mp a2
      rcases en_if_or.mp h with ⟨a3, h⟩ | ⟨a3, h⟩
      · have a3 := en_ble_t.mp a3
        rcases en_if_or.mp h with ⟨a4, h⟩ | ⟨-, h⟩
        · rcases en_if_or.mp h with ⟨a5, h⟩ | ⟨-, h⟩
          · have a4 : y ≤ x % 65536 + 2147483648 := en_ble_t.mp a4
            have a5 : x % 65536 + 2147483648 ≤ y + 65535 := en_ble_t.mp a5
            refine ⟨_, h, ?_⟩
            have ex : X = ρ ((x - 4294967296) / 65536) + en_off x := by simpa using (en_v_name (by omega) (by omega)).mp hx
            have ey : Y = en_d y := by simpa using (en_v_const (by omega)).mp hy
            show en_v E ρ ω (x / 65536 * 65536 + (x % 65536 + 2147483648 - y)) (.int (X - Y))
            rw [en_v_name (by omega) (by omega), ex, ey]
            rw [show (x / 65536 * 65536 + (x % 65536 + 2147483648 - y) - 4294967296) / 65536 = (x - 4294967296) / 65536 by omega]
            have e9 : en_off x - en_d y = en_off (x / 65536 * 65536 + (x % 65536 + 2147483648 - y)) := by
              unfold en_off en_d
              rw [← Int32.ofInt_sub]
              exact congrArg Int32.ofInt (by omega)
            rw [← e9, Int32.sub_eq_add_neg, Int32.add_assoc, ← Int32.sub_eq_add_neg]
          · exact en_subI_v he hx hy h
        · exact en_subI_v he hx hy h
      · exact en_subI_v he hx hy h
  · exact en_subI_v he hx hy h
theorem en_mul_G : en_G E ρ ω en_mul (fun x y => some (x * y)) := by
  intro w x y k X Y he hx hy h
  refine ⟨_, rfl, ?_⟩
  unfold en_mul at h
  rcases en_if_or.mp h with ⟨a1, h⟩ | ⟨a1, h⟩
  · have a1 := en_ble_t.mp a1
    rcases en_if_or.mp h with ⟨a2, h⟩ | ⟨a2, h⟩
    · have a2 := en_ble_t.mp a2
      have ex : X = en_d x := by simpa using (en_v_const (by omega)).mp hx
      have ey : Y = en_d y := by simpa using (en_v_const (by omega)).mp hy
      refine ⟨_, h, ?_⟩
      show en_v E ρ ω (((x + 2147483648) * (y + 2147483648) + 2147483648) % 4294967296) _
      rw [en_v_const (Nat.mod_lt _ (by decide)), ex, ey, en_d_mul]
    · exact ⟨_, h, en_any_v _⟩
  · exact ⟨_, h, en_any_v _⟩
theorem en_div_G : en_G E ρ ω en_div (fun x y => if y = 0 then none else some (x / y)) := by
  intro w x y k X Y he hx hy h
  unfold en_div at h
  obtain ⟨a1, h⟩ := en_if_and.mp h
  obtain ⟨a2, h⟩ := en_if_and.mp h
  have a1 := en_ble_t.mp a1
  have a2 := en_ble_t.mp a2
  have ey : Y = en_d y := by simpa using (en_v_const (by omega)).mp hy
  obtain ⟨a, b, g1, g2, g3, g4⟩ := en_iv_v he hx
  rw [g4] at h
  obtain ⟨a3, h⟩ := en_if_and.mp h
  have a3 := en_ble_t.mp a3
  have hX := en_z_lt X
  have eX := en_nI_z (x := X) (by omega)
  have eY : Y = nI (y - 2147483648) := by rw [ey, en_d_nI (by omega)]
  have hne : ¬ Y = 0 := by rw [eY]; exact nI_ne0 (by omega) (by omega)
  refine ⟨X / Y, if_neg hne, _, h, ?_⟩
  have ed : X / Y = nI ((en_z X - 2147483648) / (y - 2147483648)) := by
    rw [eY]
    conv => lhs; rw [eX]
    exact pk_div (by omega) (by omega) (by omega)
  have hle : (en_z X - 2147483648) / (y - 2147483648) ≤ en_z X - 2147483648 := Nat.div_le_self _ _
  have h1 : (a - 2147483648) / (y - 2147483648) ≤ (en_z X - 2147483648) / (y - 2147483648) := Nat.div_le_div_right (by omega)
  have h2 : (en_z X - 2147483648) / (y - 2147483648) ≤ (b - 2147483648) / (y - 2147483648) := Nat.div_le_div_right (by omega)
  have h3 : (b - 2147483648) / (y - 2147483648) ≤ b - 2147483648 := Nat.div_le_self _ _
  have ez := en_z_nI (n := (en_z X - 2147483648) / (y - 2147483648)) (by omega)
  rw [← ed] at ez
  refine en_mk_v ?_ ?_ ?_
  · show (a - 2147483648) / (y - 2147483648) + 2147483648 ≤ _; omega
  · show _ ≤ (b - 2147483648) / (y - 2147483648) + 2147483648; omega
  · show (b - 2147483648) / (y - 2147483648) + 2147483648 < _; omega
theorem en_rem_G : en_G E ρ ω en_rem (fun x y => if y = 0 then none else some (x - x / y * y)) := by
  intro w x y k X Y he hx hy h
  unfold en_rem at h
  obtain ⟨a1, h⟩ := en_if_and.mp h
  obtain ⟨a2, h⟩ := en_if_and.mp h
  have a1 := en_ble_t.mp a1
  have a2 := en_ble_t.mp a2
  have ey : Y = en_d y := by simpa using (en_v_const (by omega)).mp hy
  obtain ⟨a, b, g1, g2, g3, g4⟩ := en_iv_v he hx
  rw [g4] at h
  obtain ⟨a3, h⟩ := en_if_and.mp h
  have a3 := en_ble_t.mp a3
  have hX := en_z_lt X
  have eX := en_nI_z (x := X) (by omega)
  have eY : Y = nI (y - 2147483648) := by rw [ey, en_d_nI (by omega)]
  have hne : ¬ Y = 0 := by rw [eY]; exact nI_ne0 (by omega) (by omega)
  have ed : X - X / Y * Y = nI ((en_z X - 2147483648) % (y - 2147483648)) := by
    rw [eY]
    conv => lhs; rw [eX]
    exact pk_rem (by omega) (by omega) (by omega)
  have hlt : (en_z X - 2147483648) % (y - 2147483648) < y - 2147483648 := Nat.mod_lt _ (by omega)
  have ez := en_z_nI (n := (en_z X - 2147483648) % (y - 2147483648)) (by omega)
  rw [← ed] at ez
  refine ⟨_, if_neg hne, ?_⟩
  rcases en_if_or.mp h with ⟨a4, h⟩ | ⟨-, h⟩
  · have a4 : (a - 2147483648) / (y - 2147483648) = (b - 2147483648) / (y - 2147483648) := en_beq_t.mp a4
    refine ⟨_, h, ?_⟩
    have h1 : (a - 2147483648) / (y - 2147483648) ≤ (en_z X - 2147483648) / (y - 2147483648) := Nat.div_le_div_right (by omega)
    have h2 : (en_z X - 2147483648) / (y - 2147483648) ≤ (b - 2147483648) / (y - 2147483648) := Nat.div_le_div_right (by omega)
    have e1 : (a - 2147483648) / (y - 2147483648) = (en_z X - 2147483648) / (y - 2147483648) := Nat.le_antisymm h1 (by rw [a4]; exact h2)
    have e2 : (b - 2147483648) / (y - 2147483648) = (en_z X - 2147483648) / (y - 2147483648) := by rw [← a4]; exact e1
    have m1 := Nat.div_add_mod (a - 2147483648) (y - 2147483648)
    have m2 := Nat.div_add_mod (b - 2147483648) (y - 2147483648)
    have m3 := Nat.div_add_mod (en_z X - 2147483648) (y - 2147483648)
    have hb : (b - 2147483648) % (y - 2147483648) < y - 2147483648 := Nat.mod_lt _ (by omega)
    rw [e1] at m1
    rw [e2] at m2
    refine en_mk_v ?_ ?_ ?_
    · show (a - 2147483648) % (y - 2147483648) + 2147483648 ≤ _; omega
    · show _ ≤ (b - 2147483648) % (y - 2147483648) + 2147483648; omega
    · show (b - 2147483648) % (y - 2147483648) + 2147483648 < _; omega
  · refine ⟨_, h, en_mk_v ?_ ?_ ?_⟩
    · omega
    · show _ ≤ y - 1; omega
    · show y - 1 < _; omega
theorem en_pos_v {f : Nat → Nat → Nat} {r : Int32 → Int32 → Int32} (hf : ∀ a b, a < 2147483648 → b < 2147483648 → f a b < 2147483648 → r (nI a) (nI b) = nI (f a b)) {x y : Nat} {k : Nat → Bool} {X Y : Int32} (hx : en_v E ρ ω x (.int X)) (hy : en_v E ρ ω y (.int Y)) (h : en_pos f x y k = true) : ∃ c, k c = true ∧ en_v E ρ ω c (.int (r X Y)) := by
  unfold en_pos at h
  rcases en_if_or.mp h with ⟨a1, h⟩ | ⟨-, h⟩
  · rcases en_if_or.mp h with ⟨a2, h⟩ | ⟨-, h⟩
    · rcases en_if_or.mp h with ⟨a3, h⟩ | ⟨-, h⟩
      · rcases en_if_or.mp h with ⟨a4, h⟩ | ⟨-, h⟩
        · rcases en_if_or.mp h with ⟨a5, h⟩ | ⟨-, h⟩
          · have a1 := en_ble_t.mp a1
            have a2 := en_ble_t.mp a2
            have a3 := en_ble_t.mp a3
            have a4 := en_ble_t.mp a4
            have a5 : f (x - 2147483648) (y - 2147483648) ≤ 2147483647 := en_ble_t.mp a5
            have ex : X = nI (x - 2147483648) := by rw [← en_d_nI a3]; simpa using (en_v_const (by omega)).mp hx
            have ey : Y = nI (y - 2147483648) := by rw [← en_d_nI a4]; simpa using (en_v_const (by omega)).mp hy
            refine ⟨_, h, ?_⟩
            show en_v E ρ ω (f (x - 2147483648) (y - 2147483648) + 2147483648) _
            rw [en_v_const (by omega), ex, ey, hf _ _ (by omega) (by omega) (by omega), en_nI_d]
          · exact ⟨_, h, en_any_v _⟩
        · exact ⟨_, h, en_any_v _⟩
      · exact ⟨_, h, en_any_v _⟩
    · exact ⟨_, h, en_any_v _⟩
  · exact ⟨_, h, en_any_v _⟩
theorem en_and_G : en_G E ρ ω en_and (fun x y => some (x &&& y)) := by
  intro w x y k X Y he hx hy h
  refine ⟨_, rfl, ?_⟩
  unfold en_and at h
  rcases en_if_or.mp h with ⟨a1, h⟩ | ⟨-, h⟩
  · exact en_pos_v (r := fun x y => x &&& y) (fun a b ha hb _ => en_nI_and (by omega) (by omega)) hx hy h
  · rcases en_if_or.mp h with ⟨a1, h⟩ | ⟨-, h⟩
    · rcases en_if_or.mp h with ⟨a2, h⟩ | ⟨-, h⟩
      · have a1 := en_ble_t.mp a1
        have a2 := en_ble_t.mp a2
        have ey : Y = nI (y - 2147483648) := by rw [← en_d_nI a2]; simpa using (en_v_const (by omega)).mp hy
        obtain ⟨j, hj, ej⟩ := en_and_any X (b := y - 2147483648) (by omega)
        rw [← ey] at ej
        have ez := en_z_nI (n := j) (by omega)
        rw [← ej] at ez
        exact ⟨_, h, en_mk_v (by omega) (by omega) (by omega)⟩
      · exact ⟨_, h, en_any_v _⟩
    · exact ⟨_, h, en_any_v _⟩
theorem en_or_G : en_G E ρ ω en_or (fun x y => some (x ||| y)) := by
  intro w x y k X Y he hx hy h
  exact ⟨_, rfl, en_pos_v (r := fun x y => x ||| y) (fun a b ha hb _ => en_nI_or (by omega) (by omega)) hx hy h⟩
theorem en_shl_G : en_G E ρ ω en_shl (fun x y => some (x <<< (y &&& 31))) := by
  intro w x y k X Y he hx hy h
  refine ⟨_, rfl, ?_⟩
  unfold en_shl at h
  rcases en_if_or.mp h with ⟨a1, h⟩ | ⟨-, h⟩
  · have a1 := en_ble_t.mp a1
    by_cases hyB : 2147483648 ≤ y
    · refine en_pos_v (f := fun x y => if y < 32 then Nat.shiftLeft x y else 2147483648) (r := fun x y => x <<< (y &&& 31)) (fun a b ha hb hf => ?_) hx hy ?_
      · by_cases hb2 : b < 32
        · simp only [hb2, if_true] at hf ⊢
          obtain ⟨e1, e2⟩ := en_sh31 b hb2
          have e3 : Nat.shiftLeft a b = a * 2 ^ b := Nat.shiftLeft_eq a b
          rw [e3] at hf ⊢
          rw [e1]
          exact pk_shlN _ b e2 (by omega)
        · simp only [hb2, if_false] at hf
          exact absurd hf (by decide)
      · unfold en_pos at h ⊢
        have e : Nat.sub y 2147483648 < 32 := by show y - 2147483648 < 32; omega
        simp only [e, if_true]
        exact h
    · unfold en_pos at h
      rw [en_ble_t.mpr (show y ≤ 4294967295 by omega), en_if_t, en_ble_f.mpr (show y < 2147483648 by omega)] at h
      simp only [en_if_f] at h
      rcases en_if_or.mp h with ⟨-, h⟩ | ⟨-, h⟩
      · rcases en_if_or.mp h with ⟨-, h⟩ | ⟨-, h⟩ <;> exact ⟨_, h, en_any_v _⟩
      · exact ⟨_, h, en_any_v _⟩
  · exact ⟨_, h, en_any_v _⟩
theorem en_shr_G : en_G E ρ ω en_shr (fun x y => some (x >>> (y &&& 31))) := by
  intro w x y k X Y he hx hy h
  refine ⟨_, rfl, ?_⟩
  unfold en_shr at h
  rcases en_if_or.mp h with ⟨a1, h⟩ | ⟨-, h⟩
  · have a1 := en_ble_t.mp a1
    by_cases hyB : 2147483648 ≤ y
    · refine en_pos_v (f := fun x y => if y < 32 then Nat.shiftRight x y else 2147483648) (r := fun x y => x >>> (y &&& 31)) (fun a b ha hb hf => ?_) hx hy ?_
      · by_cases hb2 : b < 32
        · simp only [hb2, if_true] at hf ⊢
          obtain ⟨e1, e2⟩ := en_sh31 b hb2
          have e3 : Nat.shiftRight a b = a / 2 ^ b := Nat.shiftRight_eq_div_pow a b
          rw [e3, e1]
          exact pk_shrN (by omega) _ b e2
        · simp only [hb2, if_false] at hf
          exact absurd hf (by decide)
      · unfold en_pos at h ⊢
        have e : Nat.sub y 2147483648 < 32 := by show y - 2147483648 < 32; omega
        simp only [e, if_true]
        exact h
    · unfold en_pos at h
      rw [en_ble_t.mpr (show y ≤ 4294967295 by omega), en_if_t, en_ble_f.mpr (show y < 2147483648 by omega)] at h
      simp only [en_if_f] at h
      rcases en_if_or.mp h with ⟨-, h⟩ | ⟨-, h⟩
      · rcases en_if_or.mp h with ⟨-, h⟩ | ⟨-, h⟩ <;> exact ⟨_, h, en_any_v _⟩
      · exact ⟨_, h, en_any_v _⟩
  · exact ⟨_, h, en_any_v _⟩
theorem en_any_G {r : Int32 → Int32 → Int32} : en_G E ρ ω (fun _ _ _ k => k 73786976299133173759) (fun x y => some (r x y)) := fun _ _ _ _ _ _ _ _ _ h => ⟨_, rfl, _, h, en_any_v _⟩
end ENA
end
section
/-! THE ENGINE IS SOUND, 4: states, and instructions that touch no heap -/
section ENS
variable (E : mm_E) (kds : List (List Nat)) (P : mm_T) (L : Nat) (ρ : Nat → Int32) (ω : Nat → Value) (h0 : mm_H) (fsC : List mm_F) (FIN : mm_C → Prop)
/-- what a row says of a cell -/
def en_cr (N : Nat) (x : Option va_E) : Prop :=
  (∃ (t : Nat) (f : Nat → Int32), en_kind N = t + 1 ∧ t < 3 ∧ x = some (.inl (t, en_len N, .inl f)) ∧ ∀ j, j < en_len N → en_v E ρ ω (en_elt N j) (.int (f j))) ∨
  (∃ f : Nat → Int64, en_kind N = 4 ∧ x = some (.inl (3, en_len N, .inr (.inl f))) ∧ ∀ j, j < en_len N → en_v E ρ ω (en_elt N j) (.long (f j))) ∨
  (∃ f : Nat → Option Nat, en_kind N = 5 ∧ x = some (.inl (4, en_len N, .inr (.inr (.inr (.inr f))))) ∧ ∀ j, j < en_len N → en_v E ρ ω (en_elt N j) (va_rf (f j))) ∨
  (∃ (ci : Nat) (fs : List Value), en_kind N = 6 + ci ∧ x = some (.inr (ci, fs)) ∧ fs.length = en_len N ∧ ∀ (j : Nat) (v : Value), fs[j]? = some v → en_v E ρ ω (en_elt N j) v)
def en_h (hp : en_H) (h : mm_H) : Prop := ∀ k : Nat, (k < 136 → en_kind (en_get hp k) ≠ 0 → en_cr E ρ ω (en_get hp k) h[k]?) ∧ (¬ (k < 136 ∧ en_kind (en_get hp k) ≠ 0) → h[k]? = h0[k]?)
def en_lr (nL loc : Nat) (lv : mm_V) : Prop := ∀ i, i < nL → en_elt loc i = 12884901891 ∨ ∃ v, mm_get lv i = some v ∧ en_v E ρ ω (en_elt loc i) v
def en_sr : List Nat → List Value → Prop
  | [], [] => True
  | c :: cs, v :: vs => en_v E ρ ω c v ∧ en_sr cs vs
  | _, _ => False
def en_fr (f : en_F) (g : mm_F) : Prop := g.1 = f.1 / 65536 ∧ g.2.1 = f.1 % 65536 ∧ (∃ cs nL dd, P[g.1]? = some (cs, nL, dd) ∧ en_lr E ρ ω nL f.2.1 g.2.2.1) ∧ en_sr E ρ ω f.2.2.1 g.2.2.2.1 ∧ g.2.2.2.2.1 = f.2.2.2.1 ∧ g.2.2.2.2.2 = f.2.2.2.2.1
def en_frs : List en_F → List mm_F → Prop
  | [], gs => gs = fsC
  | f :: fs, g :: gs => en_fr E P ρ ω f g ∧ fsC.length + fs.length + 1 + f.2.2.2.2.2 ≤ L ∧ en_frs fs gs
  | _ :: _, [] => False
def en_R (q loc : Nat) (st : List Nat) (hp : en_H) (w : en_W) (c : mm_C) : Prop := ∃ (lv : mm_V) (sv : List Value) (gs : List mm_F) (h : mm_H) (o : Option Value), c = ((q / 65536, q % 65536, lv, sv, w.1, w.2.1) :: gs, h, o) ∧
  (∃ cs nL dd, P[q / 65536]? = some (cs, nL, dd) ∧ en_lr E ρ ω nL loc lv) ∧ en_sr E ρ ω st sv ∧ en_h E ρ ω h0 hp h ∧ en_e ρ (en_ev w) ∧ h.length = w.2.2.2.2.1 ∧ fsC.length + w.2.2.2.1.length + 1 + w.2.2.1 ≤ L ∧ en_frs E P L ρ ω fsC w.2.2.2.1 gs
def en_Good (c : mm_C) : Prop := ∃ n c', mm_run E kds P L n c = some c' ∧ FIN c'
def en_S (ih : en_C) : Prop := ∀ q loc st hp w c, ih q loc st hp w = true → en_R E P L ρ ω h0 fsC q loc st hp w c → en_Good E kds P L FIN c
def en_OS (q : Nat) (o : en_O) : Prop := ∀ loc st hp w ih c, en_S E kds P L ρ ω h0 fsC FIN ih → o loc st hp w ih = true → en_R E P L ρ ω h0 fsC q loc st hp w c → en_Good E kds P L FIN c
/-- the instruction at q does X -/
def en_St (q : Nat) (X : mm_V → List Value → Nat → Nat → mm_H → mm_O) : Prop := ∀ (lv : mm_V) (sv : List Value) (cb sb : Nat) (h : mm_H) (gs : List mm_F) (o : Option Value) (pc' : Nat) (lv' : mm_V) (sv' : List Value) (cb' sb' : Nat) (h' : mm_H), X lv sv cb sb h = some (pc', lv', sv', cb', sb', h') → en_Good E kds P L FIN ((q / 65536, pc', lv', sv', cb', sb') :: gs, h', none) → en_Good E kds P L FIN ((q / 65536, q % 65536, lv, sv, cb, sb) :: gs, h, o)
variable {E kds P L ρ ω h0 fsC FIN}
theorem en_good_step {c c' : mm_C} (h : mm_stp E kds P L c = some c') (g : en_Good E kds P L FIN c') : en_Good E kds P L FIN c := by
  obtain ⟨n, c2, h1, h2⟩ := g
  refine ⟨n + 1, c2, ?_, h2⟩
  show (match mm_stp E kds P L c with
    | some c' => mm_run E kds P L n c'
    | none => none) = some c2
  rw [h]
  exact h1
theorem en_step1 {q len a b wd nL : Nat} {z : Int} {ins : Instr} {q0 : Nat} {dd : mm_M} (hat : mm_at P (q / 65536) (q % 65536) = some ((q0, len, ins, a, b, z, wd), nL, dd)) (hi : mm_inv ins = none) (hr : mm_rtn ins = none) : en_St E kds P L FIN q (fun lv sv cb sb h => mm_ex E kds nL ins len a b z (q % 65536) lv sv cb sb h) := by
  intro lv sv cb sb h gs o pc' lv' sv' cb' sb' h' hx g
  refine en_good_step ?_ g
  obtain ⟨d1, d2, d3, d4, d5, d6⟩ := dd
  simp only [mm_stp, hat, hi, hr, hx]
theorem en_sr_cons {c : Nat} {r : List Nat} {sv : List Value} (h : en_sr E ρ ω (c :: r) sv) : ∃ v vs, sv = v :: vs ∧ en_v E ρ ω c v ∧ en_sr E ρ ω r vs := by
  cases sv with
  | nil => exact h.elim
  | cons v vs => exact ⟨v, vs, rfl, h.1, h.2⟩
theorem en_sr_nil {sv : List Value} (h : en_sr E ρ ω [] sv) : sv = [] := by
  cases sv with
  | nil => rfl
  | cons v vs => exact h.elim
/-- going on at the place n, a state later -/
theorem en_go_on {ih : en_C} (hih : en_S E kds P L ρ ω h0 fsC FIN ih) {q n loc : Nat} {st : List Nat} {hp : en_H} {w : en_W} (hk : ih n loc st hp w = true) (hn : n / 65536 = q / 65536) {lv : mm_V} {sv : List Value} {gs : List mm_F} {h : mm_H} {o : Option Value} {cb sb : Nat} {cs : List (List mm_I)} {nL : Nat} {dd : mm_M}
    (hP : P[q / 65536]? = some (cs, nL, dd)) (hl : en_lr E ρ ω nL loc lv) (hs : en_sr E ρ ω st sv) (hh : en_h E ρ ω h0 hp h) (he : en_e ρ (en_ev w)) (hx : h.length = w.2.2.2.2.1) (hd : fsC.length + w.2.2.2.1.length + 1 + w.2.2.1 ≤ L) (hf : en_frs E P L ρ ω fsC w.2.2.2.1 gs) (hc : cb = w.1) (hb : sb = w.2.1) : en_Good E kds P L FIN ((q / 65536, n % 65536, lv, sv, cb, sb) :: gs, h, o) := by
  refine hih n loc st hp w _ hk ⟨lv, sv, gs, h, o, ?_, ⟨cs, nL, dd, by rw [hn]; exact hP, hl⟩, hs, hh, he, hx, hd, hf⟩
  rw [hn, hc, hb]
section OPS
variable {q n : Nat} {X : mm_V → List Value → Nat → Nat → mm_H → mm_O} {cs : List (List mm_I)} {nL : Nat} {dd : mm_M}
theorem en_O_push (hP : P[q / 65536]? = some (cs, nL, dd)) (hS : en_St E kds P L FIN q X) (hn : n / 65536 = q / 65536) {c : Nat} {v : Value} (hv : en_v E ρ ω c v) (hX : ∀ lv sv cb sb h, X lv sv cb sb h = some (n % 65536, lv, v :: sv, cb, sb, h)) : en_OS E kds P L ρ ω h0 fsC FIN q (en_push n c) := by
  intro loc st hp w ih c0 hih hk hR
  obtain ⟨lv, sv, gs, h, o, rfl, ⟨cs', nL', dd', hP', hl⟩, hs, hh, he, hx, hd, hf⟩ := hR
  cases hP.symm.trans hP'
  exact hS _ _ _ _ _ _ _ _ _ _ _ _ _ (hX _ _ _ _ _) (en_go_on hih hk hn hP hl (show en_sr E ρ ω (c :: st) (v :: sv) from ⟨hv, hs⟩) hh he hx hd hf rfl rfl)
theorem en_O_load (hP : P[q / 65536]? = some (cs, nL, dd)) (hS : en_St E kds P L FIN q X) (hn : n / 65536 = q / 65536) {t : Nat → Bool} {kd i : Nat} (hi : i < nL) (ht : ∀ c v, t c = true → en_v E ρ ω c v → mm_kind v = kd) (hu : t 12884901891 = false) (hX : ∀ lv sv cb sb h, X lv sv cb sb h = mm_load lv sv cb sb h (n % 65536) kd i) : en_OS E kds P L ρ ω h0 fsC FIN q (en_load t n i) := by
  intro loc st hp w ih c0 hih hk hR
  obtain ⟨lv, sv, gs, h, o, rfl, ⟨cs', nL', dd', hP', hl⟩, hs, hh, he, hx, hd, hf⟩ := hR
  cases hP.symm.trans hP'
  unfold en_load at hk
  obtain ⟨h1, hk⟩ := en_if_and.mp hk
  rcases hl i hi with h2 | ⟨v, h2, h3⟩
  · rw [h2, hu] at h1; cases h1
  · refine hS lv sv _ _ h gs o (n % 65536) lv (v :: sv) _ _ h ?_ (en_go_on hih hk hn hP hl (show en_sr E ρ ω (en_elt loc i :: st) (v :: sv) from ⟨h3, hs⟩) hh he hx hd hf rfl rfl)
    rw [hX]
    unfold mm_load
    rw [h2]
    simp only []
    rw [if_pos (ht _ _ h1 h3)]
theorem en_free_v {loc i : Nat} {lv : mm_V} (hi : i < nL) (hl : en_lr E ρ ω nL loc lv) (h : en_free loc i = true) : ∀ (j : Nat) (v : Value), j + 1 = i → mm_get lv j = some v → en_elt loc j ≠ 12884901891 → v.category ≠ 2 := by
  intro j v hj hg hu
  subst hj
  have h9 : en_if (Nat.ble (en_elt loc j) 12884902911) (en_if (Nat.beq (en_elt loc j) 12884901890) false true) (Nat.ble 73786976294838206464 (en_elt loc j)) = true := h
  rcases hl j (by omega) with h2 | ⟨v', h2, h3⟩
  · exact absurd h2 hu
  · cases hg.symm.trans h2
    have h1 : en_one (en_elt loc j) = true := by
      rw [en_one_iff]
      simp only [en_if_or, en_ble_t, en_ble_f, en_beq_t, en_beq_f, Bool.false_eq_true, and_false, false_or, and_true] at h9
      omega
    rw [en_one_cat h1 h3]
    decide
theorem en_get_p1 {lv : mm_V} {i j : Nat} {v : Value} : mm_get (mm_p1 lv i v) j = if j = i then some v else ((lv.filter (fun q => !(q.1 == i) && !(q.1 + 1 == i && q.2.category == 2))).find? (fun q => q.1 == j)).map (fun q => q.2) := by
  unfold mm_get mm_p1
  by_cases h : j = i
  · subst h
    simp
  · rw [List.find?_cons_of_neg (by simpa using fun e => h e.symm), if_neg h]
theorem en_find_filter {α : Type} (l : List α) (p f : α → Bool) {a : α} (h : l.find? p = some a) (ha : f a = true) : (l.filter f).find? p = some a := by
  induction l with
  | nil => cases h
  | cons b r ih =>
    by_cases hb : p b = true
    · rw [List.find?_cons_of_pos hb] at h
      cases h
      rw [List.filter_cons_of_pos ha, List.find?_cons_of_pos hb]
    · rw [List.find?_cons_of_neg hb] at h
      by_cases hf : f b = true
      · rw [List.filter_cons_of_pos hf, List.find?_cons_of_neg hb]
        exact ih h
      · rw [List.filter_cons_of_neg hf]
        exact ih h
theorem en_keep {lv : mm_V} {j : Nat} {v : Value} {f : Nat × Value → Bool} (h : mm_get lv j = some v) (hf : ∀ q : Nat × Value, q.1 = j → q.2 = v → f q = true) : ((lv.filter f).find? (fun q => q.1 == j)).map (fun q => q.2) = some v := by
  unfold mm_get at h
  cases hq : lv.find? (fun q => q.1 == j) with
  | none => rw [hq] at h; cases h
  | some q =>
    rw [hq] at h
    cases h
    have h1 : q.1 = j := by simpa using List.find?_some hq
    rw [en_find_filter lv _ f hq (hf q h1 rfl)]
    rfl
theorem en_lr_store {loc i c : Nat} {lv : mm_V} {v : Value} (hi : i < nL) (hl : en_lr E ρ ω nL loc lv) (hf : en_free loc i = true) (hv : en_v E ρ ω c v) : en_lr E ρ ω nL (en_eset loc i c) (mm_p1 lv i v) := by
  intro j hj
  rw [en_elt_eset (en_v_68 hv)]
  by_cases hij : j = i
  · subst hij
    rw [if_pos rfl]
    right
    exact ⟨v, by rw [en_get_p1, if_pos rfl], hv⟩
  · rw [if_neg hij]
    rcases hl j hj with h2 | ⟨v', h2, h3⟩
    · exact Or.inl h2
    · by_cases hu : en_elt loc j = 12884901891
      · exact Or.inl hu
      right
      refine ⟨v', ?_, h3⟩
      rw [en_get_p1, if_neg hij]
      refine en_keep h2 (fun q h4 h5 => ?_)
      subst h4
      subst h5
      have hc : q.1 + 1 = i → q.2.category ≠ 2 := fun e => en_free_v hi hl hf q.1 q.2 e h2 hu
      simp only [Bool.and_eq_true, Bool.not_eq_true', beq_eq_false_iff_ne, Bool.and_eq_false_imp, beq_iff_eq]
      exact ⟨hij, fun e => by simpa using hc e⟩
theorem en_O_store (hP : P[q / 65536]? = some (cs, nL, dd)) (hS : en_St E kds P L FIN q X) (hn : n / 65536 = q / 65536) {t : Nat → Bool} {kd i : Nat} (hi : i < nL) (hkd : kd ≠ 1) (ht : ∀ c v, t c = true → en_v E ρ ω c v → mm_kind v = kd) (hX : ∀ lv sv cb sb h, X lv sv cb sb h = mm_store nL lv sv cb sb h (n % 65536) kd i) : en_OS E kds P L ρ ω h0 fsC FIN q (en_store t n i) := by
  intro loc st hp w ih c0 hih hk hR
  obtain ⟨lv, sv, gs, h, o, rfl, ⟨cs', nL', dd', hP', hl⟩, hs, hh, he, hx, hd, hf⟩ := hR
  cases hP.symm.trans hP'
  unfold en_store at hk
  obtain ⟨c, r, rfl, hk1⟩ := en_pop_t hk
  obtain ⟨h1, hk1⟩ := en_if_and.mp hk1
  obtain ⟨h2, hk1⟩ := en_if_and.mp hk1
  obtain ⟨v, vs, rfl, h3, h4⟩ := en_sr_cons hs
  refine hS lv (v :: vs) _ _ h gs o (n % 65536) (mm_p1 lv i v) vs _ _ h ?_ (en_go_on hih hk1 hn hP (en_lr_store hi hl h2 h3) h4 hh he hx hd hf rfl rfl)
  rw [hX]
  unfold mm_store
  simp only []
  rw [if_pos (ht _ _ h1 h3), if_neg hkd, if_pos hi]
theorem en_O_storeL (hP : P[q / 65536]? = some (cs, nL, dd)) (hS : en_St E kds P L FIN q X) (hn : n / 65536 = q / 65536) {i : Nat} (hi : i + 1 < nL) (hX : ∀ lv sv cb sb h, X lv sv cb sb h = mm_store nL lv sv cb sb h (n % 65536) 1 i) : en_OS E kds P L ρ ω h0 fsC FIN q (en_storeL n i) := by
  intro loc st hp w ih c0 hih hk hR
  obtain ⟨lv, sv, gs, h, o, rfl, ⟨cs', nL', dd', hP', hl⟩, hs, hh, he, hx, hd, hf⟩ := hR
  cases hP.symm.trans hP'
  unfold en_storeL at hk
  obtain ⟨c, r, rfl, hk1⟩ := en_pop_t hk
  obtain ⟨h1, hk1⟩ := en_if_and.mp hk1
  obtain ⟨h2, hk1⟩ := en_if_and.mp hk1
  obtain ⟨v, vs, rfl, h3, h4⟩ := en_sr_cons hs
  obtain ⟨x, rfl⟩ := en_isL_long h1 h3
  have hl2 : en_lr E ρ ω nL (en_eset (en_eset loc i c) (Nat.succ i) 12884901891) (mm_p2 lv i (.long x)) := by
    intro j hj
    rw [en_elt_eset (by decide), en_elt_eset (en_v_68 h3)]
    by_cases hj1 : j = Nat.succ i
    · left; rw [if_pos hj1]
    · rw [if_neg hj1]
      by_cases hij : j = i
      · subst hij
        rw [if_pos rfl]
        right
        refine ⟨.long x, ?_, h3⟩
        unfold mm_get mm_p2
        simp
      · rw [if_neg hij]
        rcases hl j hj with h5 | ⟨v', h5, h6⟩
        · exact Or.inl h5
        · by_cases hu : en_elt loc j = 12884901891
          · exact Or.inl hu
          right
          refine ⟨v', ?_, h6⟩
          unfold mm_get mm_p2
          rw [List.find?_cons_of_neg (by simpa using fun e => hij e.symm)]
          refine en_keep h5 (fun q h7 h8 => ?_)
          subst h7
          subst h8
          have hc : q.1 + 1 = i → q.2.category ≠ 2 := fun e => en_free_v (by omega) hl h2 q.1 q.2 e h5 hu
          simp only [Bool.and_eq_true, Bool.not_eq_true', beq_eq_false_iff_ne, Bool.and_eq_false_imp, beq_iff_eq]
          exact ⟨hij, hj1, fun e => by simpa using hc e⟩
  refine hS lv (.long x :: vs) _ _ h gs o (n % 65536) (mm_p2 lv i (.long x)) vs _ _ h ?_ (en_go_on hih hk1 hn hP hl2 h4 hh he hx hd hf rfl rfl)
  rw [hX]
  unfold mm_store
  show (if mm_kind (Value.long x) = 1 then (if (1 : Nat) = 1 then (if i + 1 < nL then _ else _) else _) else _) = _
  rw [if_pos (show mm_kind (Value.long x) = 1 from rfl), if_pos rfl, if_pos hi]
theorem en_O_bin (hP : P[q / 65536]? = some (cs, nL, dd)) (hS : en_St E kds P L FIN q X) (hn : n / 65536 = q / 65536) {g : en_W → Nat → Nat → (Nat → Bool) → Bool} {r : Int32 → Int32 → Option Int32} (hg : en_G E ρ ω g r) (hX : ∀ lv sv cb sb h, X lv sv cb sb h = mm_bin lv sv cb sb h (n % 65536) r) : en_OS E kds P L ρ ω h0 fsC FIN q (en_bin g n) := by
  intro loc st hp w ih c0 hih hk hR
  obtain ⟨lv, sv, gs, h, o, rfl, ⟨cs', nL', dd', hP', hl⟩, hs, hh, he, hx, hd, hf⟩ := hR
  cases hP.symm.trans hP'
  unfold en_bin at hk
  obtain ⟨y, st1, rfl, hk1⟩ := en_pop_t hk
  obtain ⟨x, st2, rfl, hk2⟩ := en_pop_t hk1
  obtain ⟨h1, hk2⟩ := en_if_and.mp hk2
  obtain ⟨h2, hk2⟩ := en_if_and.mp hk2
  obtain ⟨vy, sv3, rfl, h3, hs3⟩ := en_sr_cons hs
  obtain ⟨vx, sv4, rfl, h4, hs4⟩ := en_sr_cons hs3
  obtain ⟨Y, rfl⟩ := en_isI_int h2 h3
  obtain ⟨Xx, rfl⟩ := en_isI_int h1 h4
  obtain ⟨Z, hr, c, hk2, hv⟩ := hg w x y _ Xx Y he h4 h3 hk2
  refine hS lv _ _ _ h gs o (n % 65536) lv (.int Z :: sv4) _ _ h ?_ (en_go_on hih hk2 hn hP hl (show en_sr E ρ ω (c :: st2) (.int Z :: sv4) from ⟨hv, hs4⟩) hh he hx hd hf rfl rfl)
  rw [hX]
  unfold mm_bin
  simp only [hr, Option.map_some]
theorem en_O_un (hP : P[q / 65536]? = some (cs, nL, dd)) (hS : en_St E kds P L FIN q X) (hn : n / 65536 = q / 65536) {r : Int32 → Int32} (hX : ∀ lv sv cb sb h, X lv sv cb sb h = mm_un lv sv cb sb h (n % 65536) (fun x => .int (r x))) : en_OS E kds P L ρ ω h0 fsC FIN q (en_un 73786976299133173759 n) := by
  intro loc st hp w ih c0 hih hk hR
  obtain ⟨lv, sv, gs, h, o, rfl, ⟨cs', nL', dd', hP', hl⟩, hs, hh, he, hx, hd, hf⟩ := hR
  cases hP.symm.trans hP'
  unfold en_un at hk
  obtain ⟨x, st1, rfl, hk1⟩ := en_pop_t hk
  obtain ⟨h1, hk1⟩ := en_if_and.mp hk1
  obtain ⟨vx, sv2, rfl, h4, hs2⟩ := en_sr_cons hs
  obtain ⟨Xx, rfl⟩ := en_isI_int h1 h4
  refine hS lv _ _ _ h gs o (n % 65536) lv (.int (r Xx) :: sv2) _ _ h ?_ (en_go_on hih hk1 hn hP hl (show en_sr E ρ ω (_ :: st1) (.int (r Xx) :: sv2) from ⟨en_any_v _, hs2⟩) hh he hx hd hf rfl rfl)
  rw [hX]
  rfl
theorem en_O_i2l (hP : P[q / 65536]? = some (cs, nL, dd)) (hS : en_St E kds P L FIN q X) (hn : n / 65536 = q / 65536) (hX : ∀ lv sv cb sb h, X lv sv cb sb h = mm_un lv sv cb sb h (n % 65536) (fun x => .long x.toInt64)) : en_OS E kds P L ρ ω h0 fsC FIN q (en_i2l n) := by
  intro loc st hp w ih c0 hih hk hR
  obtain ⟨lv, sv, gs, h, o, rfl, ⟨cs', nL', dd', hP', hl⟩, hs, hh, he, hx, hd, hf⟩ := hR
  cases hP.symm.trans hP'
  unfold en_i2l at hk
  obtain ⟨x, st1, rfl, hk1⟩ := en_pop_t hk
  obtain ⟨vx, sv2, rfl, h4, hs2⟩ := en_sr_cons hs
  have hI : en_isI x = true := by
    rcases en_if_or.mp hk1 with ⟨a1, -⟩ | ⟨-, hk1⟩
    · rw [en_isI_iff]; have := en_ble_t.mp a1; omega
    · exact (en_if_and.mp hk1).1
  obtain ⟨Xx, rfl⟩ := en_isI_int hI h4
  have fin : ∀ c, en_v E ρ ω c (.long Xx.toInt64) → ih n loc (c :: st1) hp w = true → en_Good E kds P L FIN ((q / 65536, q % 65536, lv, .int Xx :: sv2, w.1, w.2.1) :: gs, h, o) := by
    intro c hv hk1
    refine hS lv _ _ _ h gs o (n % 65536) lv (.long Xx.toInt64 :: sv2) _ _ h ?_ (en_go_on hih hk1 hn hP hl (show en_sr E ρ ω (c :: st1) (_ :: sv2) from ⟨hv, hs2⟩) hh he hx hd hf rfl rfl)
    rw [hX]
    rfl
  rcases en_if_or.mp hk1 with ⟨a1, hk1⟩ | ⟨-, hk1⟩
  · rcases en_if_or.mp hk1 with ⟨a2, hk1⟩ | ⟨-, hk1⟩
    · have a1 := en_ble_t.mp a1
      have a2 := en_ble_t.mp a2
      refine fin _ ?_ hk1
      have e : Xx = nI (x - 2147483648) := by rw [← en_d_nI a2]; simpa using (en_v_const (by omega)).mp h4
      show en_v E ρ ω (36893488147419103232 + (x - 2147483648)) _
      rw [en_v_long (by omega) (by omega), e, nI_l (by omega), Nat.add_sub_cancel_left]
      rfl
    · exact fin _ (en_v_anyL.mpr ⟨_, rfl⟩) hk1
  · exact fin _ (en_v_anyL.mpr ⟨_, rfl⟩) (en_if_and.mp hk1).2
theorem en_O_binL (hP : P[q / 65536]? = some (cs, nL, dd)) (hS : en_St E kds P L FIN q X) (hn : n / 65536 = q / 65536) {f : Nat → Nat → Nat} {r : Int64 → Int64 → Int64} (hf0 : ∀ a b, r (lN a) (lN b) = lN (f a b)) (hX : ∀ lv sv cb sb h, X lv sv cb sb h = mm_binL lv sv cb sb h (n % 65536) (fun x y => .long (r x y))) : en_OS E kds P L ρ ω h0 fsC FIN q (en_binL f n) := by
  intro loc st hp w ih c0 hih hk hR
  obtain ⟨lv, sv, gs, h, o, rfl, ⟨cs', nL', dd', hP', hl⟩, hs, hh, he, hx, hd, hf⟩ := hR
  cases hP.symm.trans hP'
  unfold en_binL at hk
  obtain ⟨y, st1, rfl, hk1⟩ := en_pop_t hk
  obtain ⟨x, st2, rfl, hk2⟩ := en_pop_t hk1
  obtain ⟨h1, hk2⟩ := en_if_and.mp hk2
  obtain ⟨h2, hk2⟩ := en_if_and.mp hk2
  obtain ⟨vy, sv3, rfl, h3, hs3⟩ := en_sr_cons hs
  obtain ⟨vx, sv4, rfl, h4, hs4⟩ := en_sr_cons hs3
  obtain ⟨Y, rfl⟩ := en_isL_long h2 h3
  obtain ⟨Xx, rfl⟩ := en_isL_long h1 h4
  have fin : ∀ c, en_v E ρ ω c (.long (r Xx Y)) → ih n loc (c :: st2) hp w = true → en_Good E kds P L FIN ((q / 65536, q % 65536, lv, .long Y :: .long Xx :: sv4, w.1, w.2.1) :: gs, h, o) := by
    intro c hv hk2
    refine hS lv _ _ _ h gs o (n % 65536) lv (.long (r Xx Y) :: sv4) _ _ h ?_ (en_go_on hih hk2 hn hP hl (show en_sr E ρ ω (c :: st2) (_ :: sv4) from ⟨hv, hs4⟩) hh he hx hd hf rfl rfl)
    rw [hX]
    rfl
  rcases en_if_or.mp hk2 with ⟨a1, hk2⟩ | ⟨-, hk2⟩
  · rcases en_if_or.mp hk2 with ⟨a2, hk2⟩ | ⟨-, hk2⟩
    · rcases en_if_or.mp hk2 with ⟨a3, hk2⟩ | ⟨-, hk2⟩
      · have a1 := en_ble_t.mp a1
        have a2 := en_ble_t.mp a2
        have a3 : f (x - 36893488147419103232) (y - 36893488147419103232) ≤ 9223372036854775807 := en_ble_t.mp a3
        have b1 : x < 73786976294838206464 := by
          rcases en_isL_iff.mp h1 with h9 | h9 <;> omega
        have b2 : y < 73786976294838206464 := by
          rcases en_isL_iff.mp h2 with h9 | h9 <;> omega
        have ex : Xx = lN (x - 36893488147419103232) := Value.long.inj ((en_v_long a1 b1).mp h4)
        have ey : Y = lN (y - 36893488147419103232) := Value.long.inj ((en_v_long a2 b2).mp h3)
        refine fin _ ?_ hk2
        show en_v E ρ ω (36893488147419103232 + f (x - 36893488147419103232) (y - 36893488147419103232)) _
        rw [en_v_long (by omega) (by omega), ex, ey, hf0, Nat.add_sub_cancel_left]
        rfl
      · exact fin _ (en_v_anyL.mpr ⟨_, rfl⟩) hk2
    · exact fin _ (en_v_anyL.mpr ⟨_, rfl⟩) hk2
  · exact fin _ (en_v_anyL.mpr ⟨_, rfl⟩) hk2
theorem en_O_iinc (hP : P[q / 65536]? = some (cs, nL, dd)) (hS : en_St E kds P L FIN q X) (hn : n / 65536 = q / 65536) {i : Nat} {x : Int} (hi : i < nL) (hx1 : -2147483648 ≤ x) (hx2 : x < 2147483648) (hX : ∀ lv sv cb sb h, X lv sv cb sb h = (match mm_get lv i with
    | some (.int y) => if i < nL then some (n % 65536, mm_p1 lv i (.int (y + Int32.ofInt x)), sv, cb, sb, h) else none
    | _ => none)) : en_OS E kds P L ρ ω h0 fsC FIN q (en_iinc n i (en_c x)) := by
  intro loc st hp w ih c0 hih hk hR
  obtain ⟨lv, sv, gs, h, o, rfl, ⟨cs', nL', dd', hP', hl⟩, hs, hh, he, hx, hd, hf⟩ := hR
  cases hP.symm.trans hP'
  unfold en_iinc at hk
  obtain ⟨h1, hk⟩ := en_if_and.mp hk
  obtain ⟨h2, hk⟩ := en_if_and.mp hk
  rcases hl i hi with h3 | ⟨v, h3, h4⟩
  · rw [h3] at h1; exact absurd h1 (by decide)
  · obtain ⟨Y, rfl⟩ := en_isI_int h1 h4
    have hc : en_v E ρ ω (en_c x) (.int (Int32.ofInt x)) := by
      unfold en_c
      rw [en_v_const (by omega)]
      unfold en_d
      exact congrArg (fun z => Value.int (Int32.ofInt z)) (by omega)
    obtain ⟨c, hk, hv⟩ := en_add_v he h4 hc hk
    refine hS lv sv _ _ h gs o (n % 65536) (mm_p1 lv i (.int (Y + Int32.ofInt x))) sv _ _ h ?_ (en_go_on hih hk hn hP (en_lr_store hi hl h2 hv) hs hh he hx hd hf rfl rfl)
    rw [hX, h3]
    simp only [hi, if_true]
theorem en_O_dup (hP : P[q / 65536]? = some (cs, nL, dd)) (hS : en_St E kds P L FIN q X) (hn : n / 65536 = q / 65536) (hX : ∀ lv v sv cb sb h, v.category = 1 → X lv (v :: sv) cb sb h = some (n % 65536, lv, v :: v :: sv, cb, sb, h)) : en_OS E kds P L ρ ω h0 fsC FIN q (en_dup n) := by
  intro loc st hp w ih c0 hih hk hR
  obtain ⟨lv, sv, gs, h, o, rfl, ⟨cs', nL', dd', hP', hl⟩, hs, hh, he, hx, hd, hf⟩ := hR
  cases hP.symm.trans hP'
  unfold en_dup at hk
  obtain ⟨x, st1, rfl, hk1⟩ := en_pop_t hk
  obtain ⟨h1, hk1⟩ := en_if_and.mp hk1
  obtain ⟨v, sv2, rfl, h4, hs2⟩ := en_sr_cons hs
  exact hS lv _ _ _ h gs o (n % 65536) lv (v :: v :: sv2) _ _ h (hX _ _ _ _ _ _ (en_one_cat h1 h4)) (en_go_on hih hk1 hn hP hl (show en_sr E ρ ω (x :: x :: st1) (v :: v :: sv2) from ⟨h4, h4, hs2⟩) hh he hx hd hf rfl rfl)
theorem en_O_drop (hP : P[q / 65536]? = some (cs, nL, dd)) (hS : en_St E kds P L FIN q X) (hn : n / 65536 = q / 65536) (hX : ∀ lv v sv cb sb h, v.category = 1 → X lv (v :: sv) cb sb h = some (n % 65536, lv, sv, cb, sb, h)) : en_OS E kds P L ρ ω h0 fsC FIN q (en_drop n) := by
  intro loc st hp w ih c0 hih hk hR
  obtain ⟨lv, sv, gs, h, o, rfl, ⟨cs', nL', dd', hP', hl⟩, hs, hh, he, hx, hd, hf⟩ := hR
  cases hP.symm.trans hP'
  unfold en_drop at hk
  obtain ⟨x, st1, rfl, hk1⟩ := en_pop_t hk
  obtain ⟨h1, hk1⟩ := en_if_and.mp hk1
  obtain ⟨v, sv2, rfl, h4, hs2⟩ := en_sr_cons hs
  exact hS lv _ _ _ h gs o (n % 65536) lv sv2 _ _ h (hX _ _ _ _ _ _ (en_one_cat h1 h4)) (en_go_on hih hk1 hn hP hl hs2 hh he hx hd hf rfl rfl)
theorem en_O_dup2 (hP : P[q / 65536]? = some (cs, nL, dd)) (hS : en_St E kds P L FIN q X) (hn : n / 65536 = q / 65536) (hX : ∀ lv v u sv cb sb h, v.category = 1 ∧ u.category = 1 → X lv (v :: u :: sv) cb sb h = some (n % 65536, lv, v :: u :: v :: u :: sv, cb, sb, h)) : en_OS E kds P L ρ ω h0 fsC FIN q (en_dup2 n) := by
  intro loc st hp w ih c0 hih hk hR
  obtain ⟨lv, sv, gs, h, o, rfl, ⟨cs', nL', dd', hP', hl⟩, hs, hh, he, hx, hd, hf⟩ := hR
  cases hP.symm.trans hP'
  unfold en_dup2 at hk
  obtain ⟨x, st1, rfl, hk1⟩ := en_pop_t hk
  obtain ⟨y, st2, rfl, hk2⟩ := en_pop_t hk1
  obtain ⟨h1, hk2⟩ := en_if_and.mp hk2
  obtain ⟨h2, hk2⟩ := en_if_and.mp hk2
  obtain ⟨v, sv3, rfl, h4, hs3⟩ := en_sr_cons hs
  obtain ⟨u, sv4, rfl, h5, hs4⟩ := en_sr_cons hs3
  exact hS lv _ _ _ h gs o (n % 65536) lv (v :: u :: v :: u :: sv4) _ _ h (hX _ _ _ _ _ _ _ ⟨en_one_cat h1 h4, en_one_cat h2 h5⟩) (en_go_on hih hk2 hn hP hl (show en_sr E ρ ω (x :: y :: x :: y :: st2) (v :: u :: v :: u :: sv4) from ⟨h4, h5, h4, h5, hs4⟩) hh he hx hd hf rfl rfl)
/-- the rest of a state moves with its ranges -/
theorem en_go_w {ih : en_C} (hih : en_S E kds P L ρ ω h0 fsC FIN ih) {loc n : Nat} {st : List Nat} {hp : en_H} {w w' : en_W} (hk : ih n loc st hp w' = true) (hw : en_wq w w') (he' : en_e ρ (en_ev w')) (hn : n / 65536 = q / 65536) {lv : mm_V} {sv : List Value} {gs : List mm_F} {h : mm_H} {o : Option Value} (hP : P[q / 65536]? = some (cs, nL, dd)) (hl : en_lr E ρ ω nL loc lv) (hs : en_sr E ρ ω st sv) (hh : en_h E ρ ω h0 hp h) (hx : h.length = w.2.2.2.2.1) (hd : fsC.length + w.2.2.2.1.length + 1 + w.2.2.1 ≤ L) (hf : en_frs E P L ρ ω fsC w.2.2.2.1 gs) : en_Good E kds P L FIN ((q / 65536, n % 65536, lv, sv, w.1, w.2.1) :: gs, h, o) := by
  obtain ⟨w1, w2, w3, w4, w5⟩ := hw
  exact en_go_on hih hk hn hP hl hs hh he' (by rw [w5]; exact hx) (by rw [w3, w4]; exact hd) (by rw [w4]; exact hf) w1.symm w2.symm
theorem en_O_icmp (hP : P[q / 65536]? = some (cs, nL, dd)) (hS : en_St E kds P L FIN q X) {qt : Nat} (hn : n / 65536 = q / 65536) (ht : qt / 65536 = q / 65536) {k : Jvm.ClassFile.Cond} (hX : ∀ lv x y sv cb sb h, X lv (.int y :: .int x :: sv) cb sb h = if mm_cond k x y = true then some (qt % 65536, lv, sv, cb, sb, h) else some (n % 65536, lv, sv, cb, sb, h)) : en_OS E kds P L ρ ω h0 fsC FIN q (en_icmp k qt n) := by
  intro loc st hp w ih c0 hih hk hR
  obtain ⟨lv, sv, gs, h, o, rfl, ⟨cs', nL', dd', hP', hl⟩, hs, hh, he, hx, hd, hf⟩ := hR
  cases hP.symm.trans hP'
  unfold en_icmp at hk
  obtain ⟨y, st1, rfl, hk1⟩ := en_pop_t hk
  obtain ⟨x, st2, rfl, hk2⟩ := en_pop_t hk1
  obtain ⟨h1, hk2⟩ := en_if_and.mp hk2
  obtain ⟨h2, hk2⟩ := en_if_and.mp hk2
  obtain ⟨vy, sv3, rfl, h3, hs3⟩ := en_sr_cons hs
  obtain ⟨vx, sv4, rfl, h4, hs4⟩ := en_sr_cons hs3
  obtain ⟨Y, rfl⟩ := en_isI_int h2 h3
  obtain ⟨Xx, rfl⟩ := en_isI_int h1 h4
  obtain ⟨k1, k2⟩ := en_cmp_v he h4 h3 hk2
  by_cases hc : mm_cond k Xx Y = true
  · obtain ⟨w', hk2, hw, he'⟩ := k1 hc
    exact hS lv _ _ _ h gs o (qt % 65536) lv sv4 _ _ h (by rw [hX, if_pos hc]) (en_go_w hih hk2 hw he' ht hP hl hs4 hh hx hd hf)
  · obtain ⟨w', hk2, hw, he'⟩ := k2 hc
    exact hS lv _ _ _ h gs o (n % 65536) lv sv4 _ _ h (by rw [hX, if_neg hc]) (en_go_w hih hk2 hw he' hn hP hl hs4 hh hx hd hf)
theorem en_O_if0 (hP : P[q / 65536]? = some (cs, nL, dd)) (hS : en_St E kds P L FIN q X) {qt : Nat} (hn : n / 65536 = q / 65536) (ht : qt / 65536 = q / 65536) {k : Jvm.ClassFile.Cond} (hX : ∀ lv x sv cb sb h, X lv (.int x :: sv) cb sb h = if mm_cond k x 0 = true then some (qt % 65536, lv, sv, cb, sb, h) else some (n % 65536, lv, sv, cb, sb, h)) : en_OS E kds P L ρ ω h0 fsC FIN q (en_if0 k qt n) := by
  intro loc st hp w ih c0 hih hk hR
  obtain ⟨lv, sv, gs, h, o, rfl, ⟨cs', nL', dd', hP', hl⟩, hs, hh, he, hx, hd, hf⟩ := hR
  cases hP.symm.trans hP'
  unfold en_if0 at hk
  obtain ⟨x, st1, rfl, hk1⟩ := en_pop_t hk
  obtain ⟨h1, hk1⟩ := en_if_and.mp hk1
  obtain ⟨vx, sv2, rfl, h4, hs2⟩ := en_sr_cons hs
  obtain ⟨Xx, rfl⟩ := en_isI_int h1 h4
  have hz : en_v E ρ ω 2147483648 (.int 0) := by rw [en_v_const (by decide), en_d_zero]
  obtain ⟨k1, k2⟩ := en_cmp_v he h4 hz hk1
  by_cases hc : mm_cond k Xx 0 = true
  · obtain ⟨w', hk1, hw, he'⟩ := k1 hc
    exact hS lv _ _ _ h gs o (qt % 65536) lv sv2 _ _ h (by rw [hX, if_pos hc]) (en_go_w hih hk1 hw he' ht hP hl hs2 hh hx hd hf)
  · obtain ⟨w', hk1, hw, he'⟩ := k2 hc
    exact hS lv _ _ _ h gs o (n % 65536) lv sv2 _ _ h (by rw [hX, if_neg hc]) (en_go_w hih hk1 hw he' hn hP hl hs2 hh hx hd hf)
theorem en_O_goto (hP : P[q / 65536]? = some (cs, nL, dd)) (hS : en_St E kds P L FIN q X) (hn : n / 65536 = q / 65536) (hX : ∀ lv sv cb sb h, X lv sv cb sb h = some (n % 65536, lv, sv, cb, sb, h)) : en_OS E kds P L ρ ω h0 fsC FIN q (en_goto n) := by
  intro loc st hp w ih c0 hih hk hR
  obtain ⟨lv, sv, gs, h, o, rfl, ⟨cs', nL', dd', hP', hl⟩, hs, hh, he, hx, hd, hf⟩ := hR
  cases hP.symm.trans hP'
  exact hS lv _ _ _ h gs o (n % 65536) lv sv _ _ h (hX _ _ _ _ _) (en_go_on hih hk hn hP hl hs hh he hx hd hf rfl rfl)
end OPS
end ENS
end
section
/-! THE ENGINE IS SOUND, 5: instructions on the heap -/
section ENT
variable {E : mm_E} {kds : List (List Nat)} {P : mm_T} {L : Nat} {ρ : Nat → Int32} {ω : Nat → Value} {h0 : mm_H} {fsC : List mm_F} {FIN : mm_C → Prop}
def en_SA (E : mm_E) (ρ : Nat → Int32) (ω : Nat → Value) (SA : List (Nat × Nat)) : Prop := ∀ (s n row : Nat), SA[s]? = some (n, row) → ∃ q q', E.2[s]? = some q ∧ q.1 < E.1 ∧ mm_stat E q.1 = some q' ∧ q'.2.1 = n ∧ ∀ j, j < n → en_v E ρ ω (en_elt row j) (.int (q'.2.2 j))
theorem en_cell_v {c : Nat} {v : Value} {k s : Nat → Bool} (hv : en_v E ρ ω c v) (h : en_cell c k s = true) : (∃ i : Nat, i < 136 ∧ v = .ref (E.1 + i) ∧ k i = true) ∨ (∃ (i : Nat) (q : mm_S), E.2[i]? = some q ∧ v = .ref q.1 ∧ s i = true) := by
  unfold en_cell at h
  obtain ⟨a1, h⟩ := en_if_and.mp h
  have a1 := en_ble_t.mp a1
  rcases en_if_or.mp h with ⟨a2, h⟩ | ⟨-, h⟩
  · have a2 := en_ble_t.mp a2
    have e := (en_v_ref a1 (by omega)).mp hv
    exact Or.inl ⟨c - 8589934592, by omega, e, h⟩
  · obtain ⟨a3, h⟩ := en_if_and.mp h
    obtain ⟨a4, h⟩ := en_if_and.mp h
    obtain ⟨q, h1, h2⟩ := (en_v_stat (en_ble_t.mp a3) (en_ble_t.mp a4)).mp hv
    exact Or.inr ⟨c - 12884901904, q, h1, h2, h⟩
theorem en_mmcell (h : mm_H) (i : Nat) : mm_cell E h (E.1 + i) = h[i]? := by
  unfold mm_cell
  rw [if_pos (Nat.le_add_right _ _), Nat.add_sub_cancel_left]
theorem en_h_get {hp : en_H} {h : mm_H} (hh : en_h E ρ ω h0 hp h) {i : Nat} (hi : i < 136) (hk : en_kind (en_get hp i) ≠ 0) : en_cr E ρ ω (en_get hp i) h[i]? := (hh i).1 hi hk
theorem en_get_put {hp : en_H} {k N j : Nat} (hk : k < 136) (hj : j < 136) : en_get (en_put hp k N) j = if k = j then N else en_get hp j := en_lens_H hp k N j (Nat.zero_le _) hk (Nat.zero_le _) hj
theorem en_cr_lt {N : Nat} {h : mm_H} {i : Nat} (hc : en_cr E ρ ω N h[i]?) : i < h.length := by
  rcases hc with ⟨t, f, -, -, e, -⟩ | ⟨f, -, e, -⟩ | ⟨f, -, e, -⟩ | ⟨ci, fs, -, e, -⟩ <;> exact (List.getElem?_eq_some_iff.mp e).1
theorem en_cr_kind {N : Nat} {x : Option va_E} (hc : en_cr E ρ ω N x) : en_kind N ≠ 0 := by
  rcases hc with ⟨t, f, e, -⟩ | ⟨f, e, -⟩ | ⟨f, e, -⟩ | ⟨ci, fs, e, -⟩ <;> omega
theorem en_h_put {hp : en_H} {h : mm_H} (hh : en_h E ρ ω h0 hp h) {i N : Nat} {e : va_E} (hi : i < 136) (hil : i < h.length) (hc : en_cr E ρ ω N (some e)) : en_h E ρ ω h0 (en_put hp i N) (h.set i e) := by
  intro k
  by_cases hk : k < 136
  · rw [en_get_put hi hk, List.getElem?_set]
    by_cases hik : i = k
    · subst hik
      simp only [if_true, hil]
      exact ⟨fun _ _ => hc, fun q => absurd ⟨hi, en_cr_kind hc⟩ q⟩
    · simp only [hik, if_false]
      exact hh k
  · refine ⟨fun q => absurd q hk, fun _ => ?_⟩
    rw [List.getElem?_set, if_neg (by omega)]
    exact (hh k).2 (fun q => hk q.1)
theorem en_h_push {hp : en_H} {h : mm_H} (hh : en_h E ρ ω h0 hp h) {N : Nat} {e : va_E} (hi : h.length < 136) (hc : en_cr E ρ ω N (some e)) : en_h E ρ ω h0 (en_put hp h.length N) (h ++ [e]) := by
  intro k
  by_cases hk : k < 136
  · rw [en_get_put hi hk]
    by_cases hik : h.length = k
    · subst hik
      simp only [if_true]
      rw [List.getElem?_append_right (Nat.le_refl _), Nat.sub_self]
      exact ⟨fun _ _ => hc, fun q => absurd ⟨hi, en_cr_kind hc⟩ q⟩
    · simp only [hik, if_false]
      have e1 : (h ++ [e])[k]? = h[k]? := by
        rcases Nat.lt_or_ge k h.length with q | q
        · rw [List.getElem?_append_left q]
        · rw [List.getElem?_append_right q, List.getElem?_eq_none (by simp; omega), List.getElem?_eq_none q]
      rw [e1]
      exact hh k
  · refine ⟨fun q => absurd q hk, fun _ => ?_⟩
    rw [List.getElem?_append_right (by omega), List.getElem?_eq_none (by simp; omega), ← (hh k).2 (fun q => hk q.1), List.getElem?_eq_none (by omega)]
theorem en_idx_v {len : Nat} {I : Int32} {k : Nat → Bool} (h : en_idx len (en_z I) k = true) : mm_inr I len = true ∧ I.toNatClampNeg < len ∧ k I.toNatClampNeg = true := by
  unfold en_idx at h
  obtain ⟨a1, h⟩ := en_if_and.mp h
  obtain ⟨a2, h⟩ := en_if_and.mp h
  have a1 := en_ble_t.mp a1
  have a2 : (en_z I - 2147483648) + 1 ≤ len := en_ble_t.mp a2
  have hz := en_z_int I
  have e : I.toNatClampNeg = en_z I - 2147483648 := by
    show I.toInt.toNat = _
    omega
  refine ⟨?_, by omega, by rw [e]; exact h⟩
  unfold mm_inr
  simp only [Bool.and_eq_true, decide_eq_true_eq]
  omega
/-- once more at the same place -/
theorem en_again {ih : en_C} (hih : en_S E kds P L ρ ω h0 fsC FIN ih) {q loc : Nat} {st : List Nat} {hp : en_H} {w w' : en_W} {c : mm_C} (hR : en_R E P L ρ ω h0 fsC q loc st hp w c) (hk : ih q loc st hp w' = true) (hw : en_wq w w') (he : en_e ρ (en_ev w')) : en_Good E kds P L FIN c := by
  obtain ⟨lv, sv, gs, h, o, rfl, hl, hs, hh, -, hx, hd, hf⟩ := hR
  obtain ⟨w1, w2, w3, w4, w5⟩ := hw
  refine hih q loc st hp w' _ hk ⟨lv, sv, gs, h, o, by rw [w1, w2], hl, hs, hh, he, by rw [w5]; exact hx, by rw [w3, w4]; exact hd, by rw [w4]; exact hf⟩
section OPT
variable {q n : Nat} {X : mm_V → List Value → Nat → Nat → mm_H → mm_O} {cs : List (List mm_I)} {nL : Nat} {dd : mm_M}
theorem en_O_sw (hP : P[q / 65536]? = some (cs, nL, dd)) (hS : en_St E kds P L FIN q X) {qd lo m : Nat} {qs : List Nat} (hqd : qd / 65536 = q / 65536) (hqs : ∀ x ∈ qs, x / 65536 = q / 65536) (hlo : lo + m < 4294967296) (hm : qs.length = m + 1)
    (hX1 : ∀ lv I sv cb sb h, en_z I < lo ∨ lo + m < en_z I → X lv (.int I :: sv) cb sb h = some (qd % 65536, lv, sv, cb, sb, h)) (hX2 : ∀ lv I sv cb sb h t, lo ≤ en_z I → en_z I ≤ lo + m → qs[en_z I - lo]? = some t → X lv (.int I :: sv) cb sb h = some (t % 65536, lv, sv, cb, sb, h)) : en_OS E kds P L ρ ω h0 fsC FIN q (en_sw q qd lo m qs) := by
  intro loc st hp w ih c0 hih hk hR
  have hR0 := hR
  obtain ⟨lv, sv, gs, h, o, rfl, ⟨cs', nL', dd', hP', hl⟩, hs, hh, he, hx, hd, hf⟩ := hR
  cases hP.symm.trans hP'
  unfold en_sw at hk
  obtain ⟨x, st1, rfl, hk1⟩ := en_pop_t hk
  obtain ⟨h1, hk1⟩ := en_if_and.mp hk1
  obtain ⟨vx, sv1, rfl, h4, hs1⟩ := en_sr_cons hs
  obtain ⟨I, rfl⟩ := en_isI_int h1 h4
  have goD : ∀ w', ih qd loc st1 hp w' = true → en_wq w w' → en_e ρ (en_ev w') → (en_z I < lo ∨ lo + m < en_z I) → en_Good E kds P L FIN ((q / 65536, q % 65536, lv, .int I :: sv1, w.1, w.2.1) :: gs, h, o) := by
    intro w' k1 k2 k3 k4
    exact hS lv _ _ _ h gs o (qd % 65536) lv sv1 _ _ h (hX1 _ _ _ _ _ _ k4) (en_go_w hih k1 k2 k3 hqd hP hl hs1 hh hx hd hf)
  rcases en_pt_v he h4 hk1 with hk2 | ⟨w', hk2, hw, he'⟩ | hk2
  · rcases en_if_or.mp hk2 with ⟨a1, hk3⟩ | ⟨a1, hk3⟩
    · have a1 := en_ble_t.mp a1
      rcases en_if_or.mp hk3 with ⟨a2, hk4⟩ | ⟨a2, hk4⟩
      · have a2 : en_z I ≤ lo + m := en_ble_t.mp a2
        have hlt : en_z I - lo < qs.length := by omega
        have ht : qs[en_z I - lo]? = some qs[en_z I - lo] := List.getElem?_eq_getElem hlt
        have e : en_nth qd qs (Nat.sub (en_z I) lo) = qs[en_z I - lo] := by
          show en_nth qd qs (en_z I - lo) = _
          rw [en_nth_eq, ht]; rfl
        rw [e] at hk4
        exact hS lv _ _ _ h gs o (qs[en_z I - lo] % 65536) lv sv1 _ _ h (hX2 _ _ _ _ _ _ _ a1 a2 ht) (en_go_on hih hk4 (hqs _ (List.getElem_mem hlt)) hP hl hs1 hh he hx hd hf rfl rfl)
      · have a2 : lo + m < en_z I := en_ble_f.mp a2
        exact goD w hk4 (en_wq.rf w) he (Or.inr a2)
    · have a1 := en_ble_f.mp a1
      exact goD w hk3 (en_wq.rf w) he (Or.inl a1)
  · exact en_again hih hR0 hk2 hw he'
  · have hvlo : en_v E ρ ω lo (.int (en_d lo)) := by rw [en_v_const (by omega)]
    have hvhi : en_v E ρ ω (lo + m) (.int (en_d (lo + m))) := by rw [en_v_const (by omega)]
    obtain ⟨k1, k2⟩ := en_lt_v he h4 hvlo hk2
    by_cases hc : I < en_d lo
    · obtain ⟨w', hk3, hw, he'⟩ := k1 hc
      rw [en_z_lt_iff, en_z_d (by omega)] at hc
      exact goD w' hk3 hw he' (Or.inl hc)
    · obtain ⟨w', hk3, hw, he'⟩ := k2 hc
      obtain ⟨k3, k4⟩ := en_lt_v he' hvhi h4 hk3
      by_cases hc2 : en_d (lo + m) < I
      · obtain ⟨w2, hk4, hw2, he2⟩ := k3 hc2
        rw [en_z_lt_iff, en_z_d (by omega)] at hc2
        exact goD w2 hk4 (hw.tr hw2) he2 (Or.inr hc2)
      · obtain ⟨w2, hk4, hw2, he2⟩ := k4 hc2
        rcases en_pt_v he2 h4 hk4 with hk5 | ⟨w3, hk5, hw3, he3⟩ | hk5
        · cases hk5
        · exact en_again hih hR0 hk5 ((hw.tr hw2).tr hw3) he3
        · cases hk5
theorem en_O_aload (hP : P[q / 65536]? = some (cs, nL, dd)) (hS : en_St E kds P L FIN q X) (hn : n / 65536 = q / 65536) {SA : List (Nat × Nat)} (hSA : en_SA E ρ ω SA) {t : Nat → Bool} (ht0 : t 0 = false)
    (hX1 : ∀ (lv : mm_V) (I : Int32) (a : Nat) (r : List Value) (cb sb : Nat) (h : mm_H) (N : Nat), t (en_kind N) = true → en_cr E ρ ω N h[a]? → mm_inr I (en_len N) = true → I.toNatClampNeg < en_len N → ∃ v, X lv (.int I :: .ref (E.1 + a) :: r) cb sb h = some (n % 65536, lv, v :: r, cb, sb, h) ∧ en_v E ρ ω (en_elt N I.toNatClampNeg) v)
    (hX2 : t 1 = true → ∀ (lv : mm_V) (I : Int32) (a : Nat) (r : List Value) (cb sb : Nat) (h : mm_H) (q' : mm_S), a < E.1 → mm_stat E a = some q' → mm_inr I q'.2.1 = true → X lv (.int I :: .ref a :: r) cb sb h = some (n % 65536, lv, .int (q'.2.2 I.toNatClampNeg) :: r, cb, sb, h)) : en_OS E kds P L ρ ω h0 fsC FIN q (en_aload SA t q n) := by
  intro loc st hp w ih c0 hih hk hR
  have hR0 := hR
  obtain ⟨lv, sv, gs, h, o, rfl, ⟨cs', nL', dd', hP', hl⟩, hs, hh, he, hx, hd, hf⟩ := hR
  cases hP.symm.trans hP'
  unfold en_aload at hk
  obtain ⟨i, st1, rfl, hk1⟩ := en_pop_t hk
  obtain ⟨a, st2, rfl, hk2⟩ := en_pop_t hk1
  obtain ⟨h1, hk3⟩ := en_if_and.mp hk2
  obtain ⟨vi, sv1, rfl, h3, hs1⟩ := en_sr_cons hs
  obtain ⟨va, sv2, rfl, h4, hs2⟩ := en_sr_cons hs1
  obtain ⟨I, rfl⟩ := en_isI_int h1 h3
  rcases en_pt_v he h3 hk3 with hk4 | ⟨w', hk4, hw, he'⟩ | hk4
  · rcases en_cell_v h4 hk4 with ⟨k, hk5, rfl, hk6⟩ | ⟨s, qs, hs3, rfl, hk6⟩
    · obtain ⟨a1, hk7⟩ := en_if_and.mp hk6
      obtain ⟨b1, b2, b3⟩ := en_idx_v hk7
      have hkind : en_kind (en_get hp k) ≠ 0 := fun e => by rw [e, ht0] at a1; cases a1
      obtain ⟨v, e1, e2⟩ := hX1 lv I k sv2 w.1 w.2.1 h (en_get hp k) a1 (en_h_get hh hk5 hkind) b1 b2
      exact hS lv _ _ _ h gs o (n % 65536) lv (v :: sv2) _ _ h e1 (en_go_on hih b3 hn hP hl (show en_sr E ρ ω (_ :: st2) (v :: sv2) from ⟨e2, hs2⟩) hh he hx hd hf rfl rfl)
    · obtain ⟨a1, hk7⟩ := en_if_and.mp hk6
      cases hnn : en_nth (0, 0) SA s with
      | mk m row =>
        rw [hnn] at hk7
        obtain ⟨b1, b2, b3⟩ := en_idx_v (show en_idx m (en_z I) _ = true from hk7)
        have hsa : SA[s]? = some (m, row) := by
          rw [en_nth_eq] at hnn
          cases hq : SA[s]? with
          | none => rw [hq] at hnn; cases hnn; omega
          | some y => rw [hq] at hnn; simp only [Option.getD_some] at hnn; rw [hnn]
        obtain ⟨qq, q', g1, g2, g3, g4, g5⟩ := hSA s m row hsa
        cases g1.symm.trans hs3
        have e1 := hX2 a1 lv I qs.1 sv2 w.1 w.2.1 h q' g2 g3 (by rw [g4]; exact b1)
        exact hS lv _ _ _ h gs o (n % 65536) lv _ _ _ h e1 (en_go_on hih b3 hn hP hl (show en_sr E ρ ω (_ :: st2) (_ :: sv2) from ⟨g5 _ b2, hs2⟩) hh he hx hd hf rfl rfl)
  · exact en_again hih hR0 hk4 hw he'
  · cases hk4
theorem en_O_astore (hP : P[q / 65536]? = some (cs, nL, dd)) (hS : en_St E kds P L FIN q X) (hn : n / 65536 = q / 65536) {t : Nat → Bool} (ht0 : t 0 = false)
    (hX1 : ∀ (lv : mm_V) (V : Value) (v : Nat) (k : Nat → Bool) (I : Int32) (a : Nat) (r : List Value) (cb sb : Nat) (h : mm_H) (N : Nat), t (en_kind N) = true → en_cr E ρ ω N h[a]? → en_v E ρ ω v V → en_fit (en_kind N) v k = true → ∃ v', k v' = true ∧ (mm_inr I (en_len N) = true → I.toNatClampNeg < en_len N → ∃ e', X lv (V :: .int I :: .ref (E.1 + a) :: r) cb sb h = some (n % 65536, lv, r, cb, sb, h.set a e') ∧ en_cr E ρ ω (en_eset N I.toNatClampNeg v') (some e'))) : en_OS E kds P L ρ ω h0 fsC FIN q (en_astore t q n) := by
  intro loc st hp w ih c0 hih hk hR
  have hR0 := hR
  obtain ⟨lv, sv, gs, h, o, rfl, ⟨cs', nL', dd', hP', hl⟩, hs, hh, he, hx, hd, hf⟩ := hR
  cases hP.symm.trans hP'
  unfold en_astore at hk
  obtain ⟨v, st0, rfl, hk0⟩ := en_pop_t hk
  obtain ⟨i, st1, rfl, hk1⟩ := en_pop_t hk0
  obtain ⟨a, st2, rfl, hk2⟩ := en_pop_t hk1
  obtain ⟨h1, hk3⟩ := en_if_and.mp hk2
  obtain ⟨V, sv0, rfl, h2, hs0⟩ := en_sr_cons hs
  obtain ⟨vi, sv1, rfl, h3, hs1⟩ := en_sr_cons hs0
  obtain ⟨va, sv2, rfl, h4, hs2⟩ := en_sr_cons hs1
  obtain ⟨I, rfl⟩ := en_isI_int h1 h3
  rcases en_pt_v he h3 hk3 with hk4 | ⟨w', hk4, hw, he'⟩ | hk4
  · rcases en_cell_v h4 hk4 with ⟨k, hk5, rfl, hk6⟩ | ⟨s, qs, hs3, rfl, hk6⟩
    · obtain ⟨a1, hk7⟩ := en_if_and.mp hk6
      have hkind : en_kind (en_get hp k) ≠ 0 := fun e => by rw [e, ht0] at a1; cases a1
      have hcr := en_h_get hh hk5 hkind
      obtain ⟨v', hk8, hx1⟩ := hX1 lv V v _ I k sv2 w.1 w.2.1 h (en_get hp k) a1 hcr h2 hk7
      obtain ⟨b1, b2, b3⟩ := en_idx_v hk8
      obtain ⟨e', e1, e2⟩ := hx1 b1 b2
      exact hS lv _ _ _ h gs o (n % 65536) lv sv2 _ _ _ e1 (en_go_on hih b3 hn hP hl hs2 (en_h_put hh hk5 (en_cr_lt hcr) e2) he (by rw [List.length_set]; exact hx) hd hf rfl rfl)
    · cases hk6
  · exact en_again hih hR0 hk4 hw he'
  · cases hk4
theorem en_len_SA (SA : List (Nat × Nat)) : (List.rec (motive := fun _ => Nat) 0 (fun _ _ n => Nat.succ n) SA : Nat) = SA.length := by
  induction SA with
  | nil => rfl
  | cons a r ih => show Nat.succ _ = _; rw [ih]; rfl
theorem en_len_v {m : Nat} (h : m < 16777216) : en_v E ρ ω (Nat.add 2147483648 m) (.int (Int32.ofNat m)) := by
  show en_v E ρ ω (2147483648 + m) _
  rw [en_v_const (by omega), Nat.add_comm]
  exact congrArg Value.int (en_nI_d m)
theorem en_sr_push {c : Nat} {v : Value} {st : List Nat} {sv : List Value} (h : en_v E ρ ω c v) (hs : en_sr E ρ ω st sv) : en_sr E ρ ω (c :: st) (v :: sv) := ⟨h, hs⟩
theorem en_O_alen (hP : P[q / 65536]? = some (cs, nL, dd)) (hS : en_St E kds P L FIN q X) (hn : n / 65536 = q / 65536) {SA : List (Nat × Nat)} (hSA : en_SA E ρ ω SA) (hX : ∀ lv sv cb sb h, X lv sv cb sb h = mm_alen E lv sv cb sb h (n % 65536)) : en_OS E kds P L ρ ω h0 fsC FIN q (en_alen SA n) := by
  intro loc st hp w ih c0 hih hk hR
  obtain ⟨lv, sv, gs, h, o, rfl, ⟨cs', nL', dd', hP', hl⟩, hs, hh, he, hx, hd, hf⟩ := hR
  cases hP.symm.trans hP'
  unfold en_alen at hk
  obtain ⟨a, st2, rfl, hk2⟩ := en_pop_t hk
  obtain ⟨va, sv2, rfl, h4, hs2⟩ := en_sr_cons hs
  rcases en_cell_v h4 hk2 with ⟨k, hk5, rfl, hk6⟩ | ⟨s, qs, hs3, rfl, hk6⟩
  · obtain ⟨a1, hk7⟩ := en_if_and.mp hk6
    obtain ⟨a2, hk8⟩ := en_if_and.mp hk7
    have a1 := en_ble_t.mp a1
    have a2 := en_ble_t.mp a2
    have hcr := en_h_get hh hk5 (by omega)
    have hlen : en_len (en_get hp k) < 16777216 := Nat.mod_lt _ (by decide)
    have hv := @en_len_v E ρ ω (en_len (en_get hp k)) hlen
    refine hS lv _ _ _ h gs o (n % 65536) lv (.int (Int32.ofNat (en_len (en_get hp k))) :: sv2) _ _ h ?_ (en_go_on hih hk8 hn hP hl (en_sr_push hv hs2) hh he hx hd hf rfl rfl)
    rw [hX]
    unfold mm_alen
    simp only [en_mmcell]
    rcases hcr with ⟨t, f, g1, g2, e, -⟩ | ⟨f, g1, e, -⟩ | ⟨f, g1, e, -⟩ | ⟨ci, fs, g1, -⟩
    · rw [e]; simp only []; rw [if_pos (show t < 5 by omega)]
    · rw [e]; simp only []; rw [if_pos (by decide)]
    · rw [e]; simp only []; rw [if_pos (by decide)]
    · omega
  · cases hnn : en_nth (0, 0) SA s with
    | mk m row =>
      rw [hnn] at hk6
      obtain ⟨a1, hk7⟩ := en_if_and.mp (show en_if (Nat.ble m 16777215) _ false = true from hk6)
      obtain ⟨a2, hk8⟩ := en_if_and.mp hk7
      have a1 := en_ble_t.mp a1
      rw [en_len_SA] at a2
      have a2 : s + 1 ≤ SA.length := en_ble_t.mp a2
      have hsa : SA[s]? = some (m, row) := by
        rw [en_nth_eq, List.getElem?_eq_getElem (by omega)] at hnn
        rw [List.getElem?_eq_getElem (by omega)]
        exact congrArg some hnn
      obtain ⟨qq, q', g1, g2, g3, g4, g5⟩ := hSA s m row hsa
      cases g1.symm.trans hs3
      have hv := @en_len_v E ρ ω m (by omega)
      refine hS lv _ _ _ h gs o (n % 65536) lv (.int (Int32.ofNat m) :: sv2) _ _ h ?_ (en_go_on hih hk8 hn hP hl (en_sr_push hv hs2) hh he hx hd hf rfl rfl)
      rw [hX]
      unfold mm_alen
      have e1 : mm_cell E h qs.1 = none := by unfold mm_cell; rw [if_neg (by omega)]
      simp only [e1, g3]
      rw [← g4]
theorem en_O_getf (hP : P[q / 65536]? = some (cs, nL, dd)) (hS : en_St E kds P L FIN q X) (hn : n / 65536 = q / 65536) {ci b : Nat} (hX : ∀ lv sv cb sb h, X lv sv cb sb h = mm_getf E lv sv cb sb h (n % 65536) ci b) : en_OS E kds P L ρ ω h0 fsC FIN q (en_getf n ci b) := by
  intro loc st hp w ih c0 hih hk hR
  obtain ⟨lv, sv, gs, h, o, rfl, ⟨cs', nL', dd', hP', hl⟩, hs, hh, he, hx, hd, hf⟩ := hR
  cases hP.symm.trans hP'
  unfold en_getf at hk
  obtain ⟨a, st2, rfl, hk2⟩ := en_pop_t hk
  obtain ⟨va, sv2, rfl, h4, hs2⟩ := en_sr_cons hs
  rcases en_cell_v h4 hk2 with ⟨k, hk5, rfl, hk6⟩ | ⟨s, qs, hs3, rfl, hk6⟩
  · obtain ⟨a1, hk7⟩ := en_if_and.mp hk6
    obtain ⟨a2, hk8⟩ := en_if_and.mp hk7
    have a1 : en_kind (en_get hp k) = 6 + ci := en_beq_t.mp a1
    have a2 : b + 1 ≤ en_len (en_get hp k) := en_ble_t.mp a2
    rcases en_h_get hh hk5 (by omega) with ⟨t, f, g1, g2, -⟩ | ⟨f, g1, -⟩ | ⟨f, g1, -⟩ | ⟨c2, fs, g1, e, g3, g4⟩
    · omega
    · omega
    · omega
    · have hci : c2 = ci := by omega
      subst hci
      have hb : fs[b]? = some fs[b] := List.getElem?_eq_getElem (by omega)
      refine hS lv _ _ _ h gs o (n % 65536) lv (fs[b] :: sv2) _ _ h ?_ (en_go_on hih hk8 hn hP hl (show en_sr E ρ ω (_ :: st2) (_ :: sv2) from ⟨g4 b _ hb, hs2⟩) hh he hx hd hf rfl rfl)
      rw [hX]
      unfold mm_getf
      simp only [en_mmcell, e, if_true, hb]
  · cases hk6
theorem en_ffit_v {kd v : Nat} {V : Value} (hv : en_v E ρ ω v V) (h : en_ffit kd v = true) : mm_fits kd V = true := by
  unfold en_ffit at h
  rcases en_if_or.mp h with ⟨a1, k1⟩ | ⟨-, k1⟩
  · obtain ⟨x, rfl⟩ := en_isI_int k1 hv
    rw [en_beq_t.mp a1]
    simp [mm_fits]
  · rcases en_if_or.mp k1 with ⟨a1, k2⟩ | ⟨-, k2⟩
    · obtain ⟨x, rfl⟩ := en_isL_long k2 hv
      rw [en_beq_t.mp a1]
      simp [mm_fits]
    · rcases en_if_or.mp k2 with ⟨a1, k3⟩ | ⟨-, k3⟩
      · obtain ⟨a2, a3⟩ := en_if_and.mp k3
        have a2 := en_ble_t.mp a2
        have a3 := en_ble_t.mp a3
        have e := (en_v_const (by omega)).mp hv
        rw [en_beq_t.mp a1, e]
        rcases Nat.lt_or_ge 2147483648 v with q | q
        · rw [show v = 2147483649 by omega]
          decide
        · rw [show v = 2147483648 by omega]
          decide
      · obtain ⟨a1, k4⟩ := en_if_and.mp k3
        rw [en_beq_t.mp a1]
        rcases en_if_or.mp k4 with ⟨a2, -⟩ | ⟨-, a2⟩
        · obtain ⟨x, rfl⟩ := en_isR_ref a2 hv
          simp [mm_fits]
        · rw [en_beq_t.mp a2] at hv
          rw [en_v_null.mp hv]
          simp [mm_fits]
theorem en_O_putf (hP : P[q / 65536]? = some (cs, nL, dd)) (hS : en_St E kds P L FIN q X) (hn : n / 65536 = q / 65536) {ci b kd : Nat} (hX : ∀ lv sv cb sb h, X lv sv cb sb h = mm_putf E lv sv cb sb h (n % 65536) ci b kd) : en_OS E kds P L ρ ω h0 fsC FIN q (en_putf n ci b kd) := by
  intro loc st hp w ih c0 hih hk hR
  obtain ⟨lv, sv, gs, h, o, rfl, ⟨cs', nL', dd', hP', hl⟩, hs, hh, he, hx, hd, hf⟩ := hR
  cases hP.symm.trans hP'
  unfold en_putf at hk
  obtain ⟨v, st1, rfl, hk1⟩ := en_pop_t hk
  obtain ⟨a, st2, rfl, hk2⟩ := en_pop_t hk1
  obtain ⟨V, sv1, rfl, h3, hs1⟩ := en_sr_cons hs
  obtain ⟨va, sv2, rfl, h4, hs2⟩ := en_sr_cons hs1
  rcases en_cell_v h4 hk2 with ⟨k, hk5, rfl, hk6⟩ | ⟨s, qs, hs3, rfl, hk6⟩
  · obtain ⟨a1, hk7⟩ := en_if_and.mp hk6
    obtain ⟨a2, hk8⟩ := en_if_and.mp hk7
    obtain ⟨a3, hk9⟩ := en_if_and.mp hk8
    have a1 : en_kind (en_get hp k) = 6 + ci := en_beq_t.mp a1
    have a2 : b + 1 ≤ en_len (en_get hp k) := en_ble_t.mp a2
    have hcr := en_h_get hh hk5 (by omega)
    have hlt := en_cr_lt hcr
    rcases hcr with ⟨t, f, g1, g2, -⟩ | ⟨f, g1, -⟩ | ⟨f, g1, -⟩ | ⟨c2, fs, g1, e, g3, g4⟩
    · omega
    · omega
    · omega
    · have hci : c2 = ci := by omega
      subst hci
      have hc2 : en_cr E ρ ω (en_eset (en_get hp k) b v) (some (.inr (c2, fs.set b V))) := by
        refine Or.inr (Or.inr (Or.inr ⟨c2, fs.set b V, by rw [en_eset_kind]; exact g1, rfl, by rw [en_eset_len, List.length_set]; exact g3, fun j u hj => ?_⟩))
        rw [en_elt_eset (en_v_68 h3)]
        rw [List.getElem?_set] at hj
        by_cases hjb : j = b
        · subst hjb
          rw [if_pos rfl, if_pos (by omega)] at hj
          cases hj
          rw [if_pos rfl]
          exact h3
        · rw [if_neg (fun e => hjb e.symm)] at hj
          rw [if_neg hjb]
          exact g4 j u hj
      refine hS lv _ _ _ h gs o (n % 65536) lv sv2 _ _ (h.set k (.inr (c2, fs.set b V))) ?_ (en_go_on hih hk9 hn hP hl hs2 (en_h_put hh hk5 hlt hc2) he (by rw [List.length_set]; exact hx) hd hf rfl rfl)
      rw [hX]
      unfold mm_putf
      simp only [en_mmcell, e]
      rw [if_pos ⟨trivial, by omega, en_ffit_v h3 a3⟩, Nat.add_sub_cancel_left]
  · cases hk6
/-- a new cell -/
theorem en_new_v (hP : P[q / 65536]? = some (cs, nL, dd)) (hn : n / 65536 = q / 65536) {ih : en_C} (hih : en_S E kds P L ρ ω h0 fsC FIN ih) {loc m N : Nat} {st : List Nat} {hp : en_H} {w : en_W} (hk : en_new n m N loc st hp w ih = true) {e : va_E} (hc : en_cr E ρ ω N (some e)) {lv : mm_V} {sv : List Value} {gs : List mm_F} {h : mm_H} (hl : en_lr E ρ ω nL loc lv) (hs : en_sr E ρ ω st sv) (hh : en_h E ρ ω h0 hp h) (he : en_e ρ (en_ev w)) (hx : h.length = w.2.2.2.2.1) (hd : fsC.length + w.2.2.2.1.length + 1 + w.2.2.1 ≤ L) (hf : en_frs E P L ρ ω fsC w.2.2.2.1 gs) : (1 ≤ w.1 ∧ m ≤ w.2.1) ∧ en_Good E kds P L FIN ((q / 65536, n % 65536, lv, .ref (E.1 + h.length) :: sv, w.1 - 1, w.2.1 - m) :: gs, h ++ [e], none) := by
  unfold en_new at hk
  obtain ⟨a1, hk⟩ := en_if_and.mp hk
  obtain ⟨a2, hk⟩ := en_if_and.mp hk
  obtain ⟨a3, hk⟩ := en_if_and.mp hk
  have a1 := en_ble_t.mp a1
  have a2 := en_ble_t.mp a2
  have a3 : w.2.2.2.2.1 + 1 ≤ 136 := en_ble_t.mp a3
  refine ⟨⟨a1, a2⟩, ?_⟩
  rw [← hx] at hk
  have hv : en_v E ρ ω (8589934592 + h.length) (.ref (E.1 + h.length)) := by
    rw [en_v_ref (by omega) (by omega), Nat.add_sub_cancel_left]
  exact en_go_on hih hk hn hP hl (show en_sr E ρ ω (_ :: st) (_ :: sv) from ⟨hv, hs⟩) (en_h_push hh (by omega) hc) he (by show (h ++ [e]).length = Nat.succ h.length; simp) hd hf rfl rfl
theorem en_dfl_lt (k : Nat) : en_dfl k < 2 ^ 68 := by
  unfold en_dfl
  split <;> decide
theorem en_dfl_v (k : Nat) : en_v E ρ ω (en_dfl k) (mm_dflt k) := by
  unfold en_dfl mm_dflt
  split
  · rw [en_v_const (by decide), en_d_zero]; rfl
  · rw [en_v_long (by decide) (by decide)]; rfl
  · rw [en_v_const (by decide), en_d_zero]; rfl
  · rename_i h1 h2 h3
    split
    · exact absurd rfl h1
    · exact absurd rfl h2
    · exact absurd rfl h3
    · exact en_v_null.mpr rfl
theorem en_obj_v : ∀ (l : List Nat) (N j : Nat), en_kind (en_obj l N j) = en_kind N ∧ en_len (en_obj l N j) = en_len N ∧ ∀ i, en_elt (en_obj l N j) i = if j ≤ i ∧ i < j + l.length then en_dfl (l.getD (i - j) 0) else en_elt N i := by
  intro l
  induction l with
  | nil => intro N j; refine ⟨rfl, rfl, fun i => ?_⟩; rw [if_neg (by simp only [List.length_nil]; omega)]; rfl
  | cons a r ih =>
    intro N j
    obtain ⟨h1, h2, h3⟩ := ih (en_eset N j (en_dfl a)) (Nat.succ j)
    refine ⟨h1.trans (en_eset_kind _ _ _), h2.trans (en_eset_len _ _ _), fun i => ?_⟩
    show en_elt (en_obj r (en_eset N j (en_dfl a)) (Nat.succ j)) i = _
    rw [h3, en_elt_eset (en_dfl_lt a)]
    by_cases hi : i = j
    · subst hi
      rw [if_neg (by omega), if_pos rfl, if_pos (by simp only [List.length_cons]; omega), Nat.sub_self]
      rfl
    · by_cases hr : Nat.succ j ≤ i ∧ i < Nat.succ j + r.length
      · rw [if_pos hr, if_pos (by simp only [List.length_cons]; omega)]
        rw [show i - j = (i - Nat.succ j) + 1 by omega, List.getD_cons_succ]
      · rw [if_neg hr, if_neg hi, if_neg (by simp only [List.length_cons]; omega)]
theorem en_O_newo (hP : P[q / 65536]? = some (cs, nL, dd)) (hS : en_St E kds P L FIN q X) (hn : n / 65536 = q / 65536) {ci : Nat} {l : List Nat} (hci : ci < 200) (hll : l.length < 10000) (hX : ∀ lv sv cb sb h, X lv sv cb sb h = mm_new E lv sv cb sb h (n % 65536) ci l) : en_OS E kds P L ρ ω h0 fsC FIN q (en_newo n ci l) := by
  intro loc st hp w ih c0 hih hk hR
  obtain ⟨lv, sv, gs, h, o, rfl, ⟨cs', nL', dd', hP', hl⟩, hs, hh, he, hx, hd, hf⟩ := hR
  cases hP.symm.trans hP'
  obtain ⟨b1, b2, b3⟩ := en_obj_v l (6 + ci + 256 * l.length) 0
  have hc : en_cr E ρ ω (en_obj l (Nat.add (Nat.add 6 ci) (Nat.mul 256 l.length)) 0) (some (.inr (ci, l.map mm_dflt))) := by
    refine Or.inr (Or.inr (Or.inr ⟨ci, l.map mm_dflt, ?_, rfl, ?_, fun j v hj => ?_⟩))
    · exact b1.trans (by show (6 + ci + 256 * l.length) % 256 = _; omega)
    · rw [List.length_map]
      exact (b2.trans (by show (6 + ci + 256 * l.length) / 256 % 16777216 = _; omega)).symm
    · rw [List.getElem?_map] at hj
      cases hlj : l[j]? with
      | none => rw [hlj] at hj; cases hj
      | some k =>
        rw [hlj] at hj
        cases hj
        have hlt := (List.getElem?_eq_some_iff.mp hlj).1
        have e := b3 j
        rw [if_pos (by omega), Nat.sub_zero] at e
        have e2 : l.getD j 0 = k := by rw [List.getD_eq_getElem?_getD, hlj]; rfl
        rw [e2] at e
        show en_v E ρ ω (en_elt (en_obj l (6 + ci + 256 * l.length) 0) j) _
        rw [e]
        exact en_dfl_v k
  obtain ⟨⟨a1, a2⟩, g⟩ := en_new_v hP hn hih hk hc hl hs hh he hx hd hf
  refine hS lv sv _ _ h gs o (n % 65536) lv _ _ _ _ ?_ g
  rw [hX]
  unfold mm_new
  rw [if_pos ⟨a1, a2⟩]
theorem en_O_newa (hP : P[q / 65536]? = some (cs, nL, dd)) (hS : en_St E kds P L FIN q X) (hn : n / 65536 = q / 65536) {kind D : Nat} {mk : Nat → va_E} (hk0 : kind < 256) (hD : D < 2 ^ 68) (hmk : ∀ N m, m < 16777216 → en_kind N = kind → en_len N = m → (∀ j, j < m → en_elt N j = D) → en_cr E ρ ω N (some (mk m)))
    (hX : ∀ (lv : mm_V) (I : Int32) (sv : List Value) (cb sb : Nat) (h : mm_H), 0 ≤ I.toInt ∧ I.toInt ≤ 100000 ∧ 1 ≤ cb ∧ I.toNatClampNeg ≤ sb → X lv (.int I :: sv) cb sb h = some (n % 65536, lv, .ref (E.1 + h.length) :: sv, cb - 1, sb - I.toNatClampNeg, h ++ [mk I.toNatClampNeg])) : en_OS E kds P L ρ ω h0 fsC FIN q (en_newa n kind D) := by
  intro loc st hp w ih c0 hih hk hR
  obtain ⟨lv, sv, gs, h, o, rfl, ⟨cs', nL', dd', hP', hl⟩, hs, hh, he, hx, hd, hf⟩ := hR
  cases hP.symm.trans hP'
  unfold en_newa at hk
  obtain ⟨x, st1, rfl, hk1⟩ := en_pop_t hk
  obtain ⟨v, sv1, rfl, h3, hs1⟩ := en_sr_cons hs
  obtain ⟨a1, hk2⟩ := en_if_and.mp hk1
  obtain ⟨a2, hk3⟩ := en_if_and.mp hk2
  have a1 := en_ble_t.mp a1
  have a2 := en_ble_t.mp a2
  have e := (en_v_const (by omega)).mp h3
  subst e
  have ez := en_z_d (c := x) (by omega)
  have ei := en_d_int (c := x) (by omega)
  have ec : (en_d x).toNatClampNeg = x - 2147483648 := by show (en_d x).toInt.toNat = _; omega
  have hc : en_cr E ρ ω (en_rep kind (Nat.sub x 2147483648) D) (some (mk (x - 2147483648))) := hmk _ _ (by omega) (en_rep_kind hk0) (en_rep_len hk0 (show x - 2147483648 < 16777216 by omega)) (fun j hj => en_rep_elt hk0 (show x - 2147483648 < 16777216 by omega) hD hj)
  obtain ⟨⟨b1, b2⟩, g⟩ := en_new_v hP hn hih hk3 hc hl hs1 hh he hx hd hf
  refine hS lv _ _ _ h gs o (n % 65536) lv _ _ _ _ (hX _ _ _ _ _ _ ⟨by omega, by omega, b1, by rw [ec]; exact b2⟩) ?_
  rw [ec]
  exact g
end OPT
end ENT
end
section
/-! THE ENGINE IS SOUND, 6: rows of rows, copies, calls, returns -/
section ENU
variable {E : mm_E} {kds : List (List Nat)} {P : mm_T} {L : Nat} {ρ : Nat → Int32} {ω : Nat → Value} {h0 : mm_H} {fsC : List mm_F} {FIN : mm_C → Prop}
theorem en_refs_v : ∀ (n N j c : Nat), c + n < 2 ^ 68 → en_kind (en_refs n N j c) = en_kind N ∧ en_len (en_refs n N j c) = en_len N ∧ ∀ i, en_elt (en_refs n N j c) i = if j ≤ i ∧ i < j + n then c + (i - j) else en_elt N i := by
  intro n
  induction n with
  | zero => intro N j c _; refine ⟨rfl, rfl, fun i => ?_⟩; rw [if_neg (by omega)]; rfl
  | succ n ih =>
    intro N j c hc
    obtain ⟨h1, h2, h3⟩ := ih (en_eset N j c) (Nat.succ j) (Nat.succ c) (by omega)
    refine ⟨h1.trans (en_eset_kind _ _ _), h2.trans (en_eset_len _ _ _), fun i => ?_⟩
    show en_elt (en_refs n (en_eset N j c) (Nat.succ j) (Nat.succ c)) i = _
    rw [h3, en_elt_eset (by omega)]
    by_cases hi : i = j
    · subst hi
      rw [if_neg (by omega), if_pos rfl, if_pos (by omega)]
      omega
    · by_cases hr : Nat.succ j ≤ i ∧ i < Nat.succ j + n
      · rw [if_pos hr, if_pos (by omega)]
        omega
      · rw [if_neg hr, if_neg hi, if_neg (by omega)]
theorem en_rows_h {N : Nat} {e : va_E} (hc : en_cr E ρ ω N (some e)) : ∀ (n : Nat) (hp : en_H) (h : mm_H), en_h E ρ ω h0 hp h → h.length + n ≤ 136 → en_h E ρ ω h0 (en_rows n hp h.length N) (h ++ List.replicate n e) := by
  intro n
  induction n with
  | zero => intro hp h hh _; rw [List.replicate_zero, List.append_nil]; exact hh
  | succ n ih =>
    intro hp h hh hl
    have h1 := en_h_push hh (by omega) hc
    have h2 := ih (en_put hp h.length N) (h ++ [e]) h1 (by simp; omega)
    rw [List.length_append, List.length_singleton, List.append_assoc] at h2
    exact h2
section OPU
variable {q n : Nat} {X : mm_V → List Value → Nat → Nat → mm_H → mm_O} {cs : List (List mm_I)} {nL : Nat} {dd : mm_M}
set_option maxRecDepth 10000 in
theorem en_O_mna (hP : P[q / 65536]? = some (cs, nL, dd)) (hS : en_St E kds P L FIN q X) (hn : n / 65536 = q / 65536) (hX : ∀ lv sv cb sb h, X lv sv cb sb h = mm_newm E lv sv cb sb h (n % 65536)) : en_OS E kds P L ρ ω h0 fsC FIN q (en_mna n) := by
  intro loc st hp w ih c0 hih hk hR
  obtain ⟨lv, sv, gs, h, o, rfl, ⟨cs', nL', dd', hP', hl⟩, hs, hh, he, hx, hd, hf⟩ := hR
  cases hP.symm.trans hP'
  unfold en_mna at hk
  obtain ⟨y, st1, rfl, hk1⟩ := en_pop_t hk
  obtain ⟨x, st2, rfl, hk2⟩ := en_pop_t hk1
  obtain ⟨vy, sv1, rfl, h3, hs1⟩ := en_sr_cons hs
  obtain ⟨vx, sv2, rfl, h4, hs2⟩ := en_sr_cons hs1
  obtain ⟨a1, hk3⟩ := en_if_and.mp hk2
  obtain ⟨a2, hk4⟩ := en_if_and.mp hk3
  obtain ⟨a3, hk5⟩ := en_if_and.mp hk4
  obtain ⟨a4, hk6⟩ := en_if_and.mp hk5
  obtain ⟨a5, hk7⟩ := en_if_and.mp hk6
  obtain ⟨a6, hk8⟩ := en_if_and.mp hk7
  obtain ⟨a7, hk9⟩ := en_if_and.mp hk8
  have a1 := en_ble_t.mp a1
  have a2 := en_ble_t.mp a2
  have a3 := en_ble_t.mp a3
  have a4 := en_ble_t.mp a4
  have ex := (en_v_const (by omega)).mp h4
  have ey := (en_v_const (by omega)).mp h3
  subst ex
  subst ey
  have ix := en_d_int (c := x) (by omega)
  have iy := en_d_int (c := y) (by omega)
  obtain ⟨m, rfl⟩ : ∃ m, x = 2147483648 + m := ⟨x - 2147483648, by omega⟩
  obtain ⟨k, rfl⟩ : ∃ k, y = 2147483648 + k := ⟨y - 2147483648, by omega⟩
  have ex2 : Nat.sub (2147483648 + m) 2147483648 = m := Nat.add_sub_cancel_left 2147483648 m
  have ey2 : Nat.sub (2147483648 + k) 2147483648 = k := Nat.add_sub_cancel_left 2147483648 k
  have cx : (en_d (2147483648 + m)).toNatClampNeg = m := by show (en_d (2147483648 + m)).toInt.toNat = _; omega
  have cy : (en_d (2147483648 + k)).toNatClampNeg = k := by show (en_d (2147483648 + k)).toInt.toNat = _; omega
  rw [ex2] at a5
  rw [ex2, ey2] at a6
  rw [ex2] at a7
  rw [ex2, ey2, ← hx] at hk9
  have a5 : m + 1 ≤ w.1 := en_ble_t.mp a5
  have a6 : m + m * k ≤ w.2.1 := en_ble_t.mp a6
  have a7 : (w.2.2.2.2.1 + 1) + m ≤ 136 := en_ble_t.mp a7
  rw [← hx] at a7
  have hrow : en_cr E ρ ω (en_rep 1 k 2147483648) (some (.inl (0, k, .inl (fun _ => 0)))) := by
    have hkl : k < 16777216 := by omega
    refine Or.inl ⟨0, fun _ => 0, en_rep_kind (by decide), by decide, ?_, fun j hj => ?_⟩
    · rw [en_rep_len (by decide) hkl]
    · rw [en_rep_len (by decide) hkl] at hj
      rw [en_rep_elt (by decide) hkl (by decide) hj, en_v_const (by decide), en_d_zero]
  obtain ⟨b1, b2, b3⟩ := en_refs_v m (5 + 256 * m) 0 (8589934592 + (h.length + 1)) (by omega)
  have hkm : en_kind (5 + 256 * m) = 5 := by show (5 + 256 * m) % 256 = 5; omega
  have hlm : en_len (5 + 256 * m) = m := by show (5 + 256 * m) / 256 % 16777216 = m; omega
  have hout : en_cr E ρ ω (en_refs m (5 + 256 * m) 0 (8589934592 + (h.length + 1))) (some (.inl (4, m, .inr (.inr (.inr (.inr (fun i => if i < m then some (E.1 + h.length + 1 + i) else none))))))) := by
    refine Or.inr (Or.inr (Or.inl ⟨_, b1.trans hkm, by rw [b2, hlm], fun j hj => ?_⟩))
    rw [b2, hlm] at hj
    rw [b3, if_pos (by omega), if_pos hj]
    show en_v E ρ ω _ (.ref _)
    rw [en_v_ref (by omega) (by omega)]
    have e9 : (E.1 + h.length + 1 + j : Nat) = E.1 + (8589934592 + (h.length + 1) + (j - 0) - 8589934592) := by omega
    exact congrArg Value.ref e9
  have hh1 := en_h_push hh (by omega) hout
  have hh2 := en_rows_h hrow m _ _ hh1 (by simp; omega)
  rw [List.length_append, List.length_singleton, List.append_assoc] at hh2
  have hv : en_v E ρ ω (8589934592 + h.length) (.ref (E.1 + h.length)) := by
    rw [en_v_ref (by omega) (by omega), Nat.add_sub_cancel_left]
  refine hS lv _ _ _ h gs o (n % 65536) lv (.ref (E.1 + h.length) :: sv2) (w.1 - (1 + m)) (w.2.1 - (m + m * k)) _ ?_ (en_go_on hih hk9 hn hP hl ⟨hv, hs2⟩ hh2 he ?_ hd hf ?_ rfl)
  · rw [hX]
    unfold mm_newm
    simp only [cx, cy]
    rw [if_pos ⟨by omega, by omega, by omega, by omega, by omega, by omega⟩]
    rfl
  · show (h ++ _).length = (h.length + 1) + m
    simp
    omega
  · show w.1 - (1 + m) = w.1 - (m + 1)
    omega
theorem en_frs_len : ∀ (fs : List en_F) (gs : List mm_F), en_frs E P L ρ ω fsC fs gs → gs.length = fs.length + fsC.length := by
  intro fs
  induction fs with
  | nil => intro gs h; rw [show gs = fsC from h]; simp
  | cons f fs ih =>
    intro gs h
    cases gs with
    | nil => exact h.elim
    | cons g gs => rw [List.length_cons, List.length_cons, ih gs h.2.2]; omega
theorem en_cat_v : ∀ (st : List Nat) (sv : List Value), en_sr E ρ ω st sv → (sv.map fun v => v.category).sum ≤ en_cat st := by
  intro st
  induction st with
  | nil => intro sv h; rw [en_sr_nil h]; exact Nat.le_refl 0
  | cons c r ih =>
    intro sv h
    obtain ⟨v, vs, rfl, h1, h2⟩ := en_sr_cons h
    have h3 := ih vs h2
    rw [List.map_cons, List.sum_cons]
    show _ ≤ en_if (en_one c) (Nat.succ (en_cat r)) (Nat.succ (Nat.succ (en_cat r)))
    cases ho : en_one c with
    | true => rw [en_if_t, en_one_cat ho h1]; omega
    | false => rw [en_if_f]; have := en_cat_le v; omega
/-- a special callee -/
theorem en_step_sp {len a b wd ik : Nat} {z : Int} {ins : Instr} {q0 : Nat} (hat : mm_at P (q / 65536) (q % 65536) = some ((q0, len, ins, a, b, z, wd), nL, dd)) (hi : mm_inv ins = some ik) (ha : a < 2) {lv : mm_V} {sv : List Value} {cb sb : Nat} {h : mm_H} {gs : List mm_F} {o : Option Value} (hg : gs.length + 1 < L) {pc' : Nat} {lv' : mm_V} {sv' : List Value} {cb' sb' : Nat} {h' : mm_H} (hx : mm_sp E a ik lv sv cb sb h (q % 65536 + len) = some (pc', lv', sv', cb', sb', h')) (g : en_Good E kds P L FIN ((q / 65536, pc', lv', sv', cb', sb') :: gs, h', none)) : en_Good E kds P L FIN ((q / 65536, q % 65536, lv, sv, cb, sb) :: gs, h, o) := by
  refine en_good_step ?_ g
  obtain ⟨d1, d2, d3, d4, d5, d6⟩ := dd
  simp only [mm_stp, hat, hi, if_pos ha, if_pos hg, hx]
theorem en_O_oinit (hP : P[q / 65536]? = some (cs, nL, dd)) {len b wd : Nat} {z : Int} {ins : Instr} {q0 : Nat} (hat : mm_at P (q / 65536) (q % 65536) = some ((q0, len, ins, 0, b, z, wd), nL, dd)) (hi : mm_inv ins = some 2) (hn : n / 65536 = q / 65536) (hn2 : n % 65536 = q % 65536 + len) : en_OS E kds P L ρ ω h0 fsC FIN q (en_oinit n) := by
  intro loc st hp w ih c0 hih hk hR
  obtain ⟨lv, sv, gs, h, o, rfl, ⟨cs', nL', dd', hP', hl⟩, hs, hh, he, hx, hd, hf⟩ := hR
  cases hP.symm.trans hP'
  unfold en_oinit at hk
  obtain ⟨a, st1, rfl, hk1⟩ := en_pop_t hk
  obtain ⟨va, sv1, rfl, h3, hs1⟩ := en_sr_cons hs
  obtain ⟨a1, hk2⟩ := en_if_and.mp hk1
  obtain ⟨a2, hk3⟩ := en_if_and.mp hk2
  obtain ⟨a3, hk4⟩ := en_if_and.mp hk3
  have a2 := en_ble_t.mp a2
  have a3 := en_ble_t.mp a3
  obtain ⟨x, rfl⟩ := en_isR_ref a1 h3
  have hlen := en_frs_len _ _ hf
  refine en_step_sp hat hi (by decide) (by omega) (pc' := n % 65536) (lv' := lv) (sv' := sv1) (cb' := w.1) (sb' := w.2.1) (h' := h) ?_ (en_go_on hih hk4 hn hP hl hs1 hh he hx hd hf rfl rfl)
  unfold mm_sp
  rw [if_pos rfl]
  have hc := en_cat_v _ _ hs1
  simp only []
  rw [if_pos ⟨trivial, by omega⟩, hn2]
theorem en_O_copy (hP : P[q / 65536]? = some (cs, nL, dd)) {len b wd : Nat} {z : Int} {ins : Instr} {q0 : Nat} (hat : mm_at P (q / 65536) (q % 65536) = some ((q0, len, ins, 1, b, z, wd), nL, dd)) (hi : mm_inv ins = some 0) (hn : n / 65536 = q / 65536) (hn2 : n % 65536 = q % 65536 + len) : en_OS E kds P L ρ ω h0 fsC FIN q (en_copy n) := by
  intro loc st hp w ih c0 hih hk hR
  obtain ⟨lv, sv, gs, h, o, rfl, ⟨cs', nL', dd', hP', hl⟩, hs, hh, he, hx, hd, hf⟩ := hR
  cases hP.symm.trans hP'
  unfold en_copy at hk
  obtain ⟨m, st1, rfl, hk1⟩ := en_pop_t hk
  obtain ⟨p1, st2, rfl, hk2⟩ := en_pop_t hk1
  obtain ⟨d1, st3, rfl, hk3⟩ := en_pop_t hk2
  obtain ⟨p2, st4, rfl, hk4⟩ := en_pop_t hk3
  obtain ⟨s1, st5, rfl, hk5⟩ := en_pop_t hk4
  obtain ⟨vm, sv1, rfl, g1, hs1⟩ := en_sr_cons hs
  obtain ⟨vp1, sv2, rfl, g2, hs2⟩ := en_sr_cons hs1
  obtain ⟨vd, sv3, rfl, g3, hs3⟩ := en_sr_cons hs2
  obtain ⟨vp2, sv4, rfl, g4, hs4⟩ := en_sr_cons hs3
  obtain ⟨vs, sv5, rfl, g5, hs5⟩ := en_sr_cons hs4
  obtain ⟨a1, hk6⟩ := en_if_and.mp hk5
  obtain ⟨a2, hk7⟩ := en_if_and.mp hk6
  obtain ⟨a3, hk8⟩ := en_if_and.mp hk7
  obtain ⟨a4, hk9⟩ := en_if_and.mp hk8
  have a3 := en_ble_t.mp a3
  have a4 := en_ble_t.mp a4
  rw [en_beq_t.mp a1] at g2
  rw [en_beq_t.mp a2] at g4
  have e2 := (en_v_const (by decide)).mp g2
  have e4 := (en_v_const (by decide)).mp g4
  rw [en_d_zero] at e2 e4
  subst e2
  subst e4
  rcases en_cell_v g5 hk9 with ⟨i, hi1, rfl, hk10⟩ | ⟨i, qs, -, -, hk10⟩
  · rcases en_cell_v g3 hk10 with ⟨j, hj1, rfl, hk11⟩ | ⟨j, qs, -, -, hk11⟩
    · obtain ⟨b1, hk12⟩ := en_if_and.mp hk11
      obtain ⟨b2, hk13⟩ := en_if_and.mp hk12
      obtain ⟨b3, hk14⟩ := en_if_and.mp hk13
      obtain ⟨b4, hk15⟩ := en_if_and.mp hk14
      have b1 := en_beq_t.mp b1
      have b2 := en_beq_t.mp b2
      have b3 : m = 2147483648 + en_len (en_get hp i) := en_beq_t.mp b3
      have b4 : m = 2147483648 + en_len (en_get hp j) := en_beq_t.mp b4
      have hl1 : en_len (en_get hp i) < 16777216 := Nat.mod_lt _ (by decide)
      have e1 := (en_v_const (by omega)).mp g1
      have im := en_d_int (c := m) (by omega)
      have cm : (en_d m).toNatClampNeg = en_len (en_get hp i) := by show (en_d m).toInt.toNat = _; omega
      subst e1
      have hci := en_h_get hh hi1 (by omega)
      have hcj := en_h_get hh hj1 (by omega)
      have hjl := en_cr_lt hcj
      have hlen := en_frs_len _ _ hf
      have hcat := en_cat_v _ _ hs5
      rcases hci with ⟨t, f, q1, q2, q3, q4⟩ | ⟨f, q1, -⟩ | ⟨f, q1, -⟩ | ⟨c2, fs2, q1, -⟩
      · rcases hcj with ⟨t', g, q1', q2', q3', q4'⟩ | ⟨f, q1', -⟩ | ⟨f, q1', -⟩ | ⟨c2, fs2, q1', -⟩
        · have ht : t = 0 := by omega
          have ht' : t' = 0 := by omega
          subst ht
          subst ht'
          have hnew : en_cr E ρ ω (en_get hp i) (some (.inl (0, en_len (en_get hp j), .inl (va_cpy f g (0 : Int32).toNatClampNeg (0 : Int32).toNatClampNeg (en_d m).toNatClampNeg)))) := by
            refine Or.inl ⟨0, va_cpy f g (0 : Int32).toNatClampNeg (0 : Int32).toNatClampNeg (en_d m).toNatClampNeg, q1, q2, ?_, fun k hk => ?_⟩
            · rw [show en_len (en_get hp j) = en_len (en_get hp i) by omega]
            · have ez : (0 : Int32).toNatClampNeg = 0 := by decide
              rw [ez, cm]
              have e9 : va_cpy f g 0 0 (en_len (en_get hp i)) k = f k := by
                unfold va_cpy
                rw [if_pos (by omega), Nat.sub_zero, Nat.zero_add]
              rw [e9]
              exact q4 k hk
          refine en_step_sp hat hi (by decide) (by omega) (pc' := n % 65536) (lv' := lv) (sv' := sv5) (cb' := w.1) (sb' := w.2.1) ?_ (en_go_on hih hk15 hn hP hl hs5 (en_h_put hh hj1 hjl hnew) he (by rw [List.length_set]; exact hx) hd hf rfl rfl)
          unfold mm_sp
          rw [if_neg (by decide), if_pos rfl]
          unfold mm_copy
          simp only [en_mmcell, q3, q3']
          have ez : (0 : Int32).toNatClampNeg = 0 := by decide
          have ez2 : (0 : Int32).toInt = 0 := by decide
          rw [if_pos ⟨trivial, trivial, by omega, by omega, by omega, by rw [cm, ez]; omega, by rw [cm, ez]; omega, by omega⟩, Nat.add_sub_cancel_left, hn2]
        · omega
        · omega
        · omega
      · omega
      · omega
      · omega
    · cases hk11
  · cases hk10
theorem en_take_v : ∀ (np : Nat) (acc st : List Nat) (k : List Nat → List Nat → Bool), en_take np acc st k = true → np ≤ st.length ∧ k ((st.take np).reverse ++ acc) (st.drop np) = true := by
  intro np
  induction np with
  | zero => intro acc st k h; exact ⟨Nat.zero_le _, h⟩
  | succ np ih =>
    intro acc st k h
    have h9 : en_pop st (fun a r => en_take np (a :: acc) r k) = true := h
    obtain ⟨a, r, rfl, h1⟩ := en_pop_t h9
    obtain ⟨h2, h3⟩ := ih _ _ _ h1
    refine ⟨by rw [List.length_cons]; omega, ?_⟩
    rw [List.take_succ_cons, List.reverse_cons, List.append_assoc, List.drop_succ_cons]
    exact h3
theorem en_sr_take : ∀ (np : Nat) (st : List Nat) (sv : List Value), en_sr E ρ ω st sv → en_sr E ρ ω (st.take np) (sv.take np) ∧ en_sr E ρ ω (st.drop np) (sv.drop np) := by
  intro np
  induction np with
  | zero => intro st sv h; exact ⟨trivial, h⟩
  | succ np ih =>
    intro st sv h
    cases st with
    | nil => rw [en_sr_nil h]; exact ⟨trivial, trivial⟩
    | cons c r =>
      obtain ⟨v, vs, rfl, h1, h2⟩ := en_sr_cons h
      obtain ⟨h3, h4⟩ := ih r vs h2
      exact ⟨⟨h1, h3⟩, h4⟩
theorem en_sr_app : ∀ (a : List Nat) (x : List Value) (b : List Nat) (y : List Value), en_sr E ρ ω a x → en_sr E ρ ω b y → en_sr E ρ ω (a ++ b) (x ++ y) := by
  intro a
  induction a with
  | nil => intro x b y h1 h2; rw [en_sr_nil h1]; exact h2
  | cons c r ih =>
    intro x b y h1 h2
    obtain ⟨v, vs, rfl, h3, h4⟩ := en_sr_cons h1
    exact ⟨h3, ih vs b y h4 h2⟩
theorem en_sr_rev : ∀ (a : List Nat) (x : List Value), en_sr E ρ ω a x → en_sr E ρ ω a.reverse x.reverse := by
  intro a
  induction a with
  | nil => intro x h; rw [en_sr_nil h]; exact trivial
  | cons c r ih =>
    intro x h
    obtain ⟨v, vs, rfl, h3, h4⟩ := en_sr_cons h
    rw [List.reverse_cons, List.reverse_cons]
    exact en_sr_app _ _ _ _ (ih vs h4) ⟨h3, trivial⟩
theorem en_sr_len : ∀ (a : List Nat) (x : List Value), en_sr E ρ ω a x → x.length = a.length := by
  intro a
  induction a with
  | nil => intro x h; rw [en_sr_nil h]; rfl
  | cons c r ih =>
    intro x h
    obtain ⟨v, vs, rfl, h3, h4⟩ := en_sr_cons h
    rw [List.length_cons, List.length_cons, ih vs h4]
theorem en_get_cons {i j : Nat} {v : Value} {l : mm_V} : mm_get ((j, v) :: l) i = if j = i then some v else mm_get l i := by
  unfold mm_get
  by_cases h : j = i
  · subst h; simp
  · rw [List.find?_cons_of_neg (by simpa using h), if_neg h]
theorem en_args_v : ∀ (l : List Nat) (vs : List Value) (j loc : Nat) (k : Nat → Nat → Bool), en_sr E ρ ω l vs → en_args l j loc k = true → ∃ loc', k (j + (lg_sl vs).length) loc' = true ∧ (∀ i, i < j → en_elt loc' i = en_elt loc i) ∧ ∀ i, (∃ v, mm_get (lv_args j vs) i = some v ∧ en_v E ρ ω (en_elt loc' i) v) ∨ en_elt loc' i = en_elt loc i := by
  intro l
  induction l with
  | nil =>
    intro vs j loc k hs h
    rw [en_sr_nil hs]
    exact ⟨loc, h, fun _ _ => rfl, fun _ => Or.inr rfl⟩
  | cons c r ih =>
    intro vs j loc k hs h
    obtain ⟨v, vs, rfl, h1, h2⟩ := en_sr_cons hs
    have h9 : en_if (en_one c) (en_args r (Nat.succ j) (en_eset loc j c) k) (en_if (en_isL c) (en_args r (Nat.succ (Nat.succ j)) (en_eset loc j c) k) false) = true := h
    have key : ∀ j', j < j' → (if v.category = 2 then j + 2 else j + 1) = j' → en_args r j' (en_eset loc j c) k = true → (lg_sl (v :: vs)).length = (j' - j) + (lg_sl vs).length → ∃ loc', k (j + (lg_sl (v :: vs)).length) loc' = true ∧ (∀ i, i < j → en_elt loc' i = en_elt loc i) ∧ ∀ i, (∃ u, mm_get (lv_args j (v :: vs)) i = some u ∧ en_v E ρ ω (en_elt loc' i) u) ∨ en_elt loc' i = en_elt loc i := by
      intro j' hj hj2 hk hlen
      obtain ⟨loc', k1, k2, k3⟩ := ih vs j' (en_eset loc j c) k h2 hk
      refine ⟨loc', ?_, fun i hi => ?_, fun i => ?_⟩
      · rw [hlen, show j + (j' - j + (lg_sl vs).length) = j' + (lg_sl vs).length by omega]
        exact k1
      · rw [k2 i (by omega), en_elt_eset (en_v_68 h1), if_neg (by omega)]
      · show (∃ u, mm_get ((j, v) :: lv_args (if v.category = 2 then j + 2 else j + 1) vs) i = some u ∧ _) ∨ _
        rw [hj2, en_get_cons]
        by_cases hji : j = i
        · subst hji
          left
          refine ⟨v, by rw [if_pos rfl], ?_⟩
          rw [k2 j hj, en_elt_eset (en_v_68 h1), if_pos rfl]
          exact h1
        · rw [if_neg hji]
          rcases k3 i with h5 | h5
          · exact Or.inl h5
          · right
            rw [h5, en_elt_eset (en_v_68 h1), if_neg (fun e => hji e.symm)]
    rcases en_if_or.mp h9 with ⟨a1, h3⟩ | ⟨-, h3⟩
    · have hc := en_one_cat a1 h1
      refine key (j + 1) (by omega) (by rw [if_neg (by omega)]) h3 ?_
      simp [lg_sl, hc]
      omega
    · obtain ⟨a2, h3⟩ := en_if_and.mp h3
      obtain ⟨x, rfl⟩ := en_isL_long a2 h1
      refine key (j + 2) (by omega) (if_pos rfl) h3 ?_
      simp [lg_sl, Value.category]
      omega
theorem en_step_call {len a b wd ik : Nat} {z : Int} {ins : Instr} {q0 : Nat} (hat : mm_at P (q / 65536) (q % 65536) = some ((q0, len, ins, a, b, z, wd), nL, dd)) (hi : mm_inv ins = some ik) (ha : ¬ a < 2) {lv : mm_V} {sv : List Value} {cb sb : Nat} {h : mm_H} {gs : List mm_F} {o : Option Value} {c' : mm_C} (hx : mm_call E L P a ik (q / 65536) (q % 65536 + len) lv sv cb sb gs h = some c') (g : en_Good E kds P L FIN c') : en_Good E kds P L FIN ((q / 65536, q % 65536, lv, sv, cb, sb) :: gs, h, o) := by
  refine en_good_step ?_ g
  obtain ⟨d1, d2, d3, d4, d5, d6⟩ := dd
  simp only [mm_stp, hat, hi, if_neg ha, hx]
theorem en_O_call (hP : P[q / 65536]? = some (cs, nL, dd)) {len a b wd kd : Nat} {z : Int} {ins : Instr} {q0 : Nat} (hat : mm_at P (q / 65536) (q % 65536) = some ((q0, len, ins, a, b, z, wd), nL, dd)) (hi : mm_inv ins = some kd) (ha : ¬ a < 2) (hn : n / 65536 = q / 65536) (hn2 : n % 65536 = q % 65536 + len) {cs1 : List (List mm_I)} {nL1 np ci rk mc ms : Nat} (hPa : P[a]? = some (cs1, nL1, np, kd, ci, rk, mc, ms)) (hnL1 : nL1 < 16777216) : en_OS E kds P L ρ ω h0 fsC FIN q (en_call n (65536 * a) nL1 np kd ci mc ms) := by
  intro loc st hp w ih c0 hih hk hR
  obtain ⟨lv, sv, gs, h, o, rfl, ⟨cs', nL', dd', hP', hl⟩, hs, hh, he, hx, hd, hf⟩ := hR
  cases hP.symm.trans hP'
  unfold en_call at hk
  obtain ⟨hnp, hk1⟩ := en_take_v _ _ _ _ hk
  rw [List.append_nil] at hk1
  obtain ⟨a1, hk2⟩ := en_if_and.mp hk1
  obtain ⟨a2, hk3⟩ := en_if_and.mp hk2
  obtain ⟨a3, hk4⟩ := en_if_and.mp hk3
  have a1 := en_ble_t.mp a1
  have a2 := en_ble_t.mp a2
  have a3 := en_ble_t.mp a3
  obtain ⟨hs1, hs2⟩ := en_sr_take np _ _ hs
  have hs3 := en_sr_rev _ _ hs1
  have hlen := en_frs_len _ _ hf
  have hsl := en_sr_len _ _ hs
  have go : ∀ (as r : List Nat) (av rv : List Value), en_go n (65536 * a) nL1 mc ms as r loc st hp w ih = true → en_sr E ρ ω as av → en_sr E ρ ω r rv → ((rv.map fun v => v.category).sum ≤ 8 ∧ (lg_sl av).length ≤ nL1) ∧ en_Good E kds P L FIN ((a, 0, lv_args 0 av, [], mc, ms) :: (q / 65536, q % 65536 + len, lv, rv, w.1 - mc, w.2.1 - ms) :: gs, h, none) := by
    intro as r av rv hg h1 h2
    unfold en_go at hg
    obtain ⟨b1, hg⟩ := en_if_and.mp hg
    have b1 := en_ble_t.mp b1
    obtain ⟨loc', k1, -, k3⟩ := en_args_v as av 0 _ _ h1 hg
    obtain ⟨b2, k4⟩ := en_if_and.mp k1
    have b2 := en_ble_t.mp b2
    rw [Nat.zero_add] at b2
    have hcat := en_cat_v _ _ h2
    refine ⟨⟨by omega, b2⟩, ?_⟩
    refine hih _ _ _ _ _ _ k4 ⟨lv_args 0 av, [], (q / 65536, q % 65536 + len, lv, rv, w.1 - mc, w.2.1 - ms) :: gs, h, none, ?_, ⟨cs1, nL1, (np, kd, ci, rk, mc, ms), ?_, fun i hi => ?_⟩, trivial, hh, he, hx, ?_, ⟨?_, ?_, hf⟩⟩
    · rw [show 65536 * a / 65536 = a by omega, show 65536 * a % 65536 = 0 by omega]
    · rw [show 65536 * a / 65536 = a by omega]
      exact hPa
    · rcases k3 i with ⟨v, h5, h6⟩ | h5
      · exact Or.inr ⟨v, h5, h6⟩
      · left
        rw [h5, en_rep_elt (by decide) hnL1 (by decide) hi]
    · show fsC.length + (_ :: w.2.2.2.1).length + 1 + (w.2.2.1 - 1) ≤ L
      rw [List.length_cons]
      omega
    · exact ⟨hn.symm, hn2.symm, ⟨cs, nL, dd, hP, hl⟩, h2, rfl, rfl⟩
    · exact hd
  rcases en_if_or.mp hk4 with ⟨a4, hk5⟩ | ⟨a4, hk5⟩
  · have a4 := en_beq_t.mp a4
    subst a4
    obtain ⟨⟨g1, g2⟩, g3⟩ := go _ _ _ _ hk5 hs3 hs2
    refine en_step_call hat hi ha ?_ g3
    unfold mm_call
    rw [hPa]
    simp only []
    rw [if_pos ⟨trivial, by omega, a2, a3, by omega⟩]
    unfold mm_recv
    rw [if_pos rfl]
    simp only [List.nil_append]
    rw [if_pos ⟨g1, g2⟩]
  · have a4 := en_beq_f.mp a4
    obtain ⟨c, r, hdr, hk6⟩ := en_pop_t hk5
    rw [hdr] at hs2
    obtain ⟨v, rv, hdv, g4, hs4⟩ := en_sr_cons hs2
    rcases en_cell_v g4 hk6 with ⟨i, hi1, rfl, hk7⟩ | ⟨i, qs, -, -, hk7⟩
    · obtain ⟨b1, hk8⟩ := en_if_and.mp hk7
      have b1 : en_kind (en_get hp i) = 6 + ci := en_beq_t.mp b1
      obtain ⟨⟨g1, g2⟩, g3⟩ := go _ _ (.ref (E.1 + i) :: (sv.take np).reverse) rv hk8 ⟨g4, hs3⟩ hs4
      rcases en_h_get hh hi1 (by omega) with ⟨t, f, q1, q2, -⟩ | ⟨f, q1, -⟩ | ⟨f, q1, -⟩ | ⟨c2, fs2, q1, e, -⟩
      · omega
      · omega
      · omega
      · have hc2 : c2 = ci := by omega
        subst hc2
        refine en_step_call hat hi ha ?_ g3
        unfold mm_call
        rw [hPa]
        simp only []
        rw [if_pos ⟨trivial, by omega, a2, a3, by omega⟩]
        unfold mm_recv
        rw [if_neg a4, hdv]
        simp only [en_mmcell, e, if_true]
        rw [if_pos ⟨g1, g2⟩]
        rfl
    · cases hk7
/-- what the lowest frame answers -/
def en_vo (E : mm_E) (ρ : Nat → Int32) (ω : Nat → Value) (v : List Nat) (vo : Option Value) : Prop := (v = [] ∧ vo = none) ∨ ∃ c V, v = [c] ∧ vo = some V ∧ en_v E ρ ω c V
def en_FS (E : mm_E) (kds : List (List Nat)) (P : mm_T) (L : Nat) (ρ : Nat → Int32) (ω : Nat → Value) (h0 : mm_H) (fsC : List mm_F) (FIN : mm_C → Prop) (fin : List Nat → en_H → en_W → Bool) : Prop := ∀ (v : List Nat) (vo : Option Value) (hp : en_H) (w : en_W) (h : mm_H), fin v hp w = true → en_vo E ρ ω v vo → en_h E ρ ω h0 hp h → en_e ρ (en_ev w) → h.length = w.2.2.2.2.1 → en_Good E kds P L FIN (mm_back vo fsC h)
theorem en_O_ret (hP : P[q / 65536]? = some (cs, nL, dd)) {len a b wd ik : Nat} {z : Int} {ins : Instr} {q0 np kd ci rk mc ms : Nat} (hat : mm_at P (q / 65536) (q % 65536) = some ((q0, len, ins, a, b, z, wd), nL, (np, kd, ci, rk, mc, ms))) (hi : mm_inv ins = none) (hr : mm_rtn ins = some ik) {fin : List Nat → en_H → en_W → Bool} (hfin : en_FS E kds P L ρ ω h0 fsC FIN fin) : en_OS E kds P L ρ ω h0 fsC FIN q (en_ret fin rk ik) := by
  intro loc st hp w ih c0 hih hk hR
  obtain ⟨lv, sv, gs, h, o, rfl, -, hs, hh, he, hx, hd, hf⟩ := hR
  have key : ∀ (v : List Nat) (vo : Option Value), en_back fin v loc st hp w ih = true → en_vo E ρ ω v vo → mm_ans rk ik sv = some vo → en_Good E kds P L FIN ((q / 65536, q % 65536, lv, sv, w.1, w.2.1) :: gs, h, o) := by
    intro v vo hb hv ha
    refine en_good_step (c' := mm_back vo gs h) ?_ ?_
    · simp only [mm_stp, hat, hi, hr, ha]
    · unfold en_back at hb
      generalize hfs : w.2.2.2.1 = fs at hb hf
      cases fs with
      | nil =>
        have hg : gs = fsC := hf
        rw [hg]
        exact hfin v vo hp w h hb hv hh he hx
      | cons f fs =>
        cases gs with
        | nil => exact hf.elim
        | cons g gs =>
          obtain ⟨⟨r1, r2, ⟨cs2, nL2, dd2, r3, r4⟩, r5, r6, r7⟩, r8, r9⟩ := hf
          refine hih _ _ _ _ _ _ hb ⟨g.2.2.1, vo.toList ++ g.2.2.2.1, gs, h, none, ?_, ⟨cs2, nL2, dd2, by rw [← r1]; exact r3, r4⟩, ?_, hh, he, hx, r8, r9⟩
          · show mm_back vo (g :: gs) h = _
            obtain ⟨g1, g2, g3, g4, g5, g6⟩ := g
            simp only [mm_back] at *
            rw [r1, r2, r6, r7]
          · rcases hv with ⟨rfl, rfl⟩ | ⟨c, V, rfl, rfl, hv⟩
            · exact r5
            · exact ⟨hv, r5⟩
  unfold en_ret at hk
  cases st with
  | nil =>
    rw [en_sr_nil hs] at key ⊢
    obtain ⟨a1, hk⟩ := en_if_and.mp (show en_if (Nat.beq rk 0) (en_if (Nat.beq ik 0) (en_back fin [] loc [] hp w ih) false) false = true from hk)
    obtain ⟨a2, hk⟩ := en_if_and.mp hk
    refine key [] none hk (Or.inl ⟨rfl, rfl⟩) ?_
    unfold mm_ans
    rw [if_pos ⟨en_beq_t.mp a1, en_beq_t.mp a2⟩]
  | cons c r =>
    obtain ⟨V, vs, rfl, h1, h2⟩ := en_sr_cons hs
    cases r with
    | cons c2 r2 => cases hk
    | nil =>
      rw [en_sr_nil h2] at key ⊢
      rcases en_if_or.mp (show en_if (Nat.beq ik 1) _ _ = true from hk) with ⟨a1, hk⟩ | ⟨-, hk⟩
      · have a1 := en_beq_t.mp a1
        obtain ⟨a2, hk⟩ := en_if_and.mp hk
        obtain ⟨x, rfl⟩ := en_isI_int a2 h1
        rcases en_if_or.mp hk with ⟨a3, hk⟩ | ⟨-, hk⟩
        · refine key [c] _ hk (Or.inr ⟨c, _, rfl, rfl, h1⟩) ?_
          show (if ik = 1 ∧ (rk = 1 ∨ _) then some (some (Value.int x)) else none) = _
          rw [if_pos ⟨a1, Or.inl (en_beq_t.mp a3)⟩]
        · obtain ⟨a3, hk⟩ := en_if_and.mp hk
          obtain ⟨a4, hk⟩ := en_if_and.mp hk
          obtain ⟨a5, hk⟩ := en_if_and.mp hk
          have a4 := en_ble_t.mp a4
          have a5 := en_ble_t.mp a5
          refine key [c] _ hk (Or.inr ⟨c, _, rfl, rfl, h1⟩) ?_
          show (if ik = 1 ∧ (rk = 1 ∨ (rk = 2 ∧ (x = 0 ∨ x = 1))) then some (some (Value.int x)) else none) = _
          have e : x = en_d c := by simpa using (en_v_const (by omega)).mp h1
          have hx01 : x = 0 ∨ x = 1 := by
            rcases Nat.lt_or_ge 2147483648 c with q9 | q9
            · right; rw [e, show c = 2147483649 by omega]; decide
            · left; rw [e, show c = 2147483648 by omega]; decide
          rw [if_pos ⟨a1, Or.inr ⟨en_beq_t.mp a3, hx01⟩⟩]
      · obtain ⟨a1, hk⟩ := en_if_and.mp hk
        obtain ⟨a2, hk⟩ := en_if_and.mp hk
        obtain ⟨a3, hk⟩ := en_if_and.mp hk
        obtain ⟨x, rfl⟩ := en_isL_long a2 h1
        refine key [c] _ hk (Or.inr ⟨c, _, rfl, rfl, h1⟩) ?_
        show (if ik = 3 ∧ rk = 3 then some (some (Value.long x)) else none) = _
        rw [if_pos ⟨en_beq_t.mp a1, en_beq_t.mp a3⟩]
end OPU
end ENU
end
section
/-! THE ENGINE IS SOUND, 7: every instruction of the table, every run -/
theorem en_b8 {x : Int} (h1 : -128 ≤ x) (h2 : x < 128) : (Int8.ofInt x).toInt32 = Int32.ofInt x := by
  apply Int32.toInt_inj.mp
  rw [Int8.toInt_toInt32, Int8.toInt_ofInt_of_le (by omega) (by omega), Int32.toInt_ofInt_of_le (by omega) (by omega)]
theorem en_b16 {x : Int} (h1 : -32768 ≤ x) (h2 : x < 32768) : (Int16.ofInt x).toInt32 = Int32.ofInt x := by
  apply Int32.toInt_inj.mp
  rw [Int16.toInt_toInt32, Int16.toInt_ofInt_of_le (by omega) (by omega), Int32.toInt_ofInt_of_le (by omega) (by omega)]
theorem en_nar_b : ∀ k, k < 256 → vp_nar .byte (en_d (2147483520 + k)) = en_d (2147483520 + k) := by decide +kernel
theorem en_nar_z : ∀ k, k < 2 → vp_nar .boolean (en_d (2147483648 + k)) = en_d (2147483648 + k) := by decide +kernel
section ENX
variable {E : mm_E} {kds : List (List Nat)} {P : mm_T} {L : Nat} {ρ : Nat → Int32} {ω : Nat → Value} {h0 : mm_H} {fsC : List mm_F} {FIN : mm_C → Prop}
theorem en_c_v {x : Int} (h1 : -2147483648 ≤ x) (h2 : x < 2147483648) : en_v E ρ ω (en_c x) (.int (Int32.ofInt x)) := by
  unfold en_c
  rw [en_v_const (by omega)]
  unfold en_d
  exact congrArg (fun z => Value.int (Int32.ofInt z)) (by omega)
theorem en_tgt_v {q : Nat} {off : Int} (h : en_tgt (q % 65536) off = true) : 0 ≤ ((q % 65536 : Nat) : Int) + off ∧ (q / 65536 * 65536 + (((q % 65536 : Nat) : Int) + off).toNat) / 65536 = q / 65536 ∧ (q / 65536 * 65536 + (((q % 65536 : Nat) : Int) + off).toNat) % 65536 = (((q % 65536 : Nat) : Int) + off).toNat := by
  unfold en_tgt at h
  simp only [Bool.and_eq_true, decide_eq_true_eq] at h
  omega
/-- loads and stores of rows, by kind -/
theorem en_ald_X {kd kd2 n : Nat} {N : Nat} {I : Int32} {a : Nat} {r : List Value} {cb sb : Nat} {h : mm_H} {lv : mm_V} (hkd : en_kind N = kd + 1 ∨ en_kind N = kd2 + 1) (hlt : kd < 3 ∧ kd2 < 3) (hc : en_cr E ρ ω N h[a]?) (hin : mm_inr I (en_len N) = true) (hj : I.toNatClampNeg < en_len N) : ∃ v, mm_ald E lv (.int I :: .ref (E.1 + a) :: r) cb sb h n kd kd2 = some (n, lv, v :: r, cb, sb, h) ∧ en_v E ρ ω (en_elt N I.toNatClampNeg) v := by
  rcases hc with ⟨t, f, q1, q2, q3, q4⟩ | ⟨f, q1, -⟩ | ⟨f, q1, -⟩ | ⟨c2, fs2, q1, -⟩
  · refine ⟨.int (f I.toNatClampNeg), ?_, q4 _ hj⟩
    unfold mm_ald
    simp only [en_mmcell, q3]
    rw [if_pos ⟨show (t : Nat) = kd ∨ (t : Nat) = kd2 by omega, hin⟩]
  · omega
  · omega
  · omega
theorem en_fit_1 {v : Nat} {V : Value} {k : Nat → Bool} {kind : Nat} (hk : kind = 1 ∨ kind = 2 ∨ kind = 3) (hv : en_v E ρ ω v V) (h : en_fit kind v k = true) : ∃ x v', V = .int x ∧ k v' = true ∧ en_v E ρ ω v' (.int (mm_nar (kind - 1) x)) := by
  unfold en_fit at h
  rcases en_if_or.mp h with ⟨a1, k1⟩ | ⟨a1, k1⟩
  · obtain ⟨a2, k2⟩ := en_if_and.mp k1
    obtain ⟨x, rfl⟩ := en_isI_int a2 hv
    refine ⟨x, v, rfl, k2, ?_⟩
    rw [en_beq_t.mp a1]
    exact hv
  · have a1 := en_beq_f.mp a1
    rcases en_if_or.mp k1 with ⟨a2, k2⟩ | ⟨-, k2⟩
    · have := en_beq_t.mp a2
      omega
    · rcases en_if_or.mp k2 with ⟨a3, k3⟩ | ⟨a3, k3⟩
      · have a3 := en_beq_t.mp a3
        subst a3
        rcases en_if_or.mp k3 with ⟨a4, k4⟩ | ⟨a4, k4⟩
        · obtain ⟨b1, k5⟩ := en_if_and.mp k4
          obtain ⟨b2, k6⟩ := en_if_and.mp k5
          have a4 := en_ble_t.mp a4
          have b1 := en_ble_t.mp b1
          have b2 := en_ble_t.mp b2
          have e := (en_v_const (by omega)).mp hv
          refine ⟨_, v, e, k6, ?_⟩
          rw [en_v_const (by omega)]
          have := en_nar_z (v - 2147483648) (by omega)
          rw [show 2147483648 + (v - 2147483648) = v by omega] at this
          exact congrArg Value.int this
        · obtain ⟨b1, k5⟩ := en_if_and.mp k4
          obtain ⟨x, rfl⟩ := en_isI_int b1 hv
          exact ⟨x, _, rfl, k5, en_any_v _⟩
      · obtain ⟨a5, k4⟩ := en_if_and.mp k3
        have a5 := en_beq_t.mp a5
        subst a5
        rcases en_if_or.mp k4 with ⟨a4, k4⟩ | ⟨a4, k4⟩
        · obtain ⟨b1, k5⟩ := en_if_and.mp k4
          obtain ⟨b2, k6⟩ := en_if_and.mp k5
          have a4 := en_ble_t.mp a4
          have b1 := en_ble_t.mp b1
          have b2 := en_ble_t.mp b2
          have e := (en_v_const (by omega)).mp hv
          refine ⟨_, v, e, k6, ?_⟩
          rw [en_v_const (by omega)]
          have := en_nar_b (v - 2147483520) (by omega)
          rw [show 2147483520 + (v - 2147483520) = v by omega] at this
          exact congrArg Value.int this
        · obtain ⟨b1, k5⟩ := en_if_and.mp k4
          obtain ⟨x, rfl⟩ := en_isI_int b1 hv
          exact ⟨x, _, rfl, k5, en_any_v _⟩
theorem en_ast_X {kd kd2 n : Nat} {lv : mm_V} {V : Value} {v : Nat} {k : Nat → Bool} {I : Int32} {a : Nat} {r : List Value} {cb sb : Nat} {h : mm_H} {N : Nat} (hkd : en_kind N = kd + 1 ∨ en_kind N = kd2 + 1) (hlt : kd < 3 ∧ kd2 < 3) (hc : en_cr E ρ ω N h[a]?) (hv : en_v E ρ ω v V) (hf : en_fit (en_kind N) v k = true) : ∃ v', k v' = true ∧ (mm_inr I (en_len N) = true → I.toNatClampNeg < en_len N → ∃ e', mm_ast E lv (V :: .int I :: .ref (E.1 + a) :: r) cb sb h n kd kd2 = some (n, lv, r, cb, sb, h.set a e') ∧ en_cr E ρ ω (en_eset N I.toNatClampNeg v') (some e')) := by
  obtain ⟨x, v', rfl, h1, h2⟩ := en_fit_1 (by omega) hv hf
  refine ⟨v', h1, fun hin hj => ?_⟩
  rcases hc with ⟨t, f, q1, q2, q3, q4⟩ | ⟨f, q1, -⟩ | ⟨f, q1, -⟩ | ⟨c2, fs2, q1, -⟩
  · refine ⟨.inl (t, en_len N, .inl (upd f I.toNatClampNeg (mm_nar t x))), ?_, Or.inl ⟨t, upd f I.toNatClampNeg (mm_nar t x), by rw [en_eset_kind]; exact q1, q2, by rw [en_eset_len], fun j hj2 => ?_⟩⟩
    · unfold mm_ast
      simp only [en_mmcell, q3]
      rw [if_pos ⟨show (t : Nat) = kd ∨ (t : Nat) = kd2 by omega, hin⟩, Nat.add_sub_cancel_left]
    · rw [en_eset_len] at hj2
      rw [en_elt_eset (en_v_68 h2)]
      by_cases hji : j = I.toNatClampNeg
      · rw [if_pos hji]
        have e : upd f I.toNatClampNeg (mm_nar t x) j = mm_nar t x := by rw [hji]; exact pk_us
        rw [e]
        rw [q1] at h2
        exact h2
      · rw [if_neg hji, pk_un hji]
        exact q4 j hj2
  · omega
  · omega
  · omega
theorem en_last_X {n : Nat} {lv : mm_V} {V : Value} {v : Nat} {k : Nat → Bool} {I : Int32} {a : Nat} {r : List Value} {cb sb : Nat} {h : mm_H} {N : Nat} (hkd : en_kind N = 4) (hc : en_cr E ρ ω N h[a]?) (hv : en_v E ρ ω v V) (hf : en_fit (en_kind N) v k = true) : ∃ v', k v' = true ∧ (mm_inr I (en_len N) = true → I.toNatClampNeg < en_len N → ∃ e', mm_last E lv (V :: .int I :: .ref (E.1 + a) :: r) cb sb h n = some (n, lv, r, cb, sb, h.set a e') ∧ en_cr E ρ ω (en_eset N I.toNatClampNeg v') (some e')) := by
  rw [hkd] at hf
  have hf2 : en_if (en_isL v) (k v) false = true := hf
  obtain ⟨a1, k1⟩ := en_if_and.mp hf2
  obtain ⟨x, rfl⟩ := en_isL_long a1 hv
  refine ⟨v, k1, fun hin hj => ?_⟩
  rcases hc with ⟨t, f, q1, q2, q3, q4⟩ | ⟨f, q1, q3, q4⟩ | ⟨f, q1, -⟩ | ⟨c2, fs2, q1, -⟩
  · omega
  · refine ⟨.inl (3, en_len N, .inr (.inl (vp_updL f I.toNatClampNeg x))), ?_, Or.inr (Or.inl ⟨vp_updL f I.toNatClampNeg x, by rw [en_eset_kind]; exact q1, by rw [en_eset_len], fun j hj2 => ?_⟩)⟩
    · unfold mm_last
      simp only [en_mmcell, q3]
      rw [if_pos ⟨trivial, hin⟩, Nat.add_sub_cancel_left]
    · rw [en_eset_len] at hj2
      rw [en_elt_eset (en_v_68 hv)]
      by_cases hji : j = I.toNatClampNeg
      · rw [if_pos hji, hji, pk_uLs]
        exact hv
      · rw [if_neg hji, pk_uLn hji]
        exact q4 j hj2
  · omega
  · omega
theorem en_lald_X {n : Nat} {N : Nat} {I : Int32} {a : Nat} {r : List Value} {cb sb : Nat} {h : mm_H} {lv : mm_V} (hkd : en_kind N = 4) (hc : en_cr E ρ ω N h[a]?) (hin : mm_inr I (en_len N) = true) (hj : I.toNatClampNeg < en_len N) : ∃ v, mm_lald E lv (.int I :: .ref (E.1 + a) :: r) cb sb h n = some (n, lv, v :: r, cb, sb, h) ∧ en_v E ρ ω (en_elt N I.toNatClampNeg) v := by
  rcases hc with ⟨t, f, q1, q2, q3, q4⟩ | ⟨f, q1, q3, q4⟩ | ⟨f, q1, -⟩ | ⟨c2, fs2, q1, -⟩
  · omega
  · refine ⟨.long (f I.toNatClampNeg), ?_, q4 _ hj⟩
    unfold mm_lald
    simp only [en_mmcell, q3]
    rw [if_pos ⟨trivial, hin⟩]
  · omega
  · omega
theorem en_aald_X {n : Nat} {N : Nat} {I : Int32} {a : Nat} {r : List Value} {cb sb : Nat} {h : mm_H} {lv : mm_V} (hkd : en_kind N = 5) (hc : en_cr E ρ ω N h[a]?) (hin : mm_inr I (en_len N) = true) (hj : I.toNatClampNeg < en_len N) : ∃ v, mm_aald E lv (.int I :: .ref (E.1 + a) :: r) cb sb h n = some (n, lv, v :: r, cb, sb, h) ∧ en_v E ρ ω (en_elt N I.toNatClampNeg) v := by
  rcases hc with ⟨t, f, q1, q2, q3, q4⟩ | ⟨f, q1, q3, q4⟩ | ⟨f, q1, q3, q4⟩ | ⟨c2, fs2, q1, -⟩
  · omega
  · omega
  · refine ⟨va_rf (f I.toNatClampNeg), ?_, q4 _ hj⟩
    unfold mm_aald
    simp only [en_mmcell, q3]
    rw [if_pos ⟨trivial, hin⟩]
  · omega
set_option maxHeartbeats 4000000 in
set_option maxRecDepth 100000 in
theorem en_comp_v {SA : List (Nat × Nat)} (hSA : en_SA E ρ ω SA) {fin : List Nat → en_H → en_W → Bool} (hfin : en_FS E kds P L ρ ω h0 fsC FIN fin) (hPn : ∀ (k : Nat) (cs : List (List mm_I)) (nL : Nat) (dd : mm_M), P[k]? = some (cs, nL, dd) → nL < 16777216) {q len a b wd nL np kd ci rk mc ms : Nat} {z : Int} {ins : Instr} {q0 : Nat} (hat : mm_at P (q / 65536) (q % 65536) = some ((q0, len, ins, a, b, z, wd), nL, (np, kd, ci, rk, mc, ms))) (hlen : q % 65536 + len < 65536) {o : en_O}
    (hc : en_comp SA fin kds P (q / 65536) (q % 65536) nL rk ins len a b z q (q + len) (fun off => q / 65536 * 65536 + (((q % 65536 : Nat) : Int) + off).toNat) = some o) : en_OS E kds P L ρ ω h0 fsC FIN q o := by
  obtain ⟨cs, hP, -, -⟩ := rf_mmat hat
  have hn1 : (q + len) / 65536 = q / 65536 := by omega
  have hn2 : (q + len) % 65536 = q % 65536 + len := by omega
  cases ins
  case iconst x =>
    simp only [en_comp] at hc
    split at hc <;> cases hc
    rename_i hr
    exact en_O_push hP (en_step1 hat rfl rfl) hn1 (en_c_v hr.1 hr.2) (fun lv sv cb sb h => by simp only [mm_ex, hn2])
  case bipush x =>
    simp only [en_comp] at hc
    split at hc <;> cases hc
    rename_i hr
    exact en_O_push hP (en_step1 hat rfl rfl) hn1 (en_c_v (by omega) (by omega)) (fun lv sv cb sb h => by simp only [mm_ex, hn2, en_b8 hr.1 hr.2])
  case sipush x =>
    simp only [en_comp] at hc
    split at hc <;> cases hc
    rename_i hr
    exact en_O_push hP (en_step1 hat rfl rfl) hn1 (en_c_v (by omega) (by omega)) (fun lv sv cb sb h => by simp only [mm_ex, hn2, en_b16 hr.1 hr.2])
  case ldc x =>
    simp only [en_comp] at hc
    split at hc <;> cases hc
    rename_i hr
    exact en_O_push hP (en_step1 hat rfl rfl) hn1 (en_c_v hr.1 hr.2) (fun lv sv cb sb h => by simp only [mm_ex, hn2])
  case ldc_w x =>
    simp only [en_comp] at hc
    split at hc <;> cases hc
    rename_i hr
    exact en_O_push hP (en_step1 hat rfl rfl) hn1 (en_c_v hr.1 hr.2) (fun lv sv cb sb h => by simp only [mm_ex, hn2])
  case lconst x =>
    cases hc
    have hx := x.isLt
    refine en_O_push (v := .long (Int64.ofNat (x : Nat))) hP (en_step1 hat rfl rfl) hn1 ?_ (fun lv sv cb sb h => by simp only [mm_ex, hn2])
    rw [en_v_long (by omega) (by omega), Nat.add_sub_cancel_left]
  case ldc2_w x =>
    simp only [en_comp] at hc
    split at hc <;> cases hc
    rename_i hr
    refine en_O_push (v := .long (Int64.ofInt z)) hP (en_step1 hat rfl rfl) hn1 ?_ (fun lv sv cb sb h => by simp only [mm_ex, hn2])
    rw [en_v_long (by omega) (by omega), Nat.add_sub_cancel_left]
    have e : z = ((z.toNat : Nat) : Int) := (Int.toNat_of_nonneg hr.1).symm
    have e2 : Int64.ofInt ((z.toNat : Nat) : Int) = Int64.ofNat z.toNat := Int64.ofInt_eq_ofNat
    rw [← e2, ← e]
  case iload_n k =>
    simp only [en_comp] at hc
    split at hc <;> cases hc
    rename_i hr
    exact en_O_load hP (en_step1 hat rfl rfl) hn1 hr (fun c v h1 h2 => by obtain ⟨x, rfl⟩ := en_isI_int h1 h2; rfl) (by decide) (fun lv sv cb sb h => by simp only [mm_ex, hn2])
  case iload k =>
    simp only [en_comp] at hc
    split at hc <;> cases hc
    rename_i hr
    exact en_O_load hP (en_step1 hat rfl rfl) hn1 hr (fun c v h1 h2 => by obtain ⟨x, rfl⟩ := en_isI_int h1 h2; rfl) (by decide) (fun lv sv cb sb h => by simp only [mm_ex, hn2])
  case lload_n k =>
    simp only [en_comp] at hc
    split at hc <;> cases hc
    rename_i hr
    exact en_O_load hP (en_step1 hat rfl rfl) hn1 hr (fun c v h1 h2 => by obtain ⟨x, rfl⟩ := en_isL_long h1 h2; rfl) (by decide) (fun lv sv cb sb h => by simp only [mm_ex, hn2])
  case lload k =>
    simp only [en_comp] at hc
    split at hc <;> cases hc
    rename_i hr
    exact en_O_load hP (en_step1 hat rfl rfl) hn1 hr (fun c v h1 h2 => by obtain ⟨x, rfl⟩ := en_isL_long h1 h2; rfl) (by decide) (fun lv sv cb sb h => by simp only [mm_ex, hn2])
  case aload_n k =>
    simp only [en_comp] at hc
    split at hc <;> cases hc
    rename_i hr
    exact en_O_load hP (en_step1 hat rfl rfl) hn1 hr (fun c v h1 h2 => by obtain ⟨x, rfl⟩ := en_isR_ref h1 h2; rfl) (by decide) (fun lv sv cb sb h => by simp only [mm_ex, hn2])
  case aload k =>
    simp only [en_comp] at hc
    split at hc <;> cases hc
    rename_i hr
    exact en_O_load hP (en_step1 hat rfl rfl) hn1 hr (fun c v h1 h2 => by obtain ⟨x, rfl⟩ := en_isR_ref h1 h2; rfl) (by decide) (fun lv sv cb sb h => by simp only [mm_ex, hn2])
  case istore_n k =>
    simp only [en_comp] at hc
    split at hc <;> cases hc
    rename_i hr
    exact en_O_store (kd := 0) hP (en_step1 hat rfl rfl) hn1 hr (by decide) (fun c v h1 h2 => by obtain ⟨x, rfl⟩ := en_isI_int h1 h2; rfl) (fun lv sv cb sb h => by simp only [mm_ex, hn2])
  case istore k =>
    simp only [en_comp] at hc
    split at hc <;> cases hc
    rename_i hr
    exact en_O_store (kd := 0) hP (en_step1 hat rfl rfl) hn1 hr (by decide) (fun c v h1 h2 => by obtain ⟨x, rfl⟩ := en_isI_int h1 h2; rfl) (fun lv sv cb sb h => by simp only [mm_ex, hn2])
  case astore_n k =>
    simp only [en_comp] at hc
    split at hc <;> cases hc
    rename_i hr
    exact en_O_store (kd := 2) hP (en_step1 hat rfl rfl) hn1 hr (by decide) (fun c v h1 h2 => by obtain ⟨x, rfl⟩ := en_isR_ref h1 h2; rfl) (fun lv sv cb sb h => by simp only [mm_ex, hn2])
  case astore k =>
    simp only [en_comp] at hc
    split at hc <;> cases hc
    rename_i hr
    exact en_O_store (kd := 2) hP (en_step1 hat rfl rfl) hn1 hr (by decide) (fun c v h1 h2 => by obtain ⟨x, rfl⟩ := en_isR_ref h1 h2; rfl) (fun lv sv cb sb h => by simp only [mm_ex, hn2])
  case lstore_n k =>
    simp only [en_comp] at hc
    split at hc <;> cases hc
    rename_i hr
    exact en_O_storeL hP (en_step1 hat rfl rfl) hn1 hr (fun lv sv cb sb h => by simp only [mm_ex, hn2])
  case lstore k =>
    simp only [en_comp] at hc
    split at hc <;> cases hc
    rename_i hr
    exact en_O_storeL hP (en_step1 hat rfl rfl) hn1 hr (fun lv sv cb sb h => by simp only [mm_ex, hn2])
  case iinc i x =>
    simp only [en_comp] at hc
    split at hc <;> cases hc
    rename_i hr
    exact en_O_iinc hP (en_step1 hat rfl rfl) hn1 hr.1 hr.2.1 hr.2.2 (fun lv sv cb sb h => by simp only [mm_ex, hn2]; cases mm_get lv i with
      | none => rfl
      | some v => cases v <;> rfl)
  case iadd => cases hc; exact en_O_bin hP (en_step1 hat rfl rfl) hn1 en_add_G (fun lv sv cb sb h => by simp only [mm_ex, hn2])
  case isub => cases hc; exact en_O_bin hP (en_step1 hat rfl rfl) hn1 en_sub_G (fun lv sv cb sb h => by simp only [mm_ex, hn2])
  case imul => cases hc; exact en_O_bin hP (en_step1 hat rfl rfl) hn1 en_mul_G (fun lv sv cb sb h => by simp only [mm_ex, hn2])
  case idiv => cases hc; exact en_O_bin hP (en_step1 hat rfl rfl) hn1 en_div_G (fun lv sv cb sb h => by simp only [mm_ex, hn2])
  case irem => cases hc; exact en_O_bin hP (en_step1 hat rfl rfl) hn1 en_rem_G (fun lv sv cb sb h => by simp only [mm_ex, hn2])
  case iand => cases hc; exact en_O_bin hP (en_step1 hat rfl rfl) hn1 en_and_G (fun lv sv cb sb h => by simp only [mm_ex, hn2])
  case ior => cases hc; exact en_O_bin hP (en_step1 hat rfl rfl) hn1 en_or_G (fun lv sv cb sb h => by simp only [mm_ex, hn2])
  case ishl => cases hc; exact en_O_bin hP (en_step1 hat rfl rfl) hn1 en_shl_G (fun lv sv cb sb h => by simp only [mm_ex, hn2])
  case ishr => cases hc; exact en_O_bin hP (en_step1 hat rfl rfl) hn1 en_shr_G (fun lv sv cb sb h => by simp only [mm_ex, hn2])
  case iushr => cases hc; exact en_O_bin hP (en_step1 hat rfl rfl) hn1 (en_any_G (r := fun x y => (x.toUInt32 >>> (y.toUInt32 &&& Int32.toUInt32 31)).toInt32)) (fun lv sv cb sb h => by simp only [mm_ex, hn2])
  case ixor => cases hc; exact en_O_bin hP (en_step1 hat rfl rfl) hn1 (en_any_G (r := fun x y => x ^^^ y)) (fun lv sv cb sb h => by simp only [mm_ex, hn2])
  case ineg => cases hc; exact en_O_un (r := fun x => -x) hP (en_step1 hat rfl rfl) hn1 (fun lv sv cb sb h => by simp only [mm_ex, hn2])
  case i2b => cases hc; exact en_O_un (r := fun x => x.toInt8.toInt32) hP (en_step1 hat rfl rfl) hn1 (fun lv sv cb sb h => by simp only [mm_ex, hn2])
  case i2c => cases hc; exact en_O_un (r := fun x => (x.toUInt32 % 65536).toInt32) hP (en_step1 hat rfl rfl) hn1 (fun lv sv cb sb h => by simp only [mm_ex, hn2])
  case i2l => cases hc; exact en_O_i2l hP (en_step1 hat rfl rfl) hn1 (fun lv sv cb sb h => by simp only [mm_ex, hn2])
  case ladd => cases hc; exact en_O_binL (r := fun x y => x + y) hP (en_step1 hat rfl rfl) hn1 (fun a b => lN_add a b) (fun lv sv cb sb h => by simp only [mm_ex, hn2])
  case lmul => cases hc; exact en_O_binL (r := fun x y => x * y) hP (en_step1 hat rfl rfl) hn1 (fun a b => lN_mul a b) (fun lv sv cb sb h => by simp only [mm_ex, hn2])
  case dup => cases hc; exact en_O_dup hP (en_step1 hat rfl rfl) hn1 (fun lv v sv cb sb h hv => by simp only [mm_ex, hn2]; rw [if_pos hv])
  case pop => cases hc; exact en_O_drop hP (en_step1 hat rfl rfl) hn1 (fun lv v sv cb sb h hv => by simp only [mm_ex, hn2]; rw [if_pos hv])
  case dup2 => cases hc; exact en_O_dup2 hP (en_step1 hat rfl rfl) hn1 (fun lv v u sv cb sb h hv => by simp only [mm_ex, hn2]; rw [if_pos hv])
  case if_icmp k off =>
    simp only [en_comp] at hc
    split at hc <;> cases hc
    rename_i hr
    obtain ⟨t1, t2, t3⟩ := en_tgt_v hr
    exact en_O_icmp hP (en_step1 hat rfl rfl) hn1 t2 (fun lv x y sv cb sb h => by simp only [mm_ex, mm_jump, hn2, t3]; rw [if_pos t1])
  case ifCond k off =>
    simp only [en_comp] at hc
    split at hc <;> cases hc
    rename_i hr
    obtain ⟨t1, t2, t3⟩ := en_tgt_v hr
    exact en_O_if0 hP (en_step1 hat rfl rfl) hn1 t2 (fun lv x sv cb sb h => by simp only [mm_ex, mm_jump, hn2, t3]; rw [if_pos t1])
  case goto off =>
    simp only [en_comp] at hc
    split at hc <;> cases hc
    rename_i hr
    obtain ⟨t1, t2, t3⟩ := en_tgt_v hr
    exact en_O_goto hP (en_step1 hat rfl rfl) t2 (fun lv sv cb sb h => by simp only [mm_ex, mm_jump, t3]; rw [if_pos t1])
  case tableswitch dflt lo hi offs =>
    simp only [en_comp] at hc
    split at hc <;> cases hc
    rename_i hr
    obtain ⟨r1, r2, r3, r4, r5, r6⟩ := hr
    obtain ⟨t1, t2, t3⟩ := en_tgt_v r5
    have r6 := List.all_eq_true.mp r6
    have ecl : ((en_c lo : Nat) : Int) = lo + 2147483648 := by unfold en_c; omega
    refine en_O_sw hP (en_step1 hat rfl rfl) t2 (fun x hx => ?_) (by omega) (by simp; omega) (fun lv I sv cb sb h hI => ?_) (fun lv I sv cb sb h t h1 h2 ht => ?_)
    · obtain ⟨off, ho, rfl⟩ := List.mem_map.mp hx
      exact (en_tgt_v (r6 off ho)).2.1
    · have hz := en_z_int I
      simp only [mm_ex, mm_sw, mm_jump, t3]
      rw [if_pos (by omega), if_pos t1]
    · have hz := en_z_int I
      simp only [mm_ex, mm_sw]
      rw [if_neg (by omega)]
      rw [List.getElem?_map] at ht
      have ei : en_z I - en_c lo = (I.toInt - lo).toNat := by omega
      rw [ei] at ht
      cases hof : offs.toList[(I.toInt - lo).toNat]? with
      | none => rw [hof] at ht; cases ht
      | some off =>
        rw [hof] at ht
        cases ht
        rw [Array.getElem?_toList] at hof
        obtain ⟨u1, u2, u3⟩ := en_tgt_v (r6 off (List.mem_of_getElem? (by rw [Array.getElem?_toList]; exact hof)))
        rw [hof]
        simp only [mm_jump]
        rw [if_pos u1, u3]
  case getstatic i =>
    simp only [en_comp] at hc
    split at hc <;> cases hc
    rename_i hr
    have hsa : SA[a]? = some SA[a] := List.getElem?_eq_getElem hr.2
    obtain ⟨qq, q', g1, -⟩ := hSA a SA[a].1 SA[a].2 hsa
    refine en_O_push (v := .ref qq.1) hP (en_step1 hat rfl rfl) hn1 ?_ (fun lv sv cb sb h => by simp only [mm_ex, hn2, g1])
    rw [en_v_stat (by omega) (by omega), Nat.add_sub_cancel_left]
    exact ⟨qq, g1, rfl⟩
  case iaload =>
    cases hc
    refine en_O_aload hP (en_step1 hat rfl rfl) hn1 hSA (by decide) (fun lv I a2 r cb sb h N ht hcr hin hj => ?_) (fun _ lv I a2 r cb sb h q' hlt hst hin => ?_)
    · simp only [mm_ex, ← hn2]
      exact en_ald_X (Or.inl (by have := en_beq_t.mp ht; omega)) (by decide) hcr hin hj
    · have e1 : mm_cell E h a2 = none := by unfold mm_cell; rw [if_neg (by omega)]
      simp only [mm_ex, mm_ald, e1, hst, hn2]
      rw [if_pos ⟨trivial, hin⟩]
  case baload =>
    cases hc
    refine en_O_aload hP (en_step1 hat rfl rfl) hn1 hSA (by decide) (fun lv I a2 r cb sb h N ht hcr hin hj => ?_) (fun ht => absurd ht (by decide))
    simp only [mm_ex, ← hn2]
    refine en_ald_X ?_ (by decide) hcr hin hj
    rcases en_if_or.mp ht with ⟨a1, -⟩ | ⟨-, a1⟩
    · have := en_beq_t.mp a1; omega
    · have := en_beq_t.mp a1; omega
  case laload =>
    cases hc
    refine en_O_aload hP (en_step1 hat rfl rfl) hn1 hSA (by decide) (fun lv I a2 r cb sb h N ht hcr hin hj => ?_) (fun ht => absurd ht (by decide))
    simp only [mm_ex, ← hn2]
    exact en_lald_X (en_beq_t.mp ht) hcr hin hj
  case aaload =>
    cases hc
    refine en_O_aload hP (en_step1 hat rfl rfl) hn1 hSA (by decide) (fun lv I a2 r cb sb h N ht hcr hin hj => ?_) (fun ht => absurd ht (by decide))
    simp only [mm_ex, ← hn2]
    exact en_aald_X (en_beq_t.mp ht) hcr hin hj
  case iastore =>
    cases hc
    refine en_O_astore hP (en_step1 hat rfl rfl) hn1 (by decide) (fun lv V v k I a2 r cb sb h N ht hcr hv hf => ?_)
    simp only [mm_ex, ← hn2]
    exact en_ast_X (Or.inl (by have := en_beq_t.mp ht; omega)) (by decide) hcr hv hf
  case bastore =>
    cases hc
    refine en_O_astore hP (en_step1 hat rfl rfl) hn1 (by decide) (fun lv V v k I a2 r cb sb h N ht hcr hv hf => ?_)
    simp only [mm_ex, ← hn2]
    refine en_ast_X ?_ (by decide) hcr hv hf
    rcases en_if_or.mp ht with ⟨a1, -⟩ | ⟨-, a1⟩
    · have := en_beq_t.mp a1; omega
    · have := en_beq_t.mp a1; omega
  case lastore =>
    cases hc
    refine en_O_astore hP (en_step1 hat rfl rfl) hn1 (by decide) (fun lv V v k I a2 r cb sb h N ht hcr hv hf => ?_)
    simp only [mm_ex, ← hn2]
    exact en_last_X (en_beq_t.mp ht) hcr hv hf
  case arraylength => cases hc; exact en_O_alen hP (en_step1 hat rfl rfl) hn1 hSA (fun lv sv cb sb h => by simp only [mm_ex, hn2])
  case getfield i => cases hc; exact en_O_getf hP (en_step1 hat rfl rfl) hn1 (fun lv sv cb sb h => by simp only [mm_ex, hn2])
  case putfield i =>
    simp only [en_comp] at hc
    split at hc
    · rename_i l hl
      split at hc
      · rename_i kd2 hkd2
        cases hc
        exact en_O_putf hP (en_step1 hat rfl rfl) hn1 (fun lv sv cb sb h => by simp only [mm_ex, hn2, hl, hkd2])
      · cases hc
    · cases hc
  case new i =>
    simp only [en_comp] at hc
    split at hc
    · rename_i ha
      split at hc
      · rename_i l hl
        split at hc
        · rename_i hll
          cases hc
          exact en_O_newo hP (en_step1 hat rfl rfl) hn1 ha hll (fun lv sv cb sb h => by simp only [mm_ex, hn2, hl])
        · cases hc
      · cases hc
    · cases hc
  case newarray t =>
    cases t <;> simp only [en_comp, reduceCtorEq] at hc <;> cases hc
    · refine en_O_newa (mk := fun m => .inl (2, m, .inl (fun _ => 0))) hP (en_step1 hat rfl rfl) hn1 (by decide) (by decide) (fun N m hm h1 h2 h3 => Or.inl ⟨2, fun _ => 0, h1, by decide, by rw [h2], fun j hj => ?_⟩) (fun lv I sv cb sb h hI => by simp only [mm_ex, mm_newa, hn2]; rw [if_pos hI])
      rw [h3 j (by omega), en_v_const (by decide), en_d_zero]
    · refine en_O_newa (mk := fun m => .inl (1, m, .inl (fun _ => 0))) hP (en_step1 hat rfl rfl) hn1 (by decide) (by decide) (fun N m hm h1 h2 h3 => Or.inl ⟨1, fun _ => 0, h1, by decide, by rw [h2], fun j hj => ?_⟩) (fun lv I sv cb sb h hI => by simp only [mm_ex, mm_newa, hn2]; rw [if_pos hI])
      rw [h3 j (by omega), en_v_const (by decide), en_d_zero]
    · refine en_O_newa (mk := fun m => .inl (0, m, .inl (fun _ => 0))) hP (en_step1 hat rfl rfl) hn1 (by decide) (by decide) (fun N m hm h1 h2 h3 => Or.inl ⟨0, fun _ => 0, h1, by decide, by rw [h2], fun j hj => ?_⟩) (fun lv I sv cb sb h hI => by simp only [mm_ex, mm_newa, hn2]; rw [if_pos hI])
      rw [h3 j (by omega), en_v_const (by decide), en_d_zero]
    · refine en_O_newa (mk := fun m => .inl (3, m, .inr (.inl (fun _ => 0)))) hP (en_step1 hat rfl rfl) hn1 (by decide) (by decide) (fun N m hm h1 h2 h3 => Or.inr (Or.inl ⟨fun _ => 0, h1, by rw [h2], fun j hj => ?_⟩)) (fun lv I sv cb sb h hI => by simp only [mm_ex, mm_newa, hn2]; rw [if_pos hI])
      rw [h3 j (by omega), en_v_long (by decide) (by decide)]
      rfl
  case multianewarray i dims =>
    rcases dims with _ | _ | _ | dims
    · cases hc
    · cases hc
    · cases hc
      exact en_O_mna hP (en_step1 hat rfl rfl) hn1 (fun lv sv cb sb h => by simp only [mm_ex, hn2])
    · cases hc
  case return_ => cases hc; exact en_O_ret hP hat rfl rfl hfin
  case ireturn => cases hc; exact en_O_ret hP hat rfl rfl hfin
  case lreturn => cases hc; exact en_O_ret hP hat rfl rfl hfin
  case invokestatic i =>
    simp only [en_comp] at hc
    split at hc
    · rename_i ha
      cases hc
      subst ha
      exact en_O_copy hP hat rfl hn1 hn2
    · split at hc
      · cases hc
      · rename_i ha
        split at hc
        · rename_i cs1 nL1 np1 kd1 ci1 rk1 mc1 ms1 hPa
          split at hc
          · rename_i hkd
            cases hc
            subst hkd
            exact en_O_call hP hat rfl ha hn1 hn2 hPa (hPn _ _ _ _ hPa)
          · cases hc
        · cases hc
  case invokevirtual i =>
    simp only [en_comp] at hc
    split at hc
    · cases hc
    · rename_i ha
      split at hc
      · rename_i cs1 nL1 np1 kd1 ci1 rk1 mc1 ms1 hPa
        split at hc
        · rename_i hkd
          cases hc
          subst hkd
          exact en_O_call hP hat rfl ha hn1 hn2 hPa (hPn _ _ _ _ hPa)
        · cases hc
      · cases hc
  case invokespecial i =>
    simp only [en_comp] at hc
    split at hc
    · rename_i ha
      cases hc
      subst ha
      exact en_O_oinit hP hat rfl hn1 hn2
    · split at hc
      · cases hc
      · rename_i ha
        split at hc
        · rename_i cs1 nL1 np1 kd1 ci1 rk1 mc1 ms1 hPa
          split at hc
          · rename_i hkd
            cases hc
            subst hkd
            exact en_O_call hP hat rfl ha hn1 hn2 hPa (hPn _ _ _ _ hPa)
          · cases hc
        · cases hc
  all_goals (exact absurd hc (by simp [en_comp]))
theorem en_run_v {SA : List (Nat × Nat)} (hSA : en_SA E ρ ω SA) {fin : List Nat → en_H → en_W → Bool} (hfin : en_FS E kds P L ρ ω h0 fsC FIN fin) (hPn : ∀ (k : Nat) (cs : List (List mm_I)) (nL : Nat) (dd : mm_M), P[k]? = some (cs, nL, dd) → nL < 16777216) {tb : en_T} (htb : ∀ q hk o, tb q = some hk → en_OS E kds P L ρ ω h0 fsC FIN q o → en_OS E kds P L ρ ω h0 fsC FIN q (hk o)) (n : Nat) : en_S E kds P L ρ ω h0 fsC FIN (en_run SA fin kds P tb n) := by
  induction n with
  | zero => intro q loc st hp w c h; cases h
  | succ n ih =>
    intro q loc st hp w c h hR
    cases q with
    | zero => cases h
    | succ q =>
      have h9 : (Option.rec (motive := fun _ => Bool) false (fun o => o loc st hp w (en_run SA fin kds P tb n)) (en_fetch SA fin kds P tb (Nat.succ q)) : Bool) = true := h
      cases hf : en_fetch SA fin kds P tb (Nat.succ q) with
      | none => rw [hf] at h9; cases h9
      | some o =>
        rw [hf] at h9
        have hos : en_OS E kds P L ρ ω h0 fsC FIN (Nat.succ q) o := by
          unfold en_fetch at hf
          split at hf
          · cases hf
          · rename_i q0 len ins a b z wd nL np kd ci rk mc ms hat
            split at hf
            · cases hf
            · rename_i hlen
              split at hf
              · cases hf
              · rename_i o1 hc
                have h1 := en_comp_v (h0 := h0) hSA hfin hPn hat (by omega) hc
                split at hf
                · cases hf
                  exact h1
                · rename_i hk htq
                  cases hf
                  exact htb _ hk o1 htq h1
        exact hos loc st hp w _ c ih h9 hR
end ENX
end
section
/-! A run of the mini machine down to its last frame is a big step -/
section SMB
variable {E : mm_E} {kds : List (List Nat)} {P : mm_T}
theorem mm_big_mono (n : Nat) : ∀ (d : Nat) (f : mm_F) (h : mm_H) (r : Option Value × mm_H), mm_big E kds P n d f h = some r → mm_big E kds P (n + 1) d f h = some r := by
  induction n with
  | zero => intro d f h r hh; cases hh
  | succ n ih =>
    intro d f h r hh
    obtain ⟨m, pc, lv, st, cb, sb⟩ := f
    cases hat : mm_at P m pc with
    | none => simp [mm_big, hat] at hh
    | some q =>
      obtain ⟨⟨q0, len, ins, a, b, z, wd⟩, nL, np, kd, ci, rk, mc, ms⟩ := q
      rw [mm_big] at hh ⊢
      simp only [hat] at hh ⊢
      cases hi : mm_inv ins with
      | some ik =>
        simp only [hi] at hh ⊢
        by_cases hd : d = 0
        · rw [if_pos hd] at hh; cases hh
        · rw [if_neg hd] at hh ⊢
          by_cases ha : a < 2
          · rw [if_pos ha] at hh ⊢
            cases hs : mm_sp E a ik lv st cb sb h (pc + len) with
            | none => rw [hs] at hh; cases hh
            | some q =>
              obtain ⟨pc', lv', st', cb', sb', h'⟩ := q
              rw [hs] at hh
              exact ih _ _ _ _ hh
          · rw [if_neg ha] at hh ⊢
            cases hp : P[a]? with
            | none => rw [hp] at hh; cases hh
            | some q =>
              obtain ⟨cs1, nL1, np1, kd1, ci1, rk1, mc1, ms1⟩ := q
              rw [hp] at hh
              simp only [] at hh ⊢
              split at hh
              · rename_i hc
                rw [if_pos hc]
                cases hv : mm_recv E h kd1 ci1 (st.drop np1) with
                | none => rw [hv] at hh; cases hh
                | some q =>
                  obtain ⟨rv, rr⟩ := q
                  rw [hv] at hh
                  simp only [] at hh ⊢
                  split at hh
                  · rename_i hc2
                    rw [if_pos hc2]
                    cases hb : mm_big E kds P n (d - 1) (a, 0, lv_args 0 (rv ++ (st.take np1).reverse), [], mc1, ms1) h with
                    | none => rw [hb] at hh; cases hh
                    | some q =>
                      obtain ⟨v1, h1⟩ := q
                      rw [hb] at hh
                      rw [ih _ _ _ _ hb]
                      exact ih _ _ _ _ hh
                  · cases hh
              · cases hh
      | none =>
        simp only [hi] at hh ⊢
        cases hr : mm_rtn ins with
        | some ik =>
          simp only [hr] at hh ⊢
          exact hh
        | none =>
          simp only [hr] at hh ⊢
          cases hx : mm_ex E kds nL ins len a b z pc lv st cb sb h with
          | none => rw [hx] at hh; cases hh
          | some q =>
            obtain ⟨pc', lv', st', cb', sb', h'⟩ := q
            rw [hx] at hh
            exact ih _ _ _ _ hh
theorem mm_big_le {n k d : Nat} {f : mm_F} {h : mm_H} {r : Option Value × mm_H} (hh : mm_big E kds P n d f h = some r) : mm_big E kds P (n + k) d f h = some r := by
  induction k with
  | zero => exact hh
  | succ k ih => exact mm_big_mono _ _ _ _ _ ih
theorem mm_run_big {L : Nat} (hF : mm_H) (vF : Option Value) : ∀ (n : Nat) (f : mm_F) (fs : List mm_F) (h : mm_H) (o : Option Value), fs.length < L → mm_run E kds P L n (f :: fs, h, o) = some ([], hF, vF) → ∃ N v1 h1 k, mm_big E kds P N (L - 1 - fs.length) f h = some (v1, h1) ∧ k < n ∧ mm_run E kds P L k (mm_back v1 fs h1) = some ([], hF, vF) := by
  intro n
  induction n using Nat.strongRecOn with
  | _ n ih =>
    intro f fs h o hl hh
    cases n with
    | zero => cases hh
    | succ n =>
      have hh2 : (match mm_stp E kds P L (f :: fs, h, o) with
        | some c' => mm_run E kds P L n c'
        | none => none) = some ([], hF, vF) := hh
      cases hs : mm_stp E kds P L (f :: fs, h, o) with
      | none => rw [hs] at hh2; cases hh2
      | some c' =>
        rw [hs] at hh2
        simp only [] at hh2
        obtain ⟨m, pc, lv, st, cb, sb⟩ := f
        cases hat : mm_at P m pc with
        | none => simp [mm_stp, hat] at hs
        | some q =>
          obtain ⟨⟨q0, len, ins, a, b, z, wd⟩, nL, np, kd, ci, rk, mc, ms⟩ := q
          simp only [mm_stp, hat] at hs
          cases hi : mm_inv ins with
          | some ik =>
            simp only [hi] at hs
            by_cases ha : a < 2
            · rw [if_pos ha] at hs
              split at hs
              · rename_i hfl
                cases hsp : mm_sp E a ik lv st cb sb h (pc + len) with
                | none => rw [hsp] at hs; cases hs
                | some q =>
                  obtain ⟨pc', lv', st', cb', sb', h'⟩ := q
                  rw [hsp] at hs
                  cases hs
                  obtain ⟨N, v1, h1, k, e1, e2, e3⟩ := ih n (by omega) _ _ _ _ hl hh2
                  refine ⟨N + 1, v1, h1, k, ?_, by omega, e3⟩
                  rw [mm_big]
                  simp only [hat, hi]
                  rw [if_neg (by omega), if_pos ha, hsp]
                  exact e1
              · cases hs
            · rw [if_neg ha] at hs
              unfold mm_call at hs
              cases hp : P[a]? with
              | none => rw [hp] at hs; cases hs
              | some q =>
                obtain ⟨cs1, nL1, np1, kd1, ci1, rk1, mc1, ms1⟩ := q
                rw [hp] at hs
                simp only [] at hs
                split at hs
                · rename_i hc
                  cases hv : mm_recv E h kd1 ci1 (st.drop np1) with
                  | none => rw [hv] at hs; cases hs
                  | some q =>
                    obtain ⟨rv, rr⟩ := q
                    rw [hv] at hs
                    simp only [] at hs
                    split at hs
                    · rename_i hc2
                      cases hs
                      obtain ⟨N, v1, h1, k, e1, e2, e3⟩ := ih n (by omega) _ _ _ _ (by rw [List.length_cons]; omega) hh2
                      obtain ⟨N2, v2, h2, k2, g1, g2, g3⟩ := ih k (by omega) (m, pc + len, lv, v1.toList ++ rr, cb - mc1, sb - ms1) fs h1 none hl e3
                      refine ⟨N + N2 + 1, v2, h2, k2, ?_, by omega, g3⟩
                      rw [mm_big]
                      simp only [hat, hi]
                      rw [if_neg (by omega), if_neg ha, hp]
                      simp only []
                      rw [if_pos ⟨hc.1, hc.2.2.1, hc.2.2.2.1, hc.2.2.2.2⟩, hv]
                      simp only []
                      rw [if_pos hc2]
                      have e4 : L - 1 - (((m, pc + len, lv, rr, cb - mc1, sb - ms1) : mm_F) :: fs).length = L - 1 - fs.length - 1 := by rw [List.length_cons]; omega
                      rw [e4] at e1
                      rw [mm_big_le (k := N2) e1]
                      simp only []
                      rw [Nat.add_comm]
                      exact mm_big_le g1
                    · cases hs
                · cases hs
          | none =>
            simp only [hi] at hs
            cases hr : mm_rtn ins with
            | some ik =>
              simp only [hr] at hs
              cases hn : mm_ans rk ik st with
              | none => rw [hn] at hs; cases hs
              | some v =>
                rw [hn] at hs
                cases hs
                refine ⟨1, v, h, n, ?_, by omega, hh2⟩
                rw [mm_big]
                simp only [hat, hi, hr, hn]
            | none =>
              simp only [hr] at hs
              cases hx : mm_ex E kds nL ins len a b z pc lv st cb sb h with
              | none => rw [hx] at hs; cases hs
              | some q =>
                obtain ⟨pc', lv', st', cb', sb', h'⟩ := q
                rw [hx] at hs
                cases hs
                obtain ⟨N, v1, h1, k, e1, e2, e3⟩ := ih n (by omega) _ _ _ _ hl hh2
                refine ⟨N + 1, v1, h1, k, ?_, by omega, e3⟩
                rw [mm_big]
                simp only [hat, hi, hr, hx]
                exact e1
end SMB
end
