section
-- ===== PART A: goes FIRST, ahead of the names: the tables' words, and 'selects' of the private methods out of them =====
/-- a private method of a class that the tables say can be made, by its rows of tables_1 -/
def lw_okq (q : MethodName × Nat) : Prop := (q.1.cls ≠ "java/lang/invoke/MethodHandle" ∧ q.1.cls ≠ "java/lang/invoke/VarHandle") ∧ Cond.instantiable q.1.cls q.2 ∈ tables_1 ∧ Cond.privateMethod q.1 ∈ tables_1 ∧ Cond.instanceMethod q.1 ∈ tables_1
theorem lw_p0 : lw_okq (⟨"StrawWatch$Laws", "setNumber", "(II)V"⟩, 5) := ⟨⟨by decide +kernel, by decide +kernel⟩, List.mem_of_getElem? (i := 34) (by decide +kernel), List.mem_of_getElem? (i := 69) (by decide +kernel), List.mem_of_getElem? (i := 70) (by decide +kernel)⟩
theorem lw_p1 : lw_okq (⟨"StrawWatch$Ship", "findEnd", "()V"⟩, 5) := ⟨⟨by decide +kernel, by decide +kernel⟩, List.mem_of_getElem? (i := 205) (by decide +kernel), List.mem_of_getElem? (i := 314) (by decide +kernel), List.mem_of_getElem? (i := 315) (by decide +kernel)⟩
theorem lw_p2 : lw_okq (⟨"StrawWatch$Draws", "dealOne", "(I)V"⟩, 7) := ⟨⟨by decide +kernel, by decide +kernel⟩, List.mem_of_getElem? (i := 228) (by decide +kernel), List.mem_of_getElem? (i := 325) (by decide +kernel), List.mem_of_getElem? (i := 326) (by decide +kernel)⟩
theorem lw_p3 : lw_okq (⟨"StrawWatch", "append", "(I)V"⟩, 11) := ⟨⟨by decide +kernel, by decide +kernel⟩, List.mem_of_getElem? (i := 20) (by decide +kernel), List.mem_of_getElem? (i := 370) (by decide +kernel), List.mem_of_getElem? (i := 371) (by decide +kernel)⟩
theorem lw_p4 : lw_okq (⟨"StrawWatch$Tokens", "scan", "()Z"⟩, 7) := ⟨⟨by decide +kernel, by decide +kernel⟩, List.mem_of_getElem? (i := 142) (by decide +kernel), List.mem_of_getElem? (i := 394) (by decide +kernel), List.mem_of_getElem? (i := 395) (by decide +kernel)⟩
theorem lw_p5 : lw_okq (⟨"StrawWatch$Tokens", "put", "(IJI)V"⟩, 7) := ⟨⟨by decide +kernel, by decide +kernel⟩, List.mem_of_getElem? (i := 142) (by decide +kernel), List.mem_of_getElem? (i := 401) (by decide +kernel), List.mem_of_getElem? (i := 402) (by decide +kernel)⟩
theorem lw_p6 : lw_okq (⟨"StrawWatch$Tokens", "scanLetters", "()Z"⟩, 7) := ⟨⟨by decide +kernel, by decide +kernel⟩, List.mem_of_getElem? (i := 142) (by decide +kernel), List.mem_of_getElem? (i := 408) (by decide +kernel), List.mem_of_getElem? (i := 409) (by decide +kernel)⟩
theorem lw_p7 : lw_okq (⟨"StrawWatch$Tokens", "wordAt", "(II)I"⟩, 7) := ⟨⟨by decide +kernel, by decide +kernel⟩, List.mem_of_getElem? (i := 142) (by decide +kernel), List.mem_of_getElem? (i := 413) (by decide +kernel), List.mem_of_getElem? (i := 414) (by decide +kernel)⟩
theorem lw_p8 : lw_okq (⟨"StrawWatch$Tokens", "isWord", "(III)Z"⟩, 7) := ⟨⟨by decide +kernel, by decide +kernel⟩, List.mem_of_getElem? (i := 142) (by decide +kernel), List.mem_of_getElem? (i := 417) (by decide +kernel), List.mem_of_getElem? (i := 418) (by decide +kernel)⟩
theorem lw_p9 : lw_okq (⟨"StrawWatch$Tokens", "scanDigits", "()Z"⟩, 7) := ⟨⟨by decide +kernel, by decide +kernel⟩, List.mem_of_getElem? (i := 142) (by decide +kernel), List.mem_of_getElem? (i := 473) (by decide +kernel), List.mem_of_getElem? (i := 474) (by decide +kernel)⟩
theorem lw_p10 : lw_okq (⟨"StrawWatch$Reader", "accept", "()V"⟩, 10) := ⟨⟨by decide +kernel, by decide +kernel⟩, List.mem_of_getElem? (i := 136) (by decide +kernel), List.mem_of_getElem? (i := 533) (by decide +kernel), List.mem_of_getElem? (i := 534) (by decide +kernel)⟩
theorem lw_p11 : lw_okq (⟨"StrawWatch$Reader", "readTell", "()V"⟩, 10) := ⟨⟨by decide +kernel, by decide +kernel⟩, List.mem_of_getElem? (i := 136) (by decide +kernel), List.mem_of_getElem? (i := 537) (by decide +kernel), List.mem_of_getElem? (i := 538) (by decide +kernel)⟩
theorem lw_p12 : lw_okq (⟨"StrawWatch$Reader", "readMan", "()V"⟩, 10) := ⟨⟨by decide +kernel, by decide +kernel⟩, List.mem_of_getElem? (i := 136) (by decide +kernel), List.mem_of_getElem? (i := 541) (by decide +kernel), List.mem_of_getElem? (i := 542) (by decide +kernel)⟩
theorem lw_p13 : lw_okq (⟨"StrawWatch$Reader", "refuse", "(I)V"⟩, 10) := ⟨⟨by decide +kernel, by decide +kernel⟩, List.mem_of_getElem? (i := 136) (by decide +kernel), List.mem_of_getElem? (i := 545) (by decide +kernel), List.mem_of_getElem? (i := 546) (by decide +kernel)⟩
theorem lw_p14 : lw_okq (⟨"StrawWatch$Reader", "noteLater", "(I)V"⟩, 10) := ⟨⟨by decide +kernel, by decide +kernel⟩, List.mem_of_getElem? (i := 136) (by decide +kernel), List.mem_of_getElem? (i := 553) (by decide +kernel), List.mem_of_getElem? (i := 554) (by decide +kernel)⟩
theorem lw_p15 : lw_okq (⟨"StrawWatch$Reader", "number", "(II)I"⟩, 10) := ⟨⟨by decide +kernel, by decide +kernel⟩, List.mem_of_getElem? (i := 136) (by decide +kernel), List.mem_of_getElem? (i := 561) (by decide +kernel), List.mem_of_getElem? (i := 562) (by decide +kernel)⟩
def lw_privs_1 : List (MethodName × Nat) := [(⟨"StrawWatch$Laws", "setNumber", "(II)V"⟩, 5), (⟨"StrawWatch$Ship", "findEnd", "()V"⟩, 5), (⟨"StrawWatch$Draws", "dealOne", "(I)V"⟩, 7), (⟨"StrawWatch", "append", "(I)V"⟩, 11), (⟨"StrawWatch$Tokens", "scan", "()Z"⟩, 7), (⟨"StrawWatch$Tokens", "put", "(IJI)V"⟩, 7), (⟨"StrawWatch$Tokens", "scanLetters", "()Z"⟩, 7), (⟨"StrawWatch$Tokens", "wordAt", "(II)I"⟩, 7), (⟨"StrawWatch$Tokens", "isWord", "(III)Z"⟩, 7), (⟨"StrawWatch$Tokens", "scanDigits", "()Z"⟩, 7), (⟨"StrawWatch$Reader", "accept", "()V"⟩, 10), (⟨"StrawWatch$Reader", "readTell", "()V"⟩, 10), (⟨"StrawWatch$Reader", "readMan", "()V"⟩, 10), (⟨"StrawWatch$Reader", "refuse", "(I)V"⟩, 10), (⟨"StrawWatch$Reader", "noteLater", "(I)V"⟩, 10), (⟨"StrawWatch$Reader", "number", "(II)I"⟩, 10)]
theorem lw_r1 : ∀ q ∈ lw_privs_1, lw_okq q := List.forall_mem_cons.mpr ⟨lw_p0, List.forall_mem_cons.mpr ⟨lw_p1, List.forall_mem_cons.mpr ⟨lw_p2, List.forall_mem_cons.mpr ⟨lw_p3, List.forall_mem_cons.mpr ⟨lw_p4, List.forall_mem_cons.mpr ⟨lw_p5, List.forall_mem_cons.mpr ⟨lw_p6, List.forall_mem_cons.mpr ⟨lw_p7, List.forall_mem_cons.mpr ⟨lw_p8, List.forall_mem_cons.mpr ⟨lw_p9, List.forall_mem_cons.mpr ⟨lw_p10, List.forall_mem_cons.mpr ⟨lw_p11, List.forall_mem_cons.mpr ⟨lw_p12, List.forall_mem_cons.mpr ⟨lw_p13, List.forall_mem_cons.mpr ⟨lw_p14, List.forall_mem_cons.mpr ⟨lw_p15, fun _ h => absurd h List.not_mem_nil⟩⟩⟩⟩⟩⟩⟩⟩⟩⟩⟩⟩⟩⟩⟩⟩
theorem lw_p16 : lw_okq (⟨"StrawWatch$Reader", "sign", "(C)V"⟩, 10) := ⟨⟨by decide +kernel, by decide +kernel⟩, List.mem_of_getElem? (i := 136) (by decide +kernel), List.mem_of_getElem? (i := 569) (by decide +kernel), List.mem_of_getElem? (i := 570) (by decide +kernel)⟩
theorem lw_p17 : lw_okq (⟨"StrawWatch$Reader", "isSign", "(C)Z"⟩, 10) := ⟨⟨by decide +kernel, by decide +kernel⟩, List.mem_of_getElem? (i := 136) (by decide +kernel), List.mem_of_getElem? (i := 573) (by decide +kernel), List.mem_of_getElem? (i := 574) (by decide +kernel)⟩
theorem lw_p18 : lw_okq (⟨"StrawWatch$Reader", "readLaw", "(I)V"⟩, 10) := ⟨⟨by decide +kernel, by decide +kernel⟩, List.mem_of_getElem? (i := 136) (by decide +kernel), List.mem_of_getElem? (i := 577) (by decide +kernel), List.mem_of_getElem? (i := 578) (by decide +kernel)⟩
theorem lw_p19 : lw_okq (⟨"StrawWatch$Reader", "isWord", "(I)Z"⟩, 10) := ⟨⟨by decide +kernel, by decide +kernel⟩, List.mem_of_getElem? (i := 136) (by decide +kernel), List.mem_of_getElem? (i := 585) (by decide +kernel), List.mem_of_getElem? (i := 586) (by decide +kernel)⟩
theorem lw_p20 : lw_okq (⟨"StrawWatch$Reader", "readSum", "(II)V"⟩, 10) := ⟨⟨by decide +kernel, by decide +kernel⟩, List.mem_of_getElem? (i := 136) (by decide +kernel), List.mem_of_getElem? (i := 589) (by decide +kernel), List.mem_of_getElem? (i := 590) (by decide +kernel)⟩
theorem lw_p21 : lw_okq (⟨"StrawWatch$Reader", "readUnit", "(II)V"⟩, 10) := ⟨⟨by decide +kernel, by decide +kernel⟩, List.mem_of_getElem? (i := 136) (by decide +kernel), List.mem_of_getElem? (i := 593) (by decide +kernel), List.mem_of_getElem? (i := 594) (by decide +kernel)⟩
theorem lw_p22 : lw_okq (⟨"StrawWatch$Reader", "operator", "()I"⟩, 10) := ⟨⟨by decide +kernel, by decide +kernel⟩, List.mem_of_getElem? (i := 136) (by decide +kernel), List.mem_of_getElem? (i := 606) (by decide +kernel), List.mem_of_getElem? (i := 607) (by decide +kernel)⟩
theorem lw_p23 : lw_okq (⟨"StrawWatch$Reader", "word", "(I)V"⟩, 10) := ⟨⟨by decide +kernel, by decide +kernel⟩, List.mem_of_getElem? (i := 136) (by decide +kernel), List.mem_of_getElem? (i := 610) (by decide +kernel), List.mem_of_getElem? (i := 611) (by decide +kernel)⟩
theorem lw_p24 : lw_okq (⟨"StrawWatch$Reader", "readNumbers", "(I)V"⟩, 10) := ⟨⟨by decide +kernel, by decide +kernel⟩, List.mem_of_getElem? (i := 136) (by decide +kernel), List.mem_of_getElem? (i := 622) (by decide +kernel), List.mem_of_getElem? (i := 623) (by decide +kernel)⟩
theorem lw_p25 : lw_okq (⟨"StrawWatch$Laws", "run", "(I)I"⟩, 5) := ⟨⟨by decide +kernel, by decide +kernel⟩, List.mem_of_getElem? (i := 34) (by decide +kernel), List.mem_of_getElem? (i := 707) (by decide +kernel), List.mem_of_getElem? (i := 708) (by decide +kernel)⟩
theorem lw_p26 : lw_okq (⟨"StrawWatch", "mayStand", "(I)Z"⟩, 11) := ⟨⟨by decide +kernel, by decide +kernel⟩, List.mem_of_getElem? (i := 20) (by decide +kernel), List.mem_of_getElem? (i := 737) (by decide +kernel), List.mem_of_getElem? (i := 738) (by decide +kernel)⟩
theorem lw_p27 : lw_okq (⟨"StrawWatch$Ship", "sailNow", "()I"⟩, 5) := ⟨⟨by decide +kernel, by decide +kernel⟩, List.mem_of_getElem? (i := 205) (by decide +kernel), List.mem_of_getElem? (i := 758) (by decide +kernel), List.mem_of_getElem? (i := 759) (by decide +kernel)⟩
theorem lw_p28 : lw_okq (⟨"StrawWatch$Ship", "passMutiny", "()V"⟩, 5) := ⟨⟨by decide +kernel, by decide +kernel⟩, List.mem_of_getElem? (i := 205) (by decide +kernel), List.mem_of_getElem? (i := 766) (by decide +kernel), List.mem_of_getElem? (i := 767) (by decide +kernel)⟩
theorem lw_p29 : lw_okq (⟨"StrawWatch$Ship", "drawStraws", "()V"⟩, 5) := ⟨⟨by decide +kernel, by decide +kernel⟩, List.mem_of_getElem? (i := 205) (by decide +kernel), List.mem_of_getElem? (i := 778) (by decide +kernel), List.mem_of_getElem? (i := 779) (by decide +kernel)⟩
theorem lw_p30 : lw_okq (⟨"StrawWatch$Ship", "lot", "(II)I"⟩, 5) := ⟨⟨by decide +kernel, by decide +kernel⟩, List.mem_of_getElem? (i := 205) (by decide +kernel), List.mem_of_getElem? (i := 782) (by decide +kernel), List.mem_of_getElem? (i := 783) (by decide +kernel)⟩
theorem lw_p31 : lw_okq (⟨"StrawWatch$Ship", "hideCaptain", "()V"⟩, 5) := ⟨⟨by decide +kernel, by decide +kernel⟩, List.mem_of_getElem? (i := 205) (by decide +kernel), List.mem_of_getElem? (i := 791) (by decide +kernel), List.mem_of_getElem? (i := 792) (by decide +kernel)⟩
def lw_privs_2 : List (MethodName × Nat) := [(⟨"StrawWatch$Reader", "sign", "(C)V"⟩, 10), (⟨"StrawWatch$Reader", "isSign", "(C)Z"⟩, 10), (⟨"StrawWatch$Reader", "readLaw", "(I)V"⟩, 10), (⟨"StrawWatch$Reader", "isWord", "(I)Z"⟩, 10), (⟨"StrawWatch$Reader", "readSum", "(II)V"⟩, 10), (⟨"StrawWatch$Reader", "readUnit", "(II)V"⟩, 10), (⟨"StrawWatch$Reader", "operator", "()I"⟩, 10), (⟨"StrawWatch$Reader", "word", "(I)V"⟩, 10), (⟨"StrawWatch$Reader", "readNumbers", "(I)V"⟩, 10), (⟨"StrawWatch$Laws", "run", "(I)I"⟩, 5), (⟨"StrawWatch", "mayStand", "(I)Z"⟩, 11), (⟨"StrawWatch$Ship", "sailNow", "()I"⟩, 5), (⟨"StrawWatch$Ship", "passMutiny", "()V"⟩, 5), (⟨"StrawWatch$Ship", "drawStraws", "()V"⟩, 5), (⟨"StrawWatch$Ship", "lot", "(II)I"⟩, 5), (⟨"StrawWatch$Ship", "hideCaptain", "()V"⟩, 5)]
theorem lw_r2 : ∀ q ∈ lw_privs_2, lw_okq q := List.forall_mem_cons.mpr ⟨lw_p16, List.forall_mem_cons.mpr ⟨lw_p17, List.forall_mem_cons.mpr ⟨lw_p18, List.forall_mem_cons.mpr ⟨lw_p19, List.forall_mem_cons.mpr ⟨lw_p20, List.forall_mem_cons.mpr ⟨lw_p21, List.forall_mem_cons.mpr ⟨lw_p22, List.forall_mem_cons.mpr ⟨lw_p23, List.forall_mem_cons.mpr ⟨lw_p24, List.forall_mem_cons.mpr ⟨lw_p25, List.forall_mem_cons.mpr ⟨lw_p26, List.forall_mem_cons.mpr ⟨lw_p27, List.forall_mem_cons.mpr ⟨lw_p28, List.forall_mem_cons.mpr ⟨lw_p29, List.forall_mem_cons.mpr ⟨lw_p30, List.forall_mem_cons.mpr ⟨lw_p31, fun _ h => absurd h List.not_mem_nil⟩⟩⟩⟩⟩⟩⟩⟩⟩⟩⟩⟩⟩⟩⟩⟩
theorem lw_p32 : lw_okq (⟨"StrawWatch$Draws", "noteDraw", "(II)V"⟩, 7) := ⟨⟨by decide +kernel, by decide +kernel⟩, List.mem_of_getElem? (i := 228) (by decide +kernel), List.mem_of_getElem? (i := 845) (by decide +kernel), List.mem_of_getElem? (i := 846) (by decide +kernel)⟩
theorem lw_p33 : lw_okq (⟨"StrawWatch$Draws", "weighOne", "([I)V"⟩, 7) := ⟨⟨by decide +kernel, by decide +kernel⟩, List.mem_of_getElem? (i := 228) (by decide +kernel), List.mem_of_getElem? (i := 882) (by decide +kernel), List.mem_of_getElem? (i := 883) (by decide +kernel)⟩
theorem lw_p34 : lw_okq (⟨"StrawWatch$Draws", "weighFirst", "(I[I)V"⟩, 7) := ⟨⟨by decide +kernel, by decide +kernel⟩, List.mem_of_getElem? (i := 228) (by decide +kernel), List.mem_of_getElem? (i := 889) (by decide +kernel), List.mem_of_getElem? (i := 890) (by decide +kernel)⟩
theorem lw_p35 : lw_okq (⟨"StrawWatch$Draws", "weighSecond", "([I)V"⟩, 7) := ⟨⟨by decide +kernel, by decide +kernel⟩, List.mem_of_getElem? (i := 228) (by decide +kernel), List.mem_of_getElem? (i := 893) (by decide +kernel), List.mem_of_getElem? (i := 894) (by decide +kernel)⟩
theorem lw_p36 : lw_okq (⟨"StrawWatch$Draws", "isReached", "(I)Z"⟩, 7) := ⟨⟨by decide +kernel, by decide +kernel⟩, List.mem_of_getElem? (i := 228) (by decide +kernel), List.mem_of_getElem? (i := 897) (by decide +kernel), List.mem_of_getElem? (i := 898) (by decide +kernel)⟩
theorem lw_p37 : lw_okq (⟨"StrawWatch$Draws", "addWays", "(III)V"⟩, 7) := ⟨⟨by decide +kernel, by decide +kernel⟩, List.mem_of_getElem? (i := 228) (by decide +kernel), List.mem_of_getElem? (i := 901) (by decide +kernel), List.mem_of_getElem? (i := 902) (by decide +kernel)⟩
theorem lw_p38 : lw_okq (⟨"StrawWatch", "endOfTrial", "(I)I"⟩, 11) := ⟨⟨by decide +kernel, by decide +kernel⟩, List.mem_of_getElem? (i := 20) (by decide +kernel), List.mem_of_getElem? (i := 958) (by decide +kernel), List.mem_of_getElem? (i := 959) (by decide +kernel)⟩
theorem lw_p39 : lw_okq (⟨"StrawWatch", "timesCaptain", "(IIZ)I"⟩, 11) := ⟨⟨by decide +kernel, by decide +kernel⟩, List.mem_of_getElem? (i := 20) (by decide +kernel), List.mem_of_getElem? (i := 974) (by decide +kernel), List.mem_of_getElem? (i := 975) (by decide +kernel)⟩
theorem lw_p40 : lw_okq (⟨"StrawWatch", "voyagesWith", "(III)I"⟩, 11) := ⟨⟨by decide +kernel, by decide +kernel⟩, List.mem_of_getElem? (i := 20) (by decide +kernel), List.mem_of_getElem? (i := 986) (by decide +kernel), List.mem_of_getElem? (i := 987) (by decide +kernel)⟩
theorem lw_p41 : lw_okq (⟨"StrawWatch", "fitsLog", "(II)Z"⟩, 11) := ⟨⟨by decide +kernel, by decide +kernel⟩, List.mem_of_getElem? (i := 20) (by decide +kernel), List.mem_of_getElem? (i := 1034) (by decide +kernel), List.mem_of_getElem? (i := 1035) (by decide +kernel)⟩
theorem lw_p42 : lw_okq (⟨"StrawWatchModel", "plain", "(I)V"⟩, 73) := ⟨⟨by decide +kernel, by decide +kernel⟩, List.mem_of_getElem? (i := 1085) (by decide +kernel), List.mem_of_getElem? (i := 1091) (by decide +kernel), List.mem_of_getElem? (i := 1092) (by decide +kernel)⟩
theorem lw_p43 : lw_okq (⟨"StrawWatchModel", "begins", "()V"⟩, 73) := ⟨⟨by decide +kernel, by decide +kernel⟩, List.mem_of_getElem? (i := 1085) (by decide +kernel), List.mem_of_getElem? (i := 1102) (by decide +kernel), List.mem_of_getElem? (i := 1103) (by decide +kernel)⟩
theorem lw_p44 : lw_okq (⟨"StrawWatchModel", "beginsAt", "(I)V"⟩, 73) := ⟨⟨by decide +kernel, by decide +kernel⟩, List.mem_of_getElem? (i := 1085) (by decide +kernel), List.mem_of_getElem? (i := 1106) (by decide +kernel), List.mem_of_getElem? (i := 1107) (by decide +kernel)⟩
theorem lw_p45 : lw_okq (⟨"StrawWatchModel", "howOver", "()I"⟩, 73) := ⟨⟨by decide +kernel, by decide +kernel⟩, List.mem_of_getElem? (i := 1085) (by decide +kernel), List.mem_of_getElem? (i := 1110) (by decide +kernel), List.mem_of_getElem? (i := 1111) (by decide +kernel)⟩
theorem lw_p46 : lw_okq (⟨"StrawWatchModel", "keepsRow", "()V"⟩, 73) := ⟨⟨by decide +kernel, by decide +kernel⟩, List.mem_of_getElem? (i := 1085) (by decide +kernel), List.mem_of_getElem? (i := 1114) (by decide +kernel), List.mem_of_getElem? (i := 1115) (by decide +kernel)⟩
theorem lw_p47 : lw_okq (⟨"StrawWatchModel", "put", "(I)V"⟩, 73) := ⟨⟨by decide +kernel, by decide +kernel⟩, List.mem_of_getElem? (i := 1085) (by decide +kernel), List.mem_of_getElem? (i := 1341) (by decide +kernel), List.mem_of_getElem? (i := 1342) (by decide +kernel)⟩
def lw_privs_3 : List (MethodName × Nat) := [(⟨"StrawWatch$Draws", "noteDraw", "(II)V"⟩, 7), (⟨"StrawWatch$Draws", "weighOne", "([I)V"⟩, 7), (⟨"StrawWatch$Draws", "weighFirst", "(I[I)V"⟩, 7), (⟨"StrawWatch$Draws", "weighSecond", "([I)V"⟩, 7), (⟨"StrawWatch$Draws", "isReached", "(I)Z"⟩, 7), (⟨"StrawWatch$Draws", "addWays", "(III)V"⟩, 7), (⟨"StrawWatch", "endOfTrial", "(I)I"⟩, 11), (⟨"StrawWatch", "timesCaptain", "(IIZ)I"⟩, 11), (⟨"StrawWatch", "voyagesWith", "(III)I"⟩, 11), (⟨"StrawWatch", "fitsLog", "(II)Z"⟩, 11), (⟨"StrawWatchModel", "plain", "(I)V"⟩, 73), (⟨"StrawWatchModel", "begins", "()V"⟩, 73), (⟨"StrawWatchModel", "beginsAt", "(I)V"⟩, 73), (⟨"StrawWatchModel", "howOver", "()I"⟩, 73), (⟨"StrawWatchModel", "keepsRow", "()V"⟩, 73), (⟨"StrawWatchModel", "put", "(I)V"⟩, 73)]
theorem lw_r3 : ∀ q ∈ lw_privs_3, lw_okq q := List.forall_mem_cons.mpr ⟨lw_p32, List.forall_mem_cons.mpr ⟨lw_p33, List.forall_mem_cons.mpr ⟨lw_p34, List.forall_mem_cons.mpr ⟨lw_p35, List.forall_mem_cons.mpr ⟨lw_p36, List.forall_mem_cons.mpr ⟨lw_p37, List.forall_mem_cons.mpr ⟨lw_p38, List.forall_mem_cons.mpr ⟨lw_p39, List.forall_mem_cons.mpr ⟨lw_p40, List.forall_mem_cons.mpr ⟨lw_p41, List.forall_mem_cons.mpr ⟨lw_p42, List.forall_mem_cons.mpr ⟨lw_p43, List.forall_mem_cons.mpr ⟨lw_p44, List.forall_mem_cons.mpr ⟨lw_p45, List.forall_mem_cons.mpr ⟨lw_p46, List.forall_mem_cons.mpr ⟨lw_p47, fun _ h => absurd h List.not_mem_nil⟩⟩⟩⟩⟩⟩⟩⟩⟩⟩⟩⟩⟩⟩⟩⟩
theorem lw_p48 : lw_okq (⟨"StrawWatchModel", "cut", "()V"⟩, 73) := ⟨⟨by decide +kernel, by decide +kernel⟩, List.mem_of_getElem? (i := 1085) (by decide +kernel), List.mem_of_getElem? (i := 1353) (by decide +kernel), List.mem_of_getElem? (i := 1354) (by decide +kernel)⟩
theorem lw_p49 : lw_okq (⟨"StrawWatchModel", "byteAt", "(I)I"⟩, 73) := ⟨⟨by decide +kernel, by decide +kernel⟩, List.mem_of_getElem? (i := 1085) (by decide +kernel), List.mem_of_getElem? (i := 1357) (by decide +kernel), List.mem_of_getElem? (i := 1358) (by decide +kernel)⟩
theorem lw_p50 : lw_okq (⟨"StrawWatchModel", "token", "(IIIJ)V"⟩, 73) := ⟨⟨by decide +kernel, by decide +kernel⟩, List.mem_of_getElem? (i := 1085) (by decide +kernel), List.mem_of_getElem? (i := 1361) (by decide +kernel), List.mem_of_getElem? (i := 1362) (by decide +kernel)⟩
theorem lw_p51 : lw_okq (⟨"StrawWatchModel", "sign", "(III)I"⟩, 73) := ⟨⟨by decide +kernel, by decide +kernel⟩, List.mem_of_getElem? (i := 1085) (by decide +kernel), List.mem_of_getElem? (i := 1371) (by decide +kernel), List.mem_of_getElem? (i := 1372) (by decide +kernel)⟩
theorem lw_p52 : lw_okq (⟨"StrawWatchModel", "is", "(I)Z"⟩, 73) := ⟨⟨by decide +kernel, by decide +kernel⟩, List.mem_of_getElem? (i := 1085) (by decide +kernel), List.mem_of_getElem? (i := 1375) (by decide +kernel), List.mem_of_getElem? (i := 1376) (by decide +kernel)⟩
theorem lw_p53 : lw_okq (⟨"StrawWatchModel", "tellOne", "()V"⟩, 73) := ⟨⟨by decide +kernel, by decide +kernel⟩, List.mem_of_getElem? (i := 1085) (by decide +kernel), List.mem_of_getElem? (i := 1379) (by decide +kernel), List.mem_of_getElem? (i := 1380) (by decide +kernel)⟩
theorem lw_p54 : lw_okq (⟨"StrawWatchModel", "fail", "(I)V"⟩, 73) := ⟨⟨by decide +kernel, by decide +kernel⟩, List.mem_of_getElem? (i := 1085) (by decide +kernel), List.mem_of_getElem? (i := 1383) (by decide +kernel), List.mem_of_getElem? (i := 1384) (by decide +kernel)⟩
theorem lw_p55 : lw_okq (⟨"StrawWatchModel", "tellMan", "()V"⟩, 73) := ⟨⟨by decide +kernel, by decide +kernel⟩, List.mem_of_getElem? (i := 1085) (by decide +kernel), List.mem_of_getElem? (i := 1387) (by decide +kernel), List.mem_of_getElem? (i := 1388) (by decide +kernel)⟩
theorem lw_p56 : lw_okq (⟨"StrawWatchModel", "goesOn", "()V"⟩, 73) := ⟨⟨by decide +kernel, by decide +kernel⟩, List.mem_of_getElem? (i := 1085) (by decide +kernel), List.mem_of_getElem? (i := 1391) (by decide +kernel), List.mem_of_getElem? (i := 1392) (by decide +kernel)⟩
theorem lw_p57 : lw_okq (⟨"StrawWatchModel", "must", "(I)V"⟩, 73) := ⟨⟨by decide +kernel, by decide +kernel⟩, List.mem_of_getElem? (i := 1085) (by decide +kernel), List.mem_of_getElem? (i := 1395) (by decide +kernel), List.mem_of_getElem? (i := 1396) (by decide +kernel)⟩
theorem lw_p58 : lw_okq (⟨"StrawWatchModel", "wrong", "(II)V"⟩, 73) := ⟨⟨by decide +kernel, by decide +kernel⟩, List.mem_of_getElem? (i := 1085) (by decide +kernel), List.mem_of_getElem? (i := 1399) (by decide +kernel), List.mem_of_getElem? (i := 1400) (by decide +kernel)⟩
theorem lw_p59 : lw_okq (⟨"StrawWatchModel", "bounded", "(II)I"⟩, 73) := ⟨⟨by decide +kernel, by decide +kernel⟩, List.mem_of_getElem? (i := 1085) (by decide +kernel), List.mem_of_getElem? (i := 1403) (by decide +kernel), List.mem_of_getElem? (i := 1404) (by decide +kernel)⟩
theorem lw_p60 : lw_okq (⟨"StrawWatchModel", "tellLaw", "(I)V"⟩, 73) := ⟨⟨by decide +kernel, by decide +kernel⟩, List.mem_of_getElem? (i := 1085) (by decide +kernel), List.mem_of_getElem? (i := 1407) (by decide +kernel), List.mem_of_getElem? (i := 1408) (by decide +kernel)⟩
theorem lw_p61 : lw_okq (⟨"StrawWatchModel", "expression", "()V"⟩, 73) := ⟨⟨by decide +kernel, by decide +kernel⟩, List.mem_of_getElem? (i := 1085) (by decide +kernel), List.mem_of_getElem? (i := 1411) (by decide +kernel), List.mem_of_getElem? (i := 1412) (by decide +kernel)⟩
theorem lw_p62 : lw_okq (⟨"StrawWatchModel", "unit", "()V"⟩, 73) := ⟨⟨by decide +kernel, by decide +kernel⟩, List.mem_of_getElem? (i := 1085) (by decide +kernel), List.mem_of_getElem? (i := 1415) (by decide +kernel), List.mem_of_getElem? (i := 1416) (by decide +kernel)⟩
theorem lw_p63 : lw_okq (⟨"StrawWatchModel", "emit", "(II)V"⟩, 73) := ⟨⟨by decide +kernel, by decide +kernel⟩, List.mem_of_getElem? (i := 1085) (by decide +kernel), List.mem_of_getElem? (i := 1419) (by decide +kernel), List.mem_of_getElem? (i := 1420) (by decide +kernel)⟩
def lw_privs_4 : List (MethodName × Nat) := [(⟨"StrawWatchModel", "cut", "()V"⟩, 73), (⟨"StrawWatchModel", "byteAt", "(I)I"⟩, 73), (⟨"StrawWatchModel", "token", "(IIIJ)V"⟩, 73), (⟨"StrawWatchModel", "sign", "(III)I"⟩, 73), (⟨"StrawWatchModel", "is", "(I)Z"⟩, 73), (⟨"StrawWatchModel", "tellOne", "()V"⟩, 73), (⟨"StrawWatchModel", "fail", "(I)V"⟩, 73), (⟨"StrawWatchModel", "tellMan", "()V"⟩, 73), (⟨"StrawWatchModel", "goesOn", "()V"⟩, 73), (⟨"StrawWatchModel", "must", "(I)V"⟩, 73), (⟨"StrawWatchModel", "wrong", "(II)V"⟩, 73), (⟨"StrawWatchModel", "bounded", "(II)I"⟩, 73), (⟨"StrawWatchModel", "tellLaw", "(I)V"⟩, 73), (⟨"StrawWatchModel", "expression", "()V"⟩, 73), (⟨"StrawWatchModel", "unit", "()V"⟩, 73), (⟨"StrawWatchModel", "emit", "(II)V"⟩, 73)]
theorem lw_r4 : ∀ q ∈ lw_privs_4, lw_okq q := List.forall_mem_cons.mpr ⟨lw_p48, List.forall_mem_cons.mpr ⟨lw_p49, List.forall_mem_cons.mpr ⟨lw_p50, List.forall_mem_cons.mpr ⟨lw_p51, List.forall_mem_cons.mpr ⟨lw_p52, List.forall_mem_cons.mpr ⟨lw_p53, List.forall_mem_cons.mpr ⟨lw_p54, List.forall_mem_cons.mpr ⟨lw_p55, List.forall_mem_cons.mpr ⟨lw_p56, List.forall_mem_cons.mpr ⟨lw_p57, List.forall_mem_cons.mpr ⟨lw_p58, List.forall_mem_cons.mpr ⟨lw_p59, List.forall_mem_cons.mpr ⟨lw_p60, List.forall_mem_cons.mpr ⟨lw_p61, List.forall_mem_cons.mpr ⟨lw_p62, List.forall_mem_cons.mpr ⟨lw_p63, fun _ h => absurd h List.not_mem_nil⟩⟩⟩⟩⟩⟩⟩⟩⟩⟩⟩⟩⟩⟩⟩⟩
theorem lw_p64 : lw_okq (⟨"StrawWatchModel", "comesOut", "(Z)V"⟩, 73) := ⟨⟨by decide +kernel, by decide +kernel⟩, List.mem_of_getElem? (i := 1085) (by decide +kernel), List.mem_of_getElem? (i := 1423) (by decide +kernel), List.mem_of_getElem? (i := 1424) (by decide +kernel)⟩
theorem lw_p65 : lw_okq (⟨"StrawWatchModel", "term", "()V"⟩, 73) := ⟨⟨by decide +kernel, by decide +kernel⟩, List.mem_of_getElem? (i := 1085) (by decide +kernel), List.mem_of_getElem? (i := 1427) (by decide +kernel), List.mem_of_getElem? (i := 1428) (by decide +kernel)⟩
theorem lw_p66 : lw_okq (⟨"StrawWatchModel", "isMan", "(I)Z"⟩, 73) := ⟨⟨by decide +kernel, by decide +kernel⟩, List.mem_of_getElem? (i := 1085) (by decide +kernel), List.mem_of_getElem? (i := 1439) (by decide +kernel), List.mem_of_getElem? (i := 1440) (by decide +kernel)⟩
theorem lw_p67 : lw_okq (⟨"StrawWatchModel", "copies", "()V"⟩, 73) := ⟨⟨by decide +kernel, by decide +kernel⟩, List.mem_of_getElem? (i := 1085) (by decide +kernel), List.mem_of_getElem? (i := 1446) (by decide +kernel), List.mem_of_getElem? (i := 1447) (by decide +kernel)⟩
theorem lw_p68 : lw_okq (⟨"StrawWatchModel", "skillAt", "(II)I"⟩, 73) := ⟨⟨by decide +kernel, by decide +kernel⟩, List.mem_of_getElem? (i := 1085) (by decide +kernel), List.mem_of_getElem? (i := 1450) (by decide +kernel), List.mem_of_getElem? (i := 1451) (by decide +kernel)⟩
theorem lw_p69 : lw_okq (⟨"StrawWatchModel", "postOf", "(I)I"⟩, 73) := ⟨⟨by decide +kernel, by decide +kernel⟩, List.mem_of_getElem? (i := 1085) (by decide +kernel), List.mem_of_getElem? (i := 1454) (by decide +kernel), List.mem_of_getElem? (i := 1455) (by decide +kernel)⟩
theorem lw_p70 : lw_okq (⟨"StrawWatchModel", "shipIs", "(I)I"⟩, 73) := ⟨⟨by decide +kernel, by decide +kernel⟩, List.mem_of_getElem? (i := 1085) (by decide +kernel), List.mem_of_getElem? (i := 1466) (by decide +kernel), List.mem_of_getElem? (i := 1467) (by decide +kernel)⟩
theorem lw_p71 : lw_okq (⟨"StrawWatchModel", "windNow", "()I"⟩, 73) := ⟨⟨by decide +kernel, by decide +kernel⟩, List.mem_of_getElem? (i := 1085) (by decide +kernel), List.mem_of_getElem? (i := 1470) (by decide +kernel), List.mem_of_getElem? (i := 1471) (by decide +kernel)⟩
theorem lw_p72 : lw_okq (⟨"StrawWatchModel", "looks", "()V"⟩, 73) := ⟨⟨by decide +kernel, by decide +kernel⟩, List.mem_of_getElem? (i := 1085) (by decide +kernel), List.mem_of_getElem? (i := 1474) (by decide +kernel), List.mem_of_getElem? (i := 1475) (by decide +kernel)⟩
theorem lw_p73 : lw_okq (⟨"StrawWatchModel", "asks", "(IIII)I"⟩, 73) := ⟨⟨by decide +kernel, by decide +kernel⟩, List.mem_of_getElem? (i := 1085) (by decide +kernel), List.mem_of_getElem? (i := 1478) (by decide +kernel), List.mem_of_getElem? (i := 1479) (by decide +kernel)⟩
theorem lw_p74 : lw_okq (⟨"StrawWatchModel", "lawTells", "(I)I"⟩, 73) := ⟨⟨by decide +kernel, by decide +kernel⟩, List.mem_of_getElem? (i := 1085) (by decide +kernel), List.mem_of_getElem? (i := 1482) (by decide +kernel), List.mem_of_getElem? (i := 1483) (by decide +kernel)⟩
theorem lw_p75 : lw_okq (⟨"StrawWatchModel", "termOf", "(II)I"⟩, 73) := ⟨⟨by decide +kernel, by decide +kernel⟩, List.mem_of_getElem? (i := 1085) (by decide +kernel), List.mem_of_getElem? (i := 1486) (by decide +kernel), List.mem_of_getElem? (i := 1487) (by decide +kernel)⟩
theorem lw_p76 : lw_okq (⟨"StrawWatchModel", "dangerNow", "()I"⟩, 73) := ⟨⟨by decide +kernel, by decide +kernel⟩, List.mem_of_getElem? (i := 1085) (by decide +kernel), List.mem_of_getElem? (i := 1490) (by decide +kernel), List.mem_of_getElem? (i := 1491) (by decide +kernel)⟩
theorem lw_p77 : lw_okq (⟨"StrawWatchModel", "keeps", "()V"⟩, 73) := ⟨⟨by decide +kernel, by decide +kernel⟩, List.mem_of_getElem? (i := 1085) (by decide +kernel), List.mem_of_getElem? (i := 1498) (by decide +kernel), List.mem_of_getElem? (i := 1499) (by decide +kernel)⟩
theorem lw_p78 : lw_okq (⟨"StrawWatchModel", "isCrew", "(I)Z"⟩, 73) := ⟨⟨by decide +kernel, by decide +kernel⟩, List.mem_of_getElem? (i := 1085) (by decide +kernel), List.mem_of_getElem? (i := 1506) (by decide +kernel), List.mem_of_getElem? (i := 1507) (by decide +kernel)⟩
theorem lw_p79 : lw_okq (⟨"StrawWatchModel", "sails", "()I"⟩, 73) := ⟨⟨by decide +kernel, by decide +kernel⟩, List.mem_of_getElem? (i := 1085) (by decide +kernel), List.mem_of_getElem? (i := 1513) (by decide +kernel), List.mem_of_getElem? (i := 1514) (by decide +kernel)⟩
def lw_privs_5 : List (MethodName × Nat) := [(⟨"StrawWatchModel", "comesOut", "(Z)V"⟩, 73), (⟨"StrawWatchModel", "term", "()V"⟩, 73), (⟨"StrawWatchModel", "isMan", "(I)Z"⟩, 73), (⟨"StrawWatchModel", "copies", "()V"⟩, 73), (⟨"StrawWatchModel", "skillAt", "(II)I"⟩, 73), (⟨"StrawWatchModel", "postOf", "(I)I"⟩, 73), (⟨"StrawWatchModel", "shipIs", "(I)I"⟩, 73), (⟨"StrawWatchModel", "windNow", "()I"⟩, 73), (⟨"StrawWatchModel", "looks", "()V"⟩, 73), (⟨"StrawWatchModel", "asks", "(IIII)I"⟩, 73), (⟨"StrawWatchModel", "lawTells", "(I)I"⟩, 73), (⟨"StrawWatchModel", "termOf", "(II)I"⟩, 73), (⟨"StrawWatchModel", "dangerNow", "()I"⟩, 73), (⟨"StrawWatchModel", "keeps", "()V"⟩, 73), (⟨"StrawWatchModel", "isCrew", "(I)Z"⟩, 73), (⟨"StrawWatchModel", "sails", "()I"⟩, 73)]
theorem lw_r5 : ∀ q ∈ lw_privs_5, lw_okq q := List.forall_mem_cons.mpr ⟨lw_p64, List.forall_mem_cons.mpr ⟨lw_p65, List.forall_mem_cons.mpr ⟨lw_p66, List.forall_mem_cons.mpr ⟨lw_p67, List.forall_mem_cons.mpr ⟨lw_p68, List.forall_mem_cons.mpr ⟨lw_p69, List.forall_mem_cons.mpr ⟨lw_p70, List.forall_mem_cons.mpr ⟨lw_p71, List.forall_mem_cons.mpr ⟨lw_p72, List.forall_mem_cons.mpr ⟨lw_p73, List.forall_mem_cons.mpr ⟨lw_p74, List.forall_mem_cons.mpr ⟨lw_p75, List.forall_mem_cons.mpr ⟨lw_p76, List.forall_mem_cons.mpr ⟨lw_p77, List.forall_mem_cons.mpr ⟨lw_p78, List.forall_mem_cons.mpr ⟨lw_p79, fun _ h => absurd h List.not_mem_nil⟩⟩⟩⟩⟩⟩⟩⟩⟩⟩⟩⟩⟩⟩⟩⟩
theorem lw_p80 : lw_okq (⟨"StrawWatchModel", "weathers", "()V"⟩, 73) := ⟨⟨by decide +kernel, by decide +kernel⟩, List.mem_of_getElem? (i := 1085) (by decide +kernel), List.mem_of_getElem? (i := 1517) (by decide +kernel), List.mem_of_getElem? (i := 1518) (by decide +kernel)⟩
theorem lw_p81 : lw_okq (⟨"StrawWatchModel", "ordersOf", "(I)I"⟩, 73) := ⟨⟨by decide +kernel, by decide +kernel⟩, List.mem_of_getElem? (i := 1085) (by decide +kernel), List.mem_of_getElem? (i := 1521) (by decide +kernel), List.mem_of_getElem? (i := 1522) (by decide +kernel)⟩
theorem lw_p82 : lw_okq (⟨"StrawWatchModel", "fillsDoing", "(IIIII)V"⟩, 73) := ⟨⟨by decide +kernel, by decide +kernel⟩, List.mem_of_getElem? (i := 1085) (by decide +kernel), List.mem_of_getElem? (i := 1527) (by decide +kernel), List.mem_of_getElem? (i := 1528) (by decide +kernel)⟩
theorem lw_p83 : lw_okq (⟨"StrawWatchModel", "watchGoes", "()Z"⟩, 73) := ⟨⟨by decide +kernel, by decide +kernel⟩, List.mem_of_getElem? (i := 1085) (by decide +kernel), List.mem_of_getElem? (i := 1538) (by decide +kernel), List.mem_of_getElem? (i := 1539) (by decide +kernel)⟩
theorem lw_p84 : lw_okq (⟨"StrawWatchModel", "draws", "()V"⟩, 73) := ⟨⟨by decide +kernel, by decide +kernel⟩, List.mem_of_getElem? (i := 1085) (by decide +kernel), List.mem_of_getElem? (i := 1542) (by decide +kernel), List.mem_of_getElem? (i := 1543) (by decide +kernel)⟩
theorem lw_p85 : lw_okq (⟨"StrawWatchModel", "lotOf", "(II)I"⟩, 73) := ⟨⟨by decide +kernel, by decide +kernel⟩, List.mem_of_getElem? (i := 1085) (by decide +kernel), List.mem_of_getElem? (i := 1546) (by decide +kernel), List.mem_of_getElem? (i := 1547) (by decide +kernel)⟩
theorem lw_p86 : lw_okq (⟨"StrawWatchModel", "isAsked", "(II)Z"⟩, 73) := ⟨⟨by decide +kernel, by decide +kernel⟩, List.mem_of_getElem? (i := 1085) (by decide +kernel), List.mem_of_getElem? (i := 1576) (by decide +kernel), List.mem_of_getElem? (i := 1577) (by decide +kernel)⟩
theorem lw_p87 : lw_okq (⟨"StrawWatchModel", "isDraw", "(I)Z"⟩, 73) := ⟨⟨by decide +kernel, by decide +kernel⟩, List.mem_of_getElem? (i := 1085) (by decide +kernel), List.mem_of_getElem? (i := 1581) (by decide +kernel), List.mem_of_getElem? (i := 1582) (by decide +kernel)⟩
theorem lw_p88 : lw_okq (⟨"StrawWatchModel", "fillsDraw", "(II)V"⟩, 73) := ⟨⟨by decide +kernel, by decide +kernel⟩, List.mem_of_getElem? (i := 1085) (by decide +kernel), List.mem_of_getElem? (i := 1591) (by decide +kernel), List.mem_of_getElem? (i := 1592) (by decide +kernel)⟩
theorem lw_p89 : lw_okq (⟨"StrawWatchModel", "drawsAll", "()I"⟩, 73) := ⟨⟨by decide +kernel, by decide +kernel⟩, List.mem_of_getElem? (i := 1085) (by decide +kernel), List.mem_of_getElem? (i := 1595) (by decide +kernel), List.mem_of_getElem? (i := 1596) (by decide +kernel)⟩
theorem lw_p90 : lw_okq (⟨"StrawWatchModel", "fillsSafest", "(I)V"⟩, 73) := ⟨⟨by decide +kernel, by decide +kernel⟩, List.mem_of_getElem? (i := 1085) (by decide +kernel), List.mem_of_getElem? (i := 1611) (by decide +kernel), List.mem_of_getElem? (i := 1612) (by decide +kernel)⟩
theorem lw_p91 : lw_okq (⟨"StrawWatchModel", "fillsFirst", "(I)V"⟩, 73) := ⟨⟨by decide +kernel, by decide +kernel⟩, List.mem_of_getElem? (i := 1085) (by decide +kernel), List.mem_of_getElem? (i := 1615) (by decide +kernel), List.mem_of_getElem? (i := 1616) (by decide +kernel)⟩
theorem lw_p92 : lw_okq (⟨"StrawWatchModel", "safeOf", "(III)I"⟩, 73) := ⟨⟨by decide +kernel, by decide +kernel⟩, List.mem_of_getElem? (i := 1085) (by decide +kernel), List.mem_of_getElem? (i := 1619) (by decide +kernel), List.mem_of_getElem? (i := 1620) (by decide +kernel)⟩
theorem lw_p93 : lw_okq (⟨"StrawWatchModel", "safeBehind", "(III)I"⟩, 73) := ⟨⟨by decide +kernel, by decide +kernel⟩, List.mem_of_getElem? (i := 1085) (by decide +kernel), List.mem_of_getElem? (i := 1623) (by decide +kernel), List.mem_of_getElem? (i := 1624) (by decide +kernel)⟩
theorem lw_p94 : lw_okq (⟨"StrawWatchModel", "fillsBehind", "(I)V"⟩, 73) := ⟨⟨by decide +kernel, by decide +kernel⟩, List.mem_of_getElem? (i := 1085) (by decide +kernel), List.mem_of_getElem? (i := 1627) (by decide +kernel), List.mem_of_getElem? (i := 1628) (by decide +kernel)⟩
theorem lw_p95 : lw_okq (⟨"StrawWatchModel", "fillsRoster", "()V"⟩, 73) := ⟨⟨by decide +kernel, by decide +kernel⟩, List.mem_of_getElem? (i := 1085) (by decide +kernel), List.mem_of_getElem? (i := 1639) (by decide +kernel), List.mem_of_getElem? (i := 1640) (by decide +kernel)⟩
def lw_privs_6 : List (MethodName × Nat) := [(⟨"StrawWatchModel", "weathers", "()V"⟩, 73), (⟨"StrawWatchModel", "ordersOf", "(I)I"⟩, 73), (⟨"StrawWatchModel", "fillsDoing", "(IIIII)V"⟩, 73), (⟨"StrawWatchModel", "watchGoes", "()Z"⟩, 73), (⟨"StrawWatchModel", "draws", "()V"⟩, 73), (⟨"StrawWatchModel", "lotOf", "(II)I"⟩, 73), (⟨"StrawWatchModel", "isAsked", "(II)Z"⟩, 73), (⟨"StrawWatchModel", "isDraw", "(I)Z"⟩, 73), (⟨"StrawWatchModel", "fillsDraw", "(II)V"⟩, 73), (⟨"StrawWatchModel", "drawsAll", "()I"⟩, 73), (⟨"StrawWatchModel", "fillsSafest", "(I)V"⟩, 73), (⟨"StrawWatchModel", "fillsFirst", "(I)V"⟩, 73), (⟨"StrawWatchModel", "safeOf", "(III)I"⟩, 73), (⟨"StrawWatchModel", "safeBehind", "(III)I"⟩, 73), (⟨"StrawWatchModel", "fillsBehind", "(I)V"⟩, 73), (⟨"StrawWatchModel", "fillsRoster", "()V"⟩, 73)]
theorem lw_r6 : ∀ q ∈ lw_privs_6, lw_okq q := List.forall_mem_cons.mpr ⟨lw_p80, List.forall_mem_cons.mpr ⟨lw_p81, List.forall_mem_cons.mpr ⟨lw_p82, List.forall_mem_cons.mpr ⟨lw_p83, List.forall_mem_cons.mpr ⟨lw_p84, List.forall_mem_cons.mpr ⟨lw_p85, List.forall_mem_cons.mpr ⟨lw_p86, List.forall_mem_cons.mpr ⟨lw_p87, List.forall_mem_cons.mpr ⟨lw_p88, List.forall_mem_cons.mpr ⟨lw_p89, List.forall_mem_cons.mpr ⟨lw_p90, List.forall_mem_cons.mpr ⟨lw_p91, List.forall_mem_cons.mpr ⟨lw_p92, List.forall_mem_cons.mpr ⟨lw_p93, List.forall_mem_cons.mpr ⟨lw_p94, List.forall_mem_cons.mpr ⟨lw_p95, fun _ h => absurd h List.not_mem_nil⟩⟩⟩⟩⟩⟩⟩⟩⟩⟩⟩⟩⟩⟩⟩⟩
theorem lw_p96 : lw_okq (⟨"StrawWatchModel", "skillBy", "(I)I"⟩, 73) := ⟨⟨by decide +kernel, by decide +kernel⟩, List.mem_of_getElem? (i := 1085) (by decide +kernel), List.mem_of_getElem? (i := 1643) (by decide +kernel), List.mem_of_getElem? (i := 1644) (by decide +kernel)⟩
theorem lw_p97 : lw_okq (⟨"StrawWatchModel", "goes", "(I)V"⟩, 73) := ⟨⟨by decide +kernel, by decide +kernel⟩, List.mem_of_getElem? (i := 1085) (by decide +kernel), List.mem_of_getElem? (i := 1662) (by decide +kernel), List.mem_of_getElem? (i := 1663) (by decide +kernel)⟩
theorem lw_p98 : lw_okq (⟨"StrawWatchModel", "endsBy", "(I)I"⟩, 73) := ⟨⟨by decide +kernel, by decide +kernel⟩, List.mem_of_getElem? (i := 1085) (by decide +kernel), List.mem_of_getElem? (i := 1674) (by decide +kernel), List.mem_of_getElem? (i := 1675) (by decide +kernel)⟩
theorem lw_p99 : lw_okq (⟨"StrawWatchModel", "captainIn", "(III)I"⟩, 73) := ⟨⟨by decide +kernel, by decide +kernel⟩, List.mem_of_getElem? (i := 1085) (by decide +kernel), List.mem_of_getElem? (i := 1686) (by decide +kernel), List.mem_of_getElem? (i := 1687) (by decide +kernel)⟩
theorem lw_p100 : lw_okq (⟨"StrawWatchModel", "isSo", "(II)Z"⟩, 73) := ⟨⟨by decide +kernel, by decide +kernel⟩, List.mem_of_getElem? (i := 1085) (by decide +kernel), List.mem_of_getElem? (i := 1726) (by decide +kernel), List.mem_of_getElem? (i := 1727) (by decide +kernel)⟩
def lw_privs_7 : List (MethodName × Nat) := [(⟨"StrawWatchModel", "skillBy", "(I)I"⟩, 73), (⟨"StrawWatchModel", "goes", "(I)V"⟩, 73), (⟨"StrawWatchModel", "endsBy", "(I)I"⟩, 73), (⟨"StrawWatchModel", "captainIn", "(III)I"⟩, 73), (⟨"StrawWatchModel", "isSo", "(II)Z"⟩, 73)]
theorem lw_r7 : ∀ q ∈ lw_privs_7, lw_okq q := List.forall_mem_cons.mpr ⟨lw_p96, List.forall_mem_cons.mpr ⟨lw_p97, List.forall_mem_cons.mpr ⟨lw_p98, List.forall_mem_cons.mpr ⟨lw_p99, List.forall_mem_cons.mpr ⟨lw_p100, fun _ h => absurd h List.not_mem_nil⟩⟩⟩⟩⟩
def lw_privs : List (MethodName × Nat) := lw_privs_1 ++ (lw_privs_2 ++ (lw_privs_3 ++ (lw_privs_4 ++ (lw_privs_5 ++ (lw_privs_6 ++ (lw_privs_7))))))
def lw_tbl : List Cond := k2_sels lw_privs ++ tables_1
theorem lw_privs_ok : ∀ q ∈ lw_privs, lw_okq q := by
  show ∀ q ∈ lw_privs_1 ++ (lw_privs_2 ++ (lw_privs_3 ++ (lw_privs_4 ++ (lw_privs_5 ++ (lw_privs_6 ++ (lw_privs_7)))))), lw_okq q
  exact List.forall_mem_append.mpr ⟨lw_r1, List.forall_mem_append.mpr ⟨lw_r2, List.forall_mem_append.mpr ⟨lw_r3, List.forall_mem_append.mpr ⟨lw_r4, List.forall_mem_append.mpr ⟨lw_r5, List.forall_mem_append.mpr ⟨lw_r6, lw_r7⟩⟩⟩⟩⟩⟩
end
section
/-! THE MINI MACHINE: frames, locals as a list of pairs, a heap as a list of cells (the cell number k stands at the address base + k); a deterministic step. Array kinds: 0 int, 1 byte, 2 boolean, 3 long, 4 references. -/
/-- a decoded instruction: pc, length, instruction, two resolved numbers, a constant, the place of its link word -/
abbrev mm_I : Type := Nat × Nat × Instr × Nat × Nat × Int × Nat
abbrev mm_V : Type := List (Nat × Value)
abbrev mm_H : Type := List va_E
/-- a static int array: address, length, contents -/
abbrev mm_S : Type := Nat × Nat × (Nat → Int32)
abbrev mm_E : Type := Nat × List mm_S
/-- a frame: method, pc, locals, stack, cells and slots that it may still make -/
abbrev mm_F : Type := Nat × Nat × mm_V × List Value × Nat × Nat
/-- what a simple instruction leaves -/
abbrev mm_O : Type := Option (Nat × mm_V × List Value × Nat × Nat × mm_H)
/-- a method for the mini machine: parameters (without the receiver), kind (0 static, 1 virtual, 2 constructor, 3 native copy), class number of the receiver, return kind (0 void, 1 int, 2 boolean, 3 long), cells, slots -/
abbrev mm_M : Type := Nat × Nat × Nat × Nat × Nat × Nat
def mm_get (lv : mm_V) (i : Nat) : Option Value := (lv.find? (fun q => q.1 == i)).map (fun q => q.2)
def mm_p1 (lv : mm_V) (i : Nat) (v : Value) : mm_V := (i, v) :: lv.filter (fun q => !(q.1 == i) && !(q.1 + 1 == i && q.2.category == 2))
def mm_p2 (lv : mm_V) (i : Nat) (v : Value) : mm_V := (i, v) :: lv.filter (fun q => !(q.1 == i) && (!(q.1 == i + 1) && !(q.1 + 1 == i && q.2.category == 2)))
def mm_cell (E : mm_E) (h : mm_H) (a : Nat) : Option va_E := if E.1 ≤ a then h[a - E.1]? else none
def mm_stat (E : mm_E) (a : Nat) : Option mm_S := if E.1 ≤ a then none else E.2.find? (fun q => q.1 == a)
def mm_cond (k : Jvm.ClassFile.Cond) (x y : Int32) : Bool := match k with
  | .eq => decide (x = y)
  | .ne => decide (¬ x = y)
  | .lt => decide (x < y)
  | .ge => decide (y ≤ x)
  | .gt => decide (y < x)
  | .le => decide (x ≤ y)
def mm_jump (lv : mm_V) (st : List Value) (cb sb : Nat) (h : mm_H) (pc : Nat) (off : Int) : mm_O := if 0 ≤ (pc : Int) + off then some (((pc : Int) + off).toNat, lv, st, cb, sb, h) else none
/-- the value of a local of a kind: 0 int, 1 long, 2 reference -/
def mm_kind (v : Value) : Nat := match v with
  | .int _ => 0
  | .long _ => 1
  | .ref _ => 2
  | .null => 3
  | _ => 4
def mm_load (lv : mm_V) (st : List Value) (cb sb : Nat) (h : mm_H) (pc' : Nat) (kd i : Nat) : mm_O := match mm_get lv i with
  | some v => if mm_kind v = kd then some (pc', lv, v :: st, cb, sb, h) else none
  | none => none
def mm_store (nL : Nat) (lv : mm_V) (st : List Value) (cb sb : Nat) (h : mm_H) (pc' : Nat) (kd i : Nat) : mm_O := match st with
  | v :: r => if mm_kind v = kd then (if kd = 1 then (if i + 1 < nL then some (pc', mm_p2 lv i v, r, cb, sb, h) else none) else (if i < nL then some (pc', mm_p1 lv i v, r, cb, sb, h) else none)) else none
  | [] => none
def mm_bin (lv : mm_V) (st : List Value) (cb sb : Nat) (h : mm_H) (pc' : Nat) (g : Int32 → Int32 → Option Int32) : mm_O := match st with
  | .int y :: .int x :: r => (g x y).map (fun v => (pc', lv, .int v :: r, cb, sb, h))
  | _ => none
def mm_binL (lv : mm_V) (st : List Value) (cb sb : Nat) (h : mm_H) (pc' : Nat) (g : Int64 → Int64 → Value) : mm_O := match st with
  | .long y :: .long x :: r => some (pc', lv, g x y :: r, cb, sb, h)
  | _ => none
def mm_un (lv : mm_V) (st : List Value) (cb sb : Nat) (h : mm_H) (pc' : Nat) (g : Int32 → Value) : mm_O := match st with
  | .int x :: r => some (pc', lv, g x :: r, cb, sb, h)
  | _ => none
def mm_inr (i : Int32) (n : Nat) : Bool := decide (0 ≤ i.toInt) && decide (i.toInt < (n : Int))
def mm_ald (E : mm_E) (lv : mm_V) (st : List Value) (cb sb : Nat) (h : mm_H) (pc' : Nat) (kd kd2 : Nat) : mm_O := match st with
  | .int i :: .ref a :: r => match mm_cell E h a with
    | some (.inl (t, n, .inl f)) => if (t = kd ∨ t = kd2) ∧ mm_inr i n = true then some (pc', lv, .int (f i.toNatClampNeg) :: r, cb, sb, h) else none
    | some _ => none
    | none => match mm_stat E a with
      | some (_, n, f) => if kd = 0 ∧ mm_inr i n = true then some (pc', lv, .int (f i.toNatClampNeg) :: r, cb, sb, h) else none
      | none => none
  | _ => none
def mm_nar (t : Nat) (x : Int32) : Int32 := if t = 0 then x else if t = 1 then vp_nar .byte x else vp_nar .boolean x
def mm_ast (E : mm_E) (lv : mm_V) (st : List Value) (cb sb : Nat) (h : mm_H) (pc' : Nat) (kd kd2 : Nat) : mm_O := match st with
  | .int x :: .int i :: .ref a :: r => match mm_cell E h a with
    | some (.inl (t, n, .inl f)) => if (t = kd ∨ t = kd2) ∧ mm_inr i n = true then some (pc', lv, r, cb, sb, h.set (a - E.1) (.inl (t, n, .inl (upd f i.toNatClampNeg (mm_nar t x))))) else none
    | _ => none
  | _ => none
def mm_lald (E : mm_E) (lv : mm_V) (st : List Value) (cb sb : Nat) (h : mm_H) (pc' : Nat) : mm_O := match st with
  | .int i :: .ref a :: r => match mm_cell E h a with
    | some (.inl (t, n, .inr (.inl f))) => if t = 3 ∧ mm_inr i n = true then some (pc', lv, .long (f i.toNatClampNeg) :: r, cb, sb, h) else none
    | _ => none
  | _ => none
def mm_last (E : mm_E) (lv : mm_V) (st : List Value) (cb sb : Nat) (h : mm_H) (pc' : Nat) : mm_O := match st with
  | .long x :: .int i :: .ref a :: r => match mm_cell E h a with
    | some (.inl (t, n, .inr (.inl f))) => if t = 3 ∧ mm_inr i n = true then some (pc', lv, r, cb, sb, h.set (a - E.1) (.inl (t, n, .inr (.inl (vp_updL f i.toNatClampNeg x))))) else none
    | _ => none
  | _ => none
def mm_aald (E : mm_E) (lv : mm_V) (st : List Value) (cb sb : Nat) (h : mm_H) (pc' : Nat) : mm_O := match st with
  | .int i :: .ref a :: r => match mm_cell E h a with
    | some (.inl (t, n, .inr (.inr (.inr (.inr f))))) => if t = 4 ∧ mm_inr i n = true then some (pc', lv, va_rf (f i.toNatClampNeg) :: r, cb, sb, h) else none
    | _ => none
  | _ => none
def mm_alen (E : mm_E) (lv : mm_V) (st : List Value) (cb sb : Nat) (h : mm_H) (pc' : Nat) : mm_O := match st with
  | .ref a :: r => match mm_cell E h a with
    | some (.inl (t, n, _)) => if t < 5 then some (pc', lv, .int (Int32.ofNat n) :: r, cb, sb, h) else none
    | some (.inr _) => none
    | none => match mm_stat E a with
      | some (_, n, _) => some (pc', lv, .int (Int32.ofNat n) :: r, cb, sb, h)
      | none => none
  | _ => none
def mm_getf (E : mm_E) (lv : mm_V) (st : List Value) (cb sb : Nat) (h : mm_H) (pc' : Nat) (ci k : Nat) : mm_O := match st with
  | .ref a :: r => match mm_cell E h a with
    | some (.inr (c, fs)) => if c = ci then (match fs[k]? with
      | some v => some (pc', lv, v :: r, cb, sb, h)
      | none => none) else none
    | _ => none
  | _ => none
/-- may a value stand in a field of a kind: 0 int, 1 long, 2 boolean, 3 reference -/
def mm_fits (kd : Nat) (v : Value) : Bool := match v with
  | .int x => decide (kd = 0) || (decide (kd = 2) && (decide (x = 0) || decide (x = 1)))
  | .long _ => decide (kd = 1)
  | .ref _ => decide (kd = 3)
  | .null => decide (kd = 3)
  | _ => false
def mm_putf (E : mm_E) (lv : mm_V) (st : List Value) (cb sb : Nat) (h : mm_H) (pc' : Nat) (ci k : Nat) (kd : Nat) : mm_O := match st with
  | v :: .ref a :: r => match mm_cell E h a with
    | some (.inr (c, fs)) => if c = ci ∧ k < fs.length ∧ mm_fits kd v = true then some (pc', lv, r, cb, sb, h.set (a - E.1) (.inr (c, fs.set k v))) else none
    | _ => none
  | _ => none
/-- the default of a field of a kind -/
def mm_dflt (kd : Nat) : Value := match kd with
  | 0 => .int 0
  | 1 => .long 0
  | 2 => .int 0
  | _ => .null
def mm_new (E : mm_E) (lv : mm_V) (st : List Value) (cb sb : Nat) (h : mm_H) (pc' : Nat) (ci : Nat) (kds : List Nat) : mm_O :=
  if 1 ≤ cb ∧ kds.length ≤ sb then some (pc', lv, .ref (E.1 + h.length) :: st, cb - 1, sb - kds.length, h ++ [.inr (ci, kds.map mm_dflt)]) else none
def mm_newa (E : mm_E) (lv : mm_V) (st : List Value) (cb sb : Nat) (h : mm_H) (pc' : Nat) (t : ArrayType) : mm_O := match st with
  | .int n :: r => if 0 ≤ n.toInt ∧ n.toInt ≤ 100000 ∧ 1 ≤ cb ∧ n.toNatClampNeg ≤ sb then (match t with
    | .int => some (pc', lv, .ref (E.1 + h.length) :: r, cb - 1, sb - n.toNatClampNeg, h ++ [.inl (0, n.toNatClampNeg, .inl (fun _ => 0))])
    | .byte => some (pc', lv, .ref (E.1 + h.length) :: r, cb - 1, sb - n.toNatClampNeg, h ++ [.inl (1, n.toNatClampNeg, .inl (fun _ => 0))])
    | .boolean => some (pc', lv, .ref (E.1 + h.length) :: r, cb - 1, sb - n.toNatClampNeg, h ++ [.inl (2, n.toNatClampNeg, .inl (fun _ => 0))])
    | .long => some (pc', lv, .ref (E.1 + h.length) :: r, cb - 1, sb - n.toNatClampNeg, h ++ [.inl (3, n.toNatClampNeg, .inr (.inl (fun _ => 0)))])
    | _ => none) else none
  | _ => none
def mm_newm (E : mm_E) (lv : mm_V) (st : List Value) (cb sb : Nat) (h : mm_H) (pc' : Nat) : mm_O := match st with
  | .int k :: .int n :: r => if 0 ≤ n.toInt ∧ n.toInt ≤ 10000 ∧ 0 ≤ k.toInt ∧ k.toInt ≤ 10000 ∧ 1 + n.toNatClampNeg ≤ cb ∧ n.toNatClampNeg + n.toNatClampNeg * k.toNatClampNeg ≤ sb then
      some (pc', lv, .ref (E.1 + h.length) :: r, cb - (1 + n.toNatClampNeg), sb - (n.toNatClampNeg + n.toNatClampNeg * k.toNatClampNeg),
        h ++ (.inl (4, n.toNatClampNeg, .inr (.inr (.inr (.inr (fun i => if i < n.toNatClampNeg then some (E.1 + h.length + 1 + i) else none))))) :: List.replicate n.toNatClampNeg (.inl (0, k.toNatClampNeg, .inl (fun _ => 0))))) else none
  | _ => none
/-- System.arraycopy of two int arrays -/
def mm_copy (E : mm_E) (lv : mm_V) (st : List Value) (cb sb : Nat) (h : mm_H) (pc' : Nat) : mm_O := match st with
  | .int n :: .int dp :: .ref a :: .int sp :: .ref a0 :: r => match mm_cell E h a0, mm_cell E h a with
    | some (.inl (t0, n0, .inl f)), some (.inl (t1, n1, .inl g)) => if t0 = 0 ∧ t1 = 0 ∧ 0 ≤ n.toInt ∧ 0 ≤ dp.toInt ∧ 0 ≤ sp.toInt ∧ sp.toNatClampNeg + n.toNatClampNeg ≤ n0 ∧ dp.toNatClampNeg + n.toNatClampNeg ≤ n1 ∧ (r.map fun v => v.category).sum ≤ 8 then
        some (pc', lv, r, cb, sb, h.set (a - E.1) (.inl (t1, n1, .inl (va_cpy f g sp.toNatClampNeg dp.toNatClampNeg n.toNatClampNeg)))) else none
    | _, _ => none
  | _ => none
def mm_sw (lv : mm_V) (st : List Value) (cb sb : Nat) (h : mm_H) (pc : Nat) (dflt lo hi : Int) (offs : Array Int) : mm_O := match st with
  | .int x :: r => if x.toInt < lo ∨ hi < x.toInt then mm_jump lv r cb sb h pc dflt else (match offs[(x.toInt - lo).toNat]? with
    | some off => mm_jump lv r cb sb h pc off
    | none => none)
  | _ => none
/-- a simple instruction: no frame comes or goes -/
def mm_ex (E : mm_E) (kds : List (List Nat)) (nL : Nat) (ins : Instr) (len a b : Nat) (z : Int) (pc : Nat) (lv : mm_V) (st : List Value) (cb sb : Nat) (h : mm_H) : mm_O := match ins with
  | .iconst n => some (pc + len, lv, .int (Int32.ofInt n) :: st, cb, sb, h)
  | .bipush n => some (pc + len, lv, .int (Int8.ofInt n).toInt32 :: st, cb, sb, h)
  | .sipush n => some (pc + len, lv, .int (Int16.ofInt n).toInt32 :: st, cb, sb, h)
  | .lconst n => some (pc + len, lv, .long (Int64.ofNat (n : Nat)) :: st, cb, sb, h)
  | .ldc _ => some (pc + len, lv, .int (Int32.ofInt z) :: st, cb, sb, h)
  | .ldc_w _ => some (pc + len, lv, .int (Int32.ofInt z) :: st, cb, sb, h)
  | .ldc2_w _ => some (pc + len, lv, .long (Int64.ofInt z) :: st, cb, sb, h)
  | .iload_n k => mm_load lv st cb sb h (pc + len) 0 k
  | .iload k => mm_load lv st cb sb h (pc + len) 0 k
  | .lload_n k => mm_load lv st cb sb h (pc + len) 1 k
  | .lload k => mm_load lv st cb sb h (pc + len) 1 k
  | .aload_n k => mm_load lv st cb sb h (pc + len) 2 k
  | .aload k => mm_load lv st cb sb h (pc + len) 2 k
  | .istore_n k => mm_store nL lv st cb sb h (pc + len) 0 k
  | .istore k => mm_store nL lv st cb sb h (pc + len) 0 k
  | .lstore_n k => mm_store nL lv st cb sb h (pc + len) 1 k
  | .lstore k => mm_store nL lv st cb sb h (pc + len) 1 k
  | .astore_n k => mm_store nL lv st cb sb h (pc + len) 2 k
  | .astore k => mm_store nL lv st cb sb h (pc + len) 2 k
  | .iinc i n => match mm_get lv i with
    | some (.int x) => if i < nL then some (pc + len, mm_p1 lv i (.int (x + Int32.ofInt n)), st, cb, sb, h) else none
    | _ => none
  | .iadd => mm_bin lv st cb sb h (pc + len) (fun x y => some (x + y))
  | .isub => mm_bin lv st cb sb h (pc + len) (fun x y => some (x - y))
  | .imul => mm_bin lv st cb sb h (pc + len) (fun x y => some (x * y))
  | .idiv => mm_bin lv st cb sb h (pc + len) (fun x y => if y = 0 then none else some (x / y))
  | .irem => mm_bin lv st cb sb h (pc + len) (fun x y => if y = 0 then none else some (x - x / y * y))
  | .iand => mm_bin lv st cb sb h (pc + len) (fun x y => some (x &&& y))
  | .ior => mm_bin lv st cb sb h (pc + len) (fun x y => some (x ||| y))
  | .ixor => mm_bin lv st cb sb h (pc + len) (fun x y => some (x ^^^ y))
  | .ishl => mm_bin lv st cb sb h (pc + len) (fun x y => some (x <<< (y &&& 31)))
  | .ishr => mm_bin lv st cb sb h (pc + len) (fun x y => some (x >>> (y &&& 31)))
  | .iushr => mm_bin lv st cb sb h (pc + len) (fun x y => some (x.toUInt32 >>> (y.toUInt32 &&& Int32.toUInt32 31)).toInt32)
  | .ineg => mm_un lv st cb sb h (pc + len) (fun x => .int (-x))
  | .i2l => mm_un lv st cb sb h (pc + len) (fun x => .long x.toInt64)
  | .i2b => mm_un lv st cb sb h (pc + len) (fun x => .int x.toInt8.toInt32)
  | .i2c => mm_un lv st cb sb h (pc + len) (fun x => .int (x.toUInt32 % 65536).toInt32)
  | .l2i => match st with
    | .long x :: r => some (pc + len, lv, .int x.toInt32 :: r, cb, sb, h)
    | _ => none
  | .ladd => mm_binL lv st cb sb h (pc + len) (fun x y => .long (x + y))
  | .lmul => mm_binL lv st cb sb h (pc + len) (fun x y => .long (x * y))
  | .lcmp => mm_binL lv st cb sb h (pc + len) (fun x y => .int (lg_cmp x y))
  | .dup => match st with
    | v :: r => if v.category = 1 then some (pc + len, lv, v :: v :: r, cb, sb, h) else none
    | [] => none
  | .pop => match st with
    | v :: r => if v.category = 1 then some (pc + len, lv, r, cb, sb, h) else none
    | [] => none
  | .dup2 => match st with
    | v :: w :: r => if v.category = 1 ∧ w.category = 1 then some (pc + len, lv, v :: w :: v :: w :: r, cb, sb, h) else none
    | _ => none
  | .if_icmp k off => match st with
    | .int y :: .int x :: r => if mm_cond k x y = true then mm_jump lv r cb sb h pc off else some (pc + len, lv, r, cb, sb, h)
    | _ => none
  | .ifCond k off => match st with
    | .int x :: r => if mm_cond k x 0 = true then mm_jump lv r cb sb h pc off else some (pc + len, lv, r, cb, sb, h)
    | _ => none
  | .goto off => mm_jump lv st cb sb h pc off
  | .tableswitch dflt lo hi offs => mm_sw lv st cb sb h pc dflt lo hi offs
  | .getstatic _ => match E.2[a]? with
    | some q => some (pc + len, lv, .ref q.1 :: st, cb, sb, h)
    | none => none
  | .iaload => mm_ald E lv st cb sb h (pc + len) 0 0
  | .baload => mm_ald E lv st cb sb h (pc + len) 1 2
  | .iastore => mm_ast E lv st cb sb h (pc + len) 0 0
  | .bastore => mm_ast E lv st cb sb h (pc + len) 1 2
  | .laload => mm_lald E lv st cb sb h (pc + len)
  | .lastore => mm_last E lv st cb sb h (pc + len)
  | .aaload => mm_aald E lv st cb sb h (pc + len)
  | .arraylength => mm_alen E lv st cb sb h (pc + len)
  | .getfield _ => mm_getf E lv st cb sb h (pc + len) a b
  | .putfield _ => match kds[a]? with
    | some l => (match l[b]? with
      | some kd => mm_putf E lv st cb sb h (pc + len) a b kd
      | none => none)
    | none => none
  | .new _ => match kds[a]? with
    | some l => mm_new E lv st cb sb h (pc + len) a l
    | none => none
  | .newarray t => mm_newa E lv st cb sb h (pc + len) t
  | .multianewarray _ 2 => mm_newm E lv st cb sb h (pc + len)
  | _ => none
/-- does the instruction call, and how: 0 static, 1 virtual, 2 special -/
def mm_inv (ins : Instr) : Option Nat := match ins with
  | .invokestatic _ => some 0
  | .invokevirtual _ => some 1
  | .invokespecial _ => some 2
  | _ => none
/-- does the instruction return: 0 nothing, 1 an int, 3 a long -/
def mm_rtn (ins : Instr) : Option Nat := match ins with
  | .return_ => some 0
  | .ireturn => some 1
  | .lreturn => some 3
  | _ => none
/-- the methods: code in chunks of 16 bytes, locals, and the rest -/
abbrev mm_T : Type := List (List (List mm_I) × Nat × mm_M)
def mm_at (P : mm_T) (m pc : Nat) : Option (mm_I × Nat × mm_M) := match P[m]? with
  | some (cs, nL, d) => (match cs[pc / 16]? with
    | some l => (l.find? (fun q => q.1 == pc)).map (fun q => (q, nL, d))
    | none => none)
  | none => none
/-- a machine: frames, heap, the last answer -/
abbrev mm_C : Type := List mm_F × mm_H × Option Value
/-- what a method answers, by its kind -/
def mm_ans (rk ik : Nat) (st : List Value) : Option (Option Value) := match st with
  | [] => if rk = 0 ∧ ik = 0 then some none else none
  | [.int v] => if ik = 1 ∧ (rk = 1 ∨ (rk = 2 ∧ (v = 0 ∨ v = 1))) then some (some (.int v)) else none
  | [.long v] => if ik = 3 ∧ rk = 3 then some (some (.long v)) else none
  | _ => none
def mm_back (v : Option Value) (fs : List mm_F) (h : mm_H) : mm_C := match fs with
  | [] => ([], h, v)
  | (m, pc, lv, st, cb, sb) :: fs => ((m, pc, lv, v.toList ++ st, cb, sb) :: fs, h, none)
/-- the receiver of a call: none is wanted, or an object of the class -/
def mm_recv (E : mm_E) (h : mm_H) (kd ci : Nat) (st : List Value) : Option (List Value × List Value) := if kd = 0 then some ([], st) else match st with
  | .ref a :: r => match mm_cell E h a with
    | some (.inr (c, _)) => if c = ci then some ([.ref a], r) else none
    | _ => none
  | _ => none
/-- the two special callees: method 0 is java.lang.Object's constructor, method 1 System.arraycopy -/
def mm_sp (E : mm_E) (a ik : Nat) (lv : mm_V) (st : List Value) (cb sb : Nat) (h : mm_H) (pc' : Nat) : mm_O := if a = 0 then (match st with
  | .ref _ :: r => if ik = 2 ∧ (r.map fun v => v.category).sum ≤ 8 then some (pc', lv, r, cb, sb, h) else none
  | _ => none) else (if ik = 0 then mm_copy E lv st cb sb h pc' else none)
def mm_call (E : mm_E) (L : Nat) (P : mm_T) (k : Nat) (ik : Nat) (m pc' : Nat) (lv : mm_V) (st : List Value) (cb sb : Nat) (fs : List mm_F) (h : mm_H) : Option mm_C := match P[k]? with
  | some (_, nL, np, kd, ci, _, mc, ms) => if kd = ik ∧ fs.length + 1 < L ∧ mc ≤ cb ∧ ms ≤ sb ∧ np ≤ st.length then
      (match mm_recv E h kd ci (st.drop np) with
      | some (rv, r) => if (r.map fun v => v.category).sum ≤ 8 ∧ (lg_sl (rv ++ (st.take np).reverse)).length ≤ nL then some ((k, 0, lv_args 0 (rv ++ (st.take np).reverse), [], mc, ms) :: (m, pc', lv, r, cb - mc, sb - ms) :: fs, h, none) else none
      | none => none) else none
  | none => none
/-- a step -/
def mm_stp (E : mm_E) (kds : List (List Nat)) (P : mm_T) (L : Nat) (c : mm_C) : Option mm_C := match c with
  | ([], _, _) => none
  | ((m, pc, lv, st, cb, sb) :: fs, h, _) => match mm_at P m pc with
    | none => none
    | some ((_, len, ins, a, b, z, _), nL, (_, _, _, rk, _, _)) => match mm_inv ins with
      | some ik => if a < 2 then (if fs.length + 1 < L then (match mm_sp E a ik lv st cb sb h (pc + len) with
          | some (pc', lv', st', cb', sb', h') => some ((m, pc', lv', st', cb', sb') :: fs, h', none)
          | none => none) else none)
        else mm_call E L P a ik m (pc + len) lv st cb sb fs h
      | none => match mm_rtn ins with
        | some ik => (match mm_ans rk ik st with
          | some v => some (mm_back v fs h)
          | none => none)
        | none => match mm_ex E kds nL ins len a b z pc lv st cb sb h with
          | some (pc', lv', st', cb', sb', h') => some ((m, pc', lv', st', cb', sb') :: fs, h', none)
          | none => none
def mm_run (E : mm_E) (kds : List (List Nat)) (P : mm_T) (L : Nat) : Nat → mm_C → Option mm_C
  | 0, c => some c
  | n + 1, c => match mm_stp E kds P L c with
    | some c' => mm_run E kds P L n c'
    | none => none
end
section
/-! THE REFINEMENT, its rows: the world of a heap of the mini machine, and the rows that write, with the heap's size -/
def rf_E (cA : Nat → ClassId) (e : va_E) : va_E := match e with
  | .inl (t, a) => .inl (cA t, a)
  | .inr o => .inr o
def rf_ws (cA : Nat → ClassId) (base : Nat) (h : mm_H) : va_W := h.mapIdx (fun k e => (base + k, rf_E cA e))
theorem rf_ws_get (cA : Nat → ClassId) (base : Nat) (h : mm_H) (k : Nat) : (rf_ws cA base h)[k]? = h[k]?.map (fun e => (base + k, rf_E cA e)) := by simp [rf_ws]
theorem rf_ws_at {cA : Nat → ClassId} {base : Nat} {h : mm_H} {k : Nat} {e : va_E} (hk : h[k]? = some e) : (rf_ws cA base h)[k]? = some (base + k, rf_E cA e) := by rw [rf_ws_get, hk]; rfl
theorem rf_ws_set (cA : Nat → ClassId) (base : Nat) (h : mm_H) (k : Nat) (e : va_E) : (rf_ws cA base h).set k (base + k, rf_E cA e) = rf_ws cA base (h.set k e) := by
  apply List.ext_getElem?
  intro i
  rw [List.getElem?_set, rf_ws_get, rf_ws_get, List.getElem?_set]
  by_cases hik : k = i
  · subst hik
    by_cases hl : k < h.length
    · simp [hl, rf_ws]
    · simp [hl, rf_ws]
  · simp [hik]
theorem rf_ws_app (cA : Nat → ClassId) (base : Nat) (h : mm_H) (e : va_E) : rf_ws cA base (h ++ [e]) = rf_ws cA base h ++ [(base + h.length, rf_E cA e)] := by
  simp [rf_ws, List.mapIdx_append]
theorem rf_D (cA : Nat → ClassId) (base : Nat) (h : mm_H) : va_D (fun q : Nat => base ≤ q) (rf_ws cA base h) := by
  have key : ∀ (k : Nat) (q : Nat × va_E), (rf_ws cA base h)[k]? = some q → q.1 = base + k := by
    intro k q hq
    rw [rf_ws_get] at hq
    cases hk : h[k]? with
    | none => rw [hk] at hq; cases hq
    | some e => rw [hk] at hq; cases hq; rfl
  refine ⟨fun i j p q hp hq hpq => ?_, fun k q hq => ?_⟩
  · have h1 := key i p hp
    have h2 := key j q hq
    omega
  · have h1 := key k q hq
    show base ≤ q.1
    omega
/-- the heap H holds the cells h from base on, and nothing below base has changed since s -/
def rf_I (D : va_G) (cl : List vw_C) (cA : Nat → ClassId) (base : Nat) (s : State) (h : mm_H) (H : Heap) (locs : List Loc) : Prop :=
  H.size = base + h.length ∧ va_P D cl (rf_ws cA base h) H ∧ va_S (fun q : Nat => base ≤ q) s.heap H locs
theorem rf_I.set {D : va_G} {cl : List vw_C} {cA : Nat → ClassId} {base : Nat} {s : State} {h : mm_H} {H H1 : Heap} {locs : List Loc} (hI : rf_I D cl cA base s h H locs) {k : Nat} {e e' : va_E} (hk : h[k]? = some e)
    (hat : va_at D cl (base + k, rf_E cA e') H1) (hz : H1.size = H.size) (ho : ∀ q : Nat, q ≠ base + k → H1[q]? = H[q]?) (j : Nat) : rf_I D cl cA base s (h.set k e') H1 (locs ++ [⟨base + k, j⟩]) := by
  obtain ⟨h1, h2, h3⟩ := hI
  refine ⟨by rw [hz, h1, List.length_set], ?_, h3.put hz ho (Nat.le_add_right base k)⟩
  rw [← rf_ws_set]
  exact h2.set (rf_D cA base h) (rf_ws_at hk) hat ho
theorem rf_I.push {D : va_G} {cl : List vw_C} {cA : Nat → ClassId} {base : Nat} {s : State} {h : mm_H} {H H1 : Heap} {locs : List Loc} (hI : rf_I D cl cA base s h H locs) {e' : va_E}
    (hat : va_at D cl (H.size, rf_E cA e') H1) (hz : H1.size = H.size + 1) (ho : ∀ q : Nat, q < H.size → H1[q]? = H[q]?) : rf_I D cl cA base s (h ++ [e']) H1 locs := by
  obtain ⟨h1, h2, h3⟩ := hI
  refine ⟨by rw [hz, h1, List.length_append, List.length_singleton]; omega, ?_, by rw [hz]; exact Nat.le_succ_of_le h3.1, fun q a b => (ho q (Nat.lt_of_lt_of_le a h3.1)).trans (h3.2.1 q a b), h3.2.2⟩
  rw [rf_ws_app]
  refine (h2.kept (fun k q hq => ho q.1 ((h2 k q hq).lt))).app (fun k q hq => ?_)
  have h0 : k < 1 := (List.getElem?_eq_some_iff.mp hq).1
  rw [show k = 0 by omega] at hq
  cases hq
  rw [← h1]
  exact hat
def rf_kd (ty : FieldType) : Nat := match ty with
  | .int => 0
  | .long => 1
  | .boolean => 2
  | .object _ => 3
  | .array _ => 3
  | _ => 4
theorem rf_fits {ty : FieldType} {v : Value} (h : mm_fits (rf_kd ty) v = true) : narrow ty v = v ∧ fits ty v = true := by
  cases v with
  | int x =>
    cases ty <;> simp [mm_fits, rf_kd] at h
    · exact ⟨rfl, rfl⟩
    · rcases h with h | h <;> subst h <;> exact ⟨by decide, by decide⟩
  | long x => cases ty <;> simp [mm_fits, rf_kd] at h <;> exact ⟨rfl, rfl⟩
  | ref x => cases ty <;> simp [mm_fits, rf_kd] at h <;> exact ⟨rfl, rfl⟩
  | null => cases ty <;> simp [mm_fits, rf_kd] at h <;> exact ⟨rfl, rfl⟩
  | _ => simp [mm_fits] at h
theorem rf_dflt {ty : FieldType} (h : rf_kd ty ≠ 4) : defaultValue ty = mm_dflt (rf_kd ty) := by
  cases ty <;> first | rfl | exact absurd rfl h
/-- the classes' table against the words -/
def rf_Cl (cl : List vw_C) (ty : Nat → Nat → FieldType) (kds : List (List Nat)) (T : List Cond) : Prop := ∀ (ci : Nat) (C : String) (TT : u_T) (N : Nat), cl[ci]? = some (C, TT, N) →
  (∀ w ∈ u_ws C TT N, w ∈ T) ∧ (∀ k, k < N → parseFieldDescriptor (TT k).2.2.1 = some (ty ci k)) ∧ (∀ a, a < N → ∀ b, b < N → a ≠ b → (TT a).2.1 ≠ (TT b).2.1) ∧ Cond.instantiable C N ∈ T ∧ Cond.initialized C ∈ T ∧
  ∃ l, kds[ci]? = some l ∧ l.length = N ∧ ∀ k, k < N → l[k]? = some (rf_kd (ty ci k)) ∧ rf_kd (ty ci k) ≠ 4
section RFR
variable {p : Program} {l : Launch} {e : Env} {R : Room} {s : State} {m : MethodId} {args : Array Value} {below : List Frame} {meth : Method} {c : Code} {H : Heap} {locs : List Loc} {cells slots : Nat} {Q : State → Prop}
variable {cc : ByteArray} {pc : Nat} {ls : Array Slot} {rest : List Value} {D : va_G} {cl : List vw_C} {cA : Nat → ClassId} {base : Nat} {tys : List (ClassId × FieldType)} {h : mm_H}
theorem rf_put (hexec : p.tables.exec = Jvm.exec) (hb : c.code = cc) {own C : String} {TT : u_T} {N ci index : Nat} {T : List Cond} {ty : Nat → Nat → FieldType} {kds : List (List Nat)} (hts : ∀ w ∈ T, w.before args s = true) (hCl : rf_Cl cl ty kds T) (hown : s.vm.findClass own = some m.cls) (hK : va_K D cl tys s) (hI : rf_I D cl cA base s h H locs) {q0 : Nat} {fs : List Value} (he : h[q0]? = some (.inr (ci, fs))) (hc : cl[ci]? = some (C, TT, N)) {k : Nat} (hk : k < N) (hlink : (Cond.fieldLink own index (TT k).1 (TT k).2.1 (TT k).2.2.1).before args s = true) (hfin : (TT k).2.2.2 = false ∨ (meth.name = "<init>" ∧ (TT k).1 = own)) {v : Value} (hf : mm_fits (rf_kd (ty ci k)) v = true) (hl : k < fs.length)
    (hdg : decode cc pc = .ok (.putfield index, 3)) (kk : ∀ (H1 : Heap) (locs1 : List Loc), rf_I D cl cA base s (h.set q0 (.inr (ci, fs.set k v))) H1 locs1 → W p l e R s m args below meth c H1 locs1 cells slots Q (F0 m (pc + 3) ls rest)) : W p l e R s m args below meth c H locs cells slots Q (F0 m pc ls (v :: .ref (base + q0) :: rest)) := by
  obtain ⟨hin, hty, hnm, -, -, -⟩ := hCl ci C TT N hc
  have hap := va_apart (own := own) hts hin (ty ci) hty hnm hK hc
  obtain ⟨hn, hfit⟩ := rf_fits hf
  have hd := hty k hk
  obtain ⟨r, h1, cell, q1, q2, q3, q4⟩ := hI.2.1 q0 _ (rf_ws_at he)
  have hr : r = (C, TT, N) := Option.some.inj (h1.symm.trans hc)
  subst hr
  obtain ⟨hS, hfc, kC, hkC, hkind⟩ := hK.1 ci _ hc
  obtain ⟨cf, kf, fi, f, hi, hsl⟩ := hS k hk
  have hlay := hts _ (hin _ (u_in_lay hk))
  unfold u_lay at hlay
  have hst := (u_facts hfc hkC (u_lays hts hin hk) hi).1
  have fin : ∀ H' : Heap, H'[base + q0]? = some (cell.setSlot f.slot v) → H'.size = H.size → (∀ q, q ≠ base + q0 → H'[q]? = H[q]?) → W p l e R s m args below meth c H' (locs ++ [⟨base + q0, f.slot⟩]) cells slots Q (F0 m (pc + 3) ls rest) := by
    intro H' e1 e2 e3
    rw [hsl] at e1 ⊢
    exact kk H' _ (hI.set he (e' := .inr (ci, fs.set k v)) ⟨_, hc, t_OB.to (V := updV (vp_V fs) k v) ⟨_, e1, q2, q3, t_set q4 hap hk v⟩ (fun j _ => vp_updV_set hl v j)⟩ e2 e3 _)
  by_cases hff : (TT k).2.2.2 = false
  · rw [if_neg (by rw [hff]; decide)] at hlay
    have h6 := u_store hfc hkC hkind hlay hi hd hn hfit
    exact W.putK hexec hb (f := f) ⟨hown, hlink, ⟨_, _, _, hi⟩, hst⟩ (by rw [q2]; exact h6) q1 q3 (by rw [hsl]; exact k2_hasslot (q4 k hk)) rfl rfl hdg fin
  · have hff2 : (TT k).2.2.2 = true := by simpa using hff
    obtain ⟨hin2, hdecl⟩ := hfin.resolve_left hff
    rw [if_pos hff2] at hlay
    have hcf : m.cls = cf := by
      obtain ⟨_, _, c', _, _, _, -, -, hf', -, -, -, hown2, -⟩ := Cond.laysFinal_spec hlay
      have e1 : c' = cf := by have := hi.symm.trans hf'; simp at this; exact this.1.symm
      rw [hdecl] at hown2
      rw [← e1]; exact Option.some.inj (hown.symm.trans hown2)
    have h6 := u_fits hfc hkC hkind (Or.inr hlay) hi hd hn hfit
    exact W.putFinK hexec hb hown hlink hi hst hcf hin2 (by rw [q2]; exact h6) q1 q3 (by rw [hsl]; exact k2_hasslot (q4 k hk)) rfl rfl hdg fin
theorem rf_get (hexec : p.tables.exec = Jvm.exec) (hb : c.code = cc) {own C : String} {TT : u_T} {N ci index : Nat} {T : List Cond} {ty : Nat → Nat → FieldType} {kds : List (List Nat)} (hts : ∀ w ∈ T, w.before args s = true) (hCl : rf_Cl cl ty kds T) (hown : s.vm.findClass own = some m.cls) (hK : va_K D cl tys s) (hI : rf_I D cl cA base s h H locs) {q0 : Nat} {fs : List Value} (he : h[q0]? = some (.inr (ci, fs))) (hc : cl[ci]? = some (C, TT, N)) {k : Nat} (hk : k < N) (hlink : (Cond.fieldLink own index (TT k).1 (TT k).2.1 (TT k).2.2.1).before args s = true) {v : Value} (hv : fs[k]? = some v) (hdg : decode cc pc = .ok (.getfield index, 3))
    (kk : W p l e R s m args below meth c H locs cells slots Q (F0 m (pc + 3) ls (v :: rest))) : W p l e R s m args below meth c H locs cells slots Q (F0 m pc ls (.ref (base + q0) :: rest)) := by
  obtain ⟨hin, -⟩ := hCl ci C TT N hc
  exact va_get hexec hb hts hin hown hK hI.2.1 q0 (rf_ws_at he) hc k hk hlink (fun _ h9 => h9) hv hdg kk
theorem rf_iast (hexec : p.tables.exec = Jvm.exec) (hb : c.code = cc) (hK : va_K D cl tys s) (hI : rf_I D cl cA base s h H locs) {q0 t : Nat} {n : Nat} {f : Nat → Int32} (ha : h[q0]? = some (.inl (t, n, .inl f))) (ht : tys[t]? = some (cA t, .int)) {i : Int32} {x : Int32} (hin : vp_in i n) (hdg : decode cc pc = .ok (.iastore, 1))
    (kk : ∀ (H1 : Heap) (locs1 : List Loc), rf_I D cl cA base s (h.set q0 (.inl (t, n, .inl (upd f i.toNatClampNeg x)))) H1 locs1 → W p l e R s m args below meth c H1 locs1 cells slots Q (F0 m (pc + 1) ls rest)) : W p l e R s m args below meth c H locs cells slots Q (F0 m pc ls (.int x :: .int i :: .ref (base + q0) :: rest)) := by
  refine W.iast hexec hb (hI.2.1 q0 _ (rf_ws_at ha)) ((hK.2 t _ ht).1 n (fun j => .int (f j))) (fun q => by cases q) (by show ¬ (i < 0 ∨ (arrV _ _ _).slots.size ≤ _); rw [arrV_size]; exact hin) rfl rfl hdg fun H1 e z oq => ?_
  refine kk H1 _ (hI.set ha ?_ z oq _)
  show H1[base + q0]? = some (vp_cell _ _)
  rw [e]
  rw [vp_cell_i, vp_cell_i, arrV_store]
  congr 2
  funext q
  by_cases hq : q = i.toNatClampNeg
  · subst hq
    simp [updV, upd]
  · simp [updV, upd, hq]
theorem rf_bast (hexec : p.tables.exec = Jvm.exec) (hb : c.code = cc) (hK : va_K D cl tys s) (hI : rf_I D cl cA base s h H locs) {q0 t : Nat} {n : Nat} {f : Nat → Int32} (ha : h[q0]? = some (.inl (t, n, .inl f))) (ht : tys[t]? = some (cA t, .byte)) {i : Int32} {x : Int32} (hin : vp_in i n) (hdg : decode cc pc = .ok (.bastore, 1))
    (kk : ∀ (H1 : Heap) (locs1 : List Loc), rf_I D cl cA base s (h.set q0 (.inl (t, n, .inl (upd f i.toNatClampNeg (vp_nar .byte x))))) H1 locs1 → W p l e R s m args below meth c H1 locs1 cells slots Q (F0 m (pc + 1) ls rest)) : W p l e R s m args below meth c H locs cells slots Q (F0 m pc ls (.int x :: .int i :: .ref (base + q0) :: rest)) := by
  refine W.bast hexec hb (hI.2.1 q0 _ (rf_ws_at ha)) ((hK.2 t _ ht).1 n (fun j => .int (f j))) (fun q => by cases q) (by show ¬ (i < 0 ∨ (arrV _ _ _).slots.size ≤ _); rw [arrV_size]; exact hin) rfl rfl hdg fun H1 e z oq => ?_
  refine kk H1 _ (hI.set ha ?_ z oq _)
  show H1[base + q0]? = some (vp_cell _ _)
  rw [e]
  rw [vp_cell_i, vp_cell_i, arrV_store]
  congr 2
  funext q
  by_cases hq : q = i.toNatClampNeg
  · subst hq
    simp [updV, upd, vp_nar]
    try rfl
  · simp [updV, upd, hq]
theorem rf_zast (hexec : p.tables.exec = Jvm.exec) (hb : c.code = cc) (hK : va_K D cl tys s) (hI : rf_I D cl cA base s h H locs) {q0 t : Nat} {n : Nat} {f : Nat → Int32} (ha : h[q0]? = some (.inl (t, n, .inl f))) (ht : tys[t]? = some (cA t, .boolean)) {i : Int32} {x : Int32} (hin : vp_in i n) (hdg : decode cc pc = .ok (.bastore, 1))
    (kk : ∀ (H1 : Heap) (locs1 : List Loc), rf_I D cl cA base s (h.set q0 (.inl (t, n, .inl (upd f i.toNatClampNeg (vp_nar .boolean x))))) H1 locs1 → W p l e R s m args below meth c H1 locs1 cells slots Q (F0 m (pc + 1) ls rest)) : W p l e R s m args below meth c H locs cells slots Q (F0 m pc ls (.int x :: .int i :: .ref (base + q0) :: rest)) := by
  refine W.zast hexec hb (hI.2.1 q0 _ (rf_ws_at ha)) ((hK.2 t _ ht).1 n (fun j => .int (f j))) (fun q => by cases q) (by show ¬ (i < 0 ∨ (arrV _ _ _).slots.size ≤ _); rw [arrV_size]; exact hin) rfl rfl hdg fun H1 e z oq => ?_
  refine kk H1 _ (hI.set ha ?_ z oq _)
  show H1[base + q0]? = some (vp_cell _ _)
  rw [e]
  rw [vp_cell_i, vp_cell_i, arrV_store]
  congr 2
  funext q
  by_cases hq : q = i.toNatClampNeg
  · subst hq
    simp [updV, upd, vp_nar]
    try rfl
  · simp [updV, upd, hq]
theorem rf_last (hexec : p.tables.exec = Jvm.exec) (hb : c.code = cc) (hK : va_K D cl tys s) (hI : rf_I D cl cA base s h H locs) {q0 t : Nat} {n : Nat} {f : Nat → Int64} (ha : h[q0]? = some (.inl (t, n, .inr (.inl f)))) (ht : tys[t]? = some (cA t, .long)) {i : Int32} {x : Int64} (hin : vp_in i n) (hdg : decode cc pc = .ok (.lastore, 1))
    (kk : ∀ (H1 : Heap) (locs1 : List Loc), rf_I D cl cA base s (h.set q0 (.inl (t, n, .inr (.inl (vp_updL f i.toNatClampNeg x))))) H1 locs1 → W p l e R s m args below meth c H1 locs1 cells slots Q (F0 m (pc + 1) ls rest)) : W p l e R s m args below meth c H locs cells slots Q (F0 m pc ls (.long x :: .int i :: .ref (base + q0) :: rest)) := by
  refine W.last hexec hb (hI.2.1 q0 _ (rf_ws_at ha)) ((hK.2 t _ ht).1 n (fun j => .long (f j))) (fun q => by cases q) (by show ¬ (i < 0 ∨ (arrV _ _ _).slots.size ≤ _); rw [arrV_size]; exact hin) rfl rfl hdg fun H1 e z oq => ?_
  refine kk H1 _ (hI.set ha ?_ z oq _)
  show H1[base + q0]? = some (vp_cell _ _)
  rw [e]
  rw [vp_cell_l, vp_cell_l, arrV_store]
  congr 2
  funext q
  by_cases hq : q = i.toNatClampNeg
  · subst hq
    simp [updV, vp_updL]
  · simp [updV, vp_updL, hq]
theorem rf_newa (hexec : p.tables.exec = Jvm.exec) (hb : c.code = cc) {atype : ArrayType} (harr : (Cond.arrayClass (newarray.typeOf atype)).before args s = true) {ty : FieldType} (hty : newarray.typeOf atype = ty) {t : Nat} (hfc : s.vm.findClass ("[" ++ ty.toString) = some (cA t)) (hI : rf_I D cl cA base s h H locs)
    {n : Int32} {N' : Nat} {a0 : vp_A} (ha : ∀ cA : ClassId, vp_cell cA a0 = arrV cA N' (fun _ => defaultValue ty)) (hn : ¬ n < 0) (hN : n.toNatClampNeg = N') (hbytes : N' * componentBytes ty ≤ 536870912) (hcells : cells + 1 ≤ R.cells) (hslots : slots + N' ≤ R.slots) (hdg : decode cc pc = .ok (.newarray atype, 2))
    (kk : ∀ (H1 : Heap), rf_I D cl cA base s (h ++ [.inl (t, a0)]) H1 locs → W p l e R s m args below meth c H1 locs (cells + 1) (slots + N') Q (F0 m (pc + 2) ls (.ref (base + h.length) :: rest))) : W p l e R s m args below meth c H locs cells slots Q (F0 m pc ls (.int n :: rest)) := by
  subst hty
  refine va_newaK hexec hb harr rfl hdg rfl hn hN hbytes hcells hslots hI.1 fun H1 c1 e1 z1 o1 hAr hNm => ?_
  have hc1 : c1 = cA t := Option.some.inj (hNm.symm.trans hfc)
  subst hc1
  refine kk H1 (hI.push (e' := .inl (t, a0)) ?_ (by rw [z1, hI.1]) (fun q hq => o1 q (by rw [← hI.1]; exact hq)))
  show H1[H.size]? = some (vp_cell _ _)
  rw [ha, hI.1]
  exact e1
theorem rf_new (hexec : p.tables.exec = Jvm.exec) (hb : c.code = cc) {own C : String} {TT : u_T} {N ci index : Nat} {T : List Cond} {ty : Nat → Nat → FieldType} {kds : List (List Nat)} (hts : ∀ w ∈ T, w.before args s = true) (hCl : rf_Cl cl ty kds T) (hown : s.vm.findClass own = some m.cls) (hcl : (Cond.classLink own index C).before args s = true)
    (hK : va_K D cl tys s) (hI : rf_I D cl cA base s h H locs) (hc : cl[ci]? = some (C, TT, N)) {ks : List Nat} (hks : kds[ci]? = some ks) (hcells : cells + 1 ≤ R.cells) (hslots : slots + ks.length ≤ R.slots) (hdg : decode cc pc = .ok (.new index, 3))
    (kk : ∀ (H1 : Heap), rf_I D cl cA base s (h ++ [.inr (ci, ks.map mm_dflt)]) H1 locs → W p l e R s m args below meth c H1 locs (cells + 1) (slots + ks.length) Q (F0 m (pc + 3) ls (.ref (base + h.length) :: rest))) : W p l e R s m args below meth c H locs cells slots Q (F0 m pc ls rest) := by
  obtain ⟨hin, hty, hnm, hinst, hini, ks', hks', hlen, hall⟩ := hCl ci C TT N hc
  cases hks.symm.trans hks'
  have hKn := hK.1 ci _ hc
  rw [hlen] at hslots kk
  refine W.newcK hexec hb hown hcl (hts _ hinst) (hts _ hini) rfl hdg hcells hslots hKn.2.1 hI.1 fun H1 kC hkC e1 z1 o1 => ?_
  refine kk H1 (hI.push (e' := .inr (ci, ks.map mm_dflt)) ?_ (by rw [z1, hI.1]) (fun q hq => o1 q (by rw [← hI.1]; exact hq)))
  rw [hI.1]
  refine ⟨_, hc, (u_born (ty ci) hts hin hKn hkC e1 hty).to (fun j hj => ?_)⟩
  obtain ⟨hj1, hj2⟩ := hall j hj
  rw [rf_dflt hj2]
  simp [vp_V, List.getD_eq_getElem?_getD, hj1]
end RFR
end
section
/-! THE REFINEMENT, two more rows: System.arraycopy of int arrays, new int[n][k] -/
theorem rf_I.set2 {D : va_G} {cl : List vw_C} {cA : Nat → ClassId} {base : Nat} {s : State} {h : mm_H} {H H1 : Heap} {locs locs' : List Loc} (hI : rf_I D cl cA base s h H locs) {k : Nat} {e e' : va_E} (hk : h[k]? = some e)
    (hat : va_at D cl (base + k, rf_E cA e') H1) (hz : H1.size = H.size) (ho : ∀ q : Nat, q ≠ base + k → H1[q]? = H[q]?) (hl : ∀ q ∈ locs', base ≤ q.base) : rf_I D cl cA base s (h.set k e') H1 locs' := by
  obtain ⟨h1, h2, h3⟩ := hI
  refine ⟨by rw [hz, h1, List.length_set], ?_, by rw [hz]; exact h3.1, fun q a b => ?_, hl⟩
  · rw [← rf_ws_set]
    exact h2.set (rf_D cA base h) (rf_ws_at hk) hat ho
  · rw [ho q (fun e => b (by rw [e]; exact Nat.le_add_right base k))]
    exact h3.2.1 q a b
theorem rf_I.app {D : va_G} {cl : List vw_C} {cA : Nat → ClassId} {base : Nat} {s : State} {h es : mm_H} {H H1 : Heap} {locs : List Loc} (hI : rf_I D cl cA base s h H locs)
    (hat : ∀ (j : Nat) (e : va_E), es[j]? = some e → va_at D cl (H.size + j, rf_E cA e) H1) (hz : H1.size = H.size + es.length) (ho : ∀ q : Nat, q < H.size → H1[q]? = H[q]?) : rf_I D cl cA base s (h ++ es) H1 locs := by
  obtain ⟨h1, h2, h3⟩ := hI
  refine ⟨by rw [hz, h1, List.length_append]; omega, fun k q hq => ?_, by rw [hz]; exact Nat.le_trans h3.1 (Nat.le_add_right _ _), fun q a b => (ho q (Nat.lt_of_lt_of_le a h3.1)).trans (h3.2.1 q a b), h3.2.2⟩
  rw [rf_ws_get] at hq
  by_cases hl : k < h.length
  · rw [List.getElem?_append_left hl, ← rf_ws_get] at hq
    exact (h2 k q hq).kept (ho q.1 ((h2 k q hq).lt))
  · rw [List.getElem?_append_right (Nat.le_of_not_lt hl)] at hq
    cases hj : es[k - h.length]? with
    | none => rw [hj] at hq; cases hq
    | some e =>
      rw [hj] at hq
      cases hq
      have h9 := hat _ e hj
      rw [h1, show base + h.length + (k - h.length) = base + k by omega] at h9
      exact h9
section RFC
variable {p : Program} {l : Launch} {e : Env} {R : Room} {s : State} {m : MethodId} {args : Array Value} {below : List Frame} {meth : Method} {c : Code} {H : Heap} {locs : List Loc} {cells slots : Nat} {Q : State → Prop}
variable {cc : ByteArray} {pc : Nat} {ls : Array Slot} {rest : List Value} {D : va_G} {cl : List vw_C} {cA : Nat → ClassId} {base : Nat} {tys : List (ClassId × FieldType)} {h : mm_H}
theorem rf_nn {z : Int32} (hz : ¬ z < 0) : z.toInt = (z.toNatClampNeg : Int) := by
  have hz0 : (0 : Int) ≤ z.toInt := by
    have := Int32.not_lt.mp hz
    simpa using Int32.le_iff_toInt_le.mp this
  show z.toInt = ((z.toInt.toNat : Nat) : Int)
  omega
theorem rf_copy (hexec : p.tables.exec = Jvm.exec) (hb : c.code = cc) (hml : c.maxLocals = ls.size) {own : String} {index : Nat} (hown : s.vm.findClass own = some m.cls) (hlink : (Cond.methodLink own index arraycopyName).before args s = true) (hnat : (Cond.native arraycopyName).before args s = true) (hstat : (Cond.static arraycopyName).before args s = true) (hini : (Cond.initialized "java/lang/System").before args s = true)
    (hK : va_K D cl tys s) (hI : rf_I D cl cA base s h H locs) {q0 q1 t0 t1 : Nat} {n0 n1 : Nat} {f g : Nat → Int32} (ha0 : h[q0]? = some (.inl (t0, n0, .inl f))) (ha1 : h[q1]? = some (.inl (t1, n1, .inl g))) (ht0 : tys[t0]? = some (cA t0, .int)) (ht1 : tys[t1]? = some (cA t1, .int))
    {sp dp n : Int32} (h1 : ¬ sp < 0) (h2 : ¬ dp < 0) (h3 : ¬ n < 0) (h4 : sp.toNatClampNeg + n.toNatClampNeg ≤ n0) (h5 : dp.toNatClampNeg + n.toNatClampNeg ≤ n1)
    (hframes : 1 ≤ R.frames) (hlocals : (rest.map fun v => v.category).sum + (nativeFrameWords "java/lang/System" "arraycopy" 5 + 11) ≤ R.locals) (hdg : decode cc pc = .ok (.invokestatic index, 3))
    (kk : ∀ (H1 : Heap) (locs1 : List Loc), rf_I D cl cA base s (h.set q1 (.inl (t1, n1, .inl (va_cpy f g sp.toNatClampNeg dp.toNatClampNeg n.toNatClampNeg)))) H1 locs1 → W p l e R s m args below meth c H1 locs1 cells slots Q (F0 m (pc + 3) ls rest)) : W p l e R s m args below meth c H locs cells slots Q (F0 m pc ls (.int n :: .int dp :: .ref (base + q1) :: .int sp :: .ref (base + q0) :: rest)) := by
  intro T hT X
  have hc0 : H[base + q0]? = some (vp_cell (cA t0) (n0, .inl f)) := hI.2.1 q0 _ (rf_ws_at ha0)
  have hc1 : H[base + q1]? = some (vp_cell (cA t1) (n1, .inl g)) := hI.2.1 q1 _ (rf_ws_at ha1)
  obtain ⟨-, k0, hk0, cm0, hkk0⟩ := (hK.2 t0 _ ht0).1 n0 (fun j => .int (f j))
  obtain ⟨-, k1, hk1, cm1, hkk1⟩ := (hK.2 t1 _ ht1).1 n1 (fun j => .int (g j))
  obtain ⟨vm', X', step⟩ := X.arraycopy hexec hown hlink hnat hstat hini (src := base + q0) (dst := base + q1) (cs := vp_cell (cA t0) (n0, .inl f)) (cd := vp_cell (cA t1) (n1, .inl g)) (srcPos := sp) (destPos := dp) (n := n) (by rw [hT]; exact hc0) (by rw [hT]; exact hc1)
    (fun _ h => by cases h) (fun _ h => by cases h) (fun h => by cases h) (fun h => by cases h) hk0 hk1 hkk0 hkk1 (by simp [refKind]) h1 h2 h3
    (by rw [rf_nn h1, rf_nn h3]; show ¬ _ > ((arrV (cA t0) n0 (fun j => .int (f j))).slots.size : Int); rw [arrV_size]; omega)
    (by rw [rf_nn h2, rf_nn h3]; show ¬ _ > ((arrV (cA t1) n1 (fun j => .int (g j))).slots.size : Int); rw [arrV_size]; omega)
    (fun vm₁ _ i hi => by
      have e : (vp_cell (cA t0) (n0, .inl f)).slots.getD (sp.toNatClampNeg + i) .null = .int (f (sp.toNatClampNeg + i)) := by
        show (arrV (cA t0) n0 (fun j => .int (f j))).slots.getD _ _ = _
        rw [Array.getD_eq_getD_getElem?, arrV_read _ _ (by omega)]
        rfl
      refine ⟨?_, ?_⟩
      · rw [e]
        rfl
      · rw [e]
        exact trivial)
    (g := F0 m pc ls (.int n :: .int dp :: .ref (base + q1) :: .int sp :: .ref (base + q0) :: rest)) rfl (by rw [hml]) (rest := rest) rfl (by rw [hb]; exact hdg) hframes (by show 2 * 0 + _ + _ ≤ _; omega)
  have e1 : copied (vp_cell (cA t0) (n0, .inl f)) (vp_cell (cA t1) (n1, .inl g)) sp dp n = vp_cell (cA t1) (n1, .inl (va_cpy f g sp.toNatClampNeg dp.toNatClampNeg n.toNatClampNeg)) := va_copied (fun z => .int z) (cA t0) (cA t1) f g h4
  rw [e1] at X' step
  have hl : base + q1 < H.size := (Array.getElem?_eq_some_iff.mp hc1).1
  have hheap : ((T.setVm vm').setCell (base + q1) (vp_cell (cA t1) (n1, .inl (va_cpy f g sp.toNatClampNeg dp.toNatClampNeg n.toNatClampNeg)))).heap = H.setIfInBounds (base + q1) (vp_cell (cA t1) (n1, .inl (va_cpy f g sp.toNatClampNeg dp.toNatClampNeg n.toNatClampNeg))) := by rw [← hT]; rfl
  obtain ⟨t, a1, b1⟩ := kk _ _ (hI.set2 ha1 (e' := .inl (t1, n1, .inl (va_cpy f g sp.toNatClampNeg dp.toNatClampNeg n.toNatClampNeg))) (show (H.setIfInBounds (base + q1) _)[base + q1]? = some _ by simp [Array.getElem?_setIfInBounds, hl]) (by simp) (fun q hq => by simp [Array.getElem?_setIfInBounds, Ne.symm hq]) (fun q hq => by
      rcases List.mem_append.mp hq with h | h
      · exact hI.2.2.2.2 q h
      · obtain ⟨z, -, hz⟩ := List.mem_map.mp h
        rw [← hz]
        exact Nat.le_add_right base q1)) _ hheap X'
  exact ⟨t, step t a1, b1⟩
theorem rf_outer (c : ClassId) (N h0 : Nat) : ∀ i : Nat, Jvm.Free.Multi.outerC c N h0 i = arrV c N (fun j => va_rf (if j < i then some (h0 + 1 + j) else none))
  | 0 => by
    show ({ cls := c, slots := Array.replicate N .null, vm := .none } : Cell) = _
    rw [arrV_new]
    refine congrArg (arrV c N) (funext fun j => ?_)
    simp [va_rf]
  | i + 1 => by
    show (Jvm.Free.Multi.outerC c N h0 i).setSlot i (.ref (h0 + 1 + i)) = _
    rw [rf_outer c N h0 i, arrV_store]
    refine congrArg (arrV c N) (funext fun j => ?_)
    by_cases e : j = i
    · subst e
      simp [updV, va_rf]
    · by_cases h : j < i
      · simp [updV, e, h, Nat.lt_succ_of_lt h]
      · simp [updV, e, h, show ¬ j < i + 1 by omega]
theorem rf_mna (hexec : p.tables.exec = Jvm.exec) (hb : c.code = cc) {own : String} {index : Nat} (hown : s.vm.findClass own = some m.cls) (hclink : (Cond.classLink own index "[[I").before args s = true) (hover : (Cond.arrayOver (.array .int)).before args s = true) (harr : (Cond.arrayClass .int).before args s = true)
    (hc0 : s.vm.findClass "[I" = some (cA 0)) (hc4 : s.vm.findClass "[[I" = some (cA 4)) (hI : rf_I D cl cA base s h H locs) {n k : Int32} {N' K' : Nat} (hn : ¬ n < 0) (hk : ¬ k < 0) (hN : n.toNatClampNeg = N') (hM : k.toNatClampNeg = K')
    (hb1 : N' * 4 ≤ 536870912) (hb2 : K' * 4 ≤ 536870912) (hcells : cells + (1 + N') ≤ R.cells) (hslots : slots + (N' + N' * K') ≤ R.slots) (hdg : decode cc pc = .ok (.multianewarray index 2, 4))
    (kk : ∀ (H1 : Heap), rf_I D cl cA base s (h ++ (.inl (4, N', .inr (.inr (.inr (.inr (fun i => if i < N' then some (base + h.length + 1 + i) else none))))) :: List.replicate N' (.inl (0, K', .inl (fun _ => 0))))) H1 locs → W p l e R s m args below meth c H1 locs (cells + (1 + N')) (slots + (N' + N' * K')) Q (F0 m (pc + 4) ls (.ref (base + h.length) :: rest))) : W p l e R s m args below meth c H locs cells slots Q (F0 m pc ls (.int k :: .int n :: rest)) := by
  subst hN
  subst hM
  intro T hT Xs
  obtain ⟨vm₁, c4, c0, -, fA, fC, hO, -, X', step⟩ := Xs.multianewarray2F hexec hown hclink hover harr (g := F0 m pc ls (.int k :: .int n :: rest)) rfl (by rw [hb]; exact hdg) rfl hn hk hb1 hb2 (by omega) rfl rfl hcells hslots
  have ec : c0 = cA 0 := Option.some.inj (fC.symm.trans hc0)
  have ea : c4 = cA 4 := Option.some.inj (fA.symm.trans hc4)
  subst ec
  subst ea
  generalize hF : Jvm.Free.Multi.fill (T.setVm vm₁) (cA 4) (cA 0) n.toNatClampNeg k.toNatClampNeg (defaultValue .int) n.toNatClampNeg = F at X' step
  have hTh : (T.setVm vm₁).heap = H := hT
  obtain ⟨f1, f2, -, -⟩ := Jvm.Free.Multi.fill_facts (T.setVm vm₁) (cA 4) (cA 0) n.toNatClampNeg k.toNatClampNeg (defaultValue .int) n.toNatClampNeg
  rw [hF, hTh] at f1 f2
  have hold : ∀ x : Nat, x < H.size → F.heap[x]? = H[x]? := fun x hx => by
    have := Jvm.Free.Multi.fill_old (T.setVm vm₁) (cA 4) (cA 0) n.toNatClampNeg k.toNatClampNeg (defaultValue .int) (a := x) (by rw [hTh]; exact hx) n.toNatClampNeg
    rw [hF, hTh] at this
    exact this
  have hrow : ∀ j : Nat, j < n.toNatClampNeg → F.heap[H.size + 1 + j]? = some (vp_cell (cA 0) (k.toNatClampNeg, .inl (fun _ => 0))) := fun j hj => by
    have := Jvm.Free.Multi.fill_inner (T.setVm vm₁) (cA 4) (cA 0) n.toNatClampNeg k.toNatClampNeg (defaultValue .int) n.toNatClampNeg j hj
    rw [hF, hTh] at this
    rw [this, vp_cell_i, ← arrV_new]
    rfl
  rw [rf_outer] at f2
  have hI1 : rf_I D cl cA base s (h ++ (.inl (4, n.toNatClampNeg, .inr (.inr (.inr (.inr (fun i => if i < n.toNatClampNeg then some (base + h.length + 1 + i) else none))))) :: List.replicate n.toNatClampNeg (.inl (0, k.toNatClampNeg, .inl (fun _ => 0))))) F.heap locs := by
    refine hI.app (fun j e hj => ?_) (by rw [f1]; simp; omega) hold
    cases j with
    | zero =>
      cases hj
      show F.heap[H.size + 0]? = some (vp_cell _ _)
      rw [Nat.add_zero, f2, vp_cell_q, hI.1]
    | succ j =>
      rw [List.getElem?_cons_succ, List.getElem?_replicate] at hj
      by_cases hjn : j < n.toNatClampNeg
      · rw [if_pos hjn] at hj
        cases hj
        show F.heap[H.size + (j + 1)]? = some (vp_cell _ _)
        rw [show H.size + (j + 1) = H.size + 1 + j by omega]
        exact hrow j hjn
      · rw [if_neg hjn] at hj
        cases hj
  have X2 : Stand p l e R s m args below meth c F locs (cells + (1 + n.toNatClampNeg)) (slots + (n.toNatClampNeg + n.toNatClampNeg * k.toNatClampNeg)) := by
    rw [← Nat.add_assoc, ← Nat.add_assoc]
    exact X'
  obtain ⟨t, a1, b1⟩ := kk F.heap hI1 F rfl X2
  refine ⟨t, step t ?_, b1⟩
  have e : T.heap.size = base + h.length := by rw [hT, hI.1]
  rw [e]
  exact a1
end RFC
end
section
/-! THE REFINEMENT, a simple instruction: what the mini machine does, the machine does -/
def rf_tys (cA : Nat → ClassId) : List (ClassId × FieldType) := [(cA 0, .int), (cA 1, .byte), (cA 2, .boolean), (cA 3, .long), (cA 4, .array .int)]
def rf_nest (w : Cond) : Bool := match w with
  | .methodLinkNest _ _ _ _ => true
  | _ => false
/-- what holds at every method's start: classes, nest words, static arrays -/
def rf_Cx (E : mm_E) (SN : List (String × String × String)) (Tw : List Cond) (D : va_G) (cl : List vw_C) (cA : Nat → ClassId) (s : State) : Prop :=
  va_K D cl (rf_tys cA) s ∧ (∀ w ∈ Tw, rf_nest w = true → va_Nw w s) ∧ (Cond.arrayOver (.array .int)).before #[] s = true ∧
  (∀ q ∈ E.2, va_T .int q.1 q.2.1 (fun j => .int (q.2.2 j)) (fun x : Nat => E.1 ≤ x) s s.heap) ∧ (∀ (k : Nat) (nm : String × String × String), SN[k]? = some nm → ∃ q, E.2[k]? = some q ∧ va_Z nm.1 nm.2.1 nm.2.2 (.ref q.1) (fun x : Nat => E.1 ≤ x) s s.heap) ∧ E.1 ≤ s.heap.size
def rf_w (Tw : List Cond) (w : Nat) (X : Cond) : Bool := decide (Tw[w]? = some X) && goodWord X
def rf_len (ins : Instr) : Nat := match ins with
  | .bipush _ => 2
  | .sipush _ => 3
  | .ldc _ => 2
  | .ldc_w _ => 3
  | .ldc2_w _ => 3
  | .iload _ => 2
  | .lload _ => 2
  | .aload _ => 2
  | .istore _ => 2
  | .lstore _ => 2
  | .astore _ => 2
  | .iinc _ _ => 3
  | .if_icmp _ _ => 3
  | .ifCond _ _ => 3
  | .goto _ => 3
  | .getstatic _ => 3
  | .getfield _ => 3
  | .putfield _ => 3
  | .new _ => 3
  | .newarray _ => 2
  | .multianewarray _ _ => 4
  | .invokestatic _ => 3
  | .invokevirtual _ => 3
  | .invokespecial _ => 3
  | _ => 1
/-- is an instruction of a method of the class own as the table says: its length, its links -/
def rf_ck (Tw : List Cond) (cl : List vw_C) (SN : List (String × String × String)) (own : String) (ini : Bool) (pc len : Nat) (ins : Instr) (a b : Nat) (z : Int) (w : Nat) : Bool := match ins with
  | .ldc i => decide (len = 2) && rf_w Tw w (.constant own i (Int32.ofInt z))
  | .ldc_w i => decide (len = 3) && rf_w Tw w (.constant own i (Int32.ofInt z))
  | .ldc2_w i => decide (len = 3) && rf_w Tw w (.constantLong own i (Int64.ofInt z))
  | .if_icmp _ off => decide (len = 3) && decide (0 ≤ (pc : Int) + off)
  | .ifCond _ off => decide (len = 3) && decide (0 ≤ (pc : Int) + off)
  | .goto off => decide (len = 3) && decide (0 ≤ (pc : Int) + off)
  | .tableswitch _ _ _ _ => true
  | .getstatic i => decide (len = 3) && (match SN[a]? with
    | some nm => rf_w Tw w (.fieldLink own i nm.1 nm.2.1 nm.2.2)
    | none => false)
  | .getfield i => decide (len = 3) && (match cl[a]? with
    | some (_, TT, N) => decide (b < N) && rf_w Tw w (.fieldLink own i (TT b).1 (TT b).2.1 (TT b).2.2.1)
    | none => false)
  | .putfield i => decide (len = 3) && (match cl[a]? with
    | some (_, TT, N) => decide (b < N) && (rf_w Tw w (.fieldLink own i (TT b).1 (TT b).2.1 (TT b).2.2.1) && (!(TT b).2.2.2 || (ini && decide ((TT b).1 = own))))
    | none => false)
  | .new i => decide (len = 3) && (match cl[a]? with
    | some (C, _, _) => rf_w Tw w (.classLink own i C)
    | none => false)
  | .newarray t => decide (len = 2) && rf_w Tw w (.arrayClass (newarray.typeOf t))
  | .multianewarray i _ => decide (len = 4) && rf_w Tw w (.classLink own i "[[I")
  | _ => decide (len = rf_len ins)
theorem rf_w_in {Tw T : List Cond} {args : Array Value} {s : State} {w : Nat} {X : Cond} (hTw : ∀ X ∈ Tw, goodWord X = true → X ∈ T) (hts : ∀ w ∈ T, w.before args s = true) (h : rf_w Tw w X = true) : X.before args s = true := by
  simp only [rf_w, Bool.and_eq_true, decide_eq_true_eq] at h
  exact hts _ (hTw _ (List.mem_of_getElem? h.1) h.2)
theorem rf_cell {E : mm_E} {h : mm_H} {a : Nat} {x : va_E} (hc : mm_cell E h a = some x) : ∃ k, a = E.1 + k ∧ h[k]? = some x := by
  unfold mm_cell at hc
  split at hc
  · exact ⟨a - E.1, by omega, hc⟩
  · cases hc
theorem rf_at {ls : Array Slot} {nL i : Nat} {lv : mm_V} {v : Value} (hl : lv_has ls nL lv) (hg : mm_get lv i = some v) : ls[i]? = some (.val v) ∧ ∃ k : Nat, lv[k]? = some (i, v) := by
  unfold mm_get at hg
  cases hf : lv.find? (fun q => q.1 == i) with
  | none => rw [hf] at hg; cases hg
  | some q =>
    rw [hf] at hg
    cases hg
    have h1 := List.find?_some hf
    have h2 := List.mem_of_find?_eq_some hf
    have h3 : q.1 = i := by simpa using h1
    subst h3
    exact ⟨hl.2.2 q h2, List.getElem?_of_mem h2⟩
theorem rf_inr {i : Int32} {n : Nat} (h : mm_inr i n = true) : vp_in i n := by
  simp only [mm_inr, Bool.and_eq_true, decide_eq_true_eq] at h
  exact vp_in_iff.mpr h
theorem rf_nlt {n : Int32} (h : 0 ≤ n.toInt) : ¬ n < 0 := by
  intro q
  have := Int32.lt_iff_toInt_lt.mp q
  have h0 : (0 : Int32).toInt = 0 := by decide
  omega
theorem rf_clamp {n : Int32} {M : Nat} (h : 0 ≤ n.toInt) (h2 : n.toInt ≤ (M : Int)) : n.toNatClampNeg ≤ M := by
  have := rf_nn (rf_nlt h)
  omega
theorem rf_tgt {pc : Nat} {off : Int} (h : 0 ≤ (pc : Int) + off) : (pc : Int) + off = ((((pc : Int) + off).toNat : Nat) : Int) := (Int.toNat_of_nonneg h).symm
theorem rf_kd0 {v : Value} (h : mm_kind v = 0) : ∃ x, v = .int x := by cases v <;> simp [mm_kind] at h <;> exact ⟨_, rfl⟩
theorem rf_kd1 {v : Value} (h : mm_kind v = 1) : ∃ x, v = .long x := by cases v <;> simp [mm_kind] at h <;> exact ⟨_, rfl⟩
theorem rf_kd2 {v : Value} (h : mm_kind v = 2) : ∃ x, v = .ref x := by cases v <;> simp [mm_kind] at h <;> exact ⟨_, rfl⟩
theorem rf_load {lv : mm_V} {st : List Value} {cb sb : Nat} {h : mm_H} {pc' kd i : Nat} {r : Nat × mm_V × List Value × Nat × Nat × mm_H} (hh : mm_load lv st cb sb h pc' kd i = some r) : ∃ v, mm_get lv i = some v ∧ mm_kind v = kd ∧ r = (pc', lv, v :: st, cb, sb, h) := by
  unfold mm_load at hh
  split at hh
  · split at hh
    · cases hh
      exact ⟨_, by assumption, by assumption, rfl⟩
    · cases hh
  · cases hh
theorem rf_store {nL : Nat} {lv : mm_V} {st : List Value} {cb sb : Nat} {h : mm_H} {pc' kd i : Nat} {r : Nat × mm_V × List Value × Nat × Nat × mm_H} (hh : mm_store nL lv st cb sb h pc' kd i = some r) : ∃ v rest, st = v :: rest ∧ mm_kind v = kd ∧ ((kd = 1 ∧ i + 1 < nL ∧ r = (pc', mm_p2 lv i v, rest, cb, sb, h)) ∨ (kd ≠ 1 ∧ i < nL ∧ r = (pc', mm_p1 lv i v, rest, cb, sb, h))) := by
  unfold mm_store at hh
  split at hh
  · rename_i v rest
    split at hh
    · split at hh
      · split at hh
        · cases hh
          exact ⟨v, rest, rfl, by assumption, Or.inl ⟨by assumption, by assumption, rfl⟩⟩
        · cases hh
      · split at hh
        · cases hh
          exact ⟨v, rest, rfl, by assumption, Or.inr ⟨by assumption, by assumption, rfl⟩⟩
        · cases hh
    · cases hh
  · cases hh
theorem rf_bin {lv : mm_V} {st : List Value} {cb sb : Nat} {h : mm_H} {pc' : Nat} {g : Int32 → Int32 → Option Int32} {r : Nat × mm_V × List Value × Nat × Nat × mm_H} (hh : mm_bin lv st cb sb h pc' g = some r) : ∃ y x rest v, st = .int y :: .int x :: rest ∧ g x y = some v ∧ r = (pc', lv, .int v :: rest, cb, sb, h) := by
  unfold mm_bin at hh
  split at hh
  · rename_i y x rest
    cases hg : g x y with
    | none => rw [hg] at hh; cases hh
    | some v => rw [hg] at hh; cases hh; exact ⟨y, x, rest, v, rfl, hg, rfl⟩
  · cases hh
theorem rf_binL {lv : mm_V} {st : List Value} {cb sb : Nat} {h : mm_H} {pc' : Nat} {g : Int64 → Int64 → Value} {r : Nat × mm_V × List Value × Nat × Nat × mm_H} (hh : mm_binL lv st cb sb h pc' g = some r) : ∃ y x rest, st = .long y :: .long x :: rest ∧ r = (pc', lv, g x y :: rest, cb, sb, h) := by
  unfold mm_binL at hh
  split at hh
  · cases hh; exact ⟨_, _, _, rfl, rfl⟩
  · cases hh
theorem rf_un {lv : mm_V} {st : List Value} {cb sb : Nat} {h : mm_H} {pc' : Nat} {g : Int32 → Value} {r : Nat × mm_V × List Value × Nat × Nat × mm_H} (hh : mm_un lv st cb sb h pc' g = some r) : ∃ x rest, st = .int x :: rest ∧ r = (pc', lv, g x :: rest, cb, sb, h) := by
  unfold mm_un at hh
  split at hh
  · cases hh; exact ⟨_, _, rfl, rfl⟩
  · cases hh
theorem rf_jump {lv : mm_V} {st : List Value} {cb sb : Nat} {h : mm_H} {pc : Nat} {off : Int} {r : Nat × mm_V × List Value × Nat × Nat × mm_H} (hh : mm_jump lv st cb sb h pc off = some r) : 0 ≤ (pc : Int) + off ∧ r = (((pc : Int) + off).toNat, lv, st, cb, sb, h) := by
  unfold mm_jump at hh
  split at hh
  · cases hh; exact ⟨by assumption, rfl⟩
  · cases hh
section RFX
variable {p : Program} {l : Launch} {e : Env} {R : Room} {s : State} {m : MethodId} {args : Array Value} {below : List Frame} {meth : Method} {c : Code} {H : Heap} {locs : List Loc} {cells slots : Nat} {Q : State → Prop}
variable {cc : ByteArray} {ls : Array Slot} {D : va_G} {cl : List vw_C} {cA : Nat → ClassId}
set_option maxHeartbeats 4000000 in
set_option maxRecDepth 100000 in
theorem rf_ex {E : mm_E} {SN : List (String × String × String)} {Tw T : List Cond} {ty : Nat → Nat → FieldType} {kds : List (List Nat)} {own : String} {ini : Bool} {nL : Nat} (hexec : p.tables.exec = Jvm.exec) (hb : c.code = cc) (hTw : ∀ X ∈ Tw, goodWord X = true → X ∈ T) (hts : ∀ w ∈ T, w.before args s = true) (hCl : rf_Cl cl ty kds T) (hown : s.vm.findClass own = some m.cls) (hini : ini = true → meth.name = "<init>") (hC : rf_Cx E SN Tw D cl cA s) (hAi : Cond.arrayClass .int ∈ T)
    {ins : Instr} {len a b : Nat} {z : Int} {w pc : Nat} {lv : mm_V} {st : List Value} {cb sb : Nat} {h : mm_H} {pc' : Nat} {lv' : mm_V} {st' : List Value} {cb' sb' : Nat} {h' : mm_H}
    (hd : decode cc pc = .ok (ins, len)) (hck : rf_ck Tw cl SN own ini pc len ins a b z w = true) (hex : mm_ex E kds nL ins len a b z pc lv st cb sb h = some (pc', lv', st', cb', sb', h')) (hl : lv_has ls nL lv) (hI : rf_I D cl cA E.1 s h H locs) (hcb : cells + cb ≤ R.cells) (hsb : slots + sb ≤ R.slots)
    (kk : ∀ (H' : Heap) (locs' : List Loc) (cells' slots' : Nat) (ls' : Array Slot), rf_I D cl cA E.1 s h' H' locs' → lv_has ls' nL lv' → cells' + cb' = cells + cb → slots' + sb' = slots + sb → W p l e R s m args below meth c H' locs' cells' slots' Q (F0 m pc' ls' st')) :
    W p l e R s m args below meth c H locs cells slots Q (F0 m pc ls st) := by
  obtain ⟨hK, hNe, hAO, hTb, hZs, hbs⟩ := hC
  cases ins
  case iconst n =>
    cases hex
    have hlen : len = 1 := of_decide_eq_true hck
    subst hlen
    exact lv_iconst hexec hb hd rfl (kk _ _ _ _ _ hI hl rfl rfl)
  case bipush n =>
    cases hex
    have hlen : len = 2 := of_decide_eq_true hck
    subst hlen
    exact lv_bipush hexec hb hd rfl (kk _ _ _ _ _ hI hl rfl rfl)
  case sipush n =>
    cases hex
    have hlen : len = 3 := of_decide_eq_true hck
    subst hlen
    exact lv_sipush hexec hb hd rfl (kk _ _ _ _ _ hI hl rfl rfl)
  case lconst n =>
    cases hex
    have hlen : len = 1 := of_decide_eq_true hck
    subst hlen
    exact lv_lconst hexec hb hd rfl (kk _ _ _ _ _ hI hl rfl rfl)
  case ldc n =>
    cases hex
    simp only [rf_ck, Bool.and_eq_true, decide_eq_true_eq] at hck
    obtain ⟨rfl, hck⟩ := hck
    exact lv_ldc hexec hb hown (rf_w_in hTw hts hck) hd (kk _ _ _ _ _ hI hl rfl rfl)
  case ldc_w n =>
    cases hex
    simp only [rf_ck, Bool.and_eq_true, decide_eq_true_eq] at hck
    obtain ⟨rfl, hck⟩ := hck
    exact lv_ldcw hexec hb hown (rf_w_in hTw hts hck) hd (kk _ _ _ _ _ hI hl rfl rfl)
  case ldc2_w n =>
    cases hex
    simp only [rf_ck, Bool.and_eq_true, decide_eq_true_eq] at hck
    obtain ⟨rfl, hck⟩ := hck
    exact lv_ldc2 hexec hb hown (rf_w_in hTw hts hck) hd (kk _ _ _ _ _ hI hl rfl rfl)
  case iload_n k =>
    obtain ⟨v, h1, h2, h3⟩ := rf_load hex
    obtain ⟨x, rfl⟩ := rf_kd0 h2
    cases h3
    have hlen : len = 1 := of_decide_eq_true hck
    subst hlen
    exact lv_iload_n hexec hb hd rfl (rf_at hl h1).1 (kk _ _ _ _ _ hI hl rfl rfl)
  case iload k =>
    obtain ⟨v, h1, h2, h3⟩ := rf_load hex
    obtain ⟨x, rfl⟩ := rf_kd0 h2
    cases h3
    have hlen : len = 2 := of_decide_eq_true hck
    subst hlen
    exact lv_iload hexec hb hd (rf_at hl h1).1 (kk _ _ _ _ _ hI hl rfl rfl)
  case lload_n k =>
    obtain ⟨v, h1, h2, h3⟩ := rf_load hex
    obtain ⟨x, rfl⟩ := rf_kd1 h2
    cases h3
    have hlen : len = 1 := of_decide_eq_true hck
    subst hlen
    exact lv_lload_n hexec hb hd rfl (rf_at hl h1).1 (kk _ _ _ _ _ hI hl rfl rfl)
  case lload k =>
    obtain ⟨v, h1, h2, h3⟩ := rf_load hex
    obtain ⟨x, rfl⟩ := rf_kd1 h2
    cases h3
    have hlen : len = 2 := of_decide_eq_true hck
    subst hlen
    exact lv_lload hexec hb hd (rf_at hl h1).1 (kk _ _ _ _ _ hI hl rfl rfl)
  case aload_n k =>
    obtain ⟨v, h1, h2, h3⟩ := rf_load hex
    obtain ⟨x, rfl⟩ := rf_kd2 h2
    cases h3
    have hlen : len = 1 := of_decide_eq_true hck
    subst hlen
    exact lv_aload_n hexec hb hd rfl (rf_at hl h1).1 (kk _ _ _ _ _ hI hl rfl rfl)
  case aload k =>
    obtain ⟨v, h1, h2, h3⟩ := rf_load hex
    obtain ⟨x, rfl⟩ := rf_kd2 h2
    cases h3
    have hlen : len = 2 := of_decide_eq_true hck
    subst hlen
    exact lv_aload hexec hb hd (rf_at hl h1).1 (kk _ _ _ _ _ hI hl rfl rfl)
  case istore_n k =>
    obtain ⟨v, rest, rfl, h2, ⟨h9, -, -⟩ | ⟨-, h4, h3⟩⟩ := rf_store hex
    · cases h9
    · obtain ⟨x, rfl⟩ := rf_kd0 h2
      cases h3
      have hlen : len = 1 := of_decide_eq_true hck
      subst hlen
      exact lv_istore_n hexec hb hd rfl hl h4 rfl (fun ls' hl' => kk _ _ _ _ ls' hI hl' rfl rfl)
  case istore k =>
    obtain ⟨v, rest, rfl, h2, ⟨h9, -, -⟩ | ⟨-, h4, h3⟩⟩ := rf_store hex
    · cases h9
    · obtain ⟨x, rfl⟩ := rf_kd0 h2
      cases h3
      have hlen : len = 2 := of_decide_eq_true hck
      subst hlen
      exact lv_istore hexec hb hd hl h4 rfl (fun ls' hl' => kk _ _ _ _ ls' hI hl' rfl rfl)
  case astore_n k =>
    obtain ⟨v, rest, rfl, h2, ⟨h9, -, -⟩ | ⟨-, h4, h3⟩⟩ := rf_store hex
    · cases h9
    · obtain ⟨x, rfl⟩ := rf_kd2 h2
      cases h3
      have hlen : len = 1 := of_decide_eq_true hck
      subst hlen
      exact lv_astore_n hexec hb hd rfl hl h4 rfl (fun ls' hl' => kk _ _ _ _ ls' hI hl' rfl rfl)
  case astore k =>
    obtain ⟨v, rest, rfl, h2, ⟨h9, -, -⟩ | ⟨-, h4, h3⟩⟩ := rf_store hex
    · cases h9
    · obtain ⟨x, rfl⟩ := rf_kd2 h2
      cases h3
      have hlen : len = 2 := of_decide_eq_true hck
      subst hlen
      exact lv_astore hexec hb hd hl h4 rfl (fun ls' hl' => kk _ _ _ _ ls' hI hl' rfl rfl)
  case lstore_n k =>
    obtain ⟨v, rest, rfl, h2, ⟨-, h4, h3⟩ | ⟨h9, -, -⟩⟩ := rf_store hex
    · obtain ⟨x, rfl⟩ := rf_kd1 h2
      cases h3
      have hlen : len = 1 := of_decide_eq_true hck
      subst hlen
      exact lv_lstore_n hexec hb hd rfl hl h4 rfl (fun ls' hl' => kk _ _ _ _ ls' hI hl' rfl rfl)
    · exact absurd rfl h9
  case lstore k =>
    obtain ⟨v, rest, rfl, h2, ⟨-, h4, h3⟩ | ⟨h9, -, -⟩⟩ := rf_store hex
    · obtain ⟨x, rfl⟩ := rf_kd1 h2
      cases h3
      have hlen : len = 2 := of_decide_eq_true hck
      subst hlen
      exact lv_lstore hexec hb hd hl h4 rfl (fun ls' hl' => kk _ _ _ _ ls' hI hl' rfl rfl)
    · exact absurd rfl h9
  case iinc i n =>
    have hlen : len = 3 := of_decide_eq_true hck
    subst hlen
    simp only [mm_ex] at hex
    split at hex
    · rename_i x hg
      split at hex
      · rename_i hi
        cases hex
        obtain ⟨-, k, hk⟩ := rf_at hl hg
        exact lv_iinc hexec hb hd hl hk rfl hi rfl (fun ls' hl' => kk _ _ _ _ ls' hI hl' rfl rfl)
      · cases hex
    · cases hex
  case iadd =>
    obtain ⟨y, x, rest, v, rfl, h2, h3⟩ := rf_bin hex
    cases h2
    cases h3
    have hlen : len = 1 := of_decide_eq_true hck
    subst hlen
    exact lv_iadd hexec hb hd (kk _ _ _ _ _ hI hl rfl rfl)
  case isub =>
    obtain ⟨y, x, rest, v, rfl, h2, h3⟩ := rf_bin hex
    cases h2
    cases h3
    have hlen : len = 1 := of_decide_eq_true hck
    subst hlen
    exact lv_isub hexec hb hd (kk _ _ _ _ _ hI hl rfl rfl)
  case imul =>
    obtain ⟨y, x, rest, v, rfl, h2, h3⟩ := rf_bin hex
    cases h2
    cases h3
    have hlen : len = 1 := of_decide_eq_true hck
    subst hlen
    exact lv_imul hexec hb hd (kk _ _ _ _ _ hI hl rfl rfl)
  case idiv =>
    obtain ⟨y, x, rest, v, rfl, h2, h3⟩ := rf_bin hex
    cases h3
    have hlen : len = 1 := of_decide_eq_true hck
    subst hlen
    split at h2
    · cases h2
    · rename_i hy
      cases h2
      exact lv_idiv hexec hb hd hy (kk _ _ _ _ _ hI hl rfl rfl)
  case irem =>
    obtain ⟨y, x, rest, v, rfl, h2, h3⟩ := rf_bin hex
    cases h3
    have hlen : len = 1 := of_decide_eq_true hck
    subst hlen
    split at h2
    · cases h2
    · rename_i hy
      cases h2
      exact lv_irem hexec hb hd hy (kk _ _ _ _ _ hI hl rfl rfl)
  case iand =>
    obtain ⟨y, x, rest, v, rfl, h2, h3⟩ := rf_bin hex
    cases h2
    cases h3
    have hlen : len = 1 := of_decide_eq_true hck
    subst hlen
    exact lv_iand hexec hb hd (kk _ _ _ _ _ hI hl rfl rfl)
  case ior =>
    obtain ⟨y, x, rest, v, rfl, h2, h3⟩ := rf_bin hex
    cases h2
    cases h3
    have hlen : len = 1 := of_decide_eq_true hck
    subst hlen
    exact lv_ior hexec hb hd (kk _ _ _ _ _ hI hl rfl rfl)
  case ixor =>
    obtain ⟨y, x, rest, v, rfl, h2, h3⟩ := rf_bin hex
    cases h2
    cases h3
    have hlen : len = 1 := of_decide_eq_true hck
    subst hlen
    exact lv_ixor hexec hb hd (kk _ _ _ _ _ hI hl rfl rfl)
  case ishl =>
    obtain ⟨y, x, rest, v, rfl, h2, h3⟩ := rf_bin hex
    cases h2
    cases h3
    have hlen : len = 1 := of_decide_eq_true hck
    subst hlen
    exact lv_ishl hexec hb hd (kk _ _ _ _ _ hI hl rfl rfl)
  case ishr =>
    obtain ⟨y, x, rest, v, rfl, h2, h3⟩ := rf_bin hex
    cases h2
    cases h3
    have hlen : len = 1 := of_decide_eq_true hck
    subst hlen
    exact lv_ishr hexec hb hd (kk _ _ _ _ _ hI hl rfl rfl)
  case iushr =>
    obtain ⟨y, x, rest, v, rfl, h2, h3⟩ := rf_bin hex
    cases h2
    cases h3
    have hlen : len = 1 := of_decide_eq_true hck
    subst hlen
    exact lv_iushr hexec hb hd rfl (kk _ _ _ _ _ hI hl rfl rfl)
  case ineg =>
    obtain ⟨x, rest, rfl, h3⟩ := rf_un hex
    cases h3
    have hlen : len = 1 := of_decide_eq_true hck
    subst hlen
    exact lv_ineg hexec hb hd (kk _ _ _ _ _ hI hl rfl rfl)
  case i2l =>
    obtain ⟨x, rest, rfl, h3⟩ := rf_un hex
    cases h3
    have hlen : len = 1 := of_decide_eq_true hck
    subst hlen
    exact lv_i2l hexec hb hd rfl (kk _ _ _ _ _ hI hl rfl rfl)
  case i2b =>
    obtain ⟨x, rest, rfl, h3⟩ := rf_un hex
    cases h3
    have hlen : len = 1 := of_decide_eq_true hck
    subst hlen
    exact lv_i2b hexec hb hd rfl (kk _ _ _ _ _ hI hl rfl rfl)
  case i2c =>
    obtain ⟨x, rest, rfl, h3⟩ := rf_un hex
    cases h3
    have hlen : len = 1 := of_decide_eq_true hck
    subst hlen
    exact lv_i2c hexec hb hd rfl (kk _ _ _ _ _ hI hl rfl rfl)
  case l2i =>
    have hlen : len = 1 := of_decide_eq_true hck
    subst hlen
    simp only [mm_ex] at hex
    split at hex
    · cases hex
      exact lv_l2i hexec hb hd rfl (kk _ _ _ _ _ hI hl rfl rfl)
    · cases hex
  case ladd =>
    obtain ⟨y, x, rest, rfl, h3⟩ := rf_binL hex
    cases h3
    have hlen : len = 1 := of_decide_eq_true hck
    subst hlen
    exact lv_ladd hexec hb hd (kk _ _ _ _ _ hI hl rfl rfl)
  case lmul =>
    obtain ⟨y, x, rest, rfl, h3⟩ := rf_binL hex
    cases h3
    have hlen : len = 1 := of_decide_eq_true hck
    subst hlen
    exact lv_lmul hexec hb hd (kk _ _ _ _ _ hI hl rfl rfl)
  case lcmp =>
    obtain ⟨y, x, rest, rfl, h3⟩ := rf_binL hex
    cases h3
    have hlen : len = 1 := of_decide_eq_true hck
    subst hlen
    exact W.lcmp hexec hb hd (kk _ _ _ _ _ hI hl rfl rfl)
  case dup =>
    have hlen : len = 1 := of_decide_eq_true hck
    subst hlen
    simp only [mm_ex] at hex
    split at hex
    · split at hex
      · cases hex
        exact lv_dup hexec hb hd (by assumption) (kk _ _ _ _ _ hI hl rfl rfl)
      · cases hex
    · cases hex
  case pop =>
    have hlen : len = 1 := of_decide_eq_true hck
    subst hlen
    simp only [mm_ex] at hex
    split at hex
    · split at hex
      · cases hex
        exact lv_pop hexec hb hd (by assumption) (kk _ _ _ _ _ hI hl rfl rfl)
      · cases hex
    · cases hex
  case dup2 =>
    have hlen : len = 1 := of_decide_eq_true hck
    subst hlen
    simp only [mm_ex] at hex
    split at hex
    · split at hex
      · rename_i hc2
        cases hex
        exact lv_dup2_11 hexec hb hd hc2.1 hc2.2 (kk _ _ _ _ _ hI hl rfl rfl)
      · cases hex
    · cases hex
  case if_icmp k off =>
    simp only [rf_ck, Bool.and_eq_true, decide_eq_true_eq] at hck
    obtain ⟨rfl, h0⟩ := hck
    have ht := rf_tgt h0
    simp only [mm_ex] at hex
    split at hex
    · rename_i y x rest
      have kt : mm_cond k x y = true → W p l e R s m args below meth c H locs cells slots Q (F0 m ((pc : Int) + off).toNat ls rest) := by
        intro hc
        rw [if_pos hc] at hex
        obtain ⟨-, h3⟩ := rf_jump hex
        cases h3
        exact kk _ _ _ _ _ hI hl rfl rfl
      have kf : ¬ mm_cond k x y = true → W p l e R s m args below meth c H locs cells slots Q (F0 m (pc + 3) ls rest) := by
        intro hc
        rw [if_neg hc] at hex
        cases hex
        exact kk _ _ _ _ _ hI hl rfl rfl
      cases k
      · exact lv_icmp_eq hexec hb hd ht (fun hc => kt (by simpa [mm_cond] using hc)) (fun hc => kf (by simpa [mm_cond] using hc))
      · exact lv_icmp_ne hexec hb hd ht (fun hc => kt (by simpa [mm_cond] using hc)) (fun hc => kf (by simpa [mm_cond] using hc))
      · exact lv_icmp_lt hexec hb hd ht (fun hc => kt (by simpa [mm_cond] using hc)) (fun hc => kf (by simpa [mm_cond] using hc))
      · exact lv_icmp_ge hexec hb hd ht (fun hc => kt (by simpa [mm_cond] using hc)) (fun hc => kf (by simpa [mm_cond] using hc))
      · exact lv_icmp_gt hexec hb hd ht (fun hc => kt (by simpa [mm_cond] using hc)) (fun hc => kf (by simpa [mm_cond] using hc))
      · exact lv_icmp_le hexec hb hd ht (fun hc => kt (by simpa [mm_cond] using hc)) (fun hc => kf (by simpa [mm_cond] using hc))
    · cases hex
  case ifCond k off =>
    simp only [rf_ck, Bool.and_eq_true, decide_eq_true_eq] at hck
    obtain ⟨rfl, h0⟩ := hck
    have ht := rf_tgt h0
    simp only [mm_ex] at hex
    split at hex
    · rename_i x rest
      have kt : mm_cond k x 0 = true → W p l e R s m args below meth c H locs cells slots Q (F0 m ((pc : Int) + off).toNat ls rest) := by
        intro hc
        rw [if_pos hc] at hex
        obtain ⟨-, h3⟩ := rf_jump hex
        cases h3
        exact kk _ _ _ _ _ hI hl rfl rfl
      have kf : ¬ mm_cond k x 0 = true → W p l e R s m args below meth c H locs cells slots Q (F0 m (pc + 3) ls rest) := by
        intro hc
        rw [if_neg hc] at hex
        cases hex
        exact kk _ _ _ _ _ hI hl rfl rfl
      cases k
      · exact lv_if_eq hexec hb hd ht (fun hc => kt (by simpa [mm_cond] using hc)) (fun hc => kf (by simpa [mm_cond] using hc))
      · exact lv_if_ne hexec hb hd ht (fun hc => kt (by simpa [mm_cond] using hc)) (fun hc => kf (by simpa [mm_cond] using hc))
      · exact lv_if_lt hexec hb hd ht (fun hc => kt (by simpa [mm_cond] using hc)) (fun hc => kf (by simpa [mm_cond] using hc))
      · exact lv_if_ge hexec hb hd ht (fun hc => kt (by simpa [mm_cond] using hc)) (fun hc => kf (by simpa [mm_cond] using hc))
      · exact lv_if_gt hexec hb hd ht (fun hc => kt (by simpa [mm_cond] using hc)) (fun hc => kf (by simpa [mm_cond] using hc))
      · exact lv_if_le hexec hb hd ht (fun hc => kt (by simpa [mm_cond] using hc)) (fun hc => kf (by simpa [mm_cond] using hc))
    · cases hex
  case goto off =>
    simp only [rf_ck, Bool.and_eq_true, decide_eq_true_eq] at hck
    obtain ⟨rfl, h0⟩ := hck
    obtain ⟨-, h3⟩ := rf_jump hex
    cases h3
    exact lv_goto hexec hb hd (rf_tgt h0) (kk _ _ _ _ _ hI hl rfl rfl)
  case tableswitch dflt lo hi offs =>
    simp only [mm_ex, mm_sw] at hex
    split at hex
    · rename_i x rest
      split at hex
      · rename_i hx
        obtain ⟨h0, h3⟩ := rf_jump hex
        cases h3
        exact lv_tableOut hexec hb hd hx (rf_tgt h0) (kk _ _ _ _ _ hI hl rfl rfl)
      · rename_i hx
        split at hex
        · rename_i off ho
          obtain ⟨h0, h3⟩ := rf_jump hex
          cases h3
          exact lv_tableIn hexec hb hd (fun q => hx (Or.inl q)) (fun q => hx (Or.inr q)) ho (rf_tgt h0) (kk _ _ _ _ _ hI hl rfl rfl)
        · cases hex
    · cases hex
  case getstatic i =>
    simp only [rf_ck, Bool.and_eq_true, decide_eq_true_eq] at hck
    obtain ⟨rfl, hck⟩ := hck
    split at hck
    · rename_i nm hnm
      obtain ⟨q, hq, hZ⟩ := hZs a nm hnm
      simp only [mm_ex, hq] at hex
      cases hex
      have hbA : E.1 ≤ s.heap.size := hbs
      exact va_gets hexec hb hZ hI.2.2 hown (rf_w_in hTw hts hck) (fun _ h9 => h9) hd (kk _ _ _ _ _ hI hl rfl rfl)
    · cases hck
  case iaload =>
    have hlen : len = 1 := of_decide_eq_true hck
    subst hlen
    simp only [mm_ex, mm_ald] at hex
    split at hex
    · rename_i i q rest
      split at hex
      · rename_i t n f hc
        split at hex
        · rename_i hh
          cases hex
          obtain ⟨k, rfl, hk⟩ := rf_cell hc
          obtain ⟨ht, hin⟩ := hh
          have ht : t = 0 := ht.elim id id
          subst ht
          exact va_iald hexec hb hK hI.2.1 k 0 (rf_ws_at hk) rfl (rf_inr hin) hd (kk _ _ _ _ _ hI hl rfl rfl)
        · cases hex
      · cases hex
      · split at hex
        · rename_i a0 n f hs
          split at hex
          · rename_i hh
            cases hex
            unfold mm_stat at hs
            split at hs
            · cases hs
            · have hq1 := List.find?_some hs
              have hq2 := List.mem_of_find?_eq_some hs
              have hq3 : a0 = q := by simpa using hq1
              subst hq3
              exact va_ti hexec hb (hTb _ hq2) hI.2.2 (rf_inr hh.2) rfl hd (kk _ _ _ _ _ hI hl rfl rfl)
          · cases hex
        · cases hex
    · cases hex
  case baload =>
    have hlen : len = 1 := of_decide_eq_true hck
    subst hlen
    simp only [mm_ex, mm_ald] at hex
    split at hex
    · rename_i i q rest
      split at hex
      · rename_i t n f hc
        split at hex
        · rename_i hh
          cases hex
          obtain ⟨k, rfl, hk⟩ := rf_cell hc
          obtain ⟨ht, hin⟩ := hh
          rcases ht with rfl | rfl
          · exact va_bald hexec hb hK hI.2.1 k 1 (rf_ws_at hk) rfl (rf_inr hin) hd (kk _ _ _ _ _ hI hl rfl rfl)
          · exact va_zald hexec hb hK hI.2.1 k 2 (rf_ws_at hk) rfl (rf_inr hin) hd (kk _ _ _ _ _ hI hl rfl rfl)
        · cases hex
      · cases hex
      · split at hex
        · split at hex
          · rename_i hh
            exact absurd hh.1 (by decide)
          · cases hex
        · cases hex
    · cases hex
  case iastore =>
    have hlen : len = 1 := of_decide_eq_true hck
    subst hlen
    simp only [mm_ex, mm_ast] at hex
    split at hex
    · rename_i x i q rest
      split at hex
      · rename_i t n f hc
        split at hex
        · rename_i hh
          cases hex
          obtain ⟨k, rfl, hk⟩ := rf_cell hc
          obtain ⟨ht, hin⟩ := hh
          have ht : t = 0 := ht.elim id id
          subst ht
          refine rf_iast hexec hb hK hI hk rfl (rf_inr hin) hd (fun H1 locs1 hI1 => ?_)
          refine kk _ _ _ _ _ ?_ hl rfl rfl
          rw [Nat.add_sub_cancel_left]
          exact hI1
        · cases hex
      · cases hex
    · cases hex
  case bastore =>
    have hlen : len = 1 := of_decide_eq_true hck
    subst hlen
    simp only [mm_ex, mm_ast] at hex
    split at hex
    · rename_i x i q rest
      split at hex
      · rename_i t n f hc
        split at hex
        · rename_i hh
          cases hex
          obtain ⟨k, rfl, hk⟩ := rf_cell hc
          obtain ⟨ht, hin⟩ := hh
          rcases ht with rfl | rfl
          · refine rf_bast hexec hb hK hI hk rfl (rf_inr hin) hd (fun H1 locs1 hI1 => ?_)
            refine kk _ _ _ _ _ ?_ hl rfl rfl
            rw [Nat.add_sub_cancel_left]
            exact hI1
          · refine rf_zast hexec hb hK hI hk rfl (rf_inr hin) hd (fun H1 locs1 hI1 => ?_)
            refine kk _ _ _ _ _ ?_ hl rfl rfl
            rw [Nat.add_sub_cancel_left]
            exact hI1
        · cases hex
      · cases hex
    · cases hex
  case laload =>
    have hlen : len = 1 := of_decide_eq_true hck
    subst hlen
    simp only [mm_ex, mm_lald] at hex
    split at hex
    · rename_i i q rest
      split at hex
      · rename_i t n f hc
        split at hex
        · rename_i hh
          cases hex
          obtain ⟨k, rfl, hk⟩ := rf_cell hc
          obtain ⟨rfl, hin⟩ := hh
          exact va_lald hexec hb hK hI.2.1 k 3 (rf_ws_at hk) rfl (rf_inr hin) hd (kk _ _ _ _ _ hI hl rfl rfl)
        · cases hex
      · cases hex
    · cases hex
  case lastore =>
    have hlen : len = 1 := of_decide_eq_true hck
    subst hlen
    simp only [mm_ex, mm_last] at hex
    split at hex
    · rename_i x i q rest
      split at hex
      · rename_i t n f hc
        split at hex
        · rename_i hh
          cases hex
          obtain ⟨k, rfl, hk⟩ := rf_cell hc
          obtain ⟨rfl, hin⟩ := hh
          refine rf_last hexec hb hK hI hk rfl (rf_inr hin) hd (fun H1 locs1 hI1 => ?_)
          refine kk _ _ _ _ _ ?_ hl rfl rfl
          rw [Nat.add_sub_cancel_left]
          exact hI1
        · cases hex
      · cases hex
    · cases hex
  case aaload =>
    have hlen : len = 1 := of_decide_eq_true hck
    subst hlen
    simp only [mm_ex, mm_aald] at hex
    split at hex
    · rename_i i q rest
      split at hex
      · rename_i t n f hc
        split at hex
        · rename_i hh
          cases hex
          obtain ⟨k, rfl, hk⟩ := rf_cell hc
          obtain ⟨rfl, hin⟩ := hh
          have hin := rf_inr hin
          have hlt : i.toNatClampNeg < n := Nat.not_le.mp fun q => hin (Or.inr q)
          exact W.aald (v := va_rf (f i.toNatClampNeg)) (ty := .array .int) hexec hb (hI.2.1 k _ (rf_ws_at hk)) ((hK.2 4 _ rfl).1 n (fun j => va_rf (f j))) rfl (fun q => by cases q) (by show ¬ (i < 0 ∨ (arrV _ _ _).slots.size ≤ _); rw [arrV_size]; exact hin) (by show (arrV _ _ _).slots[_]? = _; rw [arrV_read _ _ hlt]) rfl rfl hd (kk _ _ _ _ _ hI hl rfl rfl)
        · cases hex
      · cases hex
    · cases hex
  case arraylength =>
    have hlen : len = 1 := of_decide_eq_true hck
    subst hlen
    simp only [mm_ex, mm_alen] at hex
    split at hex
    · rename_i q rest
      split at hex
      · rename_i t n f hc
        split at hex
        · rename_i hh
          cases hex
          obtain ⟨k, rfl, hk⟩ := rf_cell hc
          obtain ⟨ty0, hty0⟩ : ∃ ty0, (rf_tys cA)[t]? = some (cA t, ty0) := by
            rcases t with _ | _ | _ | _ | _ | t
            · exact ⟨_, rfl⟩
            · exact ⟨_, rfl⟩
            · exact ⟨_, rfl⟩
            · exact ⟨_, rfl⟩
            · exact ⟨_, rfl⟩
            · exact absurd hh (Nat.not_lt.mpr (Nat.le_add_left 5 t))
          exact va_alen hexec hb hK hI.2.1 k t (rf_ws_at hk) hty0 rfl hd (kk _ _ _ _ _ hI hl rfl rfl)
        · cases hex
      · cases hex
      · split at hex
        · rename_i a0 n f hs
          cases hex
          unfold mm_stat at hs
          split at hs
          · cases hs
          · have hq1 := List.find?_some hs
            have hq2 := List.mem_of_find?_eq_some hs
            have hq3 : a0 = q := by simpa using hq1
            subst hq3
            exact va_tlen hexec hb (hTb _ hq2) hI.2.2 rfl hd (kk _ _ _ _ _ hI hl rfl rfl)
        · cases hex
    · cases hex
  case getfield i =>
    simp only [rf_ck, Bool.and_eq_true, decide_eq_true_eq] at hck
    obtain ⟨rfl, hck⟩ := hck
    split at hck
    · rename_i C TT N hcl
      simp only [Bool.and_eq_true, decide_eq_true_eq] at hck
      simp only [mm_ex, mm_getf] at hex
      split at hex
      · rename_i q rest
        split at hex
        · rename_i ci fs hc
          split at hex
          · rename_i hci
            split at hex
            · rename_i v hv
              cases hex
              obtain ⟨k, rfl, hk⟩ := rf_cell hc
              subst hci
              exact rf_get hexec hb hts hCl hown hK hI hk hcl hck.1 (rf_w_in hTw hts hck.2) hv hd (kk _ _ _ _ _ hI hl rfl rfl)
            · cases hex
          · cases hex
        · cases hex
      · cases hex
    · cases hck
  case putfield i =>
    simp only [rf_ck, Bool.and_eq_true, decide_eq_true_eq] at hck
    obtain ⟨rfl, hck⟩ := hck
    split at hck
    · rename_i C TT N hcl
      simp only [Bool.and_eq_true, decide_eq_true_eq] at hck
      obtain ⟨hbN, hwd, hfin⟩ := hck
      simp only [mm_ex] at hex
      split at hex
      · rename_i lk hlk
        split at hex
        · rename_i kd hkd
          simp only [mm_putf] at hex
          split at hex
          · rename_i v q rest
            split at hex
            · rename_i ci fs hc
              split at hex
              · rename_i hh
                cases hex
                obtain ⟨k, rfl, hk⟩ := rf_cell hc
                obtain ⟨rfl, hlt, hfit⟩ := hh
                obtain ⟨-, -, -, -, -, ks, hks, -, hall⟩ := hCl _ C TT N hcl
                cases hlk.symm.trans hks
                have e1 := (hall b hbN).1
                cases hkd.symm.trans e1
                refine rf_put hexec hb hts hCl hown hK hI hk hcl hbN (rf_w_in hTw hts hwd) ?_ hfit hlt hd (fun H1 locs1 hI1 => ?_)
                · simp only [Bool.or_eq_true, Bool.not_eq_true', Bool.and_eq_true, decide_eq_true_eq] at hfin
                  rcases hfin with hf | ⟨hf1, hf2⟩
                  · exact Or.inl hf
                  · exact Or.inr ⟨hini hf1, hf2⟩
                · refine kk _ _ _ _ _ ?_ hl rfl rfl
                  rw [Nat.add_sub_cancel_left]
                  exact hI1
              · cases hex
            · cases hex
          · cases hex
        · cases hex
      · cases hex
    · cases hck
  case new i =>
    simp only [rf_ck, Bool.and_eq_true, decide_eq_true_eq] at hck
    obtain ⟨rfl, hck⟩ := hck
    split at hck
    · rename_i C TT N hcl
      simp only [mm_ex] at hex
      split at hex
      · rename_i lk hlk
        simp only [mm_new] at hex
        split at hex
        · rename_i hh
          cases hex
          refine rf_new hexec hb hts hCl hown (rf_w_in hTw hts hck) hK hI hcl hlk (by omega) (by omega) hd (fun H1 hI1 => ?_)
          exact kk _ _ _ _ _ hI1 hl (by omega) (by omega)
        · cases hex
      · cases hex
    · cases hck
  case newarray t =>
    simp only [rf_ck, Bool.and_eq_true, decide_eq_true_eq] at hck
    obtain ⟨rfl, hck⟩ := hck
    have hwd := rf_w_in hTw hts hck
    simp only [mm_ex, mm_newa] at hex
    split at hex
    · rename_i n rest
      split at hex
      · rename_i hh
        obtain ⟨g1, g2, g3, g4⟩ := hh
        have hcl := rf_clamp g1 (M := 100000) g2
        cases t <;> simp only [reduceCtorEq, Option.some.injEq, Prod.mk.injEq] at hex <;> obtain ⟨rfl, rfl, rfl, rfl, rfl, rfl⟩ := hex
        · exact rf_newa hexec hb hwd rfl (t := 2) ((hK.2 2 _ rfl).2) hI (fun _ => rfl) (rf_nlt g1) rfl (by show n.toNatClampNeg * 1 ≤ 536870912; omega) (by omega) (by omega) hd (fun H1 hI1 => kk _ _ _ _ _ hI1 hl (by omega) (by omega))
        · exact rf_newa hexec hb hwd rfl (t := 1) ((hK.2 1 _ rfl).2) hI (fun _ => rfl) (rf_nlt g1) rfl (by show n.toNatClampNeg * 1 ≤ 536870912; omega) (by omega) (by omega) hd (fun H1 hI1 => kk _ _ _ _ _ hI1 hl (by omega) (by omega))
        · exact rf_newa hexec hb hwd rfl (t := 0) ((hK.2 0 _ rfl).2) hI (fun _ => rfl) (rf_nlt g1) rfl (by show n.toNatClampNeg * 4 ≤ 536870912; omega) (by omega) (by omega) hd (fun H1 hI1 => kk _ _ _ _ _ hI1 hl (by omega) (by omega))
        · exact rf_newa hexec hb hwd rfl (t := 3) ((hK.2 3 _ rfl).2) hI (fun _ => rfl) (rf_nlt g1) rfl (by show n.toNatClampNeg * 8 ≤ 536870912; omega) (by omega) (by omega) hd (fun H1 hI1 => kk _ _ _ _ _ hI1 hl (by omega) (by omega))
      · cases hex
    · cases hex
  case multianewarray i dims =>
    simp only [rf_ck, Bool.and_eq_true, decide_eq_true_eq] at hck
    obtain ⟨rfl, hck⟩ := hck
    have hwd := rf_w_in hTw hts hck
    rcases dims with _ | _ | _ | dims
    · cases hex
    · cases hex
    · simp only [mm_ex, mm_newm] at hex
      split at hex
      · rename_i k n rest
        split at hex
        · rename_i hh
          obtain ⟨g1, g2, g3, g4, g5, g6⟩ := hh
          have hn := rf_clamp g1 (M := 10000) g2
          have hk := rf_clamp g3 (M := 10000) g4
          cases hex
          exact rf_mna hexec hb hown hwd hAO (hts _ hAi) ((hK.2 0 _ rfl).2) ((hK.2 4 _ rfl).2) hI (rf_nlt g1) (rf_nlt g3) rfl rfl (by omega) (by omega) (by omega) (by omega) hd (fun H1 hI1 => kk _ _ _ _ _ hI1 hl (by omega) (by omega))
        · cases hex
      · cases hex
    · cases hex
  all_goals (exact absurd hex (by simp [mm_ex]))
end RFX
end
section
/-! THE REFINEMENT, whole runs: a big step of the mini machine, and the machine's contracts out of it -/
def mm_big (E : mm_E) (kds : List (List Nat)) (P : mm_T) : Nat → Nat → mm_F → mm_H → Option (Option Value × mm_H)
  | 0, _, _, _ => none
  | n + 1, d, (m, pc, lv, st, cb, sb), h => match mm_at P m pc with
    | none => none
    | some ((_, len, ins, a, b, z, _), nL, (_, _, _, rk, _, _)) => match mm_inv ins with
      | some ik => if d = 0 then none else if a < 2 then (match mm_sp E a ik lv st cb sb h (pc + len) with
          | some (pc', lv', st', cb', sb', h') => mm_big E kds P n d (m, pc', lv', st', cb', sb') h'
          | none => none)
        else (match P[a]? with
          | some (_, nL', np, kd, ci, _, mc, ms) => if kd = ik ∧ mc ≤ cb ∧ ms ≤ sb ∧ np ≤ st.length then
              (match mm_recv E h kd ci (st.drop np) with
              | some (rv, r) => if (r.map fun v => v.category).sum ≤ 8 ∧ (lg_sl (rv ++ (st.take np).reverse)).length ≤ nL' then
                  (match mm_big E kds P n (d - 1) (a, 0, lv_args 0 (rv ++ (st.take np).reverse), [], mc, ms) h with
                  | some (v1, h1) => mm_big E kds P n d (m, pc + len, lv, v1.toList ++ r, cb - mc, sb - ms) h1
                  | none => none) else none
              | none => none) else none
          | none => none)
      | none => match mm_rtn ins with
        | some ik => (match mm_ans rk ik st with
          | some v => some (v, h)
          | none => none)
        | none => match mm_ex E kds nL ins len a b z pc lv st cb sb h with
          | some (pc', lv', st', cb', sb', h') => mm_big E kds P n d (m, pc', lv', st', cb', sb') h'
          | none => none
abbrev rf_Y : Type := MethodName × ByteArray × Option FieldType
def rf_rk (rk : Nat) (ret : Option FieldType) : Bool := match ret with
  | none => decide (rk = 0)
  | some .int => decide (rk = 1)
  | some .boolean => decide (rk = 2)
  | some .long => decide (rk = 3)
  | _ => false
def rf_nlk (Tw : List Cond) (own : String) (w i : Nat) (y : MethodName) : Bool := match Tw[w]? with
  | some (.methodLinkNest o j y' _) => decide (o = own) && (decide (j = i) && decide (y' = y))
  | _ => false
/-- is an instruction as the table says -/
def rf_cks (Tw : List Cond) (cl : List vw_C) (SN : List (String × String × String)) (DS : List rf_Y) (nM : Nat) (own : String) (ini : Bool) (q : mm_I) : Bool := match q with
  | (pc, len, ins, a, b, z, w) => match ins with
    | .invokestatic i => decide (len = 3) && (match a with
      | 0 => false
      | 1 => rf_w Tw w (.methodLink own i arraycopyName)
      | a => decide (a < nM) && (match DS[a]? with
        | some y => rf_w Tw w (.methodLink own i y.1) || rf_nlk Tw own w i y.1
        | none => false))
    | .invokevirtual i => decide (len = 3) && (decide (2 ≤ a) && (decide (a < nM) && (match DS[a]? with
      | some y => rf_w Tw w (.methodLink own i y.1)
      | none => false)))
    | .invokespecial i => decide (len = 3) && (match a with
      | 0 => rf_w Tw w (.methodLink own i objectInit)
      | 1 => false
      | a => decide (a < nM) && (match DS[a]? with
        | some y => rf_w Tw w (.methodLink own i y.1)
        | none => false))
    | _ => rf_ck Tw cl SN own ini pc len ins a b z w
/-- a method as the words say -/
def rf_M (T : List Cond) (cl : List vw_C) (y : MethodName) (cc : ByteArray) (ret : Option FieldType) (nL np kd ci rk : Nat) : Prop :=
  Cond.code y cc nL ret ∈ T ∧ Cond.initialized y.cls ∈ T ∧ plainFor y = true ∧ (y.cls ≠ "java/lang/invoke/MethodHandle" ∧ y.cls ≠ "java/lang/invoke/VarHandle" ∧ (parseMethodDescriptor y.desc).map (fun d => d.parameters.length) = some np) ∧ rf_rk rk ret = true ∧ nL ≤ 40 ∧
  (kd = 0 → Cond.static y ∈ T) ∧ (kd = 1 → Cond.instanceMethod y ∈ T ∧ Cond.selects y.cls y y ∈ T ∧ ∃ TT N, cl[ci]? = some (y.cls, TT, N)) ∧ (kd = 2 → Cond.instanceMethod y ∈ T ∧ y.name = "<init>" ∧ ret = none)
def rf_P (P : mm_T) (DS : List rf_Y) (nM : Nat) (Tw T : List Cond) (cl : List vw_C) (SN : List (String × String × String)) : Prop := ∀ (k : Nat) (cs : List (List mm_I)) (nL np kd ci rk mc ms : Nat), P[k]? = some (cs, nL, np, kd, ci, rk, mc, ms) → 2 ≤ k → k < nM →
  ∃ y cc ret, DS[k]? = some (y, cc, ret) ∧ rf_M T cl y cc ret nL np kd ci rk ∧ ∀ ch ∈ cs, ∀ q ∈ ch, decode cc q.1 = .ok (q.2.2.1, q.2.1) ∧ rf_cks Tw cl SN DS nM y.cls (decide (y.name = "<init>")) q = true
def rf_G (T : List Cond) : Prop := Cond.arrayClass .int ∈ T ∧ Cond.instanceMethod objectInit ∈ T ∧ Cond.code objectInit ⟨#[0xb1]⟩ 1 none ∈ T ∧ Cond.native arraycopyName ∈ T ∧ Cond.static arraycopyName ∈ T ∧ Cond.initialized "java/lang/System" ∈ T
theorem rf_mmat {P : mm_T} {k pc : Nat} {q : mm_I} {nL : Nat} {dd : mm_M} (h : mm_at P k pc = some (q, nL, dd)) : ∃ cs, P[k]? = some (cs, nL, dd) ∧ q.1 = pc ∧ ∃ ch ∈ cs, q ∈ ch := by
  unfold mm_at at h
  split at h
  · rename_i cs nL' d hk
    split at h
    · rename_i ch hch
      cases hf : ch.find? (fun q => q.1 == pc) with
      | none => rw [hf] at h; cases h
      | some q' =>
        rw [hf] at h
        cases h
        have h1 := List.find?_some hf
        exact ⟨cs, hk, by simpa using h1, ch, List.mem_of_getElem? hch, List.mem_of_find?_eq_some hf⟩
    · cases h
  · cases h
def rf_rm (d mc ms : Nat) : Room := { frames := d, cells := mc, slots := ms, locals := 60 * d }
def rf_Pc (E : mm_E) (SN : List (String × String × String)) (Tw : List Cond) (D : va_G) (cl : List vw_C) (cA : Nat → ClassId) (av : List Value) (h : mm_H) : Array Value → State → Prop := fun v U => v = av.toArray ∧ rf_Cx E SN Tw D cl cA U ∧ U.heap.size = E.1 + h.length ∧ va_P D cl (rf_ws cA E.1 h) U.heap
def rf_Qc (E : mm_E) (D : va_G) (cl : List vw_C) (cA : Nat → ClassId) (v : Option Value) (h' : mm_H) : Array Value → State → Outcome → State → Prop := fun _ st oc t => oc = .returned v ∧ t.heap.size = E.1 + h'.length ∧ va_P D cl (rf_ws cA E.1 h') t.heap ∧ va_F (fun q : Nat => E.1 ≤ q) st t
theorem rf_Cx.same {E : mm_E} {SN : List (String × String × String)} {Tw : List Cond} {D : va_G} {cl : List vw_C} {cA : Nat → ClassId} {u U : State} (h : rf_Cx E SN Tw D cl cA u) (hv : u.vm = U.vm) (hh : U.heap = u.heap) : rf_Cx E SN Tw D cl cA U := by
  have hal : u.vm.Alike U.vm := by rw [hv]; exact Vm.Alike.refl U.vm
  obtain ⟨h1, h2, h3, h4, h5, h6⟩ := h
  refine ⟨va_K.moved hal h1, fun w hw hn => ?_, Jvm.Stand.arrayOver_alikeB hal h3, fun q hq => ?_, fun k nm hk => ?_, by rw [hh]; exact h6⟩
  · refine va_Nw.same ?_ hv (h2 w hw hn)
    cases w <;> first | rfl | exact absurd hn Bool.false_ne_true
  · rw [hh]; exact va_T.moved hal (h4 q hq)
  · obtain ⟨q, hq, hz⟩ := h5 k nm hk
    rw [hh]
    exact ⟨q, hq, va_Z.moved hal hz⟩
theorem rf_Cx.warm {E : mm_E} {SN : List (String × String × String)} {Tw : List Cond} {D : va_G} {cl : List vw_C} {cA : Nat → ClassId} {s U : State} (h : rf_Cx E SN Tw D cl cA s) (hW : s.WarmedH U.vm) (hz : E.1 ≤ U.heap.size) (hh : ∀ q : Nat, q < s.heap.size → ¬ E.1 ≤ q → U.heap[q]? = s.heap[q]?) : rf_Cx E SN Tw D cl cA U := by
  have hal := hW.alike
  obtain ⟨h1, h2, h3, h4, h5, h6⟩ := h
  refine ⟨va_K.moved hal h1, fun w hw hn => ?_, Jvm.Stand.arrayOver_alikeB hal h3, fun q hq => va_T.moved hal ((h4 q hq).kept hh), fun k nm hk => ?_, hz⟩
  · have h9 := h2 w hw hn
    cases w <;> first | exact va_Nw.warmM hW h9 | exact absurd hn Bool.false_ne_true
  · obtain ⟨q, hq, hz⟩ := h5 k nm hk
    exact ⟨q, hq, va_Z.moved hal (hz.kept hh)⟩
section RFB
variable {p : Program} {l : Launch} {e : Env} {R : Room} {s : State} {m : MethodId} {args : Array Value} {below : List Frame} {meth : Method} {c : Code} {H : Heap} {locs : List Loc} {cells slots : Nat} {Q : State → Prop}
variable {D : va_G} {cl : List vw_C} {cA : Nat → ClassId}
theorem rf_call {E : mm_E} {mc ms pc : Nat} {ls : Array Slot} {st0 rest : List Value} {a : Array Value} {v1 : Option Value} {h h1 : mm_H} (hr : va_Run p l e R s m args below meth c H locs cells slots mc ms (F0 m pc ls st0) rest (rf_Qc E D cl cA v1 h1 a) (fun q : Nat => E.1 ≤ q)) (hI : rf_I D cl cA E.1 s h H locs)
    (kk : ∀ (H1 : Heap) (locs1 : List Loc), rf_I D cl cA E.1 s h1 H1 locs1 → W p l e R s m args below meth c H1 locs1 (cells + mc) (slots + ms) Q (F0 m (pc + 3) ls (v1.toList ++ rest))) : W p l e R s m args below meth c H locs cells slots Q (F0 m pc ls st0) := by
  intro T hT X
  obtain ⟨v, st₀, t, T', L, h0, X', hL, e1, e2, ⟨hv, hz, hP, hF⟩, st⟩ := hr T hT X
  cases hv
  have hF1 := hF.1
  have hF2 := hF.2
  rw [h0, ← e1] at hF1
  rw [h0, ← e1] at hF2
  rw [← e1] at hz hP
  obtain ⟨t2, a1, b1⟩ := kk T'.heap (locs ++ L) ⟨hz, hP, Nat.le_trans hI.2.2.1 hF1, fun q g1 g2 => (hF2 q (Nat.lt_of_lt_of_le g1 hI.2.2.1) g2).trans (hI.2.2.2.1 q g1 g2), fun q hq => by
    rcases List.mem_append.mp hq with h | h
    · exact hI.2.2.2.2 q h
    · exact hL q h⟩ T' rfl X'
  exact ⟨t2, st t2 a1, b1⟩
end RFB
theorem rf_blind {E : mm_E} {SN : List (String × String × String)} {Tw : List Cond} {D : va_G} {cl : List vw_C} {cA : Nat → ClassId} {av : List Value} {h : mm_H} : FrameBlind (rf_Pc E SN Tw D cl cA av h) := by
  intro a U g mk q
  obtain ⟨q0, q1, q2, q3⟩ := q
  exact ⟨q0, q1.same rfl rfl, q2, q3⟩
theorem rf_pre {E : mm_E} {SN : List (String × String × String)} {Tw : List Cond} {D : va_G} {cl : List vw_C} {cA : Nat → ClassId} {s : State} {H : Heap} {locs : List Loc} {av : List Value} {h : mm_H} (hC : rf_Cx E SN Tw D cl cA s) (hI : rf_I D cl cA E.1 s h H locs) : PreS s H (rf_Pc E SN Tw D cl cA av h) av := by
  refine ⟨rf_blind, fun U hU hW => ⟨rfl, hC.warm hW ?_ ?_, by rw [hU]; exact hI.1, by rw [hU]; exact hI.2.1⟩⟩
  · rw [hU, hI.1]; exact Nat.le_add_right _ _
  · intro q h1 h2
    rw [hU]
    exact hI.2.2.2.1 q h1 h2
end
section
/-! THE REFINEMENT: what the mini machine's big step answers, the machine answers -/
theorem rf_nfw : nativeFrameWords "java/lang/System" "arraycopy" 5 = 7 := by decide
section RFW
variable {E : mm_E} {SN : List (String × String × String)} {Tw T : List Cond} {D : va_G} {cl : List vw_C} {cA : Nat → ClassId} {ty : Nat → Nat → FieldType} {kds : List (List Nat)} {P : mm_T} {DS : List rf_Y} {nM : Nat}
/-- a method's contract out of W of its body -/
theorem rf_met {l : Launch} {y : MethodName} {cc : ByteArray} {ret : Option FieldType} {nL np kd ci rk mc ms d : Nat} {av : List Value} {h h1 : mm_H} {v1 : Option Value} (hM : rf_M T cl y cc ret nL np kd ci rk) (hav : (lg_sl av).length ≤ nL)
    (body : ∀ {p : Program} {e : Env} {s : State} {m : MethodId} {args : Array Value} {below : List Frame} {meth : Method} {c : Code} {Q : State → Prop} {ls : Array Slot}, p.tables.exec = Jvm.exec → c.code = cc → c.maxLocals = nL → s.vm.findClass y.cls = some m.cls → (decide (y.name = "<init>") = true → meth.name = "<init>") → (∀ w ∈ T, w.before args s = true) → rf_Cx E SN Tw D cl cA s → lv_has ls nL (lv_args 0 av) → rf_I D cl cA E.1 s h s.heap [] →
      (∀ (H' : Heap) (locs' : List Loc) (cells' slots' : Nat) (pc' : Nat) (ls' : Array Slot) (st' : List Value) (ins : Instr) (ik : Nat), decode cc pc' = .ok (ins, 1) → mm_rtn ins = some ik → mm_ans rk ik st' = some v1 → rf_I D cl cA E.1 s h1 H' locs' → cells' ≤ mc → slots' ≤ ms → W p l e (rf_rm d mc ms) s m args below meth c H' locs' cells' slots' Q (F0 m pc' ls' st')) →
      W p l e (rf_rm d mc ms) s m args below meth c s.heap [] 0 0 Q (F0 m 0 ls [])) :
    Met l y (Cond.code y cc nL ret :: T) (rf_rm d mc ms) (rf_Pc E SN Tw D cl cA av h) (rf_Qc E D cl cA v1 h1) mc ms (fun q : Nat => E.1 ≤ q) := by
  obtain ⟨-, -, hpl, -, hrk, -⟩ := hM
  refine va_MetF (cc := cc) (maxL := nL) (ret := ret) hpl rfl ?_
  intro p e s m args below meth c s₁ B hml hv
  obtain ⟨rfl, hC, hsz, hP⟩ := hv
  have hx := B.exec
  have hb := B.bytes
  have hr := B.returns
  have hts := atoms_spec (ws := Cond.code y cc nL ret :: T) B.pre
  have hown : s.vm.findClass y.cls = some m.cls := findClass_of_methodNamed B.named
  have hlocks := B.notSynchronized
  have hnm := (name_of_methodNamed B.named B.method).1
  have hl := lv_entry av (n := nL) hav
  rw [lg_entry_eq]
  refine body hx hb hml hown (fun q => hnm.trans (of_decide_eq_true q)) (fun w hw => hts w (List.mem_cons_of_mem _ hw)) hC hl ⟨hsz, hP, va_S.rf⟩ ?_
  intro H' locs' cells' slots' pc' ls' st' ins ik hdg hrt hans hI hcm hsm
  refine W.widen (k := mc) (n := ms) hcm hsm ?_
  have fin : ∀ t : State, t.heap = H' → ∀ oc, oc = Outcome.returned v1 → rf_Qc E D cl cA v1 h1 av.toArray s oc t := fun t ht oc hoc => ⟨hoc, by rw [ht]; exact hI.1, by rw [ht]; exact hI.2.1, hI.2.2.F ht⟩
  cases ins <;> simp only [mm_rtn, reduceCtorEq, Option.some.injEq] at hrt
  · -- ireturn
    subst hrt
    unfold mm_ans at hans
    split at hans
    · split at hans
      · rename_i hh; exact absurd hh.2 (by decide)
      · cases hans
    · rename_i v
      split at hans
      · rename_i hh
        cases hans
        rcases hh.2 with h9 | ⟨h9, h8⟩
        · subst h9
          have hret : ret = some .int := by
            unfold rf_rk at hrk
            split at hrk <;> simp_all
          rw [hret] at hr
          exact W.iret hx hb hr (fun t ht _ => fin t ht _ rfl) hI.2.2.2.2 hdg
        · subst h9
          have hret : ret = some .boolean := by
            unfold rf_rk at hrk
            split at hrk <;> simp_all
          rw [hret] at hr
          exact W.zret hx hb hr (by rcases h8 with h8 | h8 <;> subst h8 <;> rfl) (fun t ht _ => fin t ht _ rfl) hI.2.2.2.2 hdg
      · cases hans
    · split at hans
      · rename_i hh; exact absurd hh.1 (by decide)
      · cases hans
    · cases hans
  · -- lreturn
    subst hrt
    unfold mm_ans at hans
    split at hans
    · split at hans
      · rename_i hh; exact absurd hh.2 (by decide)
      · cases hans
    · split at hans
      · rename_i hh; exact absurd hh.1 (by decide)
      · cases hans
    · split at hans
      · rename_i hh
        cases hans
        obtain ⟨-, h9⟩ := hh
        subst h9
        have hret : ret = some .long := by
          unfold rf_rk at hrk
          split at hrk <;> simp_all
        rw [hret] at hr
        exact W.lret hx hb hr (fun t ht _ => fin t ht _ rfl) hI.2.2.2.2 hdg
      · cases hans
    · cases hans
  · -- return
    subst hrt
    unfold mm_ans at hans
    split at hans
    · split at hans
      · rename_i hh
        cases hans
        obtain ⟨h9, -⟩ := hh
        subst h9
        have hret : ret = none := by
          unfold rf_rk at hrk
          split at hrk <;> simp_all
        rw [hret] at hr
        exact W.vret hx hb hr (fun t ht _ => fin t ht _ rfl) hI.2.2.2.2 hdg
      · cases hans
    · split at hans
      · rename_i hh; exact absurd hh.1 (by decide)
      · cases hans
    · split at hans
      · rename_i hh; exact absurd hh.1 (by decide)
      · cases hans
    · cases hans
set_option maxHeartbeats 4000000 in
theorem rf_W (hTw : ∀ X ∈ Tw, goodWord X = true → X ∈ T) (hTg : ∀ X ∈ T, goodWord X = true) (hCl : rf_Cl cl ty kds T) (hPt : rf_P P DS nM Tw T cl SN) (hG : rf_G T) (l : Launch) : ∀ (n d k pc : Nat) (lv : mm_V) (st : List Value) (cb sb : Nat) (h : mm_H) (v : Option Value) (h' : mm_H), mm_big E kds P n d (k, pc, lv, st, cb, sb) h = some (v, h') →
    ∀ {p : Program} {e : Env} {R : Room} {s : State} {m : MethodId} {args : Array Value} {below : List Frame} {meth : Method} {c : Code} {H : Heap} {locs : List Loc} {cells slots : Nat} {Q : State → Prop} {ls : Array Slot} {cs : List (List mm_I)} {nL np kd ci rk mc ms : Nat} {own : String} {cc : ByteArray} {ini : Bool},
    P[k]? = some (cs, nL, np, kd, ci, rk, mc, ms) → (∀ ch ∈ cs, ∀ q ∈ ch, decode cc q.1 = .ok (q.2.2.1, q.2.1) ∧ rf_cks Tw cl SN DS nM own ini q = true) → p.tables.exec = Jvm.exec → c.code = cc → c.maxLocals = nL → s.vm.findClass own = some m.cls → (ini = true → meth.name = "<init>") → (∀ w ∈ T, w.before args s = true) → rf_Cx E SN Tw D cl cA s → lv_has ls nL lv → rf_I D cl cA E.1 s h H locs → cells + cb ≤ R.cells → slots + sb ≤ R.slots → d ≤ R.frames → 60 * d ≤ R.locals →
    (∀ (H' : Heap) (locs' : List Loc) (cells' slots' : Nat) (pc' : Nat) (ls' : Array Slot) (st' : List Value) (ins : Instr) (ik : Nat), decode cc pc' = .ok (ins, 1) → mm_rtn ins = some ik → mm_ans rk ik st' = some v → rf_I D cl cA E.1 s h' H' locs' → cells' ≤ cells + cb → slots' ≤ slots + sb → W p l e R s m args below meth c H' locs' cells' slots' Q (F0 m pc' ls' st')) →
    W p l e R s m args below meth c H locs cells slots Q (F0 m pc ls st) := by
  intro n
  induction n with
  | zero => intro d k pc lv st cb sb h v h' hh; cases hh
  | succ n ih =>
    intro d k pc lv st cb sb h v h' hh p e R s m args below meth c H locs cells slots Q ls cs nL np kd ci rk mc ms own cc ini hPk hcs hexec hb hml hown hini hts hC hl hI hcb hsb hdR hlR HR
    unfold mm_big at hh
    split at hh
    · cases hh
    · rename_i q0 len ins a b z w nL0 np0 kd0 ci0 rk0 mc0 ms0 hat
      obtain ⟨cs', hPk', hpc, ch, hch, hq⟩ := rf_mmat hat
      cases hPk.symm.trans hPk'
      obtain ⟨hd, hck⟩ := hcs ch hch _ hq
      replace hpc : q0 = pc := hpc
      subst hpc
      replace hd : decode cc q0 = .ok (ins, len) := hd
      split at hh
      · -- a call
        rename_i ik hinv
        split at hh
        · cases hh
        · rename_i hd0
          split at hh
          · -- a special callee
            rename_i ha2
            split at hh
            · rename_i pc' lv' st' cb' sb' h1 hsp
              unfold mm_sp at hsp
              split at hsp
              · -- Object.<init>
                rename_i ha0
                subst ha0
                split at hsp
                · rename_i a0 r
                  split at hsp
                  · rename_i hh2
                    obtain ⟨hik, hsum⟩ := hh2
                    cases hsp
                    cases ins <;> simp only [mm_inv, reduceCtorEq, Option.some.injEq] at hinv <;> subst hinv <;> first | (exact absurd hik (by decide)) | skip
                    simp only [rf_cks, Bool.and_eq_true, decide_eq_true_eq] at hck
                    obtain ⟨hlen, hck⟩ := hck
                    subst hlen
                    refine W.objInit hexec hb hown (rf_w_in hTw hts hck) (hts _ hG.2.1) (hts _ hG.2.2.1) rfl (by rw [hml]; exact hl.1) rfl hd (by omega) (by show 2 * 0 + _ + 12 ≤ _; omega) ?_
                    exact ih d k _ lv _ cb sb h v h' hh hPk hcs hexec hb hml hown hini hts hC hl hI hcb hsb hdR hlR HR
                  · cases hsp
                · cases hsp
              · -- System.arraycopy
                rename_i ha0
                have ha1 : a = 1 := by omega
                subst ha1
                split at hsp
                · rename_i hik
                  cases ins <;> simp only [mm_inv, reduceCtorEq, Option.some.injEq] at hinv <;> subst hinv <;> first | (exact absurd hik (by decide)) | skip
                  simp only [rf_cks, Bool.and_eq_true, decide_eq_true_eq] at hck
                  obtain ⟨hlen, hck⟩ := hck
                  subst hlen
                  unfold mm_copy at hsp
                  split at hsp
                  · rename_i nn dp a1 sp a0 r
                    split at hsp
                    · rename_i t0 n0 f t1 n1 g hc0 hc1
                      split at hsp
                      · rename_i hh2
                        obtain ⟨g1, g2, g3, g4, g5, g6, g7, g8⟩ := hh2
                        cases hsp
                        obtain ⟨k0, rfl, hk0⟩ := rf_cell hc0
                        obtain ⟨k1, rfl, hk1⟩ := rf_cell hc1
                        subst g1
                        subst g2
                        refine rf_copy hexec hb (hml.trans hl.1.symm) hown (rf_w_in hTw hts hck) (hts _ hG.2.2.2.1) (hts _ hG.2.2.2.2.1) (hts _ hG.2.2.2.2.2) hC.1 hI hk0 hk1 rfl rfl (rf_nlt g5) (rf_nlt g4) (rf_nlt g3) g6 g7 (by omega) (by rw [rf_nfw]; omega) hd (fun H1 locs1 hI1 => ?_)
                        rw [Nat.add_sub_cancel_left] at hh
                        exact ih d k _ lv _ cb sb _ v h' hh hPk hcs hexec hb hml hown hini hts hC hl hI1 hcb hsb hdR hlR HR
                      · cases hsp
                    · cases hsp
                  · cases hsp
                · cases hsp
            · cases hh
          · -- a method of the table
            rename_i ha2
            split at hh
            · rename_i cs1 nL1 np1 kd1 ci1 rk1 mc1 ms1 hPa
              split at hh
              · rename_i hh1
                obtain ⟨hkd, hmc, hms, hnp⟩ := hh1
                split at hh
                · rename_i rv r hrv
                  split at hh
                  · rename_i hh2
                    obtain ⟨hsum, hav⟩ := hh2
                    split at hh
                    · rename_i v1 h1 hbig
                      have hlt : a < nM := by
                        cases ins <;> simp only [mm_inv, reduceCtorEq, Option.some.injEq] at hinv <;> simp only [rf_cks, Bool.and_eq_true, decide_eq_true_eq] at hck
                        · split at hck
                          · omega
                          · exact absurd hck.2 (by decide)
                          · simp only [Bool.and_eq_true, decide_eq_true_eq] at hck; exact hck.2.1
                        · split at hck
                          · exact absurd hck.2 (by decide)
                          · omega
                          · simp only [Bool.and_eq_true, decide_eq_true_eq] at hck; exact hck.2.1
                        · exact hck.2.2.1
                      obtain ⟨y, cc1, ret1, hDS, hM, hcs1⟩ := hPt a cs1 nL1 np1 kd1 ci1 rk1 mc1 ms1 hPa (by omega) hlt
                      have hMet : Met l y (Cond.code y cc1 nL1 ret1 :: T) (rf_rm (d - 1) mc1 ms1) (rf_Pc E SN Tw D cl cA (rv ++ (st.take np1).reverse) h) (rf_Qc E D cl cA v1 h1) mc1 ms1 (fun q : Nat => E.1 ≤ q) := by
                        refine rf_met hM hav ?_
                        intro p e s m args below meth c Q ls hexec hb hml hown hini hts hC hl hI HR
                        refine ih (d - 1) a 0 _ [] mc1 ms1 h v1 h1 hbig hPa hcs1 hexec hb hml hown hini hts hC hl hI ?_ ?_ ?_ ?_ ?_
                        · show 0 + mc1 ≤ mc1; omega
                        · show 0 + ms1 ≤ ms1; omega
                        · exact Nat.le_refl _
                        · exact Nat.le_refl _
                        · intro H' locs' cells' slots' pc' ls' st' ins ik q1 q2 q3 q4 q5 q6
                          exact HR H' locs' cells' slots' pc' ls' st' ins ik q1 q2 q3 q4 (by omega) (by omega)
                      obtain ⟨mcode, mini, -, mdesc, -, mnL, mk0, mk1, mk2⟩ := hM
                      have hG1 : GoodIn T (Cond.code y cc1 nL1 ret1 :: T) := by
                        intro w hw
                        have hw2 : w ∈ T := by
                          rcases List.mem_cons.mp hw with h9 | h9
                          · rw [h9]; exact mcode
                          · exact h9
                        exact ⟨hw2, good_of_word (hTg w hw2)⟩
                      have hRm : (rf_rm (d - 1) mc1 ms1).frames + 1 ≤ R.frames ∧ 8 + (nL1 + 11) + (rf_rm (d - 1) mc1 ms1).locals ≤ R.locals := by
                        refine ⟨?_, ?_⟩
                        · show d - 1 + 1 ≤ _; omega
                        · show 8 + (nL1 + 11) + 60 * (d - 1) ≤ _; omega
                      have hgood : ∀ X, X ∈ T → X ∈ T ∧ ((X.onTables && X.keeps) = true ∨ ∃ ty, X = .arrayClass ty) := fun X hX => ⟨hX, good_of_word (hTg X hX)⟩
                      have hCF : CallFix p m c cc nL s args T own := ⟨hexec, hb, hml, hown, hts⟩
                      have hst : st = (st.take np1) ++ (st.drop np1) := (List.take_append_drop np1 st).symm
                      have hn1 : ((st.take np1).reverse).length = np1 := by rw [List.length_reverse, List.length_take]; omega
                      have next : ∀ (H1 : Heap) (locs1 : List Loc), rf_I D cl cA E.1 s h1 H1 locs1 → len = 3 → W p l e R s m args below meth c H1 locs1 (cells + mc1) (slots + ms1) Q (F0 m (q0 + 3) ls (v1.toList ++ r)) := by
                        intro H1 locs1 hI1 hlen
                        subst hlen
                        refine ih d k _ lv _ (cb - mc1) (sb - ms1) h1 v h' hh hPk hcs hexec hb hml hown hini hts hC hl hI1 (by omega) (by omega) hdR hlR ?_
                        intro H' locs' cells' slots' pc' ls' st' ins ik q1 q2 q3 q4 q5 q6
                        exact HR H' locs' cells' slots' pc' ls' st' ins ik q1 q2 q3 q4 (by omega) (by omega)
                      have wmem : ∀ {w X}, rf_w Tw w X = true → X ∈ T := by
                        intro w X hw
                        simp only [rf_w, Bool.and_eq_true, decide_eq_true_eq] at hw
                        exact hTw _ (List.mem_of_getElem? hw.1) hw.2
                      cases ins <;> simp only [mm_inv, reduceCtorEq, Option.some.injEq] at hinv <;> subst hinv <;> simp only [rf_cks, Bool.and_eq_true, decide_eq_true_eq] at hck
                      · -- invokespecial
                        rename_i i
                        obtain ⟨hlen, hck⟩ := hck
                        subst hkd
                        obtain ⟨hinst, hnm, hret⟩ := mk2 rfl
                        subst hret
                        have hlk : rf_w Tw w (.methodLink own i y) = true := by
                          split at hck
                          · omega
                          · exact absurd hck (by decide)
                          · rw [hDS] at hck
                            simp only [Bool.and_eq_true] at hck
                            exact hck.2
                        unfold mm_recv at hrv
                        rw [if_neg (by decide)] at hrv
                        split at hrv
                        · rename_i a0 r0 hdr
                          split at hrv
                          · rename_i c0 fs hc0
                            split at hrv
                            · cases hrv
                              subst hlen
                              rw [hst, hdr]
                              have hrun := va_runI (e := e) (below := below) (meth := meth) (b := a0) (As := (st.take np1).reverse) (rest := r) (H := H) (locs := locs) (cells := cells) (slots := slots) (g := F0 m q0 ls (st.take np1 ++ .ref a0 :: r)) hCF hMet (cwI np1 hts hG1 rfl rfl rfl (hts _ mini) (hts _ (wmem hlk)) (hts _ hinst) hnm mdesc hRm) (rf_pre hC hI) rfl hn1 hl.1 (by show st.take np1 ++ _ = _; rw [List.reverse_reverse]) (lv_room hsum) hd ⟨by omega, by omega⟩
                              exact rf_call hrun hI (fun H1 locs1 hI1 => next H1 locs1 hI1 rfl)
                            · cases hrv
                          · cases hrv
                        · cases hrv
                      · -- invokestatic
                        rename_i i
                        obtain ⟨hlen, hck⟩ := hck
                        subst hkd
                        have hsta := mk0 rfl
                        unfold mm_recv at hrv
                        rw [if_pos rfl] at hrv
                        cases hrv
                        subst hlen
                        have hlk : rf_w Tw w (.methodLink own i y) = true ∨ rf_nlk Tw own w i y = true := by
                          split at hck
                          · exact absurd hck (by decide)
                          · omega
                          · rw [hDS] at hck
                            simp only [Bool.and_eq_true, Bool.or_eq_true] at hck
                            exact hck.2
                        rw [hst]
                        rcases hlk with hlk | hlk
                        · have hGS : GoodIn T (va_wsS own i y (Cond.code y cc1 nL1 ret1 :: T)) := by
                            intro w hw
                            unfold va_wsS at hw
                            rcases List.mem_append.mp hw with h9 | h9
                            · simp only [List.mem_cons, List.not_mem_nil, or_false] at h9
                              rcases h9 with h9 | h9 | h9
                              · rw [h9]; exact hgood _ (wmem hlk)
                              · rw [h9]; exact hgood _ hsta
                              · rw [h9]; exact hgood _ mini
                            · exact hG1 w h9
                          have hrun := va_runS (e := e) (below := below) (meth := meth) (As := (st.take np1).reverse) (rest := st.drop np1) (H := H) (locs := locs) (cells := cells) (slots := slots) (g := F0 m q0 ls (st.take np1 ++ st.drop np1)) hCF hMet (va_cwS np1 hts hGS rfl rfl rfl mdesc hRm) (rf_pre hC hI) rfl hn1 hl.1 (by show st.take np1 ++ _ = _; rw [List.reverse_reverse]) (lv_room hsum) hd ⟨by omega, by omega⟩
                          exact rf_call hrun hI (fun H1 locs1 hI1 => next H1 locs1 hI1 rfl)
                        · unfold rf_nlk at hlk
                          split at hlk
                          · rename_i o j y' host hTwn
                            simp only [Bool.and_eq_true, decide_eq_true_eq] at hlk
                            obtain ⟨rfl, rfl, rfl⟩ := hlk
                            have hNw := hC.2.1 _ (List.mem_of_getElem? hTwn) rfl
                            have hrun := va_runSN (e := e) (below := below) (meth := meth) (As := (st.take np1).reverse) (rest := st.drop np1) (H := H) (locs := locs) (cells := cells) (slots := slots) (g := F0 m q0 ls (st.take np1 ++ st.drop np1)) hCF hMet ⟨va_cnB np1 hts hG1 rfl rfl rfl hNw (hts _ mini) mdesc hRm, hts _ hsta, trivial⟩ (rf_pre hC hI) rfl hn1 hl.1 (by show st.take np1 ++ _ = _; rw [List.reverse_reverse]) (lv_room hsum) hd ⟨by omega, by omega⟩
                            exact rf_call hrun hI (fun H1 locs1 hI1 => next H1 locs1 hI1 rfl)
                          · cases hlk
                      · -- invokevirtual
                        rename_i i
                        obtain ⟨hlen, -, -, hck⟩ := hck
                        subst hkd
                        obtain ⟨hinst, hsel, TT, N, hcl⟩ := mk1 rfl
                        rw [hDS] at hck
                        have hlk : rf_w Tw w (.methodLink own i y) = true := hck
                        unfold mm_recv at hrv
                        rw [if_neg (by decide)] at hrv
                        split at hrv
                        · rename_i a0 r0 hdr
                          split at hrv
                          · rename_i c0 fs hc0
                            split at hrv
                            · rename_i hc0e
                              subst hc0e
                              cases hrv
                              subst hlen
                              rw [hst, hdr]
                              have hGV : GoodIn T (wsV own i y.cls y (Cond.code y cc1 nL1 ret1 :: T)) := by
                                intro w hw
                                unfold wsV at hw
                                rcases List.mem_append.mp hw with h9 | h9
                                · simp only [List.mem_cons, List.not_mem_nil, or_false] at h9
                                  rcases h9 with h9 | h9 | h9 | h9
                                  · rw [h9]; exact hgood _ (wmem hlk)
                                  · rw [h9]; exact hgood _ hinst
                                  · rw [h9]; exact hgood _ hsel
                                  · rw [h9]; exact hgood _ mini
                                · exact hG1 w h9
                              obtain ⟨k9, rfl, hk9⟩ := rf_cell hc0
                              have hpre := rf_pre (av := Value.ref (E.1 + k9) :: (st.take np1).reverse) hC hI
                              have hrun := va_runV (e := e) (below := below) (meth := meth) (b := E.1 + k9) (As := (st.take np1).reverse) (rest := r) (H := H) (locs := locs) (cells := cells) (slots := slots) (g := F0 m q0 ls (st.take np1 ++ .ref (E.1 + k9) :: r)) hCF hMet (cwV np1 hts hGV rfl rfl rfl ⟨rfl, mdesc⟩ hRm) ⟨hpre.1, va_recv hC.1 hI.2.1 hcl (rf_ws_at hk9), hpre.2⟩ rfl hn1 hl.1 (by show st.take np1 ++ _ = _; rw [List.reverse_reverse]) (lv_room hsum) hd ⟨by omega, by omega⟩
                              exact rf_call hrun hI (fun H1 locs1 hI1 => next H1 locs1 hI1 rfl)
                            · cases hrv
                          · cases hrv
                        · cases hrv
                    · cases hh
                  · cases hh
                · cases hh
              · cases hh
            · cases hh
      · rename_i hinv
        split at hh
        · -- a return
          rename_i ik hrt
          split at hh
          · rename_i v2 hans
            cases hh
            have hlen : len = 1 := by
              cases ins <;> simp only [mm_rtn, reduceCtorEq] at hrt <;> exact of_decide_eq_true hck
            subst hlen
            exact HR H locs cells slots q0 ls st ins ik hd hrt hans hI (Nat.le_add_right _ _) (Nat.le_add_right _ _)
          · cases hh
        · -- a simple instruction
          rename_i hrt
          split at hh
          · rename_i pc' lv' st' cb' sb' h1 hex
            have hck2 : rf_ck Tw cl SN own ini q0 len ins a b z w = true := by
              cases ins <;> first | exact hck | (simp only [mm_inv, reduceCtorEq] at hinv)
            refine rf_ex hexec hb hTw hts hCl hown hini hC hG.1 hd hck2 hex hl hI hcb hsb ?_
            intro H' locs' cells' slots' ls' hI' hl' hc' hs'
            refine ih d k pc' lv' st' cb' sb' h1 v h' hh hPk hcs hexec hb hml hown hini hts hC hl' hI' (by omega) (by omega) hdR hlR ?_
            intro H2 locs2 cells2 slots2 pc2 ls2 st2 ins2 ik2 q1 q2 q3 q4 q5 q6
            exact HR H2 locs2 cells2 slots2 pc2 ls2 st2 ins2 ik2 q1 q2 q3 q4 (by omega) (by omega)
          · cases hh
end RFW
end
section
/-! THE ENGINE: the mini machine over codes. A code is a number: below 2^32 an int (2^31 more than it is); from 2^32 on a named int and what is added to it (65536 times the name, 32768 more than what is added); from 2 * 2^32 on the cell of that number; 3 * 2^32 null, 2 more any long, 3 more nothing known, from 16 more on a static array; from 4 * 2^32 on a named value; from 2^65 on a long; from 2^66 on an int from .. to. A row of codes is one number, 68 bits each, behind 32 bits: kind (1 int, 2 byte, 3 boolean, 4 long, 5 references, 6 + a class) and length. A place is 65536 times the method and the pc. -/
noncomputable def en_if {α : Type} (b : Bool) (t f : α) : α := Bool.rec (motive := fun _ => α) f t b
noncomputable def en_nth {α : Type} (d : α) (l : List α) : Nat → α := List.rec (motive := fun _ => Nat → α) (fun _ => d) (fun a _ ih i => Nat.rec (motive := fun _ => α) a (fun j _ => ih j) i) l
noncomputable def en_set {α : Type} (l : List α) : Nat → α → List α := List.rec (motive := fun _ => Nat → α → List α) (fun _ _ => []) (fun a r ih i v => Nat.rec (motive := fun _ => List α) (v :: r) (fun j _ => a :: ih j v) i) l
/-- the heap: a tree of cells, by numbers -/
abbrev en_H : Type := (((((((Nat × Nat) × Nat) × Nat) × ((Nat × Nat) × (Nat × Nat))) × ((((((Nat × (Nat × Nat)) × Nat) × Nat) × ((((Nat × Nat) × (Nat × (Nat × Nat))) × (((Nat × Nat) × Nat) × (Nat × (Nat × (Nat × Nat))))) × Nat)) × ((Nat × Nat) × Nat)) × (Nat × ((((Nat × Nat) × ((Nat × Nat) × ((Nat × Nat) × Nat))) × (((Nat × (Nat × Nat)) × ((Nat × Nat) × (Nat × Nat))) × (((Nat × Nat) × (Nat × Nat)) × ((Nat × Nat) × (Nat × Nat))))) × (((((Nat × Nat) × (Nat × Nat)) × ((Nat × Nat) × (Nat × Nat))) × (((Nat × Nat) × (Nat × Nat)) × ((Nat × Nat) × (Nat × Nat)))) × ((((Nat × Nat) × (Nat × Nat)) × ((Nat × Nat) × (Nat × (Nat × Nat)))) × ((((Nat × Nat) × (Nat × Nat)) × ((Nat × Nat) × Nat)) × (Nat × (Nat × (Nat × Nat)))))))))) × Nat) × ((((((Nat × Nat) × Nat) × (Nat × (Nat × Nat))) × (Nat × Nat)) × Nat) × ((((((((Nat × Nat) × Nat) × (Nat × Nat)) × (Nat × (Nat × Nat))) × Nat) × (Nat × (((Nat × Nat) × (Nat × Nat)) × ((Nat × Nat) × (Nat × Nat))))) × Nat) × (((Nat × Nat) × Nat) × (Nat × ((Nat × ((Nat × Nat) × (Nat × Nat))) × (((Nat × Nat) × (Nat × Nat)) × ((Nat × Nat) × ((Nat × Nat) × (Nat × Nat))))))))))
abbrev en_V : Type := List (Nat × Nat)
/-- a frame that waits: place, locals, stack, cells, slots, depth -/
abbrev en_F : Type := Nat × Nat × List Nat × Nat × Nat × Nat
/-- the rest of a state: cells, slots, depth, frames, cells made, ranges of named ints -/
abbrev en_W : Type := Nat × Nat × Nat × List en_F × Nat × en_V
/-- what goes on from a state: place, locals, stack, heap, rest -/
abbrev en_C : Type := Nat → Nat → List Nat → en_H → en_W → Bool
/-- an instruction -/
abbrev en_O : Type := Nat → List Nat → en_H → en_W → en_C → Bool
noncomputable def en_lg (t : Nat) (_ : Nat) : Nat := t
noncomputable def en_lp (_ : Nat) (_ N : Nat) : Nat := N
noncomputable def en_ng {α β : Type} (mid : Nat) (ga : α → Nat → Nat) (gb : β → Nat → Nat) (t : α × β) (k : Nat) : Nat := en_if (Nat.ble mid k) (gb t.2 k) (ga t.1 k)
noncomputable def en_np {α β : Type} (mid : Nat) (pa : α → Nat → Nat → α) (pb : β → Nat → Nat → β) (t : α × β) (k N : Nat) : α × β := en_if (Nat.ble mid k) (t.1, pb t.2 k N) (pa t.1 k N, t.2)
noncomputable def en_get : en_H → Nat → Nat := (en_ng 89 (en_ng 88 (en_ng 8 (en_ng 4 (en_ng 3 (en_ng 2 (en_ng 1 en_lg en_lg) en_lg) en_lg) (en_ng 6 (en_ng 5 en_lg en_lg) (en_ng 7 en_lg en_lg))) (en_ng 29 (en_ng 26 (en_ng 13 (en_ng 12 (en_ng 11 (en_ng 9 en_lg (en_ng 10 en_lg en_lg)) en_lg) en_lg) (en_ng 25 (en_ng 18 (en_ng 15 (en_ng 14 en_lg en_lg) (en_ng 16 en_lg (en_ng 17 en_lg en_lg))) (en_ng 21 (en_ng 20 (en_ng 19 en_lg en_lg) en_lg) (en_ng 22 en_lg (en_ng 23 en_lg (en_ng 24 en_lg en_lg))))) en_lg)) (en_ng 28 (en_ng 27 en_lg en_lg) en_lg)) (en_ng 30 en_lg (en_ng 52 (en_ng 37 (en_ng 32 (en_ng 31 en_lg en_lg) (en_ng 34 (en_ng 33 en_lg en_lg) (en_ng 36 (en_ng 35 en_lg en_lg) en_lg))) (en_ng 44 (en_ng 40 (en_ng 38 en_lg (en_ng 39 en_lg en_lg)) (en_ng 42 (en_ng 41 en_lg en_lg) (en_ng 43 en_lg en_lg))) (en_ng 48 (en_ng 46 (en_ng 45 en_lg en_lg) (en_ng 47 en_lg en_lg)) (en_ng 50 (en_ng 49 en_lg en_lg) (en_ng 51 en_lg en_lg))))) (en_ng 68 (en_ng 60 (en_ng 56 (en_ng 54 (en_ng 53 en_lg en_lg) (en_ng 55 en_lg en_lg)) (en_ng 58 (en_ng 57 en_lg en_lg) (en_ng 59 en_lg en_lg))) (en_ng 64 (en_ng 62 (en_ng 61 en_lg en_lg) (en_ng 63 en_lg en_lg)) (en_ng 66 (en_ng 65 en_lg en_lg) (en_ng 67 en_lg en_lg)))) (en_ng 77 (en_ng 72 (en_ng 70 (en_ng 69 en_lg en_lg) (en_ng 71 en_lg en_lg)) (en_ng 74 (en_ng 73 en_lg en_lg) (en_ng 75 en_lg (en_ng 76 en_lg en_lg)))) (en_ng 84 (en_ng 81 (en_ng 79 (en_ng 78 en_lg en_lg) (en_ng 80 en_lg en_lg)) (en_ng 83 (en_ng 82 en_lg en_lg) en_lg)) (en_ng 85 en_lg (en_ng 86 en_lg (en_ng 87 en_lg en_lg)))))))))) en_lg) (en_ng 98 (en_ng 97 (en_ng 95 (en_ng 92 (en_ng 91 (en_ng 90 en_lg en_lg) en_lg) (en_ng 93 en_lg (en_ng 94 en_lg en_lg))) (en_ng 96 en_lg en_lg)) en_lg) (en_ng 117 (en_ng 116 (en_ng 107 (en_ng 106 (en_ng 103 (en_ng 101 (en_ng 100 (en_ng 99 en_lg en_lg) en_lg) (en_ng 102 en_lg en_lg)) (en_ng 104 en_lg (en_ng 105 en_lg en_lg))) en_lg) (en_ng 108 en_lg (en_ng 112 (en_ng 110 (en_ng 109 en_lg en_lg) (en_ng 111 en_lg en_lg)) (en_ng 114 (en_ng 113 en_lg en_lg) (en_ng 115 en_lg en_lg))))) en_lg) (en_ng 120 (en_ng 119 (en_ng 118 en_lg en_lg) en_lg) (en_ng 121 en_lg (en_ng 126 (en_ng 122 en_lg (en_ng 124 (en_ng 123 en_lg en_lg) (en_ng 125 en_lg en_lg))) (en_ng 130 (en_ng 128 (en_ng 127 en_lg en_lg) (en_ng 129 en_lg en_lg)) (en_ng 132 (en_ng 131 en_lg en_lg) (en_ng 134 (en_ng 133 en_lg en_lg) (en_ng 135 en_lg en_lg))))))))))
noncomputable def en_put : en_H → Nat → Nat → en_H := (en_np 89 (en_np 88 (en_np 8 (en_np 4 (en_np 3 (en_np 2 (en_np 1 en_lp en_lp) en_lp) en_lp) (en_np 6 (en_np 5 en_lp en_lp) (en_np 7 en_lp en_lp))) (en_np 29 (en_np 26 (en_np 13 (en_np 12 (en_np 11 (en_np 9 en_lp (en_np 10 en_lp en_lp)) en_lp) en_lp) (en_np 25 (en_np 18 (en_np 15 (en_np 14 en_lp en_lp) (en_np 16 en_lp (en_np 17 en_lp en_lp))) (en_np 21 (en_np 20 (en_np 19 en_lp en_lp) en_lp) (en_np 22 en_lp (en_np 23 en_lp (en_np 24 en_lp en_lp))))) en_lp)) (en_np 28 (en_np 27 en_lp en_lp) en_lp)) (en_np 30 en_lp (en_np 52 (en_np 37 (en_np 32 (en_np 31 en_lp en_lp) (en_np 34 (en_np 33 en_lp en_lp) (en_np 36 (en_np 35 en_lp en_lp) en_lp))) (en_np 44 (en_np 40 (en_np 38 en_lp (en_np 39 en_lp en_lp)) (en_np 42 (en_np 41 en_lp en_lp) (en_np 43 en_lp en_lp))) (en_np 48 (en_np 46 (en_np 45 en_lp en_lp) (en_np 47 en_lp en_lp)) (en_np 50 (en_np 49 en_lp en_lp) (en_np 51 en_lp en_lp))))) (en_np 68 (en_np 60 (en_np 56 (en_np 54 (en_np 53 en_lp en_lp) (en_np 55 en_lp en_lp)) (en_np 58 (en_np 57 en_lp en_lp) (en_np 59 en_lp en_lp))) (en_np 64 (en_np 62 (en_np 61 en_lp en_lp) (en_np 63 en_lp en_lp)) (en_np 66 (en_np 65 en_lp en_lp) (en_np 67 en_lp en_lp)))) (en_np 77 (en_np 72 (en_np 70 (en_np 69 en_lp en_lp) (en_np 71 en_lp en_lp)) (en_np 74 (en_np 73 en_lp en_lp) (en_np 75 en_lp (en_np 76 en_lp en_lp)))) (en_np 84 (en_np 81 (en_np 79 (en_np 78 en_lp en_lp) (en_np 80 en_lp en_lp)) (en_np 83 (en_np 82 en_lp en_lp) en_lp)) (en_np 85 en_lp (en_np 86 en_lp (en_np 87 en_lp en_lp)))))))))) en_lp) (en_np 98 (en_np 97 (en_np 95 (en_np 92 (en_np 91 (en_np 90 en_lp en_lp) en_lp) (en_np 93 en_lp (en_np 94 en_lp en_lp))) (en_np 96 en_lp en_lp)) en_lp) (en_np 117 (en_np 116 (en_np 107 (en_np 106 (en_np 103 (en_np 101 (en_np 100 (en_np 99 en_lp en_lp) en_lp) (en_np 102 en_lp en_lp)) (en_np 104 en_lp (en_np 105 en_lp en_lp))) en_lp) (en_np 108 en_lp (en_np 112 (en_np 110 (en_np 109 en_lp en_lp) (en_np 111 en_lp en_lp)) (en_np 114 (en_np 113 en_lp en_lp) (en_np 115 en_lp en_lp))))) en_lp) (en_np 120 (en_np 119 (en_np 118 en_lp en_lp) en_lp) (en_np 121 en_lp (en_np 126 (en_np 122 en_lp (en_np 124 (en_np 123 en_lp en_lp) (en_np 125 en_lp en_lp))) (en_np 130 (en_np 128 (en_np 127 en_lp en_lp) (en_np 129 en_lp en_lp)) (en_np 132 (en_np 131 en_lp en_lp) (en_np 134 (en_np 133 en_lp en_lp) (en_np 135 en_lp en_lp))))))))))
def en_elt (N j : Nat) : Nat := Nat.mod (Nat.shiftRight N (Nat.add 32 (Nat.mul 68 j))) 295147905179352825856
def en_eset (N j v : Nat) : Nat := Nat.xor N (Nat.shiftLeft (Nat.xor (en_elt N j) v) (Nat.add 32 (Nat.mul 68 j)))
def en_kind (N : Nat) : Nat := Nat.mod N 256
def en_len (N : Nat) : Nat := Nat.mod (Nat.div N 256) 16777216
/-- a row of n times the code D -/
def en_rep (kind n D : Nat) : Nat := Nat.add (Nat.add kind (Nat.mul 256 n)) (Nat.mul 4294967296 (Nat.mul D (Nat.div (Nat.sub (Nat.pow 2 (Nat.mul 68 n)) 1) 295147905179352825855)))
/-- is a code an int, a long, a cell or a static array -/
noncomputable def en_isI (c : Nat) : Bool := en_if (Nat.ble c 8589934591) true (Nat.ble 73786976294838206464 c)
noncomputable def en_isL (c : Nat) : Bool := en_if (Nat.ble 36893488147419103232 c) (Nat.ble c 73786976294838206463) (Nat.beq c 12884901890)
noncomputable def en_isR (c : Nat) : Bool := en_if (Nat.ble 8589934592 c) (en_if (Nat.ble c 8589934727) true (en_if (Nat.ble 12884901904 c) (Nat.ble c 12884902911) false)) false
noncomputable def en_ev (w : en_W) : en_V := w.2.2.2.2.2
noncomputable def en_sev (w : en_W) (i : Nat) (q : Nat × Nat) : en_W := (w.1, w.2.1, w.2.2.1, w.2.2.2.1, w.2.2.2.2.1, en_set w.2.2.2.2.2 i q)
/-- an int from lo to hi -/
noncomputable def en_mk (lo hi : Nat) : Nat := en_if (Nat.beq lo hi) lo (Nat.add 73786976294838206464 (Nat.add (Nat.mul lo 4294967296) hi))
/-- from where to where an int goes; a named one with its name and what is added, if nothing wraps -/
noncomputable def en_iv {α : Type} (w : en_W) (c : Nat) (k : Nat → Nat → α) : α := en_if (Nat.ble c 4294967295) (k c c) (en_if (Nat.ble c 8589934591)
  (Prod.rec (motive := fun _ => α) (fun lo hi => en_if (Nat.ble 32768 (Nat.add lo (Nat.mod c 65536))) (en_if (Nat.ble (Nat.add hi (Nat.mod c 65536)) 4295000063) (k (Nat.sub (Nat.add lo (Nat.mod c 65536)) 32768) (Nat.sub (Nat.add hi (Nat.mod c 65536)) 32768)) (k 0 4294967295)) (k 0 4294967295)) (en_nth (0, 4294967295) (en_ev w) (Nat.div (Nat.sub c 4294967296) 65536)))
  (en_if (Nat.ble 73786976294838206464 c) (k (Nat.div (Nat.sub c 73786976294838206464) 4294967296) (Nat.mod c 4294967296)) (k 0 4294967295)))
/-- a named int is from lo to hi -/
noncomputable def en_ref (w : en_W) (c lo hi : Nat) (k : en_W → Bool) : Bool := en_if (Nat.ble lo hi) (en_if (Nat.ble c 4294967295) (k w) (en_if (Nat.ble c 8589934591)
  (Prod.rec (motive := fun _ => Bool) (fun l h => en_if (Nat.ble 32768 (Nat.add l (Nat.mod c 65536))) (en_if (Nat.ble (Nat.add h (Nat.mod c 65536)) 4295000063) (k (en_sev w (Nat.div (Nat.sub c 4294967296) 65536) (Nat.sub (Nat.add lo 32768) (Nat.mod c 65536), Nat.sub (Nat.add hi 32768) (Nat.mod c 65536)))) (k w)) (k w)) (en_nth (0, 4294967295) (en_ev w) (Nat.div (Nat.sub c 4294967296) 65536)))
  (k w))) true
noncomputable def en_all (f : Nat → Bool) (n : Nat) : Nat → Bool := Nat.rec (motive := fun _ => Nat → Bool) (fun lo => f lo) (fun _ ih lo => en_if (f lo) (ih (Nat.succ lo)) false) n
/-- an int that is to be known: it is; or a named one of few values, each of them, once more; or one of few values, each; or the rest -/
noncomputable def en_pt (w : en_W) (c : Nat) (k : Nat → Bool) (r : en_W → Bool) (o : Bool) : Bool :=
  en_if (Nat.ble c 4294967295) (k c) (en_iv w c (fun lo hi => en_if (Nat.beq lo hi) (k lo) (en_if (Nat.ble (Nat.sub hi lo) 300) (en_if (Nat.ble lo hi)
    (en_if (Nat.ble c 8589934591) (en_all (fun v => en_ref w c v v r) (Nat.sub hi lo) lo) (en_all k (Nat.sub hi lo) lo)) true) o)))
noncomputable def en_pop (st : List Nat) (k : Nat → List Nat → Bool) : Bool := List.rec (motive := fun _ => Bool) false (fun a r _ => k a r) st
noncomputable def en_push (q c : Nat) : en_O := fun loc st hp w ih => ih q loc (c :: st) hp w
noncomputable def en_load (t : Nat → Bool) (q i : Nat) : en_O := fun loc st hp w ih => en_if (t (en_elt loc i)) (ih q loc (en_elt loc i :: st) hp w) false
/-- the slot ahead holds no long and no value of a kind that isn't known -/
noncomputable def en_free (loc i : Nat) : Bool := Nat.rec (motive := fun _ => Bool) true (fun j _ => en_if (Nat.ble (en_elt loc j) 12884902911) (en_if (Nat.beq (en_elt loc j) 12884901890) false true) (Nat.ble 73786976294838206464 (en_elt loc j))) i
noncomputable def en_store (t : Nat → Bool) (q i : Nat) : en_O := fun loc st hp w ih => en_pop st (fun c r => en_if (t c) (en_if (en_free loc i) (ih q (en_eset loc i c) r hp w) false) false)
noncomputable def en_storeL (q i : Nat) : en_O := fun loc st hp w ih => en_pop st (fun c r => en_if (en_isL c) (en_if (en_free loc i) (ih q (en_eset (en_eset loc i c) (Nat.succ i) 12884901891) r hp w) false) false)
/-- two ints by a rule -/
noncomputable def en_bin (g : en_W → Nat → Nat → (Nat → Bool) → Bool) (q : Nat) : en_O := fun loc st hp w ih => en_pop st (fun y r => en_pop r (fun x r => en_if (en_isI x) (en_if (en_isI y) (g w x y (fun v => ih q loc (v :: r) hp w)) false) false))
noncomputable def en_nm (c n : Nat) : Nat := Nat.add (Nat.mul (Nat.div c 65536) 65536) n
noncomputable def en_addI (w : en_W) (x y : Nat) (k : Nat → Bool) : Bool := en_iv w x (fun a b => en_iv w y (fun c d => en_if (Nat.ble 2147483648 (Nat.add a c)) (en_if (Nat.ble (Nat.add b d) 6442450943) (k (en_mk (Nat.sub (Nat.add a c) 2147483648) (Nat.sub (Nat.add b d) 2147483648))) (k 73786976299133173759)) (k 73786976299133173759)))
/-- a named int and a known one -/
noncomputable def en_addN (w : en_W) (x y : Nat) (k : Nat → Bool) : Bool := en_if (Nat.ble 2147483648 (Nat.add (Nat.mod x 65536) y)) (en_if (Nat.ble (Nat.add (Nat.mod x 65536) y) 2147549183) (k (en_nm x (Nat.sub (Nat.add (Nat.mod x 65536) y) 2147483648))) (en_addI w x y k)) (en_addI w x y k)
noncomputable def en_add (w : en_W) (x y : Nat) (k : Nat → Bool) : Bool := en_if (Nat.ble y 4294967295) (en_if (Nat.ble x 4294967295) (k (Nat.mod (Nat.add (Nat.add x y) 2147483648) 4294967296)) (en_if (Nat.ble x 8589934591) (en_addN w x y k) (en_addI w x y k)))
  (en_if (Nat.ble x 4294967295) (en_if (Nat.ble y 8589934591) (en_addN w y x k) (en_addI w x y k)) (en_addI w x y k))
noncomputable def en_subI (w : en_W) (x y : Nat) (k : Nat → Bool) : Bool := en_iv w x (fun a b => en_iv w y (fun c d => en_if (Nat.ble d (Nat.add a 2147483648)) (en_if (Nat.ble (Nat.add b 2147483648) (Nat.add c 4294967295)) (k (en_mk (Nat.sub (Nat.add a 2147483648) d) (Nat.sub (Nat.add b 2147483648) c))) (k 73786976299133173759)) (k 73786976299133173759)))
noncomputable def en_sub (w : en_W) (x y : Nat) (k : Nat → Bool) : Bool := en_if (Nat.ble y 4294967295) (en_if (Nat.ble x 4294967295) (k (Nat.mod (Nat.sub (Nat.add x 6442450944) y) 4294967296)) (en_if (Nat.ble x 8589934591)
  (en_if (Nat.ble y (Nat.add (Nat.mod x 65536) 2147483648)) (en_if (Nat.ble (Nat.add (Nat.mod x 65536) 2147483648) (Nat.add y 65535)) (k (en_nm x (Nat.sub (Nat.add (Nat.mod x 65536) 2147483648) y))) (en_subI w x y k)) (en_subI w x y k)) (en_subI w x y k))) (en_subI w x y k)
noncomputable def en_mul (w : en_W) (x y : Nat) (k : Nat → Bool) : Bool := en_if (Nat.ble y 4294967295) (en_if (Nat.ble x 4294967295) (k (Nat.mod (Nat.add (Nat.mul (Nat.add x 2147483648) (Nat.add y 2147483648)) 2147483648) 4294967296)) (k 73786976299133173759)) (k 73786976299133173759)
/-- an int that is not below 0, by a known one above 0 -/
noncomputable def en_div (w : en_W) (x y : Nat) (k : Nat → Bool) : Bool := en_if (Nat.ble y 4294967295) (en_if (Nat.ble 2147483649 y) (en_iv w x (fun a b => en_if (Nat.ble 2147483648 a) (k (en_mk (Nat.add (Nat.div (Nat.sub a 2147483648) (Nat.sub y 2147483648)) 2147483648) (Nat.add (Nat.div (Nat.sub b 2147483648) (Nat.sub y 2147483648)) 2147483648))) false)) false) false
noncomputable def en_rem (w : en_W) (x y : Nat) (k : Nat → Bool) : Bool := en_if (Nat.ble y 4294967295) (en_if (Nat.ble 2147483649 y) (en_iv w x (fun a b => en_if (Nat.ble 2147483648 a) (en_if (Nat.beq (Nat.div (Nat.sub a 2147483648) (Nat.sub y 2147483648)) (Nat.div (Nat.sub b 2147483648) (Nat.sub y 2147483648)))
  (k (en_mk (Nat.add (Nat.mod (Nat.sub a 2147483648) (Nat.sub y 2147483648)) 2147483648) (Nat.add (Nat.mod (Nat.sub b 2147483648) (Nat.sub y 2147483648)) 2147483648))) (k (en_mk 2147483648 (Nat.sub y 1)))) false)) false) false
/-- rules of known ints that are not below 0, else any -/
noncomputable def en_pos (f : Nat → Nat → Nat) (x y : Nat) (k : Nat → Bool) : Bool := en_if (Nat.ble y 4294967295) (en_if (Nat.ble x 4294967295) (en_if (Nat.ble 2147483648 x) (en_if (Nat.ble 2147483648 y) (en_if (Nat.ble (f (Nat.sub x 2147483648) (Nat.sub y 2147483648)) 2147483647) (k (Nat.add (f (Nat.sub x 2147483648) (Nat.sub y 2147483648)) 2147483648)) (k 73786976299133173759)) (k 73786976299133173759)) (k 73786976299133173759)) (k 73786976299133173759)) (k 73786976299133173759)
noncomputable def en_and (_ : en_W) (x y : Nat) (k : Nat → Bool) : Bool := en_if (Nat.ble x 4294967295) (en_pos Nat.land x y k) (en_if (Nat.ble y 4294967295) (en_if (Nat.ble 2147483648 y) (k (en_mk 2147483648 y)) (k 73786976299133173759)) (k 73786976299133173759))
noncomputable def en_or (_ : en_W) (x y : Nat) (k : Nat → Bool) : Bool := en_pos Nat.lor x y k
noncomputable def en_shl (_ : en_W) (x y : Nat) (k : Nat → Bool) : Bool := en_if (Nat.ble y 2147483679) (en_pos (fun x y => Nat.shiftLeft x y) x y k) (k 73786976299133173759)
noncomputable def en_shr (_ : en_W) (x y : Nat) (k : Nat → Bool) : Bool := en_if (Nat.ble y 2147483679) (en_pos (fun x y => Nat.shiftRight x y) x y k) (k 73786976299133173759)
noncomputable def en_un (c q : Nat) : en_O := fun loc st hp w ih => en_pop st (fun x r => en_if (en_isI x) (ih q loc (c :: r) hp w) false)
/-- an int that is not below 0 as a long -/
noncomputable def en_i2l (q : Nat) : en_O := fun loc st hp w ih => en_pop st (fun x r => en_if (Nat.ble x 4294967295) (en_if (Nat.ble 2147483648 x) (ih q loc (Nat.add 36893488147419103232 (Nat.sub x 2147483648) :: r) hp w) (ih q loc (12884901890 :: r) hp w)) (en_if (en_isI x) (ih q loc (12884901890 :: r) hp w) false))
noncomputable def en_binL (f : Nat → Nat → Nat) (q : Nat) : en_O := fun loc st hp w ih => en_pop st (fun y r => en_pop r (fun x r => en_if (en_isL x) (en_if (en_isL y) (en_if (Nat.ble 36893488147419103232 x) (en_if (Nat.ble 36893488147419103232 y)
  (en_if (Nat.ble (f (Nat.sub x 36893488147419103232) (Nat.sub y 36893488147419103232)) 9223372036854775807) (ih q loc (Nat.add 36893488147419103232 (f (Nat.sub x 36893488147419103232) (Nat.sub y 36893488147419103232)) :: r) hp w) (ih q loc (12884901890 :: r) hp w)) (ih q loc (12884901890 :: r) hp w)) (ih q loc (12884901890 :: r) hp w)) false) false))
noncomputable def en_iinc (q i k : Nat) : en_O := fun loc st hp w ih => en_if (en_isI (en_elt loc i)) (en_if (en_free loc i) (en_add w (en_elt loc i) k (fun v => ih q (en_eset loc i v) st hp w)) false) false
/-- a value of one word -/
noncomputable def en_one (c : Nat) : Bool := en_if (Nat.ble c 12884902911) (en_if (Nat.beq c 12884901890) false (en_if (Nat.beq c 12884901891) false true)) (Nat.ble 73786976294838206464 c)
noncomputable def en_dup (q : Nat) : en_O := fun loc st hp w ih => en_pop st (fun x _ => en_if (en_one x) (ih q loc (x :: st) hp w) false)
noncomputable def en_drop (q : Nat) : en_O := fun loc st hp w ih => en_pop st (fun x r => en_if (en_one x) (ih q loc r hp w) false)
noncomputable def en_dup2 (q : Nat) : en_O := fun loc st hp w ih => en_pop st (fun x r => en_pop r (fun y _ => en_if (en_one x) (en_if (en_one y) (ih q loc (x :: y :: st) hp w) false) false))
/-- x < y: what goes on if so, if not -/
noncomputable def en_lt (x y : Nat) (w : en_W) (kt kf : en_W → Bool) : Bool := en_if (en_if (Nat.ble x 4294967295) (Nat.ble y 4294967295) false) (en_if (Nat.ble y x) (kf w) (kt w))
  (en_iv w x (fun a b => en_iv w y (fun c d => en_if (Nat.ble (Nat.succ b) c) (kt w) (en_if (Nat.ble d a) (kf w)
    (en_if (en_ref w x a (Nat.pred d) (fun w => en_ref w y (Nat.succ a) d kt)) (en_ref w x c b (fun w => en_ref w y c b kf)) false)))))
/-- a number is left out of a range's end -/
noncomputable def en_cut (w : en_W) (x a b c : Nat) (k : en_W → Bool) : Bool := en_if (Nat.beq c a) (en_ref w x (Nat.succ a) b k) (en_if (Nat.beq c b) (en_ref w x a (Nat.pred b) k) (k w))
noncomputable def en_eq (x y : Nat) (w : en_W) (kt kf : en_W → Bool) : Bool := en_if (en_if (Nat.ble x 4294967295) (Nat.ble y 4294967295) false) (en_if (Nat.beq x y) (kt w) (kf w))
  (en_if (en_if (Nat.beq x y) (Nat.ble x 8589934591) false) (kt w) (en_iv w x (fun a b => en_iv w y (fun c d => en_if (Nat.ble (Nat.succ b) c) (kf w) (en_if (Nat.ble (Nat.succ d) a) (kf w)
    (en_if (en_if (Nat.beq c d) (en_ref w x c c kt) (en_if (Nat.beq a b) (en_ref w y a a kt) (kt w))) (en_if (Nat.beq c d) (en_if (Nat.beq a b) true (en_cut w x a b c kf)) (en_if (Nat.beq a b) (en_cut w y c d a kf) (kf w))) false))))))
noncomputable def en_cmp (k : Jvm.ClassFile.Cond) (x y : Nat) (w : en_W) (kt kf : en_W → Bool) : Bool := Jvm.ClassFile.Cond.rec (motive := fun _ => Bool) (en_eq x y w kt kf) (en_eq x y w kf kt) (en_lt x y w kt kf) (en_lt x y w kf kt) (en_lt y x w kt kf) (en_lt y x w kf kt) k
noncomputable def en_icmp (k : Jvm.ClassFile.Cond) (qt qf : Nat) : en_O := fun loc st hp w ih => en_pop st (fun y r => en_pop r (fun x r => en_if (en_isI x) (en_if (en_isI y) (en_cmp k x y w (fun w => ih qt loc r hp w) (fun w => ih qf loc r hp w)) false) false))
noncomputable def en_if0 (k : Jvm.ClassFile.Cond) (qt qf : Nat) : en_O := fun loc st hp w ih => en_pop st (fun x r => en_if (en_isI x) (en_cmp k x 2147483648 w (fun w => ih qt loc r hp w) (fun w => ih qf loc r hp w)) false)
noncomputable def en_goto (q : Nat) : en_O := fun loc st hp w ih => ih q loc st hp w
/-- the switch: places by numbers from lo on -/
noncomputable def en_sw (q0 qd lo n : Nat) (qs : List Nat) : en_O := fun loc st hp w ih => en_pop st (fun x r => en_if (en_isI x)
  (en_pt w x (fun x => en_if (Nat.ble lo x) (en_if (Nat.ble x (Nat.add lo n)) (ih (en_nth qd qs (Nat.sub x lo)) loc r hp w) (ih qd loc r hp w)) (ih qd loc r hp w)) (fun w => ih q0 loc st hp w)
    (en_lt x lo w (fun w => ih qd loc r hp w) (fun w => en_lt (Nat.add lo n) x w (fun w => ih qd loc r hp w) (fun w => en_pt w x (fun _ => false) (fun w => ih q0 loc st hp w) false)))) false)
/-- an index that is known and in the row -/
noncomputable def en_idx (len i : Nat) (k : Nat → Bool) : Bool := en_if (Nat.ble 2147483648 i) (en_if (Nat.ble (Nat.succ (Nat.sub i 2147483648)) len) (k (Nat.sub i 2147483648)) false) false
/-- the cell of a code, or the static array -/
noncomputable def en_cell (c : Nat) (k : Nat → Bool) (s : Nat → Bool) : Bool := en_if (Nat.ble 8589934592 c) (en_if (Nat.ble c 8589934727) (k (Nat.sub c 8589934592)) (en_if (Nat.ble 12884901904 c) (en_if (Nat.ble c 12884902911) (s (Nat.sub c 12884901904)) false) false)) false
noncomputable def en_aload (SA : List (Nat × Nat)) (t : Nat → Bool) (q0 q : Nat) : en_O := fun loc st hp w ih => en_pop st (fun i r => en_pop r (fun a r =>
  en_if (en_isI i) (en_pt w i (fun i => en_cell a
    (fun a => en_if (t (en_kind (en_get hp a))) (en_idx (en_len (en_get hp a)) i (fun i => ih q loc (en_elt (en_get hp a) i :: r) hp w)) false)
    (fun s => en_if (t 1) (Prod.rec (motive := fun _ => Bool) (fun n row => en_idx n i (fun i => ih q loc (en_elt row i :: r) hp w)) (en_nth (0, 0) SA s)) false))
    (fun w => ih q0 loc st hp w) false) false))
/-- may a value be stored in a row of a kind: ints, bytes and booleans if they are such, longs -/
noncomputable def en_fit (kind v : Nat) (k : Nat → Bool) : Bool := en_if (Nat.beq kind 1) (en_if (en_isI v) (k v) false) (en_if (Nat.beq kind 4) (en_if (en_isL v) (k v) false)
  (en_if (Nat.beq kind 3) (en_if (Nat.ble v 4294967295) (en_if (Nat.ble 2147483648 v) (en_if (Nat.ble v 2147483649) (k v) false) false) (en_if (en_isI v) (k 73786976299133173759) false))
  (en_if (Nat.beq kind 2) (en_if (Nat.ble v 4294967295) (en_if (Nat.ble 2147483520 v) (en_if (Nat.ble v 2147483775) (k v) false) false) (en_if (en_isI v) (k 73786976299133173759) false)) false)))
noncomputable def en_astore (t : Nat → Bool) (q0 q : Nat) : en_O := fun loc st hp w ih => en_pop st (fun v r => en_pop r (fun i r => en_pop r (fun a r =>
  en_if (en_isI i) (en_pt w i (fun i => en_cell a
    (fun a => en_if (t (en_kind (en_get hp a))) (en_fit (en_kind (en_get hp a)) v (fun v => en_idx (en_len (en_get hp a)) i (fun i => ih q loc r (en_put hp a (en_eset (en_get hp a) i v)) w))) false)
    (fun _ => false)) (fun w => ih q0 loc st hp w) false) false)))
noncomputable def en_alen (SA : List (Nat × Nat)) (q : Nat) : en_O := fun loc st hp w ih => en_pop st (fun a r => en_cell a
    (fun a => en_if (Nat.ble 1 (en_kind (en_get hp a))) (en_if (Nat.ble (en_kind (en_get hp a)) 5) (ih q loc (Nat.add 2147483648 (en_len (en_get hp a)) :: r) hp w) false) false)
    (fun s => Prod.rec (motive := fun _ => Bool) (fun n _ => en_if (Nat.ble n 16777215) (en_if (Nat.ble (Nat.succ s) (List.rec (motive := fun _ => Nat) 0 (fun _ _ n => Nat.succ n) SA)) (ih q loc (Nat.add 2147483648 n :: r) hp w) false) false) (en_nth (0, 0) SA s)))
noncomputable def en_getf (q ci b : Nat) : en_O := fun loc st hp w ih => en_pop st (fun a r => en_cell a
    (fun a => en_if (Nat.beq (en_kind (en_get hp a)) (Nat.add 6 ci)) (en_if (Nat.ble (Nat.succ b) (en_len (en_get hp a))) (ih q loc (en_elt (en_get hp a) b :: r) hp w) false) false) (fun _ => false))
noncomputable def en_ffit (kd v : Nat) : Bool := en_if (Nat.beq kd 0) (en_isI v) (en_if (Nat.beq kd 1) (en_isL v) (en_if (Nat.beq kd 2) (en_if (Nat.ble 2147483648 v) (Nat.ble v 2147483649) false) (en_if (Nat.beq kd 3) (en_if (en_isR v) true (Nat.beq v 12884901888)) false)))
noncomputable def en_putf (q ci b kd : Nat) : en_O := fun loc st hp w ih => en_pop st (fun v r => en_pop r (fun a r => en_cell a
    (fun a => en_if (Nat.beq (en_kind (en_get hp a)) (Nat.add 6 ci)) (en_if (Nat.ble (Nat.succ b) (en_len (en_get hp a))) (en_if (en_ffit kd v) (ih q loc r (en_put hp a (en_eset (en_get hp a) b v)) w) false) false) false) (fun _ => false)))
/-- a new cell N of n slots -/
noncomputable def en_new (q n N : Nat) : en_O := fun loc st hp w ih => en_if (Nat.ble 1 w.1) (en_if (Nat.ble n w.2.1) (en_if (Nat.ble (Nat.succ w.2.2.2.2.1) 136)
  (ih q loc (Nat.add 8589934592 w.2.2.2.2.1 :: st) (en_put hp w.2.2.2.2.1 N) (Nat.sub w.1 1, Nat.sub w.2.1 n, w.2.2.1, w.2.2.2.1, Nat.succ w.2.2.2.2.1, w.2.2.2.2.2)) false) false) false
def en_dfl (kd : Nat) : Nat := match kd with
  | 0 => 2147483648
  | 1 => 36893488147419103232
  | 2 => 2147483648
  | _ => 12884901888
def en_obj (l : List Nat) (N j : Nat) : Nat := match l with
  | [] => N
  | k :: r => en_obj r (en_eset N j (en_dfl k)) (Nat.succ j)
noncomputable def en_newo (q ci : Nat) (l : List Nat) : en_O := fun loc st hp w ih => en_new q l.length (en_obj l (Nat.add (Nat.add 6 ci) (Nat.mul 256 l.length)) 0) loc st hp w ih
noncomputable def en_newa (q kind D : Nat) : en_O := fun loc st hp w ih => en_pop st (fun n r => en_if (Nat.ble 2147483648 n) (en_if (Nat.ble n 2147583648) (en_new q (Nat.sub n 2147483648) (en_rep kind (Nat.sub n 2147483648) D) loc r hp w ih) false) false)
/-- n new rows N from the cell k on -/
noncomputable def en_rows (n : Nat) : en_H → Nat → Nat → en_H := Nat.rec (motive := fun _ => en_H → Nat → Nat → en_H) (fun hp _ _ => hp) (fun _ ih hp k N => ih (en_put hp k N) (Nat.succ k) N) n
noncomputable def en_refs (n : Nat) : Nat → Nat → Nat → Nat := Nat.rec (motive := fun _ => Nat → Nat → Nat → Nat) (fun N _ _ => N) (fun _ ih N j c => ih (en_eset N j c) (Nat.succ j) (Nat.succ c)) n
noncomputable def en_mna (q : Nat) : en_O := fun loc st hp w ih => en_pop st (fun k r => en_pop r (fun n r =>
  en_if (Nat.ble 2147483648 n) (en_if (Nat.ble n 2147483748) (en_if (Nat.ble 2147483648 k) (en_if (Nat.ble k 2147483748)
    (en_if (Nat.ble (Nat.succ (Nat.sub n 2147483648)) w.1) (en_if (Nat.ble (Nat.add (Nat.sub n 2147483648) (Nat.mul (Nat.sub n 2147483648) (Nat.sub k 2147483648))) w.2.1) (en_if (Nat.ble (Nat.add (Nat.succ w.2.2.2.2.1) (Nat.sub n 2147483648)) 136)
      (ih q loc (Nat.add 8589934592 w.2.2.2.2.1 :: r)
        (en_rows (Nat.sub n 2147483648) (en_put hp w.2.2.2.2.1 (en_refs (Nat.sub n 2147483648) (Nat.add 5 (Nat.mul 256 (Nat.sub n 2147483648))) 0 (Nat.add 8589934592 (Nat.succ w.2.2.2.2.1)))) (Nat.succ w.2.2.2.2.1) (en_rep 1 (Nat.sub k 2147483648) 2147483648))
        (Nat.sub w.1 (Nat.succ (Nat.sub n 2147483648)), Nat.sub w.2.1 (Nat.add (Nat.sub n 2147483648) (Nat.mul (Nat.sub n 2147483648) (Nat.sub k 2147483648))), w.2.2.1, w.2.2.2.1, Nat.add (Nat.succ w.2.2.2.2.1) (Nat.sub n 2147483648), w.2.2.2.2.2)) false) false) false) false) false) false) false))
/-- the words of a stack, at most -/
noncomputable def en_cat (st : List Nat) : Nat := List.rec (motive := fun _ => Nat) 0 (fun c _ ih => en_if (en_one c) (Nat.succ ih) (Nat.succ (Nat.succ ih))) st
noncomputable def en_oinit (q : Nat) : en_O := fun loc st hp w ih => en_pop st (fun a r => en_if (en_isR a) (en_if (Nat.ble 1 w.2.2.1) (en_if (Nat.ble (en_cat r) 8) (ih q loc r hp w) false) false) false)
/-- a whole row of ints over another of its length -/
noncomputable def en_copy (q : Nat) : en_O := fun loc st hp w ih => en_pop st (fun n r => en_pop r (fun p r => en_pop r (fun d r => en_pop r (fun o r => en_pop r (fun s r =>
  en_if (Nat.beq p 2147483648) (en_if (Nat.beq o 2147483648) (en_if (Nat.ble 1 w.2.2.1) (en_if (Nat.ble (en_cat r) 8) (en_cell s (fun s => en_cell d (fun d =>
    en_if (Nat.beq (en_kind (en_get hp s)) 1) (en_if (Nat.beq (en_kind (en_get hp d)) 1) (en_if (Nat.beq n (Nat.add 2147483648 (en_len (en_get hp s)))) (en_if (Nat.beq n (Nat.add 2147483648 (en_len (en_get hp d))))
      (ih q loc r (en_put hp d (en_get hp s)) w) false) false) false) false) (fun _ => false)) (fun _ => false)) false) false) false) false)))))
/-- the callee's locals out of its values -/
noncomputable def en_args (l : List Nat) : Nat → Nat → (Nat → Nat → Bool) → Bool := List.rec (motive := fun _ => Nat → Nat → (Nat → Nat → Bool) → Bool) (fun j loc k => k j loc)
  (fun c _ ih j loc k => en_if (en_one c) (ih (Nat.succ j) (en_eset loc j c) k) (en_if (en_isL c) (ih (Nat.succ (Nat.succ j)) (en_eset loc j c) k) false)) l
noncomputable def en_take (n : Nat) : List Nat → List Nat → (List Nat → List Nat → Bool) → Bool := Nat.rec (motive := fun _ => List Nat → List Nat → (List Nat → List Nat → Bool) → Bool) (fun acc st k => k acc st) (fun _ ih acc st k => en_pop st (fun a r => ih (a :: acc) r k)) n
/-- a frame more -/
noncomputable def en_go (q k nL mc ms : Nat) (as r : List Nat) : en_O := fun loc _ hp w ih => en_if (Nat.ble (en_cat r) 8) (en_args as 0 (en_rep 0 nL 12884901891) (fun j l => en_if (Nat.ble j nL)
  (ih k l [] hp (mc, ms, Nat.pred w.2.2.1, (q, loc, r, Nat.sub w.1 mc, Nat.sub w.2.1 ms, w.2.2.1) :: w.2.2.2.1, w.2.2.2.2)) false)) false
noncomputable def en_call (q k nL np kd ci mc ms : Nat) : en_O := fun loc st hp w ih => en_take np [] st (fun as r =>
  en_if (Nat.ble 1 w.2.2.1) (en_if (Nat.ble mc w.1) (en_if (Nat.ble ms w.2.1)
    (en_if (Nat.beq kd 0) (en_go q k nL mc ms as r loc st hp w ih)
      (en_pop r (fun a r => en_cell a (fun a0 => en_if (Nat.beq (en_kind (en_get hp a0)) (Nat.add 6 ci)) (en_go q k nL mc ms (a :: as) r loc st hp w ih) false) (fun _ => false)))) false) false) false)
/-- a return: fin looks at what the lowest frame answers -/
noncomputable def en_back (fin : List Nat → en_H → en_W → Bool) (v : List Nat) : en_O := fun _ _ hp w ih => List.rec (motive := fun _ => Bool) (fin v hp w) (fun f fs _ => ih f.1 f.2.1 (List.rec (motive := fun _ => List Nat) f.2.2.1 (fun a _ _ => a :: f.2.2.1) v) hp (f.2.2.2.1, f.2.2.2.2.1, f.2.2.2.2.2, fs, w.2.2.2.2)) w.2.2.2.1
noncomputable def en_ret (fin : List Nat → en_H → en_W → Bool) (rk ik : Nat) : en_O := fun loc st hp w ih =>
  List.rec (motive := fun _ => Bool) (en_if (Nat.beq rk 0) (en_if (Nat.beq ik 0) (en_back fin [] loc st hp w ih) false) false)
    (fun v r _ => List.rec (motive := fun _ => Bool)
      (en_if (Nat.beq ik 1) (en_if (en_isI v) (en_if (Nat.beq rk 1) (en_back fin [v] loc st hp w ih) (en_if (Nat.beq rk 2) (en_if (Nat.ble 2147483648 v) (en_if (Nat.ble v 2147483649) (en_back fin [v] loc st hp w ih) false) false) false)) false)
        (en_if (Nat.beq ik 3) (en_if (en_isL v) (en_if (Nat.beq rk 3) (en_back fin [v] loc st hp w ih) false) false) false)) (fun _ _ _ => false) r) st
def en_c (x : Int) : Nat := (x + 2147483648).toNat
def en_tgt (pc : Nat) (off : Int) : Bool := decide (0 ≤ (pc : Int) + off) && decide ((pc : Int) + off < 65536)
/-- an instruction of the table as an instruction of the engine; q its place, n the next one, j a target -/
noncomputable def en_comp (SA : List (Nat × Nat)) (fin : List Nat → en_H → en_W → Bool) (kds : List (List Nat)) (P : mm_T) (m pc nL rk : Nat) (ins : Instr) (len a b : Nat) (z : Int) (q n : Nat) (j : Int → Nat) : Option en_O := match ins with
  | .iconst x => if -2147483648 ≤ x ∧ x < 2147483648 then some (en_push n (en_c x)) else none
  | .bipush x => if -128 ≤ x ∧ x < 128 then some (en_push n (en_c x)) else none
  | .sipush x => if -32768 ≤ x ∧ x < 32768 then some (en_push n (en_c x)) else none
  | .ldc _ => if -2147483648 ≤ z ∧ z < 2147483648 then some (en_push n (en_c z)) else none
  | .ldc_w _ => if -2147483648 ≤ z ∧ z < 2147483648 then some (en_push n (en_c z)) else none
  | .lconst x => some (en_push n (36893488147419103232 + (x : Nat)))
  | .ldc2_w _ => if 0 ≤ z ∧ z ≤ 9223372036854775807 then some (en_push n (36893488147419103232 + z.toNat)) else none
  | .iload_n k => if (k : Nat) < nL then some (en_load en_isI n k) else none
  | .iload k => if k < nL then some (en_load en_isI n k) else none
  | .lload_n k => if (k : Nat) < nL then some (en_load en_isL n k) else none
  | .lload k => if k < nL then some (en_load en_isL n k) else none
  | .aload_n k => if (k : Nat) < nL then some (en_load en_isR n k) else none
  | .aload k => if k < nL then some (en_load en_isR n k) else none
  | .istore_n k => if (k : Nat) < nL then some (en_store en_isI n k) else none
  | .istore k => if k < nL then some (en_store en_isI n k) else none
  | .astore_n k => if (k : Nat) < nL then some (en_store en_isR n k) else none
  | .astore k => if k < nL then some (en_store en_isR n k) else none
  | .lstore_n k => if (k : Nat) + 1 < nL then some (en_storeL n k) else none
  | .lstore k => if k + 1 < nL then some (en_storeL n k) else none
  | .iinc i x => if i < nL ∧ -2147483648 ≤ x ∧ x < 2147483648 then some (en_iinc n i (en_c x)) else none
  | .iadd => some (en_bin en_add n)
  | .isub => some (en_bin en_sub n)
  | .imul => some (en_bin en_mul n)
  | .idiv => some (en_bin en_div n)
  | .irem => some (en_bin en_rem n)
  | .iand => some (en_bin en_and n)
  | .ior => some (en_bin en_or n)
  | .ishl => some (en_bin en_shl n)
  | .ishr => some (en_bin en_shr n)
  | .iushr => some (en_bin (fun _ _ _ k => k 73786976299133173759) n)
  | .ixor => some (en_bin (fun _ _ _ k => k 73786976299133173759) n)
  | .ineg => some (en_un 73786976299133173759 n)
  | .i2b => some (en_un 73786976299133173759 n)
  | .i2c => some (en_un 73786976299133173759 n)
  | .i2l => some (en_i2l n)
  | .ladd => some (en_binL Nat.add n)
  | .lmul => some (en_binL Nat.mul n)
  | .dup => some (en_dup n)
  | .pop => some (en_drop n)
  | .dup2 => some (en_dup2 n)
  | .if_icmp k off => if en_tgt pc off = true then some (en_icmp k (j off) n) else none
  | .ifCond k off => if en_tgt pc off = true then some (en_if0 k (j off) n) else none
  | .goto off => if en_tgt pc off = true then some (en_goto (j off)) else none
  | .tableswitch dflt lo hi offs => if -1000000 ≤ lo ∧ hi ≤ 1000000 ∧ lo ≤ hi ∧ offs.size = (hi - lo).toNat + 1 ∧ en_tgt pc dflt = true ∧ offs.toList.all (en_tgt pc) = true then some (en_sw q (j dflt) (en_c lo) (hi - lo).toNat (offs.toList.map j)) else none
  | .getstatic _ => if a < 4 ∧ a < SA.length then some (en_push n (12884901904 + a)) else none
  | .iaload => some (en_aload SA (fun k => Nat.beq k 1) q n)
  | .baload => some (en_aload SA (fun k => en_if (Nat.beq k 2) true (Nat.beq k 3)) q n)
  | .laload => some (en_aload SA (fun k => Nat.beq k 4) q n)
  | .aaload => some (en_aload SA (fun k => Nat.beq k 5) q n)
  | .iastore => some (en_astore (fun k => Nat.beq k 1) q n)
  | .bastore => some (en_astore (fun k => en_if (Nat.beq k 2) true (Nat.beq k 3)) q n)
  | .lastore => some (en_astore (fun k => Nat.beq k 4) q n)
  | .arraylength => some (en_alen SA n)
  | .getfield _ => some (en_getf n a b)
  | .putfield _ => match kds[a]? with
    | some l => (match l[b]? with
      | some kd => some (en_putf n a b kd)
      | none => none)
    | none => none
  | .new _ => if a < 200 then (match kds[a]? with
    | some l => if l.length < 10000 then some (en_newo n a l) else none
    | none => none) else none
  | .newarray t => match t with
    | .int => some (en_newa n 1 2147483648)
    | .byte => some (en_newa n 2 2147483648)
    | .boolean => some (en_newa n 3 2147483648)
    | .long => some (en_newa n 4 36893488147419103232)
    | _ => none
  | .multianewarray _ 2 => some (en_mna n)
  | .return_ => some (en_ret fin rk 0)
  | .ireturn => some (en_ret fin rk 1)
  | .lreturn => some (en_ret fin rk 3)
  | .invokestatic _ => if a = 1 then some (en_copy n) else if a < 2 then none else (match P[a]? with
    | some (_, nL', np, kd, ci, _, mc, ms) => if kd = 0 then some (en_call n (65536 * a) nL' np kd ci mc ms) else none
    | none => none)
  | .invokevirtual _ => if a < 2 then none else (match P[a]? with
    | some (_, nL', np, kd, ci, _, mc, ms) => if kd = 1 then some (en_call n (65536 * a) nL' np kd ci mc ms) else none
    | none => none)
  | .invokespecial _ => if a = 0 then some (en_oinit n) else if a < 2 then none else (match P[a]? with
    | some (_, nL', np, kd, ci, _, mc, ms) => if kd = 2 then some (en_call n (65536 * a) nL' np kd ci mc ms) else none
    | none => none)
  | _ => none
/-- what is done at a place instead of its instruction, if anything -/
abbrev en_T : Type := Nat → Option (en_O → en_O)
noncomputable def en_fetch (SA : List (Nat × Nat)) (fin : List Nat → en_H → en_W → Bool) (kds : List (List Nat)) (P : mm_T) (tb : en_T) (q : Nat) : Option en_O := match mm_at P (q / 65536) (q % 65536) with
  | none => none
  | some ((_, len, ins, a, b, z, _), nL, (_, _, _, rk, _, _)) => if 65536 ≤ q % 65536 + len then none else match en_comp SA fin kds P (q / 65536) (q % 65536) nL rk ins len a b z q (q + len) (fun off => q / 65536 * 65536 + (((q % 65536 : Nat) : Int) + off).toNat) with
    | none => none
    | some o => match tb q with
      | none => some o
      | some hk => some (hk o)
/-- n steps at most -/
noncomputable def en_run (SA : List (Nat × Nat)) (fin : List Nat → en_H → en_W → Bool) (kds : List (List Nat)) (P : mm_T) (tb : en_T) (n : Nat) : en_C :=
  Nat.rec (motive := fun _ => en_C) (fun _ _ _ _ _ => false) (fun _ ih q loc st hp w =>
    Nat.rec (motive := fun _ => Bool) false (fun q _ => Option.rec (motive := fun _ => Bool) false (fun o => o loc st hp w ih) (en_fetch SA fin kds P tb (Nat.succ q))) q) n
end
section
/-! THE ENGINE IS SOUND, 1: numbers, rows, the tree -/
theorem en_if_t {α : Type} (x y : α) : en_if true x y = x := rfl
theorem en_if_f {α : Type} (x y : α) : en_if false x y = y := rfl
theorem en_if_and {b x : Bool} : en_if b x false = true ↔ b = true ∧ x = true := by cases b <;> simp [en_if]
theorem en_if_or {b x y : Bool} : en_if b x y = true ↔ (b = true ∧ x = true) ∨ (b = false ∧ y = true) := by cases b <;> simp [en_if]
theorem en_if_cases {α : Type} {b : Bool} {x y : α} {p : α → Prop} (h : p (en_if b x y)) : (b = true ∧ p x) ∨ (b = false ∧ p y) := by
  cases b
  · exact Or.inr ⟨rfl, h⟩
  · exact Or.inl ⟨rfl, h⟩
theorem en_pop_t {st : List Nat} {k : Nat → List Nat → Bool} (h : en_pop st k = true) : ∃ a r, st = a :: r ∧ k a r = true := by
  cases st with
  | nil => cases h
  | cons a r => exact ⟨a, r, rfl, h⟩
theorem en_nth_nil {α : Type} (d : α) (i : Nat) : en_nth d [] i = d := rfl
theorem en_nth_zero {α : Type} (d a : α) (r : List α) : en_nth d (a :: r) 0 = a := rfl
theorem en_nth_succ {α : Type} (d a : α) (r : List α) (i : Nat) : en_nth d (a :: r) (i + 1) = en_nth d r i := rfl
theorem en_nth_eq {α : Type} (d : α) (l : List α) (i : Nat) : en_nth d l i = (l[i]?).getD d := by
  induction l generalizing i with
  | nil => simp [en_nth_nil]
  | cons a r ih =>
    cases i with
    | zero => simp [en_nth_zero]
    | succ i => rw [en_nth_succ, ih]; simp
theorem en_set_eq {α : Type} (l : List α) (i : Nat) (v : α) : en_set l i v = l.set i v := by
  induction l generalizing i with
  | nil => rfl
  | cons a r ih =>
    cases i with
    | zero => rfl
    | succ i => show a :: en_set r i v = _; rw [ih]; rfl
/-- cells of a tree from lo to hi -/
def en_lens {α : Type} (lo hi : Nat) (g : α → Nat → Nat) (p : α → Nat → Nat → α) : Prop := ∀ (t : α) (k N j : Nat), lo ≤ k → k < hi → lo ≤ j → j < hi → g (p t k N) j = if k = j then N else g t j
theorem en_lens_leaf (i : Nat) : en_lens i (i + 1) en_lg en_lp := by
  intro t k N j h1 h2 h3 h4
  rw [if_pos (by omega)]
  rfl
theorem en_lens_node {α β : Type} {lo mid hi : Nat} {ga : α → Nat → Nat} {pa : α → Nat → Nat → α} {gb : β → Nat → Nat} {pb : β → Nat → Nat → β} (ha : en_lens lo mid ga pa) (hb : en_lens mid hi gb pb) : en_lens lo hi (en_ng mid ga gb) (en_np mid pa pb) := by
  intro t k N j h1 h2 h3 h4
  unfold en_ng en_np
  by_cases hk : mid ≤ k
  · have e1 : Nat.ble mid k = true := Nat.ble_eq_true_of_le hk
    rw [e1, en_if_t]
    by_cases hj : mid ≤ j
    · have e2 : Nat.ble mid j = true := Nat.ble_eq_true_of_le hj
      rw [e2, en_if_t, en_if_t]
      exact hb t.2 k N j hk h2 hj h4
    · have e2 : Nat.ble mid j = false := by
        cases h : Nat.ble mid j with
        | true => exact absurd (Nat.le_of_ble_eq_true h) hj
        | false => rfl
      rw [e2, en_if_f, en_if_f, if_neg (by omega)]
  · have e1 : Nat.ble mid k = false := by
      cases h : Nat.ble mid k with
      | true => exact absurd (Nat.le_of_ble_eq_true h) hk
      | false => rfl
    rw [e1, en_if_f]
    by_cases hj : mid ≤ j
    · have e2 : Nat.ble mid j = true := Nat.ble_eq_true_of_le hj
      rw [e2, en_if_t, en_if_t, if_neg (by omega)]
    · have e2 : Nat.ble mid j = false := by
        cases h : Nat.ble mid j with
        | true => exact absurd (Nat.le_of_ble_eq_true h) hj
        | false => rfl
      rw [e2, en_if_f, en_if_f]
      exact ha t.1 k N j h1 (by omega) h3 (by omega)
theorem en_ble_f {a b : Nat} : Nat.ble a b = false ↔ b < a := by
  constructor
  · intro h
    rcases Nat.lt_or_ge b a with q | q
    · exact q
    · rw [Nat.ble_eq_true_of_le q] at h; cases h
  · intro h
    cases q : Nat.ble a b with
    | true => exact absurd (Nat.le_of_ble_eq_true q) (by omega)
    | false => rfl
theorem en_ble_t {a b : Nat} : Nat.ble a b = true ↔ a ≤ b := ⟨Nat.le_of_ble_eq_true, Nat.ble_eq_true_of_le⟩
theorem en_beq_t {a b : Nat} : Nat.beq a b = true ↔ a = b := ⟨Nat.eq_of_beq_eq_true, fun h => by subst h; exact Nat.beq_refl a⟩
theorem en_beq_f {a b : Nat} : Nat.beq a b = false ↔ a ≠ b := by
  constructor
  · intro h e
    subst e
    rw [Nat.beq_refl] at h
    cases h
  · intro h
    cases q : Nat.beq a b with
    | true => exact absurd (Nat.eq_of_beq_eq_true q) h
    | false => rfl
theorem en_elt_lt (N j : Nat) : en_elt N j < 2 ^ 68 := Nat.mod_lt _ (by decide)
theorem en_elt_bit (N j i : Nat) : (en_elt N j).testBit i = (decide (i < 68) && N.testBit (32 + 68 * j + i)) := by
  show (N >>> (32 + 68 * j) % 2 ^ 68).testBit i = _
  rw [Nat.testBit_mod_two_pow, Nat.testBit_shiftRight]
theorem en_eset_bit (N j v i : Nat) : (en_eset N j v).testBit i = (N.testBit i ^^ (decide (32 + 68 * j ≤ i) && ((en_elt N j).testBit (i - (32 + 68 * j)) ^^ v.testBit (i - (32 + 68 * j))))) := by
  show (N ^^^ ((en_elt N j ^^^ v) <<< (32 + 68 * j))).testBit i = _
  rw [Nat.testBit_xor, Nat.testBit_shiftLeft, Nat.testBit_xor]
theorem en_bit_lt {v i : Nat} (hv : v < 2 ^ 68) (hi : 68 ≤ i) : v.testBit i = false := Nat.testBit_lt_two_pow (Nat.lt_of_lt_of_le hv (Nat.pow_le_pow_right (by decide) hi))
theorem en_elt_eset {N j v i : Nat} (hv : v < 2 ^ 68) : en_elt (en_eset N j v) i = if i = j then v else en_elt N i := by
  apply Nat.eq_of_testBit_eq
  intro b
  rw [en_elt_bit, en_eset_bit]
  by_cases hij : i = j
  · subst hij
    rw [if_pos rfl]
    by_cases hb : b < 68
    · rw [en_elt_bit]
      have e : 32 + 68 * i + b - (32 + 68 * i) = b := by omega
      simp [hb, e]
    · simp [hb, en_bit_lt hv (by omega : 68 ≤ b)]
  · rw [if_neg hij, en_elt_bit N i b]
    by_cases hb : b < 68
    · by_cases hle : 32 + 68 * j ≤ 32 + 68 * i + b
      · have h68 : 68 ≤ 32 + 68 * i + b - (32 + 68 * j) := by omega
        simp [hb, hle, en_bit_lt hv h68, en_bit_lt (en_elt_lt N j) h68]
      · simp [hb, hle]
    · simp [hb]
theorem en_eset_head {N j v : Nat} : en_eset N j v % 2 ^ 32 = N % 2 ^ 32 := by
  apply Nat.eq_of_testBit_eq
  intro b
  rw [Nat.testBit_mod_two_pow, Nat.testBit_mod_two_pow, en_eset_bit]
  by_cases hb : b < 32
  · have : ¬ 32 + 68 * j ≤ b := by omega
    simp [this]
  · simp [hb]
theorem en_kind_head (N : Nat) : en_kind N = N % 2 ^ 32 % 256 := by show N % 256 = _; omega
theorem en_len_head (N : Nat) : en_len N = N % 2 ^ 32 / 256 := by show N / 256 % 16777216 = _; omega
theorem en_eset_kind (N j v : Nat) : en_kind (en_eset N j v) = en_kind N := by rw [en_kind_head, en_kind_head, en_eset_head]
theorem en_eset_len (N j v : Nat) : en_len (en_eset N j v) = en_len N := by rw [en_len_head, en_len_head, en_eset_head]
/-- the sum of n powers -/
def en_geo : Nat → Nat
  | 0 => 0
  | n + 1 => en_geo n * 2 ^ 68 + 1
theorem en_geo_eq (n : Nat) : (2 ^ (68 * n) - 1) / (2 ^ 68 - 1) = en_geo n := by
  have h : ∀ n, (2 ^ 68 - 1) * en_geo n = 2 ^ (68 * n) - 1 := by
    intro n
    induction n with
    | zero => rfl
    | succ n ih =>
      have e : 2 ^ (68 * (n + 1)) = 2 ^ (68 * n) * 2 ^ 68 := by rw [← Nat.pow_add]; congr 1
      have hp : 1 ≤ 2 ^ (68 * n) := Nat.one_le_two_pow
      rw [e, en_geo]
      generalize 2 ^ (68 * n) = q at ih hp
      generalize en_geo n = g at ih
      omega
  rw [← h n, Nat.mul_div_cancel_left _ (by decide)]
theorem en_geo_dig {D : Nat} (hD : D < 2 ^ 68) : ∀ (n j : Nat), j < n → (D * en_geo n) / 2 ^ (68 * j) % 2 ^ 68 = D := by
  intro n
  induction n with
  | zero => intro j h; omega
  | succ n ih =>
    intro j hj
    rw [en_geo, Nat.mul_add, Nat.mul_one, ← Nat.mul_assoc]
    cases j with
    | zero =>
      rw [Nat.mul_zero, Nat.pow_zero, Nat.div_one]
      omega
    | succ j =>
      have e : 2 ^ (68 * (j + 1)) = 2 ^ 68 * 2 ^ (68 * j) := by rw [← Nat.pow_add]; congr 1; omega
      rw [e, ← Nat.div_div_eq_div_mul]
      have e2 : (D * en_geo n * 2 ^ 68 + D) / 2 ^ 68 = D * en_geo n := by omega
      rw [e2]
      exact ih j (by omega)
theorem en_rep_elt {kind n D j : Nat} (hk : kind < 256) (hn : n < 16777216) (hD : D < 2 ^ 68) (hj : j < n) : en_elt (en_rep kind n D) j = D := by
  show ((kind + 256 * n) + 4294967296 * (D * ((2 ^ (68 * n) - 1) / (2 ^ 68 - 1)))) >>> (32 + 68 * j) % 2 ^ 68 = D
  rw [en_geo_eq, Nat.shiftRight_eq_div_pow, Nat.pow_add, ← Nat.div_div_eq_div_mul]
  have e : (kind + 256 * n + 4294967296 * (D * en_geo n)) / 2 ^ 32 = D * en_geo n := by omega
  rw [e]
  exact en_geo_dig hD n j hj
theorem en_rep_kind {kind n D : Nat} (hk : kind < 256) : en_kind (en_rep kind n D) = kind := by
  show ((kind + 256 * n) + 4294967296 * (D * ((2 ^ (68 * n) - 1) / (2 ^ 68 - 1)))) % 256 = kind
  omega
theorem en_rep_len {kind n D : Nat} (hk : kind < 256) (hn : n < 16777216) : en_len (en_rep kind n D) = n := by
  show ((kind + 256 * n) + 4294967296 * (D * ((2 ^ (68 * n) - 1) / (2 ^ 68 - 1)))) / 256 % 16777216 = n
  omega
theorem en_lens_H : en_lens 0 136 en_get en_put := en_lens_node (en_lens_node (en_lens_node (en_lens_node (en_lens_node (en_lens_node (en_lens_node (en_lens_leaf 0) (en_lens_leaf 1)) (en_lens_leaf 2)) (en_lens_leaf 3)) (en_lens_node (en_lens_node (en_lens_leaf 4) (en_lens_leaf 5)) (en_lens_node (en_lens_leaf 6) (en_lens_leaf 7)))) (en_lens_node (en_lens_node (en_lens_node (en_lens_node (en_lens_node (en_lens_node (en_lens_leaf 8) (en_lens_node (en_lens_leaf 9) (en_lens_leaf 10))) (en_lens_leaf 11)) (en_lens_leaf 12)) (en_lens_node (en_lens_node (en_lens_node (en_lens_node (en_lens_leaf 13) (en_lens_leaf 14)) (en_lens_node (en_lens_leaf 15) (en_lens_node (en_lens_leaf 16) (en_lens_leaf 17)))) (en_lens_node (en_lens_node (en_lens_node (en_lens_leaf 18) (en_lens_leaf 19)) (en_lens_leaf 20)) (en_lens_node (en_lens_leaf 21) (en_lens_node (en_lens_leaf 22) (en_lens_node (en_lens_leaf 23) (en_lens_leaf 24)))))) (en_lens_leaf 25))) (en_lens_node (en_lens_node (en_lens_leaf 26) (en_lens_leaf 27)) (en_lens_leaf 28))) (en_lens_node (en_lens_leaf 29) (en_lens_node (en_lens_node (en_lens_node (en_lens_node (en_lens_leaf 30) (en_lens_leaf 31)) (en_lens_node (en_lens_node (en_lens_leaf 32) (en_lens_leaf 33)) (en_lens_node (en_lens_node (en_lens_leaf 34) (en_lens_leaf 35)) (en_lens_leaf 36)))) (en_lens_node (en_lens_node (en_lens_node (en_lens_leaf 37) (en_lens_node (en_lens_leaf 38) (en_lens_leaf 39))) (en_lens_node (en_lens_node (en_lens_leaf 40) (en_lens_leaf 41)) (en_lens_node (en_lens_leaf 42) (en_lens_leaf 43)))) (en_lens_node (en_lens_node (en_lens_node (en_lens_leaf 44) (en_lens_leaf 45)) (en_lens_node (en_lens_leaf 46) (en_lens_leaf 47))) (en_lens_node (en_lens_node (en_lens_leaf 48) (en_lens_leaf 49)) (en_lens_node (en_lens_leaf 50) (en_lens_leaf 51)))))) (en_lens_node (en_lens_node (en_lens_node (en_lens_node (en_lens_node (en_lens_leaf 52) (en_lens_leaf 53)) (en_lens_node (en_lens_leaf 54) (en_lens_leaf 55))) (en_lens_node (en_lens_node (en_lens_leaf 56) (en_lens_leaf 57)) (en_lens_node (en_lens_leaf 58) (en_lens_leaf 59)))) (en_lens_node (en_lens_node (en_lens_node (en_lens_leaf 60) (en_lens_leaf 61)) (en_lens_node (en_lens_leaf 62) (en_lens_leaf 63))) (en_lens_node (en_lens_node (en_lens_leaf 64) (en_lens_leaf 65)) (en_lens_node (en_lens_leaf 66) (en_lens_leaf 67))))) (en_lens_node (en_lens_node (en_lens_node (en_lens_node (en_lens_leaf 68) (en_lens_leaf 69)) (en_lens_node (en_lens_leaf 70) (en_lens_leaf 71))) (en_lens_node (en_lens_node (en_lens_leaf 72) (en_lens_leaf 73)) (en_lens_node (en_lens_leaf 74) (en_lens_node (en_lens_leaf 75) (en_lens_leaf 76))))) (en_lens_node (en_lens_node (en_lens_node (en_lens_node (en_lens_leaf 77) (en_lens_leaf 78)) (en_lens_node (en_lens_leaf 79) (en_lens_leaf 80))) (en_lens_node (en_lens_node (en_lens_leaf 81) (en_lens_leaf 82)) (en_lens_leaf 83))) (en_lens_node (en_lens_leaf 84) (en_lens_node (en_lens_leaf 85) (en_lens_node (en_lens_leaf 86) (en_lens_leaf 87))))))))))) (en_lens_leaf 88)) (en_lens_node (en_lens_node (en_lens_node (en_lens_node (en_lens_node (en_lens_node (en_lens_leaf 89) (en_lens_leaf 90)) (en_lens_leaf 91)) (en_lens_node (en_lens_leaf 92) (en_lens_node (en_lens_leaf 93) (en_lens_leaf 94)))) (en_lens_node (en_lens_leaf 95) (en_lens_leaf 96))) (en_lens_leaf 97)) (en_lens_node (en_lens_node (en_lens_node (en_lens_node (en_lens_node (en_lens_node (en_lens_node (en_lens_node (en_lens_leaf 98) (en_lens_leaf 99)) (en_lens_leaf 100)) (en_lens_node (en_lens_leaf 101) (en_lens_leaf 102))) (en_lens_node (en_lens_leaf 103) (en_lens_node (en_lens_leaf 104) (en_lens_leaf 105)))) (en_lens_leaf 106)) (en_lens_node (en_lens_leaf 107) (en_lens_node (en_lens_node (en_lens_node (en_lens_leaf 108) (en_lens_leaf 109)) (en_lens_node (en_lens_leaf 110) (en_lens_leaf 111))) (en_lens_node (en_lens_node (en_lens_leaf 112) (en_lens_leaf 113)) (en_lens_node (en_lens_leaf 114) (en_lens_leaf 115)))))) (en_lens_leaf 116)) (en_lens_node (en_lens_node (en_lens_node (en_lens_leaf 117) (en_lens_leaf 118)) (en_lens_leaf 119)) (en_lens_node (en_lens_leaf 120) (en_lens_node (en_lens_node (en_lens_leaf 121) (en_lens_node (en_lens_node (en_lens_leaf 122) (en_lens_leaf 123)) (en_lens_node (en_lens_leaf 124) (en_lens_leaf 125)))) (en_lens_node (en_lens_node (en_lens_node (en_lens_leaf 126) (en_lens_leaf 127)) (en_lens_node (en_lens_leaf 128) (en_lens_leaf 129))) (en_lens_node (en_lens_node (en_lens_leaf 130) (en_lens_leaf 131)) (en_lens_node (en_lens_node (en_lens_leaf 132) (en_lens_leaf 133)) (en_lens_node (en_lens_leaf 134) (en_lens_leaf 135))))))))))
end
section
/-! THE ENGINE IS SOUND, 2: what a code says -/
/-- an int and 2^31 more -/
def en_z (x : Int32) : Nat := (x.toInt + 2147483648).toNat
def en_d (c : Nat) : Int32 := Int32.ofInt ((c : Int) - 2147483648)
theorem en_z_lt (x : Int32) : en_z x < 4294967296 := by
  have h1 := x.toInt_lt
  have h2 := x.le_toInt
  unfold en_z
  omega
theorem en_z_int (x : Int32) : ((en_z x : Nat) : Int) = x.toInt + 2147483648 := by
  have h2 := x.le_toInt
  unfold en_z
  omega
theorem en_d_int {c : Nat} (h : c < 4294967296) : (en_d c).toInt = (c : Int) - 2147483648 := by
  unfold en_d
  rw [Int32.toInt_ofInt_of_le (by omega) (by omega)]
theorem en_d_z (x : Int32) : en_d (en_z x) = x := by
  apply Int32.toInt_inj.mp
  rw [en_d_int (en_z_lt x), en_z_int]
  omega
theorem en_z_d {c : Nat} (h : c < 4294967296) : en_z (en_d c) = c := by
  have h1 := en_z_int (en_d c)
  rw [en_d_int h] at h1
  omega
theorem en_z_inj {x y : Int32} (h : en_z x = en_z y) : x = y := by rw [← en_d_z x, ← en_d_z y, h]
theorem en_z_lt_iff {x y : Int32} : x < y ↔ en_z x < en_z y := by
  rw [Int32.lt_iff_toInt_lt]
  have h1 := en_z_int x
  have h2 := en_z_int y
  omega
theorem en_z_le_iff {x y : Int32} : x ≤ y ↔ en_z x ≤ en_z y := by
  rw [Int32.le_iff_toInt_le]
  have h1 := en_z_int x
  have h2 := en_z_int y
  omega
theorem en_z_eq_iff {x y : Int32} : x = y ↔ en_z x = en_z y := ⟨fun h => by rw [h], en_z_inj⟩
theorem en_d_zero : en_d 2147483648 = 0 := by decide
/-- any number with the same rest is the same int -/
theorem en_ofInt_mod {a b : Int} (h : a % 4294967296 = b % 4294967296) : Int32.ofInt a = Int32.ofInt b := by
  apply Int32.toBitVec_inj.mp
  show BitVec.ofInt 32 a = BitVec.ofInt 32 b
  apply BitVec.eq_of_toNat_eq
  rw [BitVec.toNat_ofInt, BitVec.toNat_ofInt]
  simpa using congrArg Int.toNat h
/-- what is added to a named int -/
def en_off (c : Nat) : Int32 := Int32.ofInt (((c % 65536 : Nat) : Int) - 32768)
section ENV
variable (E : mm_E) (ρ : Nat → Int32) (ω : Nat → Value)
def en_v (c : Nat) (v : Value) : Prop :=
  if c < 4294967296 then v = .int (en_d c)
  else if c < 8589934592 then v = .int (ρ ((c - 4294967296) / 65536) + en_off c)
  else if c < 8589934728 then v = .ref (E.1 + (c - 8589934592))
  else if c = 12884901888 then v = .null
  else if c = 12884901890 then ∃ x, v = .long x
  else if 12884901904 ≤ c ∧ c ≤ 12884902911 then ∃ q, E.2[c - 12884901904]? = some q ∧ v = .ref q.1
  else if 17179869184 ≤ c ∧ c < 18446744073709551616 then v = ω (c - 17179869184)
  else if 36893488147419103232 ≤ c ∧ c < 73786976294838206464 then v = .long (Int64.ofNat (c - 36893488147419103232))
  else if 73786976294838206464 ≤ c ∧ c < 147573952589676412928 then ∃ x : Int32, v = .int x ∧ (c - 73786976294838206464) / 4294967296 ≤ en_z x ∧ en_z x ≤ c % 4294967296
  else False
variable {E ρ ω}
theorem en_v_const {c : Nat} {v : Value} (h : c < 4294967296) : en_v E ρ ω c v ↔ v = .int (en_d c) := by unfold en_v; rw [if_pos h]
theorem en_v_name {c : Nat} {v : Value} (h : 4294967296 ≤ c) (h2 : c < 8589934592) : en_v E ρ ω c v ↔ v = .int (ρ ((c - 4294967296) / 65536) + en_off c) := by unfold en_v; rw [if_neg (by omega), if_pos h2]
theorem en_v_ref {c : Nat} {v : Value} (h : 8589934592 ≤ c) (h2 : c < 8589934728) : en_v E ρ ω c v ↔ v = .ref (E.1 + (c - 8589934592)) := by unfold en_v; rw [if_neg (by omega), if_neg (by omega), if_pos h2]
theorem en_v_null {v : Value} : en_v E ρ ω 12884901888 v ↔ v = .null := by unfold en_v; simp
theorem en_v_anyL {v : Value} : en_v E ρ ω 12884901890 v ↔ ∃ x, v = .long x := by unfold en_v; simp
theorem en_v_stat {c : Nat} {v : Value} (h : 12884901904 ≤ c) (h2 : c ≤ 12884902911) : en_v E ρ ω c v ↔ ∃ q, E.2[c - 12884901904]? = some q ∧ v = .ref q.1 := by unfold en_v; rw [if_neg (by omega), if_neg (by omega), if_neg (by omega), if_neg (by omega), if_neg (by omega), if_pos ⟨h, h2⟩]
theorem en_v_opq {c : Nat} {v : Value} (h : 17179869184 ≤ c) (h2 : c < 18446744073709551616) : en_v E ρ ω c v ↔ v = ω (c - 17179869184) := by unfold en_v; rw [if_neg (by omega), if_neg (by omega), if_neg (by omega), if_neg (by omega), if_neg (by omega), if_neg (by omega), if_pos ⟨h, h2⟩]
theorem en_v_long {c : Nat} {v : Value} (h : 36893488147419103232 ≤ c) (h2 : c < 73786976294838206464) : en_v E ρ ω c v ↔ v = .long (Int64.ofNat (c - 36893488147419103232)) := by unfold en_v; rw [if_neg (by omega), if_neg (by omega), if_neg (by omega), if_neg (by omega), if_neg (by omega), if_neg (by omega), if_neg (by omega), if_pos ⟨h, h2⟩]
theorem en_v_rng {c : Nat} {v : Value} (h : 73786976294838206464 ≤ c) (h2 : c < 147573952589676412928) : en_v E ρ ω c v ↔ ∃ x : Int32, v = .int x ∧ (c - 73786976294838206464) / 4294967296 ≤ en_z x ∧ en_z x ≤ c % 4294967296 := by unfold en_v; rw [if_neg (by omega), if_neg (by omega), if_neg (by omega), if_neg (by omega), if_neg (by omega), if_neg (by omega), if_neg (by omega), if_neg (by omega), if_pos ⟨h, h2⟩]
theorem en_v_big {c : Nat} {v : Value} (h : en_v E ρ ω c v) : c < 147573952589676412928 := by
  rcases Nat.lt_or_ge c 147573952589676412928 with q | q
  · exact q
  · unfold en_v at h
    rw [if_neg (by omega), if_neg (by omega), if_neg (by omega), if_neg (by omega), if_neg (by omega), if_neg (by omega), if_neg (by omega), if_neg (by omega), if_neg (by omega)] at h
    exact h.elim
theorem en_v_und {v : Value} (h : en_v E ρ ω 12884901891 v) : False := by
  unfold en_v at h
  simp at h
theorem en_v_68 {c : Nat} {v : Value} (h : en_v E ρ ω c v) : c < 2 ^ 68 := Nat.lt_of_lt_of_le (en_v_big h) (by decide)
theorem en_isI_iff {c : Nat} : en_isI c = true ↔ c < 8589934592 ∨ 73786976294838206464 ≤ c := by
  unfold en_isI
  simp only [en_if_or, en_ble_t, en_ble_f, and_true]
  omega
theorem en_isI_int {c : Nat} {v : Value} (h : en_isI c = true) (hv : en_v E ρ ω c v) : ∃ x, v = .int x := by
  have hb := en_v_big hv
  rcases en_isI_iff.mp h with h | h
  · rcases Nat.lt_or_ge c 4294967296 with q | q
    · exact ⟨_, (en_v_const q).mp hv⟩
    · exact ⟨_, (en_v_name q h).mp hv⟩
  · obtain ⟨x, h1, -⟩ := (en_v_rng h hb).mp hv
    exact ⟨x, h1⟩
theorem en_isL_iff {c : Nat} : en_isL c = true ↔ (36893488147419103232 ≤ c ∧ c < 73786976294838206464) ∨ c = 12884901890 := by
  unfold en_isL
  rw [en_if_or, en_ble_t, en_ble_f, en_ble_t, en_beq_t]
  omega
theorem en_isL_long {c : Nat} {v : Value} (h : en_isL c = true) (hv : en_v E ρ ω c v) : ∃ x, v = .long x := by
  rcases en_isL_iff.mp h with ⟨h1, h2⟩ | rfl
  · exact ⟨_, (en_v_long h1 h2).mp hv⟩
  · exact en_v_anyL.mp hv
theorem en_isR_iff {c : Nat} : en_isR c = true ↔ (8589934592 ≤ c ∧ c < 8589934728) ∨ (12884901904 ≤ c ∧ c ≤ 12884902911) := by
  unfold en_isR
  simp only [en_if_and, en_if_or, en_ble_t, en_ble_f, and_true, Bool.false_eq_true, and_false, or_false]
  omega
theorem en_isR_ref {c : Nat} {v : Value} (h : en_isR c = true) (hv : en_v E ρ ω c v) : ∃ x, v = .ref x := by
  rcases en_isR_iff.mp h with ⟨h1, h2⟩ | ⟨h1, h2⟩
  · exact ⟨_, (en_v_ref h1 h2).mp hv⟩
  · obtain ⟨q, -, hq⟩ := (en_v_stat h1 h2).mp hv
    exact ⟨_, hq⟩
theorem en_one_iff {c : Nat} : en_one c = true ↔ (c ≤ 12884902911 ∧ c ≠ 12884901890 ∧ c ≠ 12884901891) ∨ 73786976294838206464 ≤ c := by
  unfold en_one
  rw [en_if_or, en_ble_t, en_ble_f, en_ble_t, en_if_or, en_beq_t, en_beq_f, en_if_or, en_beq_t, en_beq_f]
  simp only [Bool.false_eq_true, and_false, false_or, and_true]
  omega
theorem en_one_cat {c : Nat} {v : Value} (h : en_one c = true) (hv : en_v E ρ ω c v) : v.category = 1 := by
  have hb := en_v_big hv
  rcases en_one_iff.mp h with ⟨h1, h2, h3⟩ | h
  · rcases Nat.lt_or_ge c 8589934592 with q | q
    · obtain ⟨x, rfl⟩ := en_isI_int (en_isI_iff.mpr (Or.inl q)) hv
      rfl
    · by_cases q1 : c < 8589934728
      · rw [(en_v_ref q q1).mp hv]; rfl
      · by_cases q2 : c = 12884901888
        · subst q2
          rw [en_v_null.mp hv]; rfl
        · by_cases q3 : 12884901904 ≤ c
          · obtain ⟨q, -, hq⟩ := (en_v_stat q3 h1).mp hv
            rw [hq]; rfl
          · unfold en_v at hv
            rw [if_neg (by omega), if_neg (by omega), if_neg (by omega), if_neg (by omega), if_neg (by omega), if_neg (by omega), if_neg (by omega), if_neg (by omega), if_neg (by omega)] at hv
            exact hv.elim
  · obtain ⟨x, rfl⟩ := en_isI_int (en_isI_iff.mpr (Or.inr h)) hv
    rfl
theorem en_cat_le (v : Value) : v.category ≤ 2 := by cases v <;> simp [Value.category]
/-- an int from .. to .., made -/
theorem en_mk_v {lo hi : Nat} {x : Int32} (h1 : lo ≤ en_z x) (h2 : en_z x ≤ hi) (h3 : hi < 4294967296) : en_v E ρ ω (en_mk lo hi) (.int x) := by
  unfold en_mk
  cases h : Nat.beq lo hi with
  | true =>
    rw [en_if_t]
    have e := en_beq_t.mp h
    have e2 : en_z x = lo := by omega
    rw [en_v_const (by omega), ← e2, en_d_z]
  | false =>
    rw [en_if_f]
    show en_v E ρ ω (73786976294838206464 + (lo * 4294967296 + hi)) (.int x)
    rw [en_v_rng (by omega) (by omega)]
    exact ⟨x, rfl, by omega, by omega⟩
theorem en_any_v (x : Int32) : en_v E ρ ω 73786976299133173759 (.int x) := by
  rw [en_v_rng (by decide) (by decide)]
  have := en_z_lt x
  exact ⟨x, rfl, by omega, by omega⟩
def en_e (ρ : Nat → Int32) (ev : en_V) : Prop := ∀ i : Nat, (en_nth (0, 4294967295) ev i).1 ≤ en_z (ρ i) ∧ en_z (ρ i) ≤ (en_nth (0, 4294967295) ev i).2
theorem en_e_set {ev : en_V} (h : en_e ρ ev) {i : Nat} {q : Nat × Nat} (h1 : q.1 ≤ en_z (ρ i)) (h2 : en_z (ρ i) ≤ q.2) : en_e ρ (en_set ev i q) := by
  intro j
  rw [en_set_eq, en_nth_eq, List.getElem?_set]
  by_cases hij : i = j
  · subst hij
    by_cases hl : i < ev.length
    · simp [hl, h1, h2]
    · simp only [hl, if_true, if_false, Option.getD_none]
      have := en_z_lt (ρ i)
      exact ⟨Nat.zero_le _, by show en_z (ρ i) ≤ 4294967295; omega⟩
  · rw [if_neg hij, ← en_nth_eq]
    exact h j
/-- a named int, moved: if nothing wraps, its number moves so -/
theorem en_z_off {x : Int32} {c : Nat} (h1 : 32768 ≤ en_z x + c % 65536) (h2 : en_z x + c % 65536 < 4294967296 + 32768) : en_z (x + en_off c) + 32768 = en_z x + c % 65536 := by
  have hx := en_z_int x
  have e0 : x + en_off c = Int32.ofInt (((en_z x : Nat) : Int) - 2147483648) + Int32.ofInt (((c % 65536 : Nat) : Int) - 32768) := by
    conv => lhs; rw [← en_d_z x]
    rfl
  have e : x + en_off c = en_d (en_z x + c % 65536 - 32768) := by
    rw [e0, ← Int32.ofInt_add]
    unfold en_d
    exact congrArg Int32.ofInt (by omega)
  rw [e, en_z_d (by omega)]
  omega
/-- where an int goes: the reading of a code is right -/
theorem en_iv_v {w : en_W} {c : Nat} {x : Int32} (he : en_e ρ (en_ev w)) (hv : en_v E ρ ω c (.int x)) : ∃ a b, a ≤ en_z x ∧ en_z x ≤ b ∧ b < 4294967296 ∧ ∀ {α : Type} (k : Nat → Nat → α), en_iv w c k = k a b := by
  have hb := en_v_big hv
  have hz := en_z_lt x
  rcases Nat.lt_or_ge c 4294967296 with q | q
  · have e : x = en_d c := by simpa using (en_v_const q).mp hv
    refine ⟨c, c, ?_, ?_, q, fun k => ?_⟩
    · rw [e, en_z_d q]; omega
    · rw [e, en_z_d q]; omega
    · unfold en_iv
      rw [en_ble_t.mpr (by omega), en_if_t]
  · rcases Nat.lt_or_ge c 8589934592 with q2 | q2
    · have e : x = ρ ((c - 4294967296) / 65536) + en_off c := by simpa using (en_v_name q q2).mp hv
      obtain ⟨h1, h2⟩ := he ((c - 4294967296) / 65536)
      cases hn : en_nth (0, 4294967295) (en_ev w) ((c - 4294967296) / 65536) with
      | mk lo hi =>
        rw [hn] at h1 h2
        by_cases g1 : 32768 ≤ lo + c % 65536
        · by_cases g2 : hi + c % 65536 ≤ 4295000063
          · have h3 := en_z_off (x := ρ ((c - 4294967296) / 65536)) (c := c) (by simp only [] at h1; omega) (by simp only [] at h2; omega)
            rw [← e] at h3
            refine ⟨lo + c % 65536 - 32768, hi + c % 65536 - 32768, by simp only [] at h1; omega, by simp only [] at h2; omega, by omega, fun k => ?_⟩
            unfold en_iv
            rw [en_ble_f.mpr (by omega), en_if_f, en_ble_t.mpr (by omega), en_if_t]
            have hn2 : en_nth (0, 4294967295) (en_ev w) (Nat.div (Nat.sub c 4294967296) 65536) = (lo, hi) := hn
            rw [hn2]
            show en_if (Nat.ble 32768 (lo + c % 65536)) (en_if (Nat.ble (hi + c % 65536) 4295000063) _ _) _ = _
            rw [en_ble_t.mpr g1, en_if_t, en_ble_t.mpr g2, en_if_t]
            rfl
          · refine ⟨0, 4294967295, Nat.zero_le _, by omega, by decide, fun k => ?_⟩
            unfold en_iv
            rw [en_ble_f.mpr (by omega), en_if_f, en_ble_t.mpr (by omega), en_if_t]
            have hn2 : en_nth (0, 4294967295) (en_ev w) (Nat.div (Nat.sub c 4294967296) 65536) = (lo, hi) := hn
            rw [hn2]
            show en_if (Nat.ble 32768 (lo + c % 65536)) (en_if (Nat.ble (hi + c % 65536) 4295000063) _ _) _ = _
            rw [en_ble_t.mpr g1, en_if_t, en_ble_f.mpr (by omega), en_if_f]
        · refine ⟨0, 4294967295, Nat.zero_le _, by omega, by decide, fun k => ?_⟩
          unfold en_iv
          rw [en_ble_f.mpr (by omega), en_if_f, en_ble_t.mpr (by omega), en_if_t]
          have hn2 : en_nth (0, 4294967295) (en_ev w) (Nat.div (Nat.sub c 4294967296) 65536) = (lo, hi) := hn
          rw [hn2]
          show en_if (Nat.ble 32768 (lo + c % 65536)) (en_if (Nat.ble (hi + c % 65536) 4295000063) _ _) _ = _
          rw [en_ble_f.mpr (by omega), en_if_f]
    · rcases Nat.lt_or_ge c 73786976294838206464 with q3 | q3
      · refine ⟨0, 4294967295, Nat.zero_le _, by omega, by decide, fun k => ?_⟩
        unfold en_iv
        rw [en_ble_f.mpr (by omega), en_if_f, en_ble_f.mpr (by omega), en_if_f, en_ble_f.mpr (by omega), en_if_f]
      · obtain ⟨y, hy, h1, h2⟩ := (en_v_rng q3 hb).mp hv
        have e : x = y := by simpa using hy
        subst e
        refine ⟨_, _, h1, h2, by omega, fun k => ?_⟩
        unfold en_iv
        rw [en_ble_f.mpr (by omega), en_if_f, en_ble_f.mpr (by omega), en_if_f, en_ble_t.mpr (by omega), en_if_t]
        rfl
/-- the same rest of a state, but for ranges -/
def en_wq (w w' : en_W) : Prop := w'.1 = w.1 ∧ w'.2.1 = w.2.1 ∧ w'.2.2.1 = w.2.2.1 ∧ w'.2.2.2.1 = w.2.2.2.1 ∧ w'.2.2.2.2.1 = w.2.2.2.2.1
theorem en_wq.rf (w : en_W) : en_wq w w := ⟨rfl, rfl, rfl, rfl, rfl⟩
theorem en_wq.tr {a b c : en_W} (h : en_wq a b) (g : en_wq b c) : en_wq a c := ⟨g.1.trans h.1, g.2.1.trans h.2.1, g.2.2.1.trans h.2.2.1, g.2.2.2.1.trans h.2.2.2.1, g.2.2.2.2.trans h.2.2.2.2⟩
/-- a true range of a named int may be noted -/
theorem en_ref_v {w : en_W} {c lo hi : Nat} {x : Int32} {k : en_W → Bool} (he : en_e ρ (en_ev w)) (hv : en_v E ρ ω c (.int x)) (h1 : lo ≤ en_z x) (h2 : en_z x ≤ hi) (hk : en_ref w c lo hi k = true) : ∃ w', k w' = true ∧ en_wq w w' ∧ en_e ρ (en_ev w') := by
  unfold en_ref at hk
  rw [en_ble_t.mpr (by omega), en_if_t] at hk
  rcases Nat.lt_or_ge c 4294967296 with q | q
  · rw [en_ble_t.mpr (by omega), en_if_t] at hk
    exact ⟨w, hk, en_wq.rf w, he⟩
  · rw [en_ble_f.mpr (by omega), en_if_f] at hk
    rcases Nat.lt_or_ge c 8589934592 with q2 | q2
    · rw [en_ble_t.mpr (by omega), en_if_t] at hk
      have e : x = ρ ((c - 4294967296) / 65536) + en_off c := by simpa using (en_v_name q q2).mp hv
      obtain ⟨g1, g2⟩ := he ((c - 4294967296) / 65536)
      cases hn : en_nth (0, 4294967295) (en_ev w) ((c - 4294967296) / 65536) with
      | mk l h =>
        rw [hn] at g1 g2
        have hk : en_if (Nat.ble 32768 (l + c % 65536)) (en_if (Nat.ble (h + c % 65536) 4295000063) (k (en_sev w ((c - 4294967296) / 65536) (lo + 32768 - c % 65536, hi + 32768 - c % 65536))) (k w)) (k w) = true := by
          have h9 : (Prod.rec (motive := fun _ => Bool) (fun l h => en_if (Nat.ble 32768 (l + c % 65536)) (en_if (Nat.ble (h + c % 65536) 4295000063) (k (en_sev w ((c - 4294967296) / 65536) (lo + 32768 - c % 65536, hi + 32768 - c % 65536))) (k w)) (k w)) (en_nth (0, 4294967295) (en_ev w) ((c - 4294967296) / 65536)) : Bool) = true := hk
          rw [hn] at h9
          exact h9
        rcases en_if_or.mp hk with ⟨a1, hk⟩ | ⟨a1, hk⟩
        · rcases en_if_or.mp hk with ⟨a2, hk⟩ | ⟨a2, hk⟩
          · have a1 := en_ble_t.mp a1
            have a2 := en_ble_t.mp a2
            have h3 := en_z_off (x := ρ ((c - 4294967296) / 65536)) (c := c) (by simp only [] at g1; omega) (by simp only [] at g2; omega)
            rw [← e] at h3
            exact ⟨_, hk, ⟨rfl, rfl, rfl, rfl, rfl⟩, en_e_set he (by simp only []; omega) (by simp only []; omega)⟩
          · exact ⟨w, hk, en_wq.rf w, he⟩
        · exact ⟨w, hk, en_wq.rf w, he⟩
    · rw [en_ble_f.mpr (by omega), en_if_f] at hk
      exact ⟨w, hk, en_wq.rf w, he⟩
theorem en_all_v {f : Nat → Bool} : ∀ {n lo : Nat}, en_all f n lo = true → ∀ v, lo ≤ v → v ≤ lo + n → f v = true := by
  intro n
  induction n with
  | zero => intro lo h v h1 h2; have e : v = lo := by omega
            subst e; exact h
  | succ n ih =>
    intro lo h v h1 h2
    have h9 : en_if (f lo) (en_all f n (Nat.succ lo)) false = true := h
    obtain ⟨a, b⟩ := en_if_and.mp h9
    rcases Nat.lt_or_ge lo v with q | q
    · exact ih b v q (by omega)
    · have e : v = lo := by omega
      subst e; exact a
/-- an int that is to be known -/
theorem en_pt_v {w : en_W} {c : Nat} {x : Int32} {k : Nat → Bool} {r : en_W → Bool} {o : Bool} (he : en_e ρ (en_ev w)) (hv : en_v E ρ ω c (.int x)) (h : en_pt w c k r o = true) : k (en_z x) = true ∨ (∃ w', r w' = true ∧ en_wq w w' ∧ en_e ρ (en_ev w')) ∨ o = true := by
  unfold en_pt at h
  rcases en_if_or.mp h with ⟨a1, h⟩ | ⟨a1, h⟩
  · have e : x = en_d c := by simpa using (en_v_const (by have := en_ble_t.mp a1; omega)).mp hv
    left
    rw [e, en_z_d (by have := en_ble_t.mp a1; omega)]
    exact h
  · obtain ⟨a, b, g1, g2, g3, g4⟩ := en_iv_v he hv
    rw [g4] at h
    rcases en_if_or.mp h with ⟨a2, h⟩ | ⟨a2, h⟩
    · have := en_beq_t.mp a2
      left
      rw [show en_z x = a by omega]
      exact h
    · rcases en_if_or.mp h with ⟨a3, h⟩ | ⟨a3, h⟩
      · rcases en_if_or.mp h with ⟨a4, h⟩ | ⟨a4, h⟩
        · rcases en_if_or.mp h with ⟨a5, h⟩ | ⟨a5, h⟩
          · right; left
            have h9 := en_all_v h (en_z x) g1 (by have : b - a = b - a := rfl; show en_z x ≤ a + (b - a); omega)
            exact en_ref_v he hv (Nat.le_refl _) (Nat.le_refl _) h9
          · left
            exact en_all_v h (en_z x) g1 (by show en_z x ≤ a + (b - a); omega)
        · have := en_ble_f.mp a4
          omega
      · right; right; exact h
theorem en_lt_v {w : en_W} {x y : Nat} {X Y : Int32} {kt kf : en_W → Bool} (he : en_e ρ (en_ev w)) (hx : en_v E ρ ω x (.int X)) (hy : en_v E ρ ω y (.int Y)) (h : en_lt x y w kt kf = true) : (X < Y → ∃ w', kt w' = true ∧ en_wq w w' ∧ en_e ρ (en_ev w')) ∧ (¬ X < Y → ∃ w', kf w' = true ∧ en_wq w w' ∧ en_e ρ (en_ev w')) := by
  unfold en_lt at h
  rcases en_if_or.mp h with ⟨a1, h⟩ | ⟨-, h⟩
  · obtain ⟨a1, a2⟩ := en_if_and.mp a1
    have a1 := en_ble_t.mp a1
    have a2 := en_ble_t.mp a2
    have ex : X = en_d x := by simpa using (en_v_const (by omega)).mp hx
    have ey : Y = en_d y := by simpa using (en_v_const (by omega)).mp hy
    have hlt : X < Y ↔ x < y := by rw [en_z_lt_iff, ex, ey, en_z_d (by omega), en_z_d (by omega)]
    rcases en_if_or.mp h with ⟨a3, h⟩ | ⟨a3, h⟩
    · have := en_ble_t.mp a3
      exact ⟨fun q => absurd (hlt.mp q) (by omega), fun _ => ⟨w, h, en_wq.rf w, he⟩⟩
    · have := en_ble_f.mp a3
      exact ⟨fun _ => ⟨w, h, en_wq.rf w, he⟩, fun q => absurd (hlt.mpr (by omega)) q⟩
  · obtain ⟨a, b, g1, g2, g3, g4⟩ := en_iv_v he hx
    obtain ⟨c, d, f1, f2, f3, f4⟩ := en_iv_v he hy
    rw [g4, f4] at h
    rw [en_z_lt_iff]
    rcases en_if_or.mp h with ⟨a3, h⟩ | ⟨a3, h⟩
    · have : b + 1 ≤ c := en_ble_t.mp a3
      exact ⟨fun _ => ⟨w, h, en_wq.rf w, he⟩, fun q => absurd (by omega) q⟩
    · rcases en_if_or.mp h with ⟨a4, h⟩ | ⟨a4, h⟩
      · have := en_ble_t.mp a4
        exact ⟨fun q => absurd q (by omega), fun _ => ⟨w, h, en_wq.rf w, he⟩⟩
      · obtain ⟨h1, h2⟩ := en_if_and.mp h
        refine ⟨fun q => ?_, fun q => ?_⟩
        · obtain ⟨w1, k1, e1, e2⟩ := en_ref_v he hx g1 (by show en_z X ≤ d - 1; omega) h1
          obtain ⟨w2, k2, e3, e4⟩ := en_ref_v e2 hy (by show a + 1 ≤ en_z Y; omega) f2 k1
          exact ⟨w2, k2, e1.tr e3, e4⟩
        · obtain ⟨w1, k1, e1, e2⟩ := en_ref_v he hx (by omega) g2 h2
          obtain ⟨w2, k2, e3, e4⟩ := en_ref_v e2 hy f1 (by omega) k1
          exact ⟨w2, k2, e1.tr e3, e4⟩
theorem en_cut_v {w : en_W} {x a b c : Nat} {X : Int32} {k : en_W → Bool} (he : en_e ρ (en_ev w)) (hx : en_v E ρ ω x (.int X)) (h1 : a ≤ en_z X) (h2 : en_z X ≤ b) (hn : en_z X ≠ c) (h : en_cut w x a b c k = true) : ∃ w', k w' = true ∧ en_wq w w' ∧ en_e ρ (en_ev w') := by
  unfold en_cut at h
  rcases en_if_or.mp h with ⟨a3, h⟩ | ⟨a3, h⟩
  · have := en_beq_t.mp a3
    exact en_ref_v he hx (by show a + 1 ≤ en_z X; omega) h2 h
  · rcases en_if_or.mp h with ⟨a4, h⟩ | ⟨a4, h⟩
    · have := en_beq_t.mp a4
      exact en_ref_v he hx h1 (by show en_z X ≤ b - 1; omega) h
    · exact ⟨w, h, en_wq.rf w, he⟩
theorem en_eq_v {w : en_W} {x y : Nat} {X Y : Int32} {kt kf : en_W → Bool} (he : en_e ρ (en_ev w)) (hx : en_v E ρ ω x (.int X)) (hy : en_v E ρ ω y (.int Y)) (h : en_eq x y w kt kf = true) : (X = Y → ∃ w', kt w' = true ∧ en_wq w w' ∧ en_e ρ (en_ev w')) ∧ (¬ X = Y → ∃ w', kf w' = true ∧ en_wq w w' ∧ en_e ρ (en_ev w')) := by
  unfold en_eq at h
  rcases en_if_or.mp h with ⟨a1, h⟩ | ⟨-, h⟩
  · obtain ⟨a1, a2⟩ := en_if_and.mp a1
    have a1 := en_ble_t.mp a1
    have a2 := en_ble_t.mp a2
    have ex : X = en_d x := by simpa using (en_v_const (by omega)).mp hx
    have ey : Y = en_d y := by simpa using (en_v_const (by omega)).mp hy
    have hlt : X = Y ↔ x = y := by rw [en_z_eq_iff, ex, ey, en_z_d (by omega), en_z_d (by omega)]
    rcases en_if_or.mp h with ⟨a3, h⟩ | ⟨a3, h⟩
    · have := en_beq_t.mp a3
      exact ⟨fun _ => ⟨w, h, en_wq.rf w, he⟩, fun q => absurd (hlt.mpr this) q⟩
    · have := en_beq_f.mp a3
      exact ⟨fun q => absurd (hlt.mp q) this, fun _ => ⟨w, h, en_wq.rf w, he⟩⟩
  · rcases en_if_or.mp h with ⟨a1, hk⟩ | ⟨-, h⟩
    · obtain ⟨a1, a2⟩ := en_if_and.mp a1
      have a1 := en_beq_t.mp a1
      have a2 := en_ble_t.mp a2
      subst a1
      have e : X = Y := by
        rcases Nat.lt_or_ge x 4294967296 with q | q
        · have h1 := (en_v_const q).mp hx
          have h2 := (en_v_const q).mp hy
          simpa using h1.trans h2.symm
        · have h1 := (en_v_name q (by omega)).mp hx
          have h2 := (en_v_name q (by omega)).mp hy
          simpa using h1.trans h2.symm
      exact ⟨fun _ => ⟨w, hk, en_wq.rf w, he⟩, fun q => absurd e q⟩
    · obtain ⟨a, b, g1, g2, g3, g4⟩ := en_iv_v he hx
      obtain ⟨c, d, f1, f2, f3, f4⟩ := en_iv_v he hy
      rw [g4, f4] at h
      rw [en_z_eq_iff]
      rcases en_if_or.mp h with ⟨a3, h⟩ | ⟨a3, h⟩
      · have : b + 1 ≤ c := en_ble_t.mp a3
        exact ⟨fun q => absurd q (by omega), fun _ => ⟨w, h, en_wq.rf w, he⟩⟩
      · rcases en_if_or.mp h with ⟨a4, h⟩ | ⟨a4, h⟩
        · have : d + 1 ≤ a := en_ble_t.mp a4
          exact ⟨fun q => absurd q (by omega), fun _ => ⟨w, h, en_wq.rf w, he⟩⟩
        · obtain ⟨h1, h2⟩ := en_if_and.mp h
          refine ⟨fun q => ?_, fun q => ?_⟩
          · rcases en_if_or.mp h1 with ⟨a5, h1⟩ | ⟨a5, h1⟩
            · have := en_beq_t.mp a5
              exact en_ref_v he hx (by omega) (by omega) h1
            · rcases en_if_or.mp h1 with ⟨a6, h1⟩ | ⟨a6, h1⟩
              · have := en_beq_t.mp a6
                exact en_ref_v he hy (by omega) (by omega) h1
              · exact ⟨w, h1, en_wq.rf w, he⟩
          · rcases en_if_or.mp h2 with ⟨a5, h2⟩ | ⟨a5, h2⟩
            · have := en_beq_t.mp a5
              rcases en_if_or.mp h2 with ⟨a6, h2⟩ | ⟨a6, h2⟩
              · have := en_beq_t.mp a6
                have := en_ble_f.mp a3
                have := en_ble_f.mp a4
                omega
              · exact en_cut_v he hx g1 g2 (by omega) h2
            · rcases en_if_or.mp h2 with ⟨a6, h2⟩ | ⟨a6, h2⟩
              · have := en_beq_t.mp a6
                exact en_cut_v he hy f1 f2 (by omega) h2
              · exact ⟨w, h2, en_wq.rf w, he⟩
theorem en_cmp_v {k : Jvm.ClassFile.Cond} {w : en_W} {x y : Nat} {X Y : Int32} {kt kf : en_W → Bool} (he : en_e ρ (en_ev w)) (hx : en_v E ρ ω x (.int X)) (hy : en_v E ρ ω y (.int Y)) (h : en_cmp k x y w kt kf = true) : (mm_cond k X Y = true → ∃ w', kt w' = true ∧ en_wq w w' ∧ en_e ρ (en_ev w')) ∧ (¬ mm_cond k X Y = true → ∃ w', kf w' = true ∧ en_wq w w' ∧ en_e ρ (en_ev w')) := by
  cases k with
  | eq =>
    obtain ⟨h1, h2⟩ := en_eq_v he hx hy (show en_eq x y w kt kf = true from h)
    simp only [mm_cond, decide_eq_true_eq]
    exact ⟨h1, h2⟩
  | ne =>
    obtain ⟨h1, h2⟩ := en_eq_v he hx hy (show en_eq x y w kf kt = true from h)
    simp only [mm_cond, decide_eq_true_eq, Decidable.not_not]
    exact ⟨h2, h1⟩
  | lt =>
    obtain ⟨h1, h2⟩ := en_lt_v he hx hy (show en_lt x y w kt kf = true from h)
    simp only [mm_cond, decide_eq_true_eq]
    exact ⟨h1, h2⟩
  | ge =>
    obtain ⟨h1, h2⟩ := en_lt_v he hx hy (show en_lt x y w kf kt = true from h)
    simp only [mm_cond, decide_eq_true_eq]
    exact ⟨fun q => h2 (Int32.not_lt.mpr q), fun q => h1 (Int32.not_le.mp q)⟩
  | gt =>
    obtain ⟨h1, h2⟩ := en_lt_v he hy hx (show en_lt y x w kt kf = true from h)
    simp only [mm_cond, decide_eq_true_eq]
    exact ⟨h1, h2⟩
  | le =>
    obtain ⟨h1, h2⟩ := en_lt_v he hy hx (show en_lt y x w kf kt = true from h)
    simp only [mm_cond, decide_eq_true_eq]
    exact ⟨fun q => h2 (Int32.not_lt.mpr q), fun q => h1 (Int32.not_le.mp q)⟩
end ENV
end
section
/-! THE ENGINE IS SOUND, 3: arithmetic -/
theorem en_d_nI {c : Nat} (h : 2147483648 ≤ c) : en_d c = nI (c - 2147483648) := by
  unfold en_d nI
  rw [show ((c : Int) - 2147483648) = ((c - 2147483648 : Nat) : Int) by omega]
  exact Int32.ofInt_eq_ofNat
theorem en_nI_d (n : Nat) : nI n = en_d (n + 2147483648) := by rw [en_d_nI (by omega), Nat.add_sub_cancel]
theorem en_nI_z {x : Int32} (h : 2147483648 ≤ en_z x) : x = nI (en_z x - 2147483648) := by rw [← en_d_nI h, en_d_z]
theorem en_z_nI {n : Nat} (h : n < 2147483648) : en_z (nI n) = n + 2147483648 := by rw [en_nI_d, en_z_d (by omega)]
theorem en_d_add (x y : Nat) : en_d x + en_d y = en_d ((x + y + 2147483648) % 4294967296) := by
  unfold en_d
  rw [← Int32.ofInt_add]
  apply en_ofInt_mod
  omega
theorem en_d_sub {x y : Nat} (h : y < 4294967296) : en_d x - en_d y = en_d ((x + 6442450944 - y) % 4294967296) := by
  unfold en_d
  rw [← Int32.ofInt_sub]
  apply en_ofInt_mod
  omega
theorem en_mod_aux (u : Int) (t : Nat) (h : u % 4294967296 = (t : Int) % 4294967296) : u % 4294967296 = ((((t + 2147483648) % 4294967296 : Nat) : Int) - 2147483648) % 4294967296 := by omega
theorem en_d_mul (x y : Nat) : en_d x * en_d y = en_d (((x + 2147483648) * (y + 2147483648) + 2147483648) % 4294967296) := by
  unfold en_d
  rw [← Int32.ofInt_mul]
  apply en_ofInt_mod
  have h1 : ((x : Int) - 2147483648) % 4294967296 = ((x + 2147483648 : Nat) : Int) % 4294967296 := by omega
  have h2 : ((y : Int) - 2147483648) % 4294967296 = ((y + 2147483648 : Nat) : Int) % 4294967296 := by omega
  have hm : (((x : Int) - 2147483648) * ((y : Int) - 2147483648)) % 4294967296 = (((x + 2147483648) * (y + 2147483648) : Nat) : Int) % 4294967296 := by rw [Int.natCast_mul, Int.mul_emod, h1, h2, ← Int.mul_emod]
  exact en_mod_aux _ _ hm
theorem en_z_add {X Y : Int32} (h1 : 2147483648 ≤ en_z X + en_z Y) (h2 : en_z X + en_z Y < 6442450944) : en_z (X + Y) = en_z X + en_z Y - 2147483648 := by
  have e : X + Y = en_d ((en_z X + en_z Y + 2147483648) % 4294967296) := by rw [← en_d_add, en_d_z, en_d_z]
  rw [e, en_z_d (by omega)]
  omega
theorem en_z_sub {X Y : Int32} (h1 : en_z Y ≤ en_z X + 2147483648) (h2 : en_z X + 2147483648 < en_z Y + 4294967296) : en_z (X - Y) = en_z X + 2147483648 - en_z Y := by
  have hy := en_z_lt Y
  have e : X - Y = en_d ((en_z X + 6442450944 - en_z Y) % 4294967296) := by rw [← en_d_sub hy, en_d_z, en_d_z]
  rw [e, en_z_d (by omega)]
  omega
theorem en_nI_and {a b : Nat} (ha : a < 4294967296) (hb : b < 4294967296) : nI a &&& nI b = nI (a &&& b) := by
  apply Int32.toBitVec_inj.mp
  show BitVec.ofNat 32 a &&& BitVec.ofNat 32 b = BitVec.ofNat 32 (a &&& b)
  apply BitVec.eq_of_toNat_eq
  have h : a &&& b ≤ a := Nat.and_le_left
  simp only [BitVec.toNat_and, BitVec.toNat_ofNat]
  rw [Nat.mod_eq_of_lt ha, Nat.mod_eq_of_lt hb, Nat.mod_eq_of_lt (by omega)]
theorem en_nI_or {a b : Nat} (ha : a < 4294967296) (hb : b < 4294967296) : nI a ||| nI b = nI (a ||| b) := by
  apply Int32.toBitVec_inj.mp
  show BitVec.ofNat 32 a ||| BitVec.ofNat 32 b = BitVec.ofNat 32 (a ||| b)
  apply BitVec.eq_of_toNat_eq
  have h : a ||| b < 2 ^ 32 := Nat.or_lt_two_pow ha hb
  simp only [BitVec.toNat_or, BitVec.toNat_ofNat]
  rw [Nat.mod_eq_of_lt ha, Nat.mod_eq_of_lt hb, Nat.mod_eq_of_lt h]
theorem en_and_any (X : Int32) {b : Nat} (hb : b < 2147483648) : ∃ j, j ≤ b ∧ X &&& nI b = nI j := by
  refine ⟨X.toBitVec.toNat &&& b, Nat.and_le_right, ?_⟩
  apply Int32.toBitVec_inj.mp
  show X.toBitVec &&& BitVec.ofNat 32 b = BitVec.ofNat 32 (X.toBitVec.toNat &&& b)
  apply BitVec.eq_of_toNat_eq
  have h : X.toBitVec.toNat &&& b ≤ b := Nat.and_le_right
  simp only [BitVec.toNat_and, BitVec.toNat_ofNat]
  rw [Nat.mod_eq_of_lt (by omega), Nat.mod_eq_of_lt (by omega)]
theorem en_sh31 : ∀ s, s < 32 → (nI s &&& 31) = nI s ∧ ((nI s).toBitVec.smod 32).toNat = s := by decide +kernel
section ENA
variable (E : mm_E) (ρ : Nat → Int32) (ω : Nat → Value)
/-- a rule of two ints is right -/
def en_G (g : en_W → Nat → Nat → (Nat → Bool) → Bool) (r : Int32 → Int32 → Option Int32) : Prop := ∀ (w : en_W) (x y : Nat) (k : Nat → Bool) (X Y : Int32), en_e ρ (en_ev w) → en_v E ρ ω x (.int X) → en_v E ρ ω y (.int Y) → g w x y k = true → ∃ Z, r X Y = some Z ∧ ∃ c, k c = true ∧ en_v E ρ ω c (.int Z)
variable {E ρ ω}
theorem en_mk_ex {k : Nat → Bool} {lo hi : Nat} {x : Int32} (h : k (en_mk lo hi) = true) (h1 : lo ≤ en_z x) (h2 : en_z x ≤ hi) (h3 : hi < 4294967296) : ∃ c, k c = true ∧ en_v E ρ ω c (.int x) := ⟨_, h, en_mk_v h1 h2 h3⟩
theorem en_addI_v {w : en_W} {x y : Nat} {k : Nat → Bool} {X Y : Int32} (he : en_e ρ (en_ev w)) (hx : en_v E ρ ω x (.int X)) (hy : en_v E ρ ω y (.int Y)) (h : en_addI w x y k = true) : ∃ c, k c = true ∧ en_v E ρ ω c (.int (X + Y)) := by
  unfold en_addI at h
  obtain ⟨a, b, g1, g2, g3, g4⟩ := en_iv_v he hx
  obtain ⟨c, d, f1, f2, f3, f4⟩ := en_iv_v he hy
  rw [g4, f4] at h
  rcases en_if_or.mp h with ⟨a1, h⟩ | ⟨-, h⟩
  · rcases en_if_or.mp h with ⟨a2, h⟩ | ⟨-, h⟩
    · have a1 : 2147483648 ≤ a + c := en_ble_t.mp a1
      have a2 : b + d ≤ 6442450943 := en_ble_t.mp a2
      have e := en_z_add (X := X) (Y := Y) (by omega) (by omega)
      have q1 : a + c - 2147483648 ≤ en_z (X + Y) := by omega
      have q2 : en_z (X + Y) ≤ b + d - 2147483648 := by omega
      have q3 : b + d - 2147483648 < 4294967296 := by omega
      exact en_mk_ex h q1 q2 q3
    · exact ⟨_, h, en_any_v _⟩
  · exact ⟨_, h, en_any_v _⟩
theorem en_addN_v {w : en_W} {x y : Nat} {k : Nat → Bool} {X Y : Int32} (he : en_e ρ (en_ev w)) (hx : en_v E ρ ω x (.int X)) (hy : en_v E ρ ω y (.int Y)) (q1 : 4294967296 ≤ x) (q2 : x < 8589934592) (q3 : y < 4294967296) (h : en_addN w x y k = true) : ∃ c, k c = true ∧ en_v E ρ ω c (.int (X + Y)) := by
  unfold en_addN at h
  rcases en_if_or.mp h with ⟨a1, h⟩ | ⟨-, h⟩
  · rcases en_if_or.mp h with ⟨a2, h⟩ | ⟨-, h⟩
    · have a1 : 2147483648 ≤ x % 65536 + y := en_ble_t.mp a1
      have a2 : x % 65536 + y ≤ 2147549183 := en_ble_t.mp a2
      refine ⟨_, h, ?_⟩
      have ex : X = ρ ((x - 4294967296) / 65536) + en_off x := by simpa using (en_v_name q1 q2).mp hx
      have ey : Y = en_d y := by simpa using (en_v_const q3).mp hy
      show en_v E ρ ω (x / 65536 * 65536 + (x % 65536 + y - 2147483648)) (.int (X + Y))
      rw [en_v_name (by omega) (by omega), ex, ey, Int32.add_assoc]
      rw [show (x / 65536 * 65536 + (x % 65536 + y - 2147483648) - 4294967296) / 65536 = (x - 4294967296) / 65536 by omega]
      have e9 : en_off x + en_d y = en_off (x / 65536 * 65536 + (x % 65536 + y - 2147483648)) := by
        unfold en_off en_d
        rw [← Int32.ofInt_add]
        exact congrArg Int32.ofInt (by omega)
      rw [e9]
    · exact en_addI_v he hx hy h
  · exact en_addI_v he hx hy h
theorem en_add_v {w : en_W} {x y : Nat} {k : Nat → Bool} {X Y : Int32} (he : en_e ρ (en_ev w)) (hx : en_v E ρ ω x (.int X)) (hy : en_v E ρ ω y (.int Y)) (h : en_add w x y k = true) : ∃ c, k c = true ∧ en_v E ρ ω c (.int (X + Y)) := by
  unfold en_add at h
  rcases en_if_or.mp h with ⟨a1, h⟩ | ⟨a1, h⟩
  · have a1 := en_ble_t.mp a1
    rcases en_if_or.mp h with ⟨a2, h⟩ | ⟨a2, h⟩
    · have a2 := en_ble_t.mp a2
      have ex : X = en_d x := by simpa using (en_v_const (by omega)).mp hx
      have ey : Y = en_d y := by simpa using (en_v_const (by omega)).mp hy
      refine ⟨_, h, ?_⟩
      show en_v E ρ ω ((x + y + 2147483648) % 4294967296) _
      rw [en_v_const (by omega), ex, ey, en_d_add]
    · have a2 := en_ble_f.mp a2
      rcases en_if_or.mp h with ⟨a3, h⟩ | ⟨a3, h⟩
      · have a3 := en_ble_t.mp a3
        exact en_addN_v he hx hy (by omega) (by omega) (by omega) h
      · exact en_addI_v he hx hy h
  · have a1 := en_ble_f.mp a1
    rcases en_if_or.mp h with ⟨a2, h⟩ | ⟨a2, h⟩
    · have a2 := en_ble_t.mp a2
      rcases en_if_or.mp h with ⟨a3, h⟩ | ⟨a3, h⟩
      · have a3 := en_ble_t.mp a3
        rw [Int32.add_comm]
        exact en_addN_v he hy hx (by omega) (by omega) (by omega) h
      · exact en_addI_v he hx hy h
    · exact en_addI_v he hx hy h
theorem en_add_G : en_G E ρ ω en_add (fun x y => some (x + y)) := fun _ _ _ _ _ _ he hx hy h => ⟨_, rfl, en_add_v he hx hy h⟩
theorem en_subI_v {w : en_W} {x y : Nat} {k : Nat → Bool} {X Y : Int32} (he : en_e ρ (en_ev w)) (hx : en_v E ρ ω x (.int X)) (hy : en_v E ρ ω y (.int Y)) (h : en_subI w x y k = true) : ∃ c, k c = true ∧ en_v E ρ ω c (.int (X - Y)) := by
  unfold en_subI at h
  obtain ⟨a, b, g1, g2, g3, g4⟩ := en_iv_v he hx
  obtain ⟨c, d, f1, f2, f3, f4⟩ := en_iv_v he hy
  rw [g4, f4] at h
  rcases en_if_or.mp h with ⟨a1, h⟩ | ⟨-, h⟩
  · rcases en_if_or.mp h with ⟨a2, h⟩ | ⟨-, h⟩
    · have a1 : d ≤ a + 2147483648 := en_ble_t.mp a1
      have a2 : b + 2147483648 ≤ c + 4294967295 := en_ble_t.mp a2
      have e := en_z_sub (X := X) (Y := Y) (by omega) (by omega)
      exact ⟨_, h, en_mk_v (by show a + 2147483648 - d ≤ _; omega) (by show _ ≤ b + 2147483648 - c; omega) (by show b + 2147483648 - c < _; omega)⟩
    · exact ⟨_, h, en_any_v _⟩
  · exact ⟨_, h, en_any_v _⟩
theorem en_sub_G : en_G E ρ ω en_sub (fun x y => some (x - y)) := by
  intro w x y k X Y he hx hy h
  refine ⟨_, rfl, ?_⟩
  unfold en_sub at h
  rcases en_if_or.mp h with ⟨a1, h⟩ | ⟨a1, h⟩
  · have a1 := en_ble_t.mp a1
    rcases en_if_or.mp h with ⟨a2, h⟩ | ⟨a2, h⟩
    · have a2 := en_ble_t.mp a2
      have ex : X = en_d x := by simpa using (en_v_const (by omega)).mp hx
      have ey : Y = en_d y := by simpa using (en_v_const (by omega)).mp hy
      refine ⟨_, h, ?_⟩
      show en_v E ρ ω ((x + 6442450944 - y) % 4294967296) _
      rw [en_v_const (by omega), ex, ey, en_d_sub (by omega)]
    · have a2 := en_ble_f.mp a2
      rcases en_if_or.mp h with ⟨a3, h⟩ | ⟨a3, h⟩
      · have a3 := en_ble_t.mp a3
        rcases en_if_or.mp h with ⟨a4, h⟩ | ⟨-, h⟩
        · rcases en_if_or.mp h with ⟨a5, h⟩ | ⟨-, h⟩
          · have a4 : y ≤ x % 65536 + 2147483648 := en_ble_t.mp a4
            have a5 : x % 65536 + 2147483648 ≤ y + 65535 := en_ble_t.mp a5
            refine ⟨_, h, ?_⟩
            have ex : X = ρ ((x - 4294967296) / 65536) + en_off x := by simpa using (en_v_name (by omega) (by omega)).mp hx
            have ey : Y = en_d y := by simpa using (en_v_const (by omega)).mp hy
            show en_v E ρ ω (x / 65536 * 65536 + (x % 65536 + 2147483648 - y)) (.int (X - Y))
            rw [en_v_name (by omega) (by omega), ex, ey]
            rw [show (x / 65536 * 65536 + (x % 65536 + 2147483648 - y) - 4294967296) / 65536 = (x - 4294967296) / 65536 by omega]
            have e9 : en_off x - en_d y = en_off (x / 65536 * 65536 + (x % 65536 + 2147483648 - y)) := by
              unfold en_off en_d
              rw [← Int32.ofInt_sub]
              exact congrArg Int32.ofInt (by omega)
            rw [← e9, Int32.sub_eq_add_neg, Int32.add_assoc, ← Int32.sub_eq_add_neg]
          · exact en_subI_v he hx hy h
        · exact en_subI_v he hx hy h
      · exact en_subI_v he hx hy h
  · exact en_subI_v he hx hy h
theorem en_mul_G : en_G E ρ ω en_mul (fun x y => some (x * y)) := by
  intro w x y k X Y he hx hy h
  refine ⟨_, rfl, ?_⟩
  unfold en_mul at h
  rcases en_if_or.mp h with ⟨a1, h⟩ | ⟨a1, h⟩
  · have a1 := en_ble_t.mp a1
    rcases en_if_or.mp h with ⟨a2, h⟩ | ⟨a2, h⟩
    · have a2 := en_ble_t.mp a2
      have ex : X = en_d x := by simpa using (en_v_const (by omega)).mp hx
      have ey : Y = en_d y := by simpa using (en_v_const (by omega)).mp hy
      refine ⟨_, h, ?_⟩
      show en_v E ρ ω (((x + 2147483648) * (y + 2147483648) + 2147483648) % 4294967296) _
      rw [en_v_const (Nat.mod_lt _ (by decide)), ex, ey, en_d_mul]
    · exact ⟨_, h, en_any_v _⟩
  · exact ⟨_, h, en_any_v _⟩
theorem en_div_G : en_G E ρ ω en_div (fun x y => if y = 0 then none else some (x / y)) := by
  intro w x y k X Y he hx hy h
  unfold en_div at h
  obtain ⟨a1, h⟩ := en_if_and.mp h
  obtain ⟨a2, h⟩ := en_if_and.mp h
  have a1 := en_ble_t.mp a1
  have a2 := en_ble_t.mp a2
  have ey : Y = en_d y := by simpa using (en_v_const (by omega)).mp hy
  obtain ⟨a, b, g1, g2, g3, g4⟩ := en_iv_v he hx
  rw [g4] at h
  obtain ⟨a3, h⟩ := en_if_and.mp h
  have a3 := en_ble_t.mp a3
  have hX := en_z_lt X
  have eX := en_nI_z (x := X) (by omega)
  have eY : Y = nI (y - 2147483648) := by rw [ey, en_d_nI (by omega)]
  have hne : ¬ Y = 0 := by rw [eY]; exact nI_ne0 (by omega) (by omega)
  refine ⟨X / Y, if_neg hne, _, h, ?_⟩
  have ed : X / Y = nI ((en_z X - 2147483648) / (y - 2147483648)) := by
    rw [eY]
    conv => lhs; rw [eX]
    exact pk_div (by omega) (by omega) (by omega)
  have hle : (en_z X - 2147483648) / (y - 2147483648) ≤ en_z X - 2147483648 := Nat.div_le_self _ _
  have h1 : (a - 2147483648) / (y - 2147483648) ≤ (en_z X - 2147483648) / (y - 2147483648) := Nat.div_le_div_right (by omega)
  have h2 : (en_z X - 2147483648) / (y - 2147483648) ≤ (b - 2147483648) / (y - 2147483648) := Nat.div_le_div_right (by omega)
  have h3 : (b - 2147483648) / (y - 2147483648) ≤ b - 2147483648 := Nat.div_le_self _ _
  have ez := en_z_nI (n := (en_z X - 2147483648) / (y - 2147483648)) (by omega)
  rw [← ed] at ez
  refine en_mk_v ?_ ?_ ?_
  · show (a - 2147483648) / (y - 2147483648) + 2147483648 ≤ _; omega
  · show _ ≤ (b - 2147483648) / (y - 2147483648) + 2147483648; omega
  · show (b - 2147483648) / (y - 2147483648) + 2147483648 < _; omega
theorem en_rem_G : en_G E ρ ω en_rem (fun x y => if y = 0 then none else some (x - x / y * y)) := by
  intro w x y k X Y he hx hy h
  unfold en_rem at h
  obtain ⟨a1, h⟩ := en_if_and.mp h
  obtain ⟨a2, h⟩ := en_if_and.mp h
  have a1 := en_ble_t.mp a1
  have a2 := en_ble_t.mp a2
  have ey : Y = en_d y := by simpa using (en_v_const (by omega)).mp hy
  obtain ⟨a, b, g1, g2, g3, g4⟩ := en_iv_v he hx
  rw [g4] at h
  obtain ⟨a3, h⟩ := en_if_and.mp h
  have a3 := en_ble_t.mp a3
  have hX := en_z_lt X
  have eX := en_nI_z (x := X) (by omega)
  have eY : Y = nI (y - 2147483648) := by rw [ey, en_d_nI (by omega)]
  have hne : ¬ Y = 0 := by rw [eY]; exact nI_ne0 (by omega) (by omega)
  have ed : X - X / Y * Y = nI ((en_z X - 2147483648) % (y - 2147483648)) := by
    rw [eY]
    conv => lhs; rw [eX]
    exact pk_rem (by omega) (by omega) (by omega)
  have hlt : (en_z X - 2147483648) % (y - 2147483648) < y - 2147483648 := Nat.mod_lt _ (by omega)
  have ez := en_z_nI (n := (en_z X - 2147483648) % (y - 2147483648)) (by omega)
  rw [← ed] at ez
  refine ⟨_, if_neg hne, ?_⟩
  rcases en_if_or.mp h with ⟨a4, h⟩ | ⟨-, h⟩
  · have a4 : (a - 2147483648) / (y - 2147483648) = (b - 2147483648) / (y - 2147483648) := en_beq_t.mp a4
    refine ⟨_, h, ?_⟩
    have h1 : (a - 2147483648) / (y - 2147483648) ≤ (en_z X - 2147483648) / (y - 2147483648) := Nat.div_le_div_right (by omega)
    have h2 : (en_z X - 2147483648) / (y - 2147483648) ≤ (b - 2147483648) / (y - 2147483648) := Nat.div_le_div_right (by omega)
    have e1 : (a - 2147483648) / (y - 2147483648) = (en_z X - 2147483648) / (y - 2147483648) := Nat.le_antisymm h1 (by rw [a4]; exact h2)
    have e2 : (b - 2147483648) / (y - 2147483648) = (en_z X - 2147483648) / (y - 2147483648) := by rw [← a4]; exact e1
    have m1 := Nat.div_add_mod (a - 2147483648) (y - 2147483648)
    have m2 := Nat.div_add_mod (b - 2147483648) (y - 2147483648)
    have m3 := Nat.div_add_mod (en_z X - 2147483648) (y - 2147483648)
    have hb : (b - 2147483648) % (y - 2147483648) < y - 2147483648 := Nat.mod_lt _ (by omega)
    rw [e1] at m1
    rw [e2] at m2
    refine en_mk_v ?_ ?_ ?_
    · show (a - 2147483648) % (y - 2147483648) + 2147483648 ≤ _; omega
    · show _ ≤ (b - 2147483648) % (y - 2147483648) + 2147483648; omega
    · show (b - 2147483648) % (y - 2147483648) + 2147483648 < _; omega
  · refine ⟨_, h, en_mk_v ?_ ?_ ?_⟩
    · omega
    · show _ ≤ y - 1; omega
    · show y - 1 < _; omega
theorem en_pos_v {f : Nat → Nat → Nat} {r : Int32 → Int32 → Int32} (hf : ∀ a b, a < 2147483648 → b < 2147483648 → f a b < 2147483648 → r (nI a) (nI b) = nI (f a b)) {x y : Nat} {k : Nat → Bool} {X Y : Int32} (hx : en_v E ρ ω x (.int X)) (hy : en_v E ρ ω y (.int Y)) (h : en_pos f x y k = true) : ∃ c, k c = true ∧ en_v E ρ ω c (.int (r X Y)) := by
  unfold en_pos at h
  rcases en_if_or.mp h with ⟨a1, h⟩ | ⟨-, h⟩
  · rcases en_if_or.mp h with ⟨a2, h⟩ | ⟨-, h⟩
    · rcases en_if_or.mp h with ⟨a3, h⟩ | ⟨-, h⟩
      · rcases en_if_or.mp h with ⟨a4, h⟩ | ⟨-, h⟩
        · rcases en_if_or.mp h with ⟨a5, h⟩ | ⟨-, h⟩
          · have a1 := en_ble_t.mp a1
            have a2 := en_ble_t.mp a2
            have a3 := en_ble_t.mp a3
            have a4 := en_ble_t.mp a4
            have a5 : f (x - 2147483648) (y - 2147483648) ≤ 2147483647 := en_ble_t.mp a5
            have ex : X = nI (x - 2147483648) := by rw [← en_d_nI a3]; simpa using (en_v_const (by omega)).mp hx
            have ey : Y = nI (y - 2147483648) := by rw [← en_d_nI a4]; simpa using (en_v_const (by omega)).mp hy
            refine ⟨_, h, ?_⟩
            show en_v E ρ ω (f (x - 2147483648) (y - 2147483648) + 2147483648) _
            rw [en_v_const (by omega), ex, ey, hf _ _ (by omega) (by omega) (by omega), en_nI_d]
          · exact ⟨_, h, en_any_v _⟩
        · exact ⟨_, h, en_any_v _⟩
      · exact ⟨_, h, en_any_v _⟩
    · exact ⟨_, h, en_any_v _⟩
  · exact ⟨_, h, en_any_v _⟩
theorem en_and_G : en_G E ρ ω en_and (fun x y => some (x &&& y)) := by
  intro w x y k X Y he hx hy h
  refine ⟨_, rfl, ?_⟩
  unfold en_and at h
  rcases en_if_or.mp h with ⟨a1, h⟩ | ⟨-, h⟩
  · exact en_pos_v (r := fun x y => x &&& y) (fun a b ha hb _ => en_nI_and (by omega) (by omega)) hx hy h
  · rcases en_if_or.mp h with ⟨a1, h⟩ | ⟨-, h⟩
    · rcases en_if_or.mp h with ⟨a2, h⟩ | ⟨-, h⟩
      · have a1 := en_ble_t.mp a1
        have a2 := en_ble_t.mp a2
        have ey : Y = nI (y - 2147483648) := by rw [← en_d_nI a2]; simpa using (en_v_const (by omega)).mp hy
        obtain ⟨j, hj, ej⟩ := en_and_any X (b := y - 2147483648) (by omega)
        rw [← ey] at ej
        have ez := en_z_nI (n := j) (by omega)
        rw [← ej] at ez
        exact ⟨_, h, en_mk_v (by omega) (by omega) (by omega)⟩
      · exact ⟨_, h, en_any_v _⟩
    · exact ⟨_, h, en_any_v _⟩
theorem en_or_G : en_G E ρ ω en_or (fun x y => some (x ||| y)) := by
  intro w x y k X Y he hx hy h
  exact ⟨_, rfl, en_pos_v (r := fun x y => x ||| y) (fun a b ha hb _ => en_nI_or (by omega) (by omega)) hx hy h⟩
theorem en_shl_G : en_G E ρ ω en_shl (fun x y => some (x <<< (y &&& 31))) := by
  intro w x y k X Y he hx hy h
  refine ⟨_, rfl, ?_⟩
  unfold en_shl at h
  rcases en_if_or.mp h with ⟨a1, h⟩ | ⟨-, h⟩
  · have a1 := en_ble_t.mp a1
    by_cases hyB : 2147483648 ≤ y
    · refine en_pos_v (f := fun x y => if y < 32 then Nat.shiftLeft x y else 2147483648) (r := fun x y => x <<< (y &&& 31)) (fun a b ha hb hf => ?_) hx hy ?_
      · by_cases hb2 : b < 32
        · simp only [hb2, if_true] at hf ⊢
          obtain ⟨e1, e2⟩ := en_sh31 b hb2
          have e3 : Nat.shiftLeft a b = a * 2 ^ b := Nat.shiftLeft_eq a b
          rw [e3] at hf ⊢
          rw [e1]
          exact pk_shlN _ b e2 (by omega)
        · simp only [hb2, if_false] at hf
          exact absurd hf (by decide)
      · unfold en_pos at h ⊢
        have e : Nat.sub y 2147483648 < 32 := by show y - 2147483648 < 32; omega
        simp only [e, if_true]
        exact h
    · unfold en_pos at h
      rw [en_ble_t.mpr (show y ≤ 4294967295 by omega), en_if_t, en_ble_f.mpr (show y < 2147483648 by omega)] at h
      simp only [en_if_f] at h
      rcases en_if_or.mp h with ⟨-, h⟩ | ⟨-, h⟩
      · rcases en_if_or.mp h with ⟨-, h⟩ | ⟨-, h⟩ <;> exact ⟨_, h, en_any_v _⟩
      · exact ⟨_, h, en_any_v _⟩
  · exact ⟨_, h, en_any_v _⟩
theorem en_shr_G : en_G E ρ ω en_shr (fun x y => some (x >>> (y &&& 31))) := by
  intro w x y k X Y he hx hy h
  refine ⟨_, rfl, ?_⟩
  unfold en_shr at h
  rcases en_if_or.mp h with ⟨a1, h⟩ | ⟨-, h⟩
  · have a1 := en_ble_t.mp a1
    by_cases hyB : 2147483648 ≤ y
    · refine en_pos_v (f := fun x y => if y < 32 then Nat.shiftRight x y else 2147483648) (r := fun x y => x >>> (y &&& 31)) (fun a b ha hb hf => ?_) hx hy ?_
      · by_cases hb2 : b < 32
        · simp only [hb2, if_true] at hf ⊢
          obtain ⟨e1, e2⟩ := en_sh31 b hb2
          have e3 : Nat.shiftRight a b = a / 2 ^ b := Nat.shiftRight_eq_div_pow a b
          rw [e3, e1]
          exact pk_shrN (by omega) _ b e2
        · simp only [hb2, if_false] at hf
          exact absurd hf (by decide)
      · unfold en_pos at h ⊢
        have e : Nat.sub y 2147483648 < 32 := by show y - 2147483648 < 32; omega
        simp only [e, if_true]
        exact h
    · unfold en_pos at h
      rw [en_ble_t.mpr (show y ≤ 4294967295 by omega), en_if_t, en_ble_f.mpr (show y < 2147483648 by omega)] at h
      simp only [en_if_f] at h
      rcases en_if_or.mp h with ⟨-, h⟩ | ⟨-, h⟩
      · rcases en_if_or.mp h with ⟨-, h⟩ | ⟨-, h⟩ <;> exact ⟨_, h, en_any_v _⟩
      · exact ⟨_, h, en_any_v _⟩
  · exact ⟨_, h, en_any_v _⟩
theorem en_any_G {r : Int32 → Int32 → Int32} : en_G E ρ ω (fun _ _ _ k => k 73786976299133173759) (fun x y => some (r x y)) := fun _ _ _ _ _ _ _ _ _ h => ⟨_, rfl, _, h, en_any_v _⟩
end ENA
end
section
/-! THE ENGINE IS SOUND, 4: states, and instructions that touch no heap -/
section ENS
variable (E : mm_E) (kds : List (List Nat)) (P : mm_T) (L : Nat) (ρ : Nat → Int32) (ω : Nat → Value) (h0 : mm_H) (fsC : List mm_F) (FIN : mm_C → Prop)
/-- what a row says of a cell -/
def en_cr (N : Nat) (x : Option va_E) : Prop :=
  (∃ (t : Nat) (f : Nat → Int32), en_kind N = t + 1 ∧ t < 3 ∧ x = some (.inl (t, en_len N, .inl f)) ∧ ∀ j, j < en_len N → en_v E ρ ω (en_elt N j) (.int (f j))) ∨
  (∃ f : Nat → Int64, en_kind N = 4 ∧ x = some (.inl (3, en_len N, .inr (.inl f))) ∧ ∀ j, j < en_len N → en_v E ρ ω (en_elt N j) (.long (f j))) ∨
  (∃ f : Nat → Option Nat, en_kind N = 5 ∧ x = some (.inl (4, en_len N, .inr (.inr (.inr (.inr f))))) ∧ ∀ j, j < en_len N → en_v E ρ ω (en_elt N j) (va_rf (f j))) ∨
  (∃ (ci : Nat) (fs : List Value), en_kind N = 6 + ci ∧ x = some (.inr (ci, fs)) ∧ fs.length = en_len N ∧ ∀ (j : Nat) (v : Value), fs[j]? = some v → en_v E ρ ω (en_elt N j) v)
def en_h (hp : en_H) (h : mm_H) : Prop := ∀ k : Nat, (k < 136 → en_kind (en_get hp k) ≠ 0 → en_cr E ρ ω (en_get hp k) h[k]?) ∧ (¬ (k < 136 ∧ en_kind (en_get hp k) ≠ 0) → h[k]? = h0[k]?)
def en_lr (nL loc : Nat) (lv : mm_V) : Prop := ∀ i, i < nL → en_elt loc i = 12884901891 ∨ ∃ v, mm_get lv i = some v ∧ en_v E ρ ω (en_elt loc i) v
def en_sr : List Nat → List Value → Prop
  | [], [] => True
  | c :: cs, v :: vs => en_v E ρ ω c v ∧ en_sr cs vs
  | _, _ => False
def en_fr (f : en_F) (g : mm_F) : Prop := g.1 = f.1 / 65536 ∧ g.2.1 = f.1 % 65536 ∧ (∃ cs nL dd, P[g.1]? = some (cs, nL, dd) ∧ en_lr E ρ ω nL f.2.1 g.2.2.1) ∧ en_sr E ρ ω f.2.2.1 g.2.2.2.1 ∧ g.2.2.2.2.1 = f.2.2.2.1 ∧ g.2.2.2.2.2 = f.2.2.2.2.1
def en_frs : List en_F → List mm_F → Prop
  | [], gs => gs = fsC
  | f :: fs, g :: gs => en_fr E P ρ ω f g ∧ fsC.length + fs.length + 1 + f.2.2.2.2.2 ≤ L ∧ en_frs fs gs
  | _ :: _, [] => False
def en_R (q loc : Nat) (st : List Nat) (hp : en_H) (w : en_W) (c : mm_C) : Prop := ∃ (lv : mm_V) (sv : List Value) (gs : List mm_F) (h : mm_H) (o : Option Value), c = ((q / 65536, q % 65536, lv, sv, w.1, w.2.1) :: gs, h, o) ∧
  (∃ cs nL dd, P[q / 65536]? = some (cs, nL, dd) ∧ en_lr E ρ ω nL loc lv) ∧ en_sr E ρ ω st sv ∧ en_h E ρ ω h0 hp h ∧ en_e ρ (en_ev w) ∧ h.length = w.2.2.2.2.1 ∧ fsC.length + w.2.2.2.1.length + 1 + w.2.2.1 ≤ L ∧ en_frs E P L ρ ω fsC w.2.2.2.1 gs
def en_Good (c : mm_C) : Prop := ∃ n c', mm_run E kds P L n c = some c' ∧ FIN c'
def en_S (ih : en_C) : Prop := ∀ q loc st hp w c, ih q loc st hp w = true → en_R E P L ρ ω h0 fsC q loc st hp w c → en_Good E kds P L FIN c
def en_OS (q : Nat) (o : en_O) : Prop := ∀ loc st hp w ih c, en_S E kds P L ρ ω h0 fsC FIN ih → o loc st hp w ih = true → en_R E P L ρ ω h0 fsC q loc st hp w c → en_Good E kds P L FIN c
/-- the instruction at q does X -/
def en_St (q : Nat) (X : mm_V → List Value → Nat → Nat → mm_H → mm_O) : Prop := ∀ (lv : mm_V) (sv : List Value) (cb sb : Nat) (h : mm_H) (gs : List mm_F) (o : Option Value) (pc' : Nat) (lv' : mm_V) (sv' : List Value) (cb' sb' : Nat) (h' : mm_H), X lv sv cb sb h = some (pc', lv', sv', cb', sb', h') → en_Good E kds P L FIN ((q / 65536, pc', lv', sv', cb', sb') :: gs, h', none) → en_Good E kds P L FIN ((q / 65536, q % 65536, lv, sv, cb, sb) :: gs, h, o)
variable {E kds P L ρ ω h0 fsC FIN}
theorem en_good_step {c c' : mm_C} (h : mm_stp E kds P L c = some c') (g : en_Good E kds P L FIN c') : en_Good E kds P L FIN c := by
  obtain ⟨n, c2, h1, h2⟩ := g
  refine ⟨n + 1, c2, ?_, h2⟩
  show (match mm_stp E kds P L c with
    | some c' => mm_run E kds P L n c'
    | none => none) = some c2
  rw [h]
  exact h1
theorem en_step1 {q len a b wd nL : Nat} {z : Int} {ins : Instr} {q0 : Nat} {dd : mm_M} (hat : mm_at P (q / 65536) (q % 65536) = some ((q0, len, ins, a, b, z, wd), nL, dd)) (hi : mm_inv ins = none) (hr : mm_rtn ins = none) : en_St E kds P L FIN q (fun lv sv cb sb h => mm_ex E kds nL ins len a b z (q % 65536) lv sv cb sb h) := by
  intro lv sv cb sb h gs o pc' lv' sv' cb' sb' h' hx g
  refine en_good_step ?_ g
  obtain ⟨d1, d2, d3, d4, d5, d6⟩ := dd
  simp only [mm_stp, hat, hi, hr, hx]
theorem en_sr_cons {c : Nat} {r : List Nat} {sv : List Value} (h : en_sr E ρ ω (c :: r) sv) : ∃ v vs, sv = v :: vs ∧ en_v E ρ ω c v ∧ en_sr E ρ ω r vs := by
  cases sv with
  | nil => exact h.elim
  | cons v vs => exact ⟨v, vs, rfl, h.1, h.2⟩
theorem en_sr_nil {sv : List Value} (h : en_sr E ρ ω [] sv) : sv = [] := by
  cases sv with
  | nil => rfl
  | cons v vs => exact h.elim
/-- going on at the place n, a state later -/
theorem en_go_on {ih : en_C} (hih : en_S E kds P L ρ ω h0 fsC FIN ih) {q n loc : Nat} {st : List Nat} {hp : en_H} {w : en_W} (hk : ih n loc st hp w = true) (hn : n / 65536 = q / 65536) {lv : mm_V} {sv : List Value} {gs : List mm_F} {h : mm_H} {o : Option Value} {cb sb : Nat} {cs : List (List mm_I)} {nL : Nat} {dd : mm_M}
    (hP : P[q / 65536]? = some (cs, nL, dd)) (hl : en_lr E ρ ω nL loc lv) (hs : en_sr E ρ ω st sv) (hh : en_h E ρ ω h0 hp h) (he : en_e ρ (en_ev w)) (hx : h.length = w.2.2.2.2.1) (hd : fsC.length + w.2.2.2.1.length + 1 + w.2.2.1 ≤ L) (hf : en_frs E P L ρ ω fsC w.2.2.2.1 gs) (hc : cb = w.1) (hb : sb = w.2.1) : en_Good E kds P L FIN ((q / 65536, n % 65536, lv, sv, cb, sb) :: gs, h, o) := by
  refine hih n loc st hp w _ hk ⟨lv, sv, gs, h, o, ?_, ⟨cs, nL, dd, by rw [hn]; exact hP, hl⟩, hs, hh, he, hx, hd, hf⟩
  rw [hn, hc, hb]
section OPS
variable {q n : Nat} {X : mm_V → List Value → Nat → Nat → mm_H → mm_O} {cs : List (List mm_I)} {nL : Nat} {dd : mm_M}
theorem en_O_push (hP : P[q / 65536]? = some (cs, nL, dd)) (hS : en_St E kds P L FIN q X) (hn : n / 65536 = q / 65536) {c : Nat} {v : Value} (hv : en_v E ρ ω c v) (hX : ∀ lv sv cb sb h, X lv sv cb sb h = some (n % 65536, lv, v :: sv, cb, sb, h)) : en_OS E kds P L ρ ω h0 fsC FIN q (en_push n c) := by
  intro loc st hp w ih c0 hih hk hR
  obtain ⟨lv, sv, gs, h, o, rfl, ⟨cs', nL', dd', hP', hl⟩, hs, hh, he, hx, hd, hf⟩ := hR
  cases hP.symm.trans hP'
  exact hS _ _ _ _ _ _ _ _ _ _ _ _ _ (hX _ _ _ _ _) (en_go_on hih hk hn hP hl (show en_sr E ρ ω (c :: st) (v :: sv) from ⟨hv, hs⟩) hh he hx hd hf rfl rfl)
theorem en_O_load (hP : P[q / 65536]? = some (cs, nL, dd)) (hS : en_St E kds P L FIN q X) (hn : n / 65536 = q / 65536) {t : Nat → Bool} {kd i : Nat} (hi : i < nL) (ht : ∀ c v, t c = true → en_v E ρ ω c v → mm_kind v = kd) (hu : t 12884901891 = false) (hX : ∀ lv sv cb sb h, X lv sv cb sb h = mm_load lv sv cb sb h (n % 65536) kd i) : en_OS E kds P L ρ ω h0 fsC FIN q (en_load t n i) := by
  intro loc st hp w ih c0 hih hk hR
  obtain ⟨lv, sv, gs, h, o, rfl, ⟨cs', nL', dd', hP', hl⟩, hs, hh, he, hx, hd, hf⟩ := hR
  cases hP.symm.trans hP'
  unfold en_load at hk
  obtain ⟨h1, hk⟩ := en_if_and.mp hk
  rcases hl i hi with h2 | ⟨v, h2, h3⟩
  · rw [h2, hu] at h1; cases h1
  · refine hS lv sv _ _ h gs o (n % 65536) lv (v :: sv) _ _ h ?_ (en_go_on hih hk hn hP hl (show en_sr E ρ ω (en_elt loc i :: st) (v :: sv) from ⟨h3, hs⟩) hh he hx hd hf rfl rfl)
    rw [hX]
    unfold mm_load
    rw [h2]
    simp only []
    rw [if_pos (ht _ _ h1 h3)]
theorem en_free_v {loc i : Nat} {lv : mm_V} (hi : i < nL) (hl : en_lr E ρ ω nL loc lv) (h : en_free loc i = true) : ∀ (j : Nat) (v : Value), j + 1 = i → mm_get lv j = some v → en_elt loc j ≠ 12884901891 → v.category ≠ 2 := by
  intro j v hj hg hu
  subst hj
  have h9 : en_if (Nat.ble (en_elt loc j) 12884902911) (en_if (Nat.beq (en_elt loc j) 12884901890) false true) (Nat.ble 73786976294838206464 (en_elt loc j)) = true := h
  rcases hl j (by omega) with h2 | ⟨v', h2, h3⟩
  · exact absurd h2 hu
  · cases hg.symm.trans h2
    have h1 : en_one (en_elt loc j) = true := by
      rw [en_one_iff]
      simp only [en_if_or, en_ble_t, en_ble_f, en_beq_t, en_beq_f, Bool.false_eq_true, and_false, false_or, and_true] at h9
      omega
    rw [en_one_cat h1 h3]
    decide
theorem en_get_p1 {lv : mm_V} {i j : Nat} {v : Value} : mm_get (mm_p1 lv i v) j = if j = i then some v else ((lv.filter (fun q => !(q.1 == i) && !(q.1 + 1 == i && q.2.category == 2))).find? (fun q => q.1 == j)).map (fun q => q.2) := by
  unfold mm_get mm_p1
  by_cases h : j = i
  · subst h
    simp
  · rw [List.find?_cons_of_neg (by simpa using fun e => h e.symm), if_neg h]
theorem en_find_filter {α : Type} (l : List α) (p f : α → Bool) {a : α} (h : l.find? p = some a) (ha : f a = true) : (l.filter f).find? p = some a := by
  induction l with
  | nil => cases h
  | cons b r ih =>
    by_cases hb : p b = true
    · rw [List.find?_cons_of_pos hb] at h
      cases h
      rw [List.filter_cons_of_pos ha, List.find?_cons_of_pos hb]
    · rw [List.find?_cons_of_neg hb] at h
      by_cases hf : f b = true
      · rw [List.filter_cons_of_pos hf, List.find?_cons_of_neg hb]
        exact ih h
      · rw [List.filter_cons_of_neg hf]
        exact ih h
theorem en_keep {lv : mm_V} {j : Nat} {v : Value} {f : Nat × Value → Bool} (h : mm_get lv j = some v) (hf : ∀ q : Nat × Value, q.1 = j → q.2 = v → f q = true) : ((lv.filter f).find? (fun q => q.1 == j)).map (fun q => q.2) = some v := by
  unfold mm_get at h
  cases hq : lv.find? (fun q => q.1 == j) with
  | none => rw [hq] at h; cases h
  | some q =>
    rw [hq] at h
    cases h
    have h1 : q.1 = j := by simpa using List.find?_some hq
    rw [en_find_filter lv _ f hq (hf q h1 rfl)]
    rfl
theorem en_lr_store {loc i c : Nat} {lv : mm_V} {v : Value} (hi : i < nL) (hl : en_lr E ρ ω nL loc lv) (hf : en_free loc i = true) (hv : en_v E ρ ω c v) : en_lr E ρ ω nL (en_eset loc i c) (mm_p1 lv i v) := by
  intro j hj
  rw [en_elt_eset (en_v_68 hv)]
  by_cases hij : j = i
  · subst hij
    rw [if_pos rfl]
    right
    exact ⟨v, by rw [en_get_p1, if_pos rfl], hv⟩
  · rw [if_neg hij]
    rcases hl j hj with h2 | ⟨v', h2, h3⟩
    · exact Or.inl h2
    · by_cases hu : en_elt loc j = 12884901891
      · exact Or.inl hu
      right
      refine ⟨v', ?_, h3⟩
      rw [en_get_p1, if_neg hij]
      refine en_keep h2 (fun q h4 h5 => ?_)
      subst h4
      subst h5
      have hc : q.1 + 1 = i → q.2.category ≠ 2 := fun e => en_free_v hi hl hf q.1 q.2 e h2 hu
      simp only [Bool.and_eq_true, Bool.not_eq_true', beq_eq_false_iff_ne, Bool.and_eq_false_imp, beq_iff_eq]
      exact ⟨hij, fun e => by simpa using hc e⟩
theorem en_O_store (hP : P[q / 65536]? = some (cs, nL, dd)) (hS : en_St E kds P L FIN q X) (hn : n / 65536 = q / 65536) {t : Nat → Bool} {kd i : Nat} (hi : i < nL) (hkd : kd ≠ 1) (ht : ∀ c v, t c = true → en_v E ρ ω c v → mm_kind v = kd) (hX : ∀ lv sv cb sb h, X lv sv cb sb h = mm_store nL lv sv cb sb h (n % 65536) kd i) : en_OS E kds P L ρ ω h0 fsC FIN q (en_store t n i) := by
  intro loc st hp w ih c0 hih hk hR
  obtain ⟨lv, sv, gs, h, o, rfl, ⟨cs', nL', dd', hP', hl⟩, hs, hh, he, hx, hd, hf⟩ := hR
  cases hP.symm.trans hP'
  unfold en_store at hk
  obtain ⟨c, r, rfl, hk1⟩ := en_pop_t hk
  obtain ⟨h1, hk1⟩ := en_if_and.mp hk1
  obtain ⟨h2, hk1⟩ := en_if_and.mp hk1
  obtain ⟨v, vs, rfl, h3, h4⟩ := en_sr_cons hs
  refine hS lv (v :: vs) _ _ h gs o (n % 65536) (mm_p1 lv i v) vs _ _ h ?_ (en_go_on hih hk1 hn hP (en_lr_store hi hl h2 h3) h4 hh he hx hd hf rfl rfl)
  rw [hX]
  unfold mm_store
  simp only []
  rw [if_pos (ht _ _ h1 h3), if_neg hkd, if_pos hi]
theorem en_O_storeL (hP : P[q / 65536]? = some (cs, nL, dd)) (hS : en_St E kds P L FIN q X) (hn : n / 65536 = q / 65536) {i : Nat} (hi : i + 1 < nL) (hX : ∀ lv sv cb sb h, X lv sv cb sb h = mm_store nL lv sv cb sb h (n % 65536) 1 i) : en_OS E kds P L ρ ω h0 fsC FIN q (en_storeL n i) := by
  intro loc st hp w ih c0 hih hk hR
  obtain ⟨lv, sv, gs, h, o, rfl, ⟨cs', nL', dd', hP', hl⟩, hs, hh, he, hx, hd, hf⟩ := hR
  cases hP.symm.trans hP'
  unfold en_storeL at hk
  obtain ⟨c, r, rfl, hk1⟩ := en_pop_t hk
  obtain ⟨h1, hk1⟩ := en_if_and.mp hk1
  obtain ⟨h2, hk1⟩ := en_if_and.mp hk1
  obtain ⟨v, vs, rfl, h3, h4⟩ := en_sr_cons hs
  obtain ⟨x, rfl⟩ := en_isL_long h1 h3
  have hl2 : en_lr E ρ ω nL (en_eset (en_eset loc i c) (Nat.succ i) 12884901891) (mm_p2 lv i (.long x)) := by
    intro j hj
    rw [en_elt_eset (by decide), en_elt_eset (en_v_68 h3)]
    by_cases hj1 : j = Nat.succ i
    · left; rw [if_pos hj1]
    · rw [if_neg hj1]
      by_cases hij : j = i
      · subst hij
        rw [if_pos rfl]
        right
        refine ⟨.long x, ?_, h3⟩
        unfold mm_get mm_p2
        simp
      · rw [if_neg hij]
        rcases hl j hj with h5 | ⟨v', h5, h6⟩
        · exact Or.inl h5
        · by_cases hu : en_elt loc j = 12884901891
          · exact Or.inl hu
          right
          refine ⟨v', ?_, h6⟩
          unfold mm_get mm_p2
          rw [List.find?_cons_of_neg (by simpa using fun e => hij e.symm)]
          refine en_keep h5 (fun q h7 h8 => ?_)
          subst h7
          subst h8
          have hc : q.1 + 1 = i → q.2.category ≠ 2 := fun e => en_free_v (by omega) hl h2 q.1 q.2 e h5 hu
          simp only [Bool.and_eq_true, Bool.not_eq_true', beq_eq_false_iff_ne, Bool.and_eq_false_imp, beq_iff_eq]
          exact ⟨hij, hj1, fun e => by simpa using hc e⟩
  refine hS lv (.long x :: vs) _ _ h gs o (n % 65536) (mm_p2 lv i (.long x)) vs _ _ h ?_ (en_go_on hih hk1 hn hP hl2 h4 hh he hx hd hf rfl rfl)
  rw [hX]
  unfold mm_store
  show (if mm_kind (Value.long x) = 1 then (if (1 : Nat) = 1 then (if i + 1 < nL then _ else _) else _) else _) = _
  rw [if_pos (show mm_kind (Value.long x) = 1 from rfl), if_pos rfl, if_pos hi]
theorem en_O_bin (hP : P[q / 65536]? = some (cs, nL, dd)) (hS : en_St E kds P L FIN q X) (hn : n / 65536 = q / 65536) {g : en_W → Nat → Nat → (Nat → Bool) → Bool} {r : Int32 → Int32 → Option Int32} (hg : en_G E ρ ω g r) (hX : ∀ lv sv cb sb h, X lv sv cb sb h = mm_bin lv sv cb sb h (n % 65536) r) : en_OS E kds P L ρ ω h0 fsC FIN q (en_bin g n) := by
  intro loc st hp w ih c0 hih hk hR
  obtain ⟨lv, sv, gs, h, o, rfl, ⟨cs', nL', dd', hP', hl⟩, hs, hh, he, hx, hd, hf⟩ := hR
  cases hP.symm.trans hP'
  unfold en_bin at hk
  obtain ⟨y, st1, rfl, hk1⟩ := en_pop_t hk
  obtain ⟨x, st2, rfl, hk2⟩ := en_pop_t hk1
  obtain ⟨h1, hk2⟩ := en_if_and.mp hk2
  obtain ⟨h2, hk2⟩ := en_if_and.mp hk2
  obtain ⟨vy, sv3, rfl, h3, hs3⟩ := en_sr_cons hs
  obtain ⟨vx, sv4, rfl, h4, hs4⟩ := en_sr_cons hs3
  obtain ⟨Y, rfl⟩ := en_isI_int h2 h3
  obtain ⟨Xx, rfl⟩ := en_isI_int h1 h4
  obtain ⟨Z, hr, c, hk2, hv⟩ := hg w x y _ Xx Y he h4 h3 hk2
  refine hS lv _ _ _ h gs o (n % 65536) lv (.int Z :: sv4) _ _ h ?_ (en_go_on hih hk2 hn hP hl (show en_sr E ρ ω (c :: st2) (.int Z :: sv4) from ⟨hv, hs4⟩) hh he hx hd hf rfl rfl)
  rw [hX]
  unfold mm_bin
  simp only [hr, Option.map_some]
theorem en_O_un (hP : P[q / 65536]? = some (cs, nL, dd)) (hS : en_St E kds P L FIN q X) (hn : n / 65536 = q / 65536) {r : Int32 → Int32} (hX : ∀ lv sv cb sb h, X lv sv cb sb h = mm_un lv sv cb sb h (n % 65536) (fun x => .int (r x))) : en_OS E kds P L ρ ω h0 fsC FIN q (en_un 73786976299133173759 n) := by
  intro loc st hp w ih c0 hih hk hR
  obtain ⟨lv, sv, gs, h, o, rfl, ⟨cs', nL', dd', hP', hl⟩, hs, hh, he, hx, hd, hf⟩ := hR
  cases hP.symm.trans hP'
  unfold en_un at hk
  obtain ⟨x, st1, rfl, hk1⟩ := en_pop_t hk
  obtain ⟨h1, hk1⟩ := en_if_and.mp hk1
  obtain ⟨vx, sv2, rfl, h4, hs2⟩ := en_sr_cons hs
  obtain ⟨Xx, rfl⟩ := en_isI_int h1 h4
  refine hS lv _ _ _ h gs o (n % 65536) lv (.int (r Xx) :: sv2) _ _ h ?_ (en_go_on hih hk1 hn hP hl (show en_sr E ρ ω (_ :: st1) (.int (r Xx) :: sv2) from ⟨en_any_v _, hs2⟩) hh he hx hd hf rfl rfl)
  rw [hX]
  rfl
theorem en_O_i2l (hP : P[q / 65536]? = some (cs, nL, dd)) (hS : en_St E kds P L FIN q X) (hn : n / 65536 = q / 65536) (hX : ∀ lv sv cb sb h, X lv sv cb sb h = mm_un lv sv cb sb h (n % 65536) (fun x => .long x.toInt64)) : en_OS E kds P L ρ ω h0 fsC FIN q (en_i2l n) := by
  intro loc st hp w ih c0 hih hk hR
  obtain ⟨lv, sv, gs, h, o, rfl, ⟨cs', nL', dd', hP', hl⟩, hs, hh, he, hx, hd, hf⟩ := hR
  cases hP.symm.trans hP'
  unfold en_i2l at hk
  obtain ⟨x, st1, rfl, hk1⟩ := en_pop_t hk
  obtain ⟨vx, sv2, rfl, h4, hs2⟩ := en_sr_cons hs
  have hI : en_isI x = true := by
    rcases en_if_or.mp hk1 with ⟨a1, -⟩ | ⟨-, hk1⟩
    · rw [en_isI_iff]; have := en_ble_t.mp a1; omega
    · exact (en_if_and.mp hk1).1
  obtain ⟨Xx, rfl⟩ := en_isI_int hI h4
  have fin : ∀ c, en_v E ρ ω c (.long Xx.toInt64) → ih n loc (c :: st1) hp w = true → en_Good E kds P L FIN ((q / 65536, q % 65536, lv, .int Xx :: sv2, w.1, w.2.1) :: gs, h, o) := by
    intro c hv hk1
    refine hS lv _ _ _ h gs o (n % 65536) lv (.long Xx.toInt64 :: sv2) _ _ h ?_ (en_go_on hih hk1 hn hP hl (show en_sr E ρ ω (c :: st1) (_ :: sv2) from ⟨hv, hs2⟩) hh he hx hd hf rfl rfl)
    rw [hX]
    rfl
  rcases en_if_or.mp hk1 with ⟨a1, hk1⟩ | ⟨-, hk1⟩
  · rcases en_if_or.mp hk1 with ⟨a2, hk1⟩ | ⟨-, hk1⟩
    · have a1 := en_ble_t.mp a1
      have a2 := en_ble_t.mp a2
      refine fin _ ?_ hk1
      have e : Xx = nI (x - 2147483648) := by rw [← en_d_nI a2]; simpa using (en_v_const (by omega)).mp h4
      show en_v E ρ ω (36893488147419103232 + (x - 2147483648)) _
      rw [en_v_long (by omega) (by omega), e, nI_l (by omega), Nat.add_sub_cancel_left]
      rfl
    · exact fin _ (en_v_anyL.mpr ⟨_, rfl⟩) hk1
  · exact fin _ (en_v_anyL.mpr ⟨_, rfl⟩) (en_if_and.mp hk1).2
theorem en_O_binL (hP : P[q / 65536]? = some (cs, nL, dd)) (hS : en_St E kds P L FIN q X) (hn : n / 65536 = q / 65536) {f : Nat → Nat → Nat} {r : Int64 → Int64 → Int64} (hf0 : ∀ a b, r (lN a) (lN b) = lN (f a b)) (hX : ∀ lv sv cb sb h, X lv sv cb sb h = mm_binL lv sv cb sb h (n % 65536) (fun x y => .long (r x y))) : en_OS E kds P L ρ ω h0 fsC FIN q (en_binL f n) := by
  intro loc st hp w ih c0 hih hk hR
  obtain ⟨lv, sv, gs, h, o, rfl, ⟨cs', nL', dd', hP', hl⟩, hs, hh, he, hx, hd, hf⟩ := hR
  cases hP.symm.trans hP'
  unfold en_binL at hk
  obtain ⟨y, st1, rfl, hk1⟩ := en_pop_t hk
  obtain ⟨x, st2, rfl, hk2⟩ := en_pop_t hk1
  obtain ⟨h1, hk2⟩ := en_if_and.mp hk2
  obtain ⟨h2, hk2⟩ := en_if_and.mp hk2
  obtain ⟨vy, sv3, rfl, h3, hs3⟩ := en_sr_cons hs
  obtain ⟨vx, sv4, rfl, h4, hs4⟩ := en_sr_cons hs3
  obtain ⟨Y, rfl⟩ := en_isL_long h2 h3
  obtain ⟨Xx, rfl⟩ := en_isL_long h1 h4
  have fin : ∀ c, en_v E ρ ω c (.long (r Xx Y)) → ih n loc (c :: st2) hp w = true → en_Good E kds P L FIN ((q / 65536, q % 65536, lv, .long Y :: .long Xx :: sv4, w.1, w.2.1) :: gs, h, o) := by
    intro c hv hk2
    refine hS lv _ _ _ h gs o (n % 65536) lv (.long (r Xx Y) :: sv4) _ _ h ?_ (en_go_on hih hk2 hn hP hl (show en_sr E ρ ω (c :: st2) (_ :: sv4) from ⟨hv, hs4⟩) hh he hx hd hf rfl rfl)
    rw [hX]
    rfl
  rcases en_if_or.mp hk2 with ⟨a1, hk2⟩ | ⟨-, hk2⟩
  · rcases en_if_or.mp hk2 with ⟨a2, hk2⟩ | ⟨-, hk2⟩
    · rcases en_if_or.mp hk2 with ⟨a3, hk2⟩ | ⟨-, hk2⟩
      · have a1 := en_ble_t.mp a1
        have a2 := en_ble_t.mp a2
        have a3 : f (x - 36893488147419103232) (y - 36893488147419103232) ≤ 9223372036854775807 := en_ble_t.mp a3
        have b1 : x < 73786976294838206464 := by
          rcases en_isL_iff.mp h1 with h9 | h9 <;> omega
        have b2 : y < 73786976294838206464 := by
          rcases en_isL_iff.mp h2 with h9 | h9 <;> omega
        have ex : Xx = lN (x - 36893488147419103232) := Value.long.inj ((en_v_long a1 b1).mp h4)
        have ey : Y = lN (y - 36893488147419103232) := Value.long.inj ((en_v_long a2 b2).mp h3)
        refine fin _ ?_ hk2
        show en_v E ρ ω (36893488147419103232 + f (x - 36893488147419103232) (y - 36893488147419103232)) _
        rw [en_v_long (by omega) (by omega), ex, ey, hf0, Nat.add_sub_cancel_left]
        rfl
      · exact fin _ (en_v_anyL.mpr ⟨_, rfl⟩) hk2
    · exact fin _ (en_v_anyL.mpr ⟨_, rfl⟩) hk2
  · exact fin _ (en_v_anyL.mpr ⟨_, rfl⟩) hk2
theorem en_O_iinc (hP : P[q / 65536]? = some (cs, nL, dd)) (hS : en_St E kds P L FIN q X) (hn : n / 65536 = q / 65536) {i : Nat} {x : Int} (hi : i < nL) (hx1 : -2147483648 ≤ x) (hx2 : x < 2147483648) (hX : ∀ lv sv cb sb h, X lv sv cb sb h = (match mm_get lv i with
    | some (.int y) => if i < nL then some (n % 65536, mm_p1 lv i (.int (y + Int32.ofInt x)), sv, cb, sb, h) else none
    | _ => none)) : en_OS E kds P L ρ ω h0 fsC FIN q (en_iinc n i (en_c x)) := by
  intro loc st hp w ih c0 hih hk hR
  obtain ⟨lv, sv, gs, h, o, rfl, ⟨cs', nL', dd', hP', hl⟩, hs, hh, he, hx, hd, hf⟩ := hR
  cases hP.symm.trans hP'
  unfold en_iinc at hk
  obtain ⟨h1, hk⟩ := en_if_and.mp hk
  obtain ⟨h2, hk⟩ := en_if_and.mp hk
  rcases hl i hi with h3 | ⟨v, h3, h4⟩
  · rw [h3] at h1; exact absurd h1 (by decide)
  · obtain ⟨Y, rfl⟩ := en_isI_int h1 h4
    have hc : en_v E ρ ω (en_c x) (.int (Int32.ofInt x)) := by
      unfold en_c
      rw [en_v_const (by omega)]
      unfold en_d
      exact congrArg (fun z => Value.int (Int32.ofInt z)) (by omega)
    obtain ⟨c, hk, hv⟩ := en_add_v he h4 hc hk
    refine hS lv sv _ _ h gs o (n % 65536) (mm_p1 lv i (.int (Y + Int32.ofInt x))) sv _ _ h ?_ (en_go_on hih hk hn hP (en_lr_store hi hl h2 hv) hs hh he hx hd hf rfl rfl)
    rw [hX, h3]
    simp only [hi, if_true]
theorem en_O_dup (hP : P[q / 65536]? = some (cs, nL, dd)) (hS : en_St E kds P L FIN q X) (hn : n / 65536 = q / 65536) (hX : ∀ lv v sv cb sb h, v.category = 1 → X lv (v :: sv) cb sb h = some (n % 65536, lv, v :: v :: sv, cb, sb, h)) : en_OS E kds P L ρ ω h0 fsC FIN q (en_dup n) := by
  intro loc st hp w ih c0 hih hk hR
  obtain ⟨lv, sv, gs, h, o, rfl, ⟨cs', nL', dd', hP', hl⟩, hs, hh, he, hx, hd, hf⟩ := hR
  cases hP.symm.trans hP'
  unfold en_dup at hk
  obtain ⟨x, st1, rfl, hk1⟩ := en_pop_t hk
  obtain ⟨h1, hk1⟩ := en_if_and.mp hk1
  obtain ⟨v, sv2, rfl, h4, hs2⟩ := en_sr_cons hs
  exact hS lv _ _ _ h gs o (n % 65536) lv (v :: v :: sv2) _ _ h (hX _ _ _ _ _ _ (en_one_cat h1 h4)) (en_go_on hih hk1 hn hP hl (show en_sr E ρ ω (x :: x :: st1) (v :: v :: sv2) from ⟨h4, h4, hs2⟩) hh he hx hd hf rfl rfl)
theorem en_O_drop (hP : P[q / 65536]? = some (cs, nL, dd)) (hS : en_St E kds P L FIN q X) (hn : n / 65536 = q / 65536) (hX : ∀ lv v sv cb sb h, v.category = 1 → X lv (v :: sv) cb sb h = some (n % 65536, lv, sv, cb, sb, h)) : en_OS E kds P L ρ ω h0 fsC FIN q (en_drop n) := by
  intro loc st hp w ih c0 hih hk hR
  obtain ⟨lv, sv, gs, h, o, rfl, ⟨cs', nL', dd', hP', hl⟩, hs, hh, he, hx, hd, hf⟩ := hR
  cases hP.symm.trans hP'
  unfold en_drop at hk
  obtain ⟨x, st1, rfl, hk1⟩ := en_pop_t hk
  obtain ⟨h1, hk1⟩ := en_if_and.mp hk1
  obtain ⟨v, sv2, rfl, h4, hs2⟩ := en_sr_cons hs
  exact hS lv _ _ _ h gs o (n % 65536) lv sv2 _ _ h (hX _ _ _ _ _ _ (en_one_cat h1 h4)) (en_go_on hih hk1 hn hP hl hs2 hh he hx hd hf rfl rfl)
theorem en_O_dup2 (hP : P[q / 65536]? = some (cs, nL, dd)) (hS : en_St E kds P L FIN q X) (hn : n / 65536 = q / 65536) (hX : ∀ lv v u sv cb sb h, v.category = 1 ∧ u.category = 1 → X lv (v :: u :: sv) cb sb h = some (n % 65536, lv, v :: u :: v :: u :: sv, cb, sb, h)) : en_OS E kds P L ρ ω h0 fsC FIN q (en_dup2 n) := by
  intro loc st hp w ih c0 hih hk hR
  obtain ⟨lv, sv, gs, h, o, rfl, ⟨cs', nL', dd', hP', hl⟩, hs, hh, he, hx, hd, hf⟩ := hR
  cases hP.symm.trans hP'
  unfold en_dup2 at hk
  obtain ⟨x, st1, rfl, hk1⟩ := en_pop_t hk
  obtain ⟨y, st2, rfl, hk2⟩ := en_pop_t hk1
  obtain ⟨h1, hk2⟩ := en_if_and.mp hk2
  obtain ⟨h2, hk2⟩ := en_if_and.mp hk2
  obtain ⟨v, sv3, rfl, h4, hs3⟩ := en_sr_cons hs
  obtain ⟨u, sv4, rfl, h5, hs4⟩ := en_sr_cons hs3
  exact hS lv _ _ _ h gs o (n % 65536) lv (v :: u :: v :: u :: sv4) _ _ h (hX _ _ _ _ _ _ _ ⟨en_one_cat h1 h4, en_one_cat h2 h5⟩) (en_go_on hih hk2 hn hP hl (show en_sr E ρ ω (x :: y :: x :: y :: st2) (v :: u :: v :: u :: sv4) from ⟨h4, h5, h4, h5, hs4⟩) hh he hx hd hf rfl rfl)
/-- the rest of a state moves with its ranges -/
theorem en_go_w {ih : en_C} (hih : en_S E kds P L ρ ω h0 fsC FIN ih) {loc n : Nat} {st : List Nat} {hp : en_H} {w w' : en_W} (hk : ih n loc st hp w' = true) (hw : en_wq w w') (he' : en_e ρ (en_ev w')) (hn : n / 65536 = q / 65536) {lv : mm_V} {sv : List Value} {gs : List mm_F} {h : mm_H} {o : Option Value} (hP : P[q / 65536]? = some (cs, nL, dd)) (hl : en_lr E ρ ω nL loc lv) (hs : en_sr E ρ ω st sv) (hh : en_h E ρ ω h0 hp h) (hx : h.length = w.2.2.2.2.1) (hd : fsC.length + w.2.2.2.1.length + 1 + w.2.2.1 ≤ L) (hf : en_frs E P L ρ ω fsC w.2.2.2.1 gs) : en_Good E kds P L FIN ((q / 65536, n % 65536, lv, sv, w.1, w.2.1) :: gs, h, o) := by
  obtain ⟨w1, w2, w3, w4, w5⟩ := hw
  exact en_go_on hih hk hn hP hl hs hh he' (by rw [w5]; exact hx) (by rw [w3, w4]; exact hd) (by rw [w4]; exact hf) w1.symm w2.symm
theorem en_O_icmp (hP : P[q / 65536]? = some (cs, nL, dd)) (hS : en_St E kds P L FIN q X) {qt : Nat} (hn : n / 65536 = q / 65536) (ht : qt / 65536 = q / 65536) {k : Jvm.ClassFile.Cond} (hX : ∀ lv x y sv cb sb h, X lv (.int y :: .int x :: sv) cb sb h = if mm_cond k x y = true then some (qt % 65536, lv, sv, cb, sb, h) else some (n % 65536, lv, sv, cb, sb, h)) : en_OS E kds P L ρ ω h0 fsC FIN q (en_icmp k qt n) := by
  intro loc st hp w ih c0 hih hk hR
  obtain ⟨lv, sv, gs, h, o, rfl, ⟨cs', nL', dd', hP', hl⟩, hs, hh, he, hx, hd, hf⟩ := hR
  cases hP.symm.trans hP'
  unfold en_icmp at hk
  obtain ⟨y, st1, rfl, hk1⟩ := en_pop_t hk
  obtain ⟨x, st2, rfl, hk2⟩ := en_pop_t hk1
  obtain ⟨h1, hk2⟩ := en_if_and.mp hk2
  obtain ⟨h2, hk2⟩ := en_if_and.mp hk2
  obtain ⟨vy, sv3, rfl, h3, hs3⟩ := en_sr_cons hs
  obtain ⟨vx, sv4, rfl, h4, hs4⟩ := en_sr_cons hs3
  obtain ⟨Y, rfl⟩ := en_isI_int h2 h3
  obtain ⟨Xx, rfl⟩ := en_isI_int h1 h4
  obtain ⟨k1, k2⟩ := en_cmp_v he h4 h3 hk2
  by_cases hc : mm_cond k Xx Y = true
  · obtain ⟨w', hk2, hw, he'⟩ := k1 hc
    exact hS lv _ _ _ h gs o (qt % 65536) lv sv4 _ _ h (by rw [hX, if_pos hc]) (en_go_w hih hk2 hw he' ht hP hl hs4 hh hx hd hf)
  · obtain ⟨w', hk2, hw, he'⟩ := k2 hc
    exact hS lv _ _ _ h gs o (n % 65536) lv sv4 _ _ h (by rw [hX, if_neg hc]) (en_go_w hih hk2 hw he' hn hP hl hs4 hh hx hd hf)
theorem en_O_if0 (hP : P[q / 65536]? = some (cs, nL, dd)) (hS : en_St E kds P L FIN q X) {qt : Nat} (hn : n / 65536 = q / 65536) (ht : qt / 65536 = q / 65536) {k : Jvm.ClassFile.Cond} (hX : ∀ lv x sv cb sb h, X lv (.int x :: sv) cb sb h = if mm_cond k x 0 = true then some (qt % 65536, lv, sv, cb, sb, h) else some (n % 65536, lv, sv, cb, sb, h)) : en_OS E kds P L ρ ω h0 fsC FIN q (en_if0 k qt n) := by
  intro loc st hp w ih c0 hih hk hR
  obtain ⟨lv, sv, gs, h, o, rfl, ⟨cs', nL', dd', hP', hl⟩, hs, hh, he, hx, hd, hf⟩ := hR
  cases hP.symm.trans hP'
  unfold en_if0 at hk
  obtain ⟨x, st1, rfl, hk1⟩ := en_pop_t hk
  obtain ⟨h1, hk1⟩ := en_if_and.mp hk1
  obtain ⟨vx, sv2, rfl, h4, hs2⟩ := en_sr_cons hs
  obtain ⟨Xx, rfl⟩ := en_isI_int h1 h4
  have hz : en_v E ρ ω 2147483648 (.int 0) := by rw [en_v_const (by decide), en_d_zero]
  obtain ⟨k1, k2⟩ := en_cmp_v he h4 hz hk1
  by_cases hc : mm_cond k Xx 0 = true
  · obtain ⟨w', hk1, hw, he'⟩ := k1 hc
    exact hS lv _ _ _ h gs o (qt % 65536) lv sv2 _ _ h (by rw [hX, if_pos hc]) (en_go_w hih hk1 hw he' ht hP hl hs2 hh hx hd hf)
  · obtain ⟨w', hk1, hw, he'⟩ := k2 hc
    exact hS lv _ _ _ h gs o (n % 65536) lv sv2 _ _ h (by rw [hX, if_neg hc]) (en_go_w hih hk1 hw he' hn hP hl hs2 hh hx hd hf)
theorem en_O_goto (hP : P[q / 65536]? = some (cs, nL, dd)) (hS : en_St E kds P L FIN q X) (hn : n / 65536 = q / 65536) (hX : ∀ lv sv cb sb h, X lv sv cb sb h = some (n % 65536, lv, sv, cb, sb, h)) : en_OS E kds P L ρ ω h0 fsC FIN q (en_goto n) := by
  intro loc st hp w ih c0 hih hk hR
  obtain ⟨lv, sv, gs, h, o, rfl, ⟨cs', nL', dd', hP', hl⟩, hs, hh, he, hx, hd, hf⟩ := hR
  cases hP.symm.trans hP'
  exact hS lv _ _ _ h gs o (n % 65536) lv sv _ _ h (hX _ _ _ _ _) (en_go_on hih hk hn hP hl hs hh he hx hd hf rfl rfl)
end OPS
end ENS
end
section
/-! THE ENGINE IS SOUND, 5: instructions on the heap -/
section ENT
variable {E : mm_E} {kds : List (List Nat)} {P : mm_T} {L : Nat} {ρ : Nat → Int32} {ω : Nat → Value} {h0 : mm_H} {fsC : List mm_F} {FIN : mm_C → Prop}
def en_SA (E : mm_E) (ρ : Nat → Int32) (ω : Nat → Value) (SA : List (Nat × Nat)) : Prop := ∀ (s n row : Nat), SA[s]? = some (n, row) → ∃ q q', E.2[s]? = some q ∧ q.1 < E.1 ∧ mm_stat E q.1 = some q' ∧ q'.2.1 = n ∧ ∀ j, j < n → en_v E ρ ω (en_elt row j) (.int (q'.2.2 j))
theorem en_cell_v {c : Nat} {v : Value} {k s : Nat → Bool} (hv : en_v E ρ ω c v) (h : en_cell c k s = true) : (∃ i : Nat, i < 136 ∧ v = .ref (E.1 + i) ∧ k i = true) ∨ (∃ (i : Nat) (q : mm_S), E.2[i]? = some q ∧ v = .ref q.1 ∧ s i = true) := by
  unfold en_cell at h
  obtain ⟨a1, h⟩ := en_if_and.mp h
  have a1 := en_ble_t.mp a1
  rcases en_if_or.mp h with ⟨a2, h⟩ | ⟨-, h⟩
  · have a2 := en_ble_t.mp a2
    have e := (en_v_ref a1 (by omega)).mp hv
    exact Or.inl ⟨c - 8589934592, by omega, e, h⟩
  · obtain ⟨a3, h⟩ := en_if_and.mp h
    obtain ⟨a4, h⟩ := en_if_and.mp h
    obtain ⟨q, h1, h2⟩ := (en_v_stat (en_ble_t.mp a3) (en_ble_t.mp a4)).mp hv
    exact Or.inr ⟨c - 12884901904, q, h1, h2, h⟩
theorem en_mmcell (h : mm_H) (i : Nat) : mm_cell E h (E.1 + i) = h[i]? := by
  unfold mm_cell
  rw [if_pos (Nat.le_add_right _ _), Nat.add_sub_cancel_left]
theorem en_h_get {hp : en_H} {h : mm_H} (hh : en_h E ρ ω h0 hp h) {i : Nat} (hi : i < 136) (hk : en_kind (en_get hp i) ≠ 0) : en_cr E ρ ω (en_get hp i) h[i]? := (hh i).1 hi hk
theorem en_get_put {hp : en_H} {k N j : Nat} (hk : k < 136) (hj : j < 136) : en_get (en_put hp k N) j = if k = j then N else en_get hp j := en_lens_H hp k N j (Nat.zero_le _) hk (Nat.zero_le _) hj
theorem en_cr_lt {N : Nat} {h : mm_H} {i : Nat} (hc : en_cr E ρ ω N h[i]?) : i < h.length := by
  rcases hc with ⟨t, f, -, -, e, -⟩ | ⟨f, -, e, -⟩ | ⟨f, -, e, -⟩ | ⟨ci, fs, -, e, -⟩ <;> exact (List.getElem?_eq_some_iff.mp e).1
theorem en_cr_kind {N : Nat} {x : Option va_E} (hc : en_cr E ρ ω N x) : en_kind N ≠ 0 := by
  rcases hc with ⟨t, f, e, -⟩ | ⟨f, e, -⟩ | ⟨f, e, -⟩ | ⟨ci, fs, e, -⟩ <;> omega
theorem en_h_put {hp : en_H} {h : mm_H} (hh : en_h E ρ ω h0 hp h) {i N : Nat} {e : va_E} (hi : i < 136) (hil : i < h.length) (hc : en_cr E ρ ω N (some e)) : en_h E ρ ω h0 (en_put hp i N) (h.set i e) := by
  intro k
  by_cases hk : k < 136
  · rw [en_get_put hi hk, List.getElem?_set]
    by_cases hik : i = k
    · subst hik
      simp only [if_true, hil]
      exact ⟨fun _ _ => hc, fun q => absurd ⟨hi, en_cr_kind hc⟩ q⟩
    · simp only [hik, if_false]
      exact hh k
  · refine ⟨fun q => absurd q hk, fun _ => ?_⟩
    rw [List.getElem?_set, if_neg (by omega)]
    exact (hh k).2 (fun q => hk q.1)
theorem en_h_push {hp : en_H} {h : mm_H} (hh : en_h E ρ ω h0 hp h) {N : Nat} {e : va_E} (hi : h.length < 136) (hc : en_cr E ρ ω N (some e)) : en_h E ρ ω h0 (en_put hp h.length N) (h ++ [e]) := by
  intro k
  by_cases hk : k < 136
  · rw [en_get_put hi hk]
    by_cases hik : h.length = k
    · subst hik
      simp only [if_true]
      rw [List.getElem?_append_right (Nat.le_refl _), Nat.sub_self]
      exact ⟨fun _ _ => hc, fun q => absurd ⟨hi, en_cr_kind hc⟩ q⟩
    · simp only [hik, if_false]
      have e1 : (h ++ [e])[k]? = h[k]? := by
        rcases Nat.lt_or_ge k h.length with q | q
        · rw [List.getElem?_append_left q]
        · rw [List.getElem?_append_right q, List.getElem?_eq_none (by simp; omega), List.getElem?_eq_none q]
      rw [e1]
      exact hh k
  · refine ⟨fun q => absurd q hk, fun _ => ?_⟩
    rw [List.getElem?_append_right (by omega), List.getElem?_eq_none (by simp; omega), ← (hh k).2 (fun q => hk q.1), List.getElem?_eq_none (by omega)]
theorem en_idx_v {len : Nat} {I : Int32} {k : Nat → Bool} (h : en_idx len (en_z I) k = true) : mm_inr I len = true ∧ I.toNatClampNeg < len ∧ k I.toNatClampNeg = true := by
  unfold en_idx at h
  obtain ⟨a1, h⟩ := en_if_and.mp h
  obtain ⟨a2, h⟩ := en_if_and.mp h
  have a1 := en_ble_t.mp a1
  have a2 : (en_z I - 2147483648) + 1 ≤ len := en_ble_t.mp a2
  have hz := en_z_int I
  have e : I.toNatClampNeg = en_z I - 2147483648 := by
    show I.toInt.toNat = _
    omega
  refine ⟨?_, by omega, by rw [e]; exact h⟩
  unfold mm_inr
  simp only [Bool.and_eq_true, decide_eq_true_eq]
  omega
/-- once more at the same place -/
theorem en_again {ih : en_C} (hih : en_S E kds P L ρ ω h0 fsC FIN ih) {q loc : Nat} {st : List Nat} {hp : en_H} {w w' : en_W} {c : mm_C} (hR : en_R E P L ρ ω h0 fsC q loc st hp w c) (hk : ih q loc st hp w' = true) (hw : en_wq w w') (he : en_e ρ (en_ev w')) : en_Good E kds P L FIN c := by
  obtain ⟨lv, sv, gs, h, o, rfl, hl, hs, hh, -, hx, hd, hf⟩ := hR
  obtain ⟨w1, w2, w3, w4, w5⟩ := hw
  refine hih q loc st hp w' _ hk ⟨lv, sv, gs, h, o, by rw [w1, w2], hl, hs, hh, he, by rw [w5]; exact hx, by rw [w3, w4]; exact hd, by rw [w4]; exact hf⟩
section OPT
variable {q n : Nat} {X : mm_V → List Value → Nat → Nat → mm_H → mm_O} {cs : List (List mm_I)} {nL : Nat} {dd : mm_M}
theorem en_O_sw (hP : P[q / 65536]? = some (cs, nL, dd)) (hS : en_St E kds P L FIN q X) {qd lo m : Nat} {qs : List Nat} (hqd : qd / 65536 = q / 65536) (hqs : ∀ x ∈ qs, x / 65536 = q / 65536) (hlo : lo + m < 4294967296) (hm : qs.length = m + 1)
    (hX1 : ∀ lv I sv cb sb h, en_z I < lo ∨ lo + m < en_z I → X lv (.int I :: sv) cb sb h = some (qd % 65536, lv, sv, cb, sb, h)) (hX2 : ∀ lv I sv cb sb h t, lo ≤ en_z I → en_z I ≤ lo + m → qs[en_z I - lo]? = some t → X lv (.int I :: sv) cb sb h = some (t % 65536, lv, sv, cb, sb, h)) : en_OS E kds P L ρ ω h0 fsC FIN q (en_sw q qd lo m qs) := by
  intro loc st hp w ih c0 hih hk hR
  have hR0 := hR
  obtain ⟨lv, sv, gs, h, o, rfl, ⟨cs', nL', dd', hP', hl⟩, hs, hh, he, hx, hd, hf⟩ := hR
  cases hP.symm.trans hP'
  unfold en_sw at hk
  obtain ⟨x, st1, rfl, hk1⟩ := en_pop_t hk
  obtain ⟨h1, hk1⟩ := en_if_and.mp hk1
  obtain ⟨vx, sv1, rfl, h4, hs1⟩ := en_sr_cons hs
  obtain ⟨I, rfl⟩ := en_isI_int h1 h4
  have goD : ∀ w', ih qd loc st1 hp w' = true → en_wq w w' → en_e ρ (en_ev w') → (en_z I < lo ∨ lo + m < en_z I) → en_Good E kds P L FIN ((q / 65536, q % 65536, lv, .int I :: sv1, w.1, w.2.1) :: gs, h, o) := by
    intro w' k1 k2 k3 k4
    exact hS lv _ _ _ h gs o (qd % 65536) lv sv1 _ _ h (hX1 _ _ _ _ _ _ k4) (en_go_w hih k1 k2 k3 hqd hP hl hs1 hh hx hd hf)
  rcases en_pt_v he h4 hk1 with hk2 | ⟨w', hk2, hw, he'⟩ | hk2
  · rcases en_if_or.mp hk2 with ⟨a1, hk3⟩ | ⟨a1, hk3⟩
    · have a1 := en_ble_t.mp a1
      rcases en_if_or.mp hk3 with ⟨a2, hk4⟩ | ⟨a2, hk4⟩
      · have a2 : en_z I ≤ lo + m := en_ble_t.mp a2
        have hlt : en_z I - lo < qs.length := by omega
        have ht : qs[en_z I - lo]? = some qs[en_z I - lo] := List.getElem?_eq_getElem hlt
        have e : en_nth qd qs (Nat.sub (en_z I) lo) = qs[en_z I - lo] := by
          show en_nth qd qs (en_z I - lo) = _
          rw [en_nth_eq, ht]; rfl
        rw [e] at hk4
        exact hS lv _ _ _ h gs o (qs[en_z I - lo] % 65536) lv sv1 _ _ h (hX2 _ _ _ _ _ _ _ a1 a2 ht) (en_go_on hih hk4 (hqs _ (List.getElem_mem hlt)) hP hl hs1 hh he hx hd hf rfl rfl)
      · have a2 : lo + m < en_z I := en_ble_f.mp a2
        exact goD w hk4 (en_wq.rf w) he (Or.inr a2)
    · have a1 := en_ble_f.mp a1
      exact goD w hk3 (en_wq.rf w) he (Or.inl a1)
  · exact en_again hih hR0 hk2 hw he'
  · have hvlo : en_v E ρ ω lo (.int (en_d lo)) := by rw [en_v_const (by omega)]
    have hvhi : en_v E ρ ω (lo + m) (.int (en_d (lo + m))) := by rw [en_v_const (by omega)]
    obtain ⟨k1, k2⟩ := en_lt_v he h4 hvlo hk2
    by_cases hc : I < en_d lo
    · obtain ⟨w', hk3, hw, he'⟩ := k1 hc
      rw [en_z_lt_iff, en_z_d (by omega)] at hc
      exact goD w' hk3 hw he' (Or.inl hc)
    · obtain ⟨w', hk3, hw, he'⟩ := k2 hc
      obtain ⟨k3, k4⟩ := en_lt_v he' hvhi h4 hk3
      by_cases hc2 : en_d (lo + m) < I
      · obtain ⟨w2, hk4, hw2, he2⟩ := k3 hc2
        rw [en_z_lt_iff, en_z_d (by omega)] at hc2
        exact goD w2 hk4 (hw.tr hw2) he2 (Or.inr hc2)
      · obtain ⟨w2, hk4, hw2, he2⟩ := k4 hc2
        rcases en_pt_v he2 h4 hk4 with hk5 | ⟨w3, hk5, hw3, he3⟩ | hk5
        · cases hk5
        · exact en_again hih hR0 hk5 ((hw.tr hw2).tr hw3) he3
        · cases hk5
theorem en_O_aload (hP : P[q / 65536]? = some (cs, nL, dd)) (hS : en_St E kds P L FIN q X) (hn : n / 65536 = q / 65536) {SA : List (Nat × Nat)} (hSA : en_SA E ρ ω SA) {t : Nat → Bool} (ht0 : t 0 = false)
    (hX1 : ∀ (lv : mm_V) (I : Int32) (a : Nat) (r : List Value) (cb sb : Nat) (h : mm_H) (N : Nat), t (en_kind N) = true → en_cr E ρ ω N h[a]? → mm_inr I (en_len N) = true → I.toNatClampNeg < en_len N → ∃ v, X lv (.int I :: .ref (E.1 + a) :: r) cb sb h = some (n % 65536, lv, v :: r, cb, sb, h) ∧ en_v E ρ ω (en_elt N I.toNatClampNeg) v)
    (hX2 : t 1 = true → ∀ (lv : mm_V) (I : Int32) (a : Nat) (r : List Value) (cb sb : Nat) (h : mm_H) (q' : mm_S), a < E.1 → mm_stat E a = some q' → mm_inr I q'.2.1 = true → X lv (.int I :: .ref a :: r) cb sb h = some (n % 65536, lv, .int (q'.2.2 I.toNatClampNeg) :: r, cb, sb, h)) : en_OS E kds P L ρ ω h0 fsC FIN q (en_aload SA t q n) := by
  intro loc st hp w ih c0 hih hk hR
  have hR0 := hR
  obtain ⟨lv, sv, gs, h, o, rfl, ⟨cs', nL', dd', hP', hl⟩, hs, hh, he, hx, hd, hf⟩ := hR
  cases hP.symm.trans hP'
  unfold en_aload at hk
  obtain ⟨i, st1, rfl, hk1⟩ := en_pop_t hk
  obtain ⟨a, st2, rfl, hk2⟩ := en_pop_t hk1
  obtain ⟨h1, hk3⟩ := en_if_and.mp hk2
  obtain ⟨vi, sv1, rfl, h3, hs1⟩ := en_sr_cons hs
  obtain ⟨va, sv2, rfl, h4, hs2⟩ := en_sr_cons hs1
  obtain ⟨I, rfl⟩ := en_isI_int h1 h3
  rcases en_pt_v he h3 hk3 with hk4 | ⟨w', hk4, hw, he'⟩ | hk4
  · rcases en_cell_v h4 hk4 with ⟨k, hk5, rfl, hk6⟩ | ⟨s, qs, hs3, rfl, hk6⟩
    · obtain ⟨a1, hk7⟩ := en_if_and.mp hk6
      obtain ⟨b1, b2, b3⟩ := en_idx_v hk7
      have hkind : en_kind (en_get hp k) ≠ 0 := fun e => by rw [e, ht0] at a1; cases a1
      obtain ⟨v, e1, e2⟩ := hX1 lv I k sv2 w.1 w.2.1 h (en_get hp k) a1 (en_h_get hh hk5 hkind) b1 b2
      exact hS lv _ _ _ h gs o (n % 65536) lv (v :: sv2) _ _ h e1 (en_go_on hih b3 hn hP hl (show en_sr E ρ ω (_ :: st2) (v :: sv2) from ⟨e2, hs2⟩) hh he hx hd hf rfl rfl)
    · obtain ⟨a1, hk7⟩ := en_if_and.mp hk6
      cases hnn : en_nth (0, 0) SA s with
      | mk m row =>
        rw [hnn] at hk7
        obtain ⟨b1, b2, b3⟩ := en_idx_v (show en_idx m (en_z I) _ = true from hk7)
        have hsa : SA[s]? = some (m, row) := by
          rw [en_nth_eq] at hnn
          cases hq : SA[s]? with
          | none => rw [hq] at hnn; cases hnn; omega
          | some y => rw [hq] at hnn; simp only [Option.getD_some] at hnn; rw [hnn]
        obtain ⟨qq, q', g1, g2, g3, g4, g5⟩ := hSA s m row hsa
        cases g1.symm.trans hs3
        have e1 := hX2 a1 lv I qs.1 sv2 w.1 w.2.1 h q' g2 g3 (by rw [g4]; exact b1)
        exact hS lv _ _ _ h gs o (n % 65536) lv _ _ _ h e1 (en_go_on hih b3 hn hP hl (show en_sr E ρ ω (_ :: st2) (_ :: sv2) from ⟨g5 _ b2, hs2⟩) hh he hx hd hf rfl rfl)
  · exact en_again hih hR0 hk4 hw he'
  · cases hk4
theorem en_O_astore (hP : P[q / 65536]? = some (cs, nL, dd)) (hS : en_St E kds P L FIN q X) (hn : n / 65536 = q / 65536) {t : Nat → Bool} (ht0 : t 0 = false)
    (hX1 : ∀ (lv : mm_V) (V : Value) (v : Nat) (k : Nat → Bool) (I : Int32) (a : Nat) (r : List Value) (cb sb : Nat) (h : mm_H) (N : Nat), t (en_kind N) = true → en_cr E ρ ω N h[a]? → en_v E ρ ω v V → en_fit (en_kind N) v k = true → ∃ v', k v' = true ∧ (mm_inr I (en_len N) = true → I.toNatClampNeg < en_len N → ∃ e', X lv (V :: .int I :: .ref (E.1 + a) :: r) cb sb h = some (n % 65536, lv, r, cb, sb, h.set a e') ∧ en_cr E ρ ω (en_eset N I.toNatClampNeg v') (some e'))) : en_OS E kds P L ρ ω h0 fsC FIN q (en_astore t q n) := by
  intro loc st hp w ih c0 hih hk hR
  have hR0 := hR
  obtain ⟨lv, sv, gs, h, o, rfl, ⟨cs', nL', dd', hP', hl⟩, hs, hh, he, hx, hd, hf⟩ := hR
  cases hP.symm.trans hP'
  unfold en_astore at hk
  obtain ⟨v, st0, rfl, hk0⟩ := en_pop_t hk
  obtain ⟨i, st1, rfl, hk1⟩ := en_pop_t hk0
  obtain ⟨a, st2, rfl, hk2⟩ := en_pop_t hk1
  obtain ⟨h1, hk3⟩ := en_if_and.mp hk2
  obtain ⟨V, sv0, rfl, h2, hs0⟩ := en_sr_cons hs
  obtain ⟨vi, sv1, rfl, h3, hs1⟩ := en_sr_cons hs0
  obtain ⟨va, sv2, rfl, h4, hs2⟩ := en_sr_cons hs1
  obtain ⟨I, rfl⟩ := en_isI_int h1 h3
  rcases en_pt_v he h3 hk3 with hk4 | ⟨w', hk4, hw, he'⟩ | hk4
  · rcases en_cell_v h4 hk4 with ⟨k, hk5, rfl, hk6⟩ | ⟨s, qs, hs3, rfl, hk6⟩
    · obtain ⟨a1, hk7⟩ := en_if_and.mp hk6
      have hkind : en_kind (en_get hp k) ≠ 0 := fun e => by rw [e, ht0] at a1; cases a1
      have hcr := en_h_get hh hk5 hkind
      obtain ⟨v', hk8, hx1⟩ := hX1 lv V v _ I k sv2 w.1 w.2.1 h (en_get hp k) a1 hcr h2 hk7
      obtain ⟨b1, b2, b3⟩ := en_idx_v hk8
      obtain ⟨e', e1, e2⟩ := hx1 b1 b2
      exact hS lv _ _ _ h gs o (n % 65536) lv sv2 _ _ _ e1 (en_go_on hih b3 hn hP hl hs2 (en_h_put hh hk5 (en_cr_lt hcr) e2) he (by rw [List.length_set]; exact hx) hd hf rfl rfl)
    · cases hk6
  · exact en_again hih hR0 hk4 hw he'
  · cases hk4
theorem en_len_SA (SA : List (Nat × Nat)) : (List.rec (motive := fun _ => Nat) 0 (fun _ _ n => Nat.succ n) SA : Nat) = SA.length := by
  induction SA with
  | nil => rfl
  | cons a r ih => show Nat.succ _ = _; rw [ih]; rfl
theorem en_len_v {m : Nat} (h : m < 16777216) : en_v E ρ ω (Nat.add 2147483648 m) (.int (Int32.ofNat m)) := by
  show en_v E ρ ω (2147483648 + m) _
  rw [en_v_const (by omega), Nat.add_comm]
  exact congrArg Value.int (en_nI_d m)
theorem en_sr_push {c : Nat} {v : Value} {st : List Nat} {sv : List Value} (h : en_v E ρ ω c v) (hs : en_sr E ρ ω st sv) : en_sr E ρ ω (c :: st) (v :: sv) := ⟨h, hs⟩
theorem en_O_alen (hP : P[q / 65536]? = some (cs, nL, dd)) (hS : en_St E kds P L FIN q X) (hn : n / 65536 = q / 65536) {SA : List (Nat × Nat)} (hSA : en_SA E ρ ω SA) (hX : ∀ lv sv cb sb h, X lv sv cb sb h = mm_alen E lv sv cb sb h (n % 65536)) : en_OS E kds P L ρ ω h0 fsC FIN q (en_alen SA n) := by
  intro loc st hp w ih c0 hih hk hR
  obtain ⟨lv, sv, gs, h, o, rfl, ⟨cs', nL', dd', hP', hl⟩, hs, hh, he, hx, hd, hf⟩ := hR
  cases hP.symm.trans hP'
  unfold en_alen at hk
  obtain ⟨a, st2, rfl, hk2⟩ := en_pop_t hk
  obtain ⟨va, sv2, rfl, h4, hs2⟩ := en_sr_cons hs
  rcases en_cell_v h4 hk2 with ⟨k, hk5, rfl, hk6⟩ | ⟨s, qs, hs3, rfl, hk6⟩
  · obtain ⟨a1, hk7⟩ := en_if_and.mp hk6
    obtain ⟨a2, hk8⟩ := en_if_and.mp hk7
    have a1 := en_ble_t.mp a1
    have a2 := en_ble_t.mp a2
    have hcr := en_h_get hh hk5 (by omega)
    have hlen : en_len (en_get hp k) < 16777216 := Nat.mod_lt _ (by decide)
    have hv := @en_len_v E ρ ω (en_len (en_get hp k)) hlen
    refine hS lv _ _ _ h gs o (n % 65536) lv (.int (Int32.ofNat (en_len (en_get hp k))) :: sv2) _ _ h ?_ (en_go_on hih hk8 hn hP hl (en_sr_push hv hs2) hh he hx hd hf rfl rfl)
    rw [hX]
    unfold mm_alen
    simp only [en_mmcell]
    rcases hcr with ⟨t, f, g1, g2, e, -⟩ | ⟨f, g1, e, -⟩ | ⟨f, g1, e, -⟩ | ⟨ci, fs, g1, -⟩
    · rw [e]; simp only []; rw [if_pos (show t < 5 by omega)]
    · rw [e]; simp only []; rw [if_pos (by decide)]
    · rw [e]; simp only []; rw [if_pos (by decide)]
    · omega
  · cases hnn : en_nth (0, 0) SA s with
    | mk m row =>
      rw [hnn] at hk6
      obtain ⟨a1, hk7⟩ := en_if_and.mp (show en_if (Nat.ble m 16777215) _ false = true from hk6)
      obtain ⟨a2, hk8⟩ := en_if_and.mp hk7
      have a1 := en_ble_t.mp a1
      rw [en_len_SA] at a2
      have a2 : s + 1 ≤ SA.length := en_ble_t.mp a2
      have hsa : SA[s]? = some (m, row) := by
        rw [en_nth_eq, List.getElem?_eq_getElem (by omega)] at hnn
        rw [List.getElem?_eq_getElem (by omega)]
        exact congrArg some hnn
      obtain ⟨qq, q', g1, g2, g3, g4, g5⟩ := hSA s m row hsa
      cases g1.symm.trans hs3
      have hv := @en_len_v E ρ ω m (by omega)
      refine hS lv _ _ _ h gs o (n % 65536) lv (.int (Int32.ofNat m) :: sv2) _ _ h ?_ (en_go_on hih hk8 hn hP hl (en_sr_push hv hs2) hh he hx hd hf rfl rfl)
      rw [hX]
      unfold mm_alen
      have e1 : mm_cell E h qs.1 = none := by unfold mm_cell; rw [if_neg (by omega)]
      simp only [e1, g3]
      rw [← g4]
theorem en_O_getf (hP : P[q / 65536]? = some (cs, nL, dd)) (hS : en_St E kds P L FIN q X) (hn : n / 65536 = q / 65536) {ci b : Nat} (hX : ∀ lv sv cb sb h, X lv sv cb sb h = mm_getf E lv sv cb sb h (n % 65536) ci b) : en_OS E kds P L ρ ω h0 fsC FIN q (en_getf n ci b) := by
  intro loc st hp w ih c0 hih hk hR
  obtain ⟨lv, sv, gs, h, o, rfl, ⟨cs', nL', dd', hP', hl⟩, hs, hh, he, hx, hd, hf⟩ := hR
  cases hP.symm.trans hP'
  unfold en_getf at hk
  obtain ⟨a, st2, rfl, hk2⟩ := en_pop_t hk
  obtain ⟨va, sv2, rfl, h4, hs2⟩ := en_sr_cons hs
  rcases en_cell_v h4 hk2 with ⟨k, hk5, rfl, hk6⟩ | ⟨s, qs, hs3, rfl, hk6⟩
  · obtain ⟨a1, hk7⟩ := en_if_and.mp hk6
    obtain ⟨a2, hk8⟩ := en_if_and.mp hk7
    have a1 : en_kind (en_get hp k) = 6 + ci := en_beq_t.mp a1
    have a2 : b + 1 ≤ en_len (en_get hp k) := en_ble_t.mp a2
    rcases en_h_get hh hk5 (by omega) with ⟨t, f, g1, g2, -⟩ | ⟨f, g1, -⟩ | ⟨f, g1, -⟩ | ⟨c2, fs, g1, e, g3, g4⟩
    · omega
    · omega
    · omega
    · have hci : c2 = ci := by omega
      subst hci
      have hb : fs[b]? = some fs[b] := List.getElem?_eq_getElem (by omega)
      refine hS lv _ _ _ h gs o (n % 65536) lv (fs[b] :: sv2) _ _ h ?_ (en_go_on hih hk8 hn hP hl (show en_sr E ρ ω (_ :: st2) (_ :: sv2) from ⟨g4 b _ hb, hs2⟩) hh he hx hd hf rfl rfl)
      rw [hX]
      unfold mm_getf
      simp only [en_mmcell, e, if_true, hb]
  · cases hk6
theorem en_ffit_v {kd v : Nat} {V : Value} (hv : en_v E ρ ω v V) (h : en_ffit kd v = true) : mm_fits kd V = true := by
  unfold en_ffit at h
  rcases en_if_or.mp h with ⟨a1, k1⟩ | ⟨-, k1⟩
  · obtain ⟨x, rfl⟩ := en_isI_int k1 hv
    rw [en_beq_t.mp a1]
    simp [mm_fits]
  · rcases en_if_or.mp k1 with ⟨a1, k2⟩ | ⟨-, k2⟩
    · obtain ⟨x, rfl⟩ := en_isL_long k2 hv
      rw [en_beq_t.mp a1]
      simp [mm_fits]
    · rcases en_if_or.mp k2 with ⟨a1, k3⟩ | ⟨-, k3⟩
      · obtain ⟨a2, a3⟩ := en_if_and.mp k3
        have a2 := en_ble_t.mp a2
        have a3 := en_ble_t.mp a3
        have e := (en_v_const (by omega)).mp hv
        rw [en_beq_t.mp a1, e]
        rcases Nat.lt_or_ge 2147483648 v with q | q
        · rw [show v = 2147483649 by omega]
          decide
        · rw [show v = 2147483648 by omega]
          decide
      · obtain ⟨a1, k4⟩ := en_if_and.mp k3
        rw [en_beq_t.mp a1]
        rcases en_if_or.mp k4 with ⟨a2, -⟩ | ⟨-, a2⟩
        · obtain ⟨x, rfl⟩ := en_isR_ref a2 hv
          simp [mm_fits]
        · rw [en_beq_t.mp a2] at hv
          rw [en_v_null.mp hv]
          simp [mm_fits]
theorem en_O_putf (hP : P[q / 65536]? = some (cs, nL, dd)) (hS : en_St E kds P L FIN q X) (hn : n / 65536 = q / 65536) {ci b kd : Nat} (hX : ∀ lv sv cb sb h, X lv sv cb sb h = mm_putf E lv sv cb sb h (n % 65536) ci b kd) : en_OS E kds P L ρ ω h0 fsC FIN q (en_putf n ci b kd) := by
  intro loc st hp w ih c0 hih hk hR
  obtain ⟨lv, sv, gs, h, o, rfl, ⟨cs', nL', dd', hP', hl⟩, hs, hh, he, hx, hd, hf⟩ := hR
  cases hP.symm.trans hP'
  unfold en_putf at hk
  obtain ⟨v, st1, rfl, hk1⟩ := en_pop_t hk
  obtain ⟨a, st2, rfl, hk2⟩ := en_pop_t hk1
  obtain ⟨V, sv1, rfl, h3, hs1⟩ := en_sr_cons hs
  obtain ⟨va, sv2, rfl, h4, hs2⟩ := en_sr_cons hs1
  rcases en_cell_v h4 hk2 with ⟨k, hk5, rfl, hk6⟩ | ⟨s, qs, hs3, rfl, hk6⟩
  · obtain ⟨a1, hk7⟩ := en_if_and.mp hk6
    obtain ⟨a2, hk8⟩ := en_if_and.mp hk7
    obtain ⟨a3, hk9⟩ := en_if_and.mp hk8
    have a1 : en_kind (en_get hp k) = 6 + ci := en_beq_t.mp a1
    have a2 : b + 1 ≤ en_len (en_get hp k) := en_ble_t.mp a2
    have hcr := en_h_get hh hk5 (by omega)
    have hlt := en_cr_lt hcr
    rcases hcr with ⟨t, f, g1, g2, -⟩ | ⟨f, g1, -⟩ | ⟨f, g1, -⟩ | ⟨c2, fs, g1, e, g3, g4⟩
    · omega
    · omega
    · omega
    · have hci : c2 = ci := by omega
      subst hci
      have hc2 : en_cr E ρ ω (en_eset (en_get hp k) b v) (some (.inr (c2, fs.set b V))) := by
        refine Or.inr (Or.inr (Or.inr ⟨c2, fs.set b V, by rw [en_eset_kind]; exact g1, rfl, by rw [en_eset_len, List.length_set]; exact g3, fun j u hj => ?_⟩))
        rw [en_elt_eset (en_v_68 h3)]
        rw [List.getElem?_set] at hj
        by_cases hjb : j = b
        · subst hjb
          rw [if_pos rfl, if_pos (by omega)] at hj
          cases hj
          rw [if_pos rfl]
          exact h3
        · rw [if_neg (fun e => hjb e.symm)] at hj
          rw [if_neg hjb]
          exact g4 j u hj
      refine hS lv _ _ _ h gs o (n % 65536) lv sv2 _ _ (h.set k (.inr (c2, fs.set b V))) ?_ (en_go_on hih hk9 hn hP hl hs2 (en_h_put hh hk5 hlt hc2) he (by rw [List.length_set]; exact hx) hd hf rfl rfl)
      rw [hX]
      unfold mm_putf
      simp only [en_mmcell, e]
      rw [if_pos ⟨trivial, by omega, en_ffit_v h3 a3⟩, Nat.add_sub_cancel_left]
  · cases hk6
/-- a new cell -/
theorem en_new_v (hP : P[q / 65536]? = some (cs, nL, dd)) (hn : n / 65536 = q / 65536) {ih : en_C} (hih : en_S E kds P L ρ ω h0 fsC FIN ih) {loc m N : Nat} {st : List Nat} {hp : en_H} {w : en_W} (hk : en_new n m N loc st hp w ih = true) {e : va_E} (hc : en_cr E ρ ω N (some e)) {lv : mm_V} {sv : List Value} {gs : List mm_F} {h : mm_H} (hl : en_lr E ρ ω nL loc lv) (hs : en_sr E ρ ω st sv) (hh : en_h E ρ ω h0 hp h) (he : en_e ρ (en_ev w)) (hx : h.length = w.2.2.2.2.1) (hd : fsC.length + w.2.2.2.1.length + 1 + w.2.2.1 ≤ L) (hf : en_frs E P L ρ ω fsC w.2.2.2.1 gs) : (1 ≤ w.1 ∧ m ≤ w.2.1) ∧ en_Good E kds P L FIN ((q / 65536, n % 65536, lv, .ref (E.1 + h.length) :: sv, w.1 - 1, w.2.1 - m) :: gs, h ++ [e], none) := by
  unfold en_new at hk
  obtain ⟨a1, hk⟩ := en_if_and.mp hk
  obtain ⟨a2, hk⟩ := en_if_and.mp hk
  obtain ⟨a3, hk⟩ := en_if_and.mp hk
  have a1 := en_ble_t.mp a1
  have a2 := en_ble_t.mp a2
  have a3 : w.2.2.2.2.1 + 1 ≤ 136 := en_ble_t.mp a3
  refine ⟨⟨a1, a2⟩, ?_⟩
  rw [← hx] at hk
  have hv : en_v E ρ ω (8589934592 + h.length) (.ref (E.1 + h.length)) := by
    rw [en_v_ref (by omega) (by omega), Nat.add_sub_cancel_left]
  exact en_go_on hih hk hn hP hl (show en_sr E ρ ω (_ :: st) (_ :: sv) from ⟨hv, hs⟩) (en_h_push hh (by omega) hc) he (by show (h ++ [e]).length = Nat.succ h.length; simp) hd hf rfl rfl
theorem en_dfl_lt (k : Nat) : en_dfl k < 2 ^ 68 := by
  unfold en_dfl
  split <;> decide
theorem en_dfl_v (k : Nat) : en_v E ρ ω (en_dfl k) (mm_dflt k) := by
  unfold en_dfl mm_dflt
  split
  · rw [en_v_const (by decide), en_d_zero]; rfl
  · rw [en_v_long (by decide) (by decide)]; rfl
  · rw [en_v_const (by decide), en_d_zero]; rfl
  · rename_i h1 h2 h3
    split
    · exact absurd rfl h1
    · exact absurd rfl h2
    · exact absurd rfl h3
    · exact en_v_null.mpr rfl
theorem en_obj_v : ∀ (l : List Nat) (N j : Nat), en_kind (en_obj l N j) = en_kind N ∧ en_len (en_obj l N j) = en_len N ∧ ∀ i, en_elt (en_obj l N j) i = if j ≤ i ∧ i < j + l.length then en_dfl (l.getD (i - j) 0) else en_elt N i := by
  intro l
  induction l with
  | nil => intro N j; refine ⟨rfl, rfl, fun i => ?_⟩; rw [if_neg (by simp only [List.length_nil]; omega)]; rfl
  | cons a r ih =>
    intro N j
    obtain ⟨h1, h2, h3⟩ := ih (en_eset N j (en_dfl a)) (Nat.succ j)
    refine ⟨h1.trans (en_eset_kind _ _ _), h2.trans (en_eset_len _ _ _), fun i => ?_⟩
    show en_elt (en_obj r (en_eset N j (en_dfl a)) (Nat.succ j)) i = _
    rw [h3, en_elt_eset (en_dfl_lt a)]
    by_cases hi : i = j
    · subst hi
      rw [if_neg (by omega), if_pos rfl, if_pos (by simp only [List.length_cons]; omega), Nat.sub_self]
      rfl
    · by_cases hr : Nat.succ j ≤ i ∧ i < Nat.succ j + r.length
      · rw [if_pos hr, if_pos (by simp only [List.length_cons]; omega)]
        rw [show i - j = (i - Nat.succ j) + 1 by omega, List.getD_cons_succ]
      · rw [if_neg hr, if_neg hi, if_neg (by simp only [List.length_cons]; omega)]
theorem en_O_newo (hP : P[q / 65536]? = some (cs, nL, dd)) (hS : en_St E kds P L FIN q X) (hn : n / 65536 = q / 65536) {ci : Nat} {l : List Nat} (hci : ci < 200) (hll : l.length < 10000) (hX : ∀ lv sv cb sb h, X lv sv cb sb h = mm_new E lv sv cb sb h (n % 65536) ci l) : en_OS E kds P L ρ ω h0 fsC FIN q (en_newo n ci l) := by
  intro loc st hp w ih c0 hih hk hR
  obtain ⟨lv, sv, gs, h, o, rfl, ⟨cs', nL', dd', hP', hl⟩, hs, hh, he, hx, hd, hf⟩ := hR
  cases hP.symm.trans hP'
  obtain ⟨b1, b2, b3⟩ := en_obj_v l (6 + ci + 256 * l.length) 0
  have hc : en_cr E ρ ω (en_obj l (Nat.add (Nat.add 6 ci) (Nat.mul 256 l.length)) 0) (some (.inr (ci, l.map mm_dflt))) := by
    refine Or.inr (Or.inr (Or.inr ⟨ci, l.map mm_dflt, ?_, rfl, ?_, fun j v hj => ?_⟩))
    · exact b1.trans (by show (6 + ci + 256 * l.length) % 256 = _; omega)
    · rw [List.length_map]
      exact (b2.trans (by show (6 + ci + 256 * l.length) / 256 % 16777216 = _; omega)).symm
    · rw [List.getElem?_map] at hj
      cases hlj : l[j]? with
      | none => rw [hlj] at hj; cases hj
      | some k =>
        rw [hlj] at hj
        cases hj
        have hlt := (List.getElem?_eq_some_iff.mp hlj).1
        have e := b3 j
        rw [if_pos (by omega), Nat.sub_zero] at e
        have e2 : l.getD j 0 = k := by rw [List.getD_eq_getElem?_getD, hlj]; rfl
        rw [e2] at e
        show en_v E ρ ω (en_elt (en_obj l (6 + ci + 256 * l.length) 0) j) _
        rw [e]
        exact en_dfl_v k
  obtain ⟨⟨a1, a2⟩, g⟩ := en_new_v hP hn hih hk hc hl hs hh he hx hd hf
  refine hS lv sv _ _ h gs o (n % 65536) lv _ _ _ _ ?_ g
  rw [hX]
  unfold mm_new
  rw [if_pos ⟨a1, a2⟩]
theorem en_O_newa (hP : P[q / 65536]? = some (cs, nL, dd)) (hS : en_St E kds P L FIN q X) (hn : n / 65536 = q / 65536) {kind D : Nat} {mk : Nat → va_E} (hk0 : kind < 256) (hD : D < 2 ^ 68) (hmk : ∀ N m, m < 16777216 → en_kind N = kind → en_len N = m → (∀ j, j < m → en_elt N j = D) → en_cr E ρ ω N (some (mk m)))
    (hX : ∀ (lv : mm_V) (I : Int32) (sv : List Value) (cb sb : Nat) (h : mm_H), 0 ≤ I.toInt ∧ I.toInt ≤ 100000 ∧ 1 ≤ cb ∧ I.toNatClampNeg ≤ sb → X lv (.int I :: sv) cb sb h = some (n % 65536, lv, .ref (E.1 + h.length) :: sv, cb - 1, sb - I.toNatClampNeg, h ++ [mk I.toNatClampNeg])) : en_OS E kds P L ρ ω h0 fsC FIN q (en_newa n kind D) := by
  intro loc st hp w ih c0 hih hk hR
  obtain ⟨lv, sv, gs, h, o, rfl, ⟨cs', nL', dd', hP', hl⟩, hs, hh, he, hx, hd, hf⟩ := hR
  cases hP.symm.trans hP'
  unfold en_newa at hk
  obtain ⟨x, st1, rfl, hk1⟩ := en_pop_t hk
  obtain ⟨v, sv1, rfl, h3, hs1⟩ := en_sr_cons hs
  obtain ⟨a1, hk2⟩ := en_if_and.mp hk1
  obtain ⟨a2, hk3⟩ := en_if_and.mp hk2
  have a1 := en_ble_t.mp a1
  have a2 := en_ble_t.mp a2
  have e := (en_v_const (by omega)).mp h3
  subst e
  have ez := en_z_d (c := x) (by omega)
  have ei := en_d_int (c := x) (by omega)
  have ec : (en_d x).toNatClampNeg = x - 2147483648 := by show (en_d x).toInt.toNat = _; omega
  have hc : en_cr E ρ ω (en_rep kind (Nat.sub x 2147483648) D) (some (mk (x - 2147483648))) := hmk _ _ (by omega) (en_rep_kind hk0) (en_rep_len hk0 (show x - 2147483648 < 16777216 by omega)) (fun j hj => en_rep_elt hk0 (show x - 2147483648 < 16777216 by omega) hD hj)
  obtain ⟨⟨b1, b2⟩, g⟩ := en_new_v hP hn hih hk3 hc hl hs1 hh he hx hd hf
  refine hS lv _ _ _ h gs o (n % 65536) lv _ _ _ _ (hX _ _ _ _ _ _ ⟨by omega, by omega, b1, by rw [ec]; exact b2⟩) ?_
  rw [ec]
  exact g
end OPT
end ENT
end
section
/-! THE ENGINE IS SOUND, 6: rows of rows, copies, calls, returns -/
section ENU
variable {E : mm_E} {kds : List (List Nat)} {P : mm_T} {L : Nat} {ρ : Nat → Int32} {ω : Nat → Value} {h0 : mm_H} {fsC : List mm_F} {FIN : mm_C → Prop}
theorem en_refs_v : ∀ (n N j c : Nat), c + n < 2 ^ 68 → en_kind (en_refs n N j c) = en_kind N ∧ en_len (en_refs n N j c) = en_len N ∧ ∀ i, en_elt (en_refs n N j c) i = if j ≤ i ∧ i < j + n then c + (i - j) else en_elt N i := by
  intro n
  induction n with
  | zero => intro N j c _; refine ⟨rfl, rfl, fun i => ?_⟩; rw [if_neg (by omega)]; rfl
  | succ n ih =>
    intro N j c hc
    obtain ⟨h1, h2, h3⟩ := ih (en_eset N j c) (Nat.succ j) (Nat.succ c) (by omega)
    refine ⟨h1.trans (en_eset_kind _ _ _), h2.trans (en_eset_len _ _ _), fun i => ?_⟩
    show en_elt (en_refs n (en_eset N j c) (Nat.succ j) (Nat.succ c)) i = _
    rw [h3, en_elt_eset (by omega)]
    by_cases hi : i = j
    · subst hi
      rw [if_neg (by omega), if_pos rfl, if_pos (by omega)]
      omega
    · by_cases hr : Nat.succ j ≤ i ∧ i < Nat.succ j + n
      · rw [if_pos hr, if_pos (by omega)]
        omega
      · rw [if_neg hr, if_neg hi, if_neg (by omega)]
theorem en_rows_h {N : Nat} {e : va_E} (hc : en_cr E ρ ω N (some e)) : ∀ (n : Nat) (hp : en_H) (h : mm_H), en_h E ρ ω h0 hp h → h.length + n ≤ 136 → en_h E ρ ω h0 (en_rows n hp h.length N) (h ++ List.replicate n e) := by
  intro n
  induction n with
  | zero => intro hp h hh _; rw [List.replicate_zero, List.append_nil]; exact hh
  | succ n ih =>
    intro hp h hh hl
    have h1 := en_h_push hh (by omega) hc
    have h2 := ih (en_put hp h.length N) (h ++ [e]) h1 (by simp; omega)
    rw [List.length_append, List.length_singleton, List.append_assoc] at h2
    exact h2
section OPU
variable {q n : Nat} {X : mm_V → List Value → Nat → Nat → mm_H → mm_O} {cs : List (List mm_I)} {nL : Nat} {dd : mm_M}
set_option maxRecDepth 10000 in
theorem en_O_mna (hP : P[q / 65536]? = some (cs, nL, dd)) (hS : en_St E kds P L FIN q X) (hn : n / 65536 = q / 65536) (hX : ∀ lv sv cb sb h, X lv sv cb sb h = mm_newm E lv sv cb sb h (n % 65536)) : en_OS E kds P L ρ ω h0 fsC FIN q (en_mna n) := by
  intro loc st hp w ih c0 hih hk hR
  obtain ⟨lv, sv, gs, h, o, rfl, ⟨cs', nL', dd', hP', hl⟩, hs, hh, he, hx, hd, hf⟩ := hR
  cases hP.symm.trans hP'
  unfold en_mna at hk
  obtain ⟨y, st1, rfl, hk1⟩ := en_pop_t hk
  obtain ⟨x, st2, rfl, hk2⟩ := en_pop_t hk1
  obtain ⟨vy, sv1, rfl, h3, hs1⟩ := en_sr_cons hs
  obtain ⟨vx, sv2, rfl, h4, hs2⟩ := en_sr_cons hs1
  obtain ⟨a1, hk3⟩ := en_if_and.mp hk2
  obtain ⟨a2, hk4⟩ := en_if_and.mp hk3
  obtain ⟨a3, hk5⟩ := en_if_and.mp hk4
  obtain ⟨a4, hk6⟩ := en_if_and.mp hk5
  obtain ⟨a5, hk7⟩ := en_if_and.mp hk6
  obtain ⟨a6, hk8⟩ := en_if_and.mp hk7
  obtain ⟨a7, hk9⟩ := en_if_and.mp hk8
  have a1 := en_ble_t.mp a1
  have a2 := en_ble_t.mp a2
  have a3 := en_ble_t.mp a3
  have a4 := en_ble_t.mp a4
  have ex := (en_v_const (by omega)).mp h4
  have ey := (en_v_const (by omega)).mp h3
  subst ex
  subst ey
  have ix := en_d_int (c := x) (by omega)
  have iy := en_d_int (c := y) (by omega)
  obtain ⟨m, rfl⟩ : ∃ m, x = 2147483648 + m := ⟨x - 2147483648, by omega⟩
  obtain ⟨k, rfl⟩ : ∃ k, y = 2147483648 + k := ⟨y - 2147483648, by omega⟩
  have ex2 : Nat.sub (2147483648 + m) 2147483648 = m := Nat.add_sub_cancel_left 2147483648 m
  have ey2 : Nat.sub (2147483648 + k) 2147483648 = k := Nat.add_sub_cancel_left 2147483648 k
  have cx : (en_d (2147483648 + m)).toNatClampNeg = m := by show (en_d (2147483648 + m)).toInt.toNat = _; omega
  have cy : (en_d (2147483648 + k)).toNatClampNeg = k := by show (en_d (2147483648 + k)).toInt.toNat = _; omega
  rw [ex2] at a5
  rw [ex2, ey2] at a6
  rw [ex2] at a7
  rw [ex2, ey2, ← hx] at hk9
  have a5 : m + 1 ≤ w.1 := en_ble_t.mp a5
  have a6 : m + m * k ≤ w.2.1 := en_ble_t.mp a6
  have a7 : (w.2.2.2.2.1 + 1) + m ≤ 136 := en_ble_t.mp a7
  rw [← hx] at a7
  have hrow : en_cr E ρ ω (en_rep 1 k 2147483648) (some (.inl (0, k, .inl (fun _ => 0)))) := by
    have hkl : k < 16777216 := by omega
    refine Or.inl ⟨0, fun _ => 0, en_rep_kind (by decide), by decide, ?_, fun j hj => ?_⟩
    · rw [en_rep_len (by decide) hkl]
    · rw [en_rep_len (by decide) hkl] at hj
      rw [en_rep_elt (by decide) hkl (by decide) hj, en_v_const (by decide), en_d_zero]
  obtain ⟨b1, b2, b3⟩ := en_refs_v m (5 + 256 * m) 0 (8589934592 + (h.length + 1)) (by omega)
  have hkm : en_kind (5 + 256 * m) = 5 := by show (5 + 256 * m) % 256 = 5; omega
  have hlm : en_len (5 + 256 * m) = m := by show (5 + 256 * m) / 256 % 16777216 = m; omega
  have hout : en_cr E ρ ω (en_refs m (5 + 256 * m) 0 (8589934592 + (h.length + 1))) (some (.inl (4, m, .inr (.inr (.inr (.inr (fun i => if i < m then some (E.1 + h.length + 1 + i) else none))))))) := by
    refine Or.inr (Or.inr (Or.inl ⟨_, b1.trans hkm, by rw [b2, hlm], fun j hj => ?_⟩))
    rw [b2, hlm] at hj
    rw [b3, if_pos (by omega), if_pos hj]
    show en_v E ρ ω _ (.ref _)
    rw [en_v_ref (by omega) (by omega)]
    have e9 : (E.1 + h.length + 1 + j : Nat) = E.1 + (8589934592 + (h.length + 1) + (j - 0) - 8589934592) := by omega
    exact congrArg Value.ref e9
  have hh1 := en_h_push hh (by omega) hout
  have hh2 := en_rows_h hrow m _ _ hh1 (by simp; omega)
  rw [List.length_append, List.length_singleton, List.append_assoc] at hh2
  have hv : en_v E ρ ω (8589934592 + h.length) (.ref (E.1 + h.length)) := by
    rw [en_v_ref (by omega) (by omega), Nat.add_sub_cancel_left]
  refine hS lv _ _ _ h gs o (n % 65536) lv (.ref (E.1 + h.length) :: sv2) (w.1 - (1 + m)) (w.2.1 - (m + m * k)) _ ?_ (en_go_on hih hk9 hn hP hl ⟨hv, hs2⟩ hh2 he ?_ hd hf ?_ rfl)
  · rw [hX]
    unfold mm_newm
    simp only [cx, cy]
    rw [if_pos ⟨by omega, by omega, by omega, by omega, by omega, by omega⟩]
    rfl
  · show (h ++ _).length = (h.length + 1) + m
    simp
    omega
  · show w.1 - (1 + m) = w.1 - (m + 1)
    omega
theorem en_frs_len : ∀ (fs : List en_F) (gs : List mm_F), en_frs E P L ρ ω fsC fs gs → gs.length = fs.length + fsC.length := by
  intro fs
  induction fs with
  | nil => intro gs h; rw [show gs = fsC from h]; simp
  | cons f fs ih =>
    intro gs h
    cases gs with
    | nil => exact h.elim
    | cons g gs => rw [List.length_cons, List.length_cons, ih gs h.2.2]; omega
theorem en_cat_v : ∀ (st : List Nat) (sv : List Value), en_sr E ρ ω st sv → (sv.map fun v => v.category).sum ≤ en_cat st := by
  intro st
  induction st with
  | nil => intro sv h; rw [en_sr_nil h]; exact Nat.le_refl 0
  | cons c r ih =>
    intro sv h
    obtain ⟨v, vs, rfl, h1, h2⟩ := en_sr_cons h
    have h3 := ih vs h2
    rw [List.map_cons, List.sum_cons]
    show _ ≤ en_if (en_one c) (Nat.succ (en_cat r)) (Nat.succ (Nat.succ (en_cat r)))
    cases ho : en_one c with
    | true => rw [en_if_t, en_one_cat ho h1]; omega
    | false => rw [en_if_f]; have := en_cat_le v; omega
/-- a special callee -/
theorem en_step_sp {len a b wd ik : Nat} {z : Int} {ins : Instr} {q0 : Nat} (hat : mm_at P (q / 65536) (q % 65536) = some ((q0, len, ins, a, b, z, wd), nL, dd)) (hi : mm_inv ins = some ik) (ha : a < 2) {lv : mm_V} {sv : List Value} {cb sb : Nat} {h : mm_H} {gs : List mm_F} {o : Option Value} (hg : gs.length + 1 < L) {pc' : Nat} {lv' : mm_V} {sv' : List Value} {cb' sb' : Nat} {h' : mm_H} (hx : mm_sp E a ik lv sv cb sb h (q % 65536 + len) = some (pc', lv', sv', cb', sb', h')) (g : en_Good E kds P L FIN ((q / 65536, pc', lv', sv', cb', sb') :: gs, h', none)) : en_Good E kds P L FIN ((q / 65536, q % 65536, lv, sv, cb, sb) :: gs, h, o) := by
  refine en_good_step ?_ g
  obtain ⟨d1, d2, d3, d4, d5, d6⟩ := dd
  simp only [mm_stp, hat, hi, if_pos ha, if_pos hg, hx]
theorem en_O_oinit (hP : P[q / 65536]? = some (cs, nL, dd)) {len b wd : Nat} {z : Int} {ins : Instr} {q0 : Nat} (hat : mm_at P (q / 65536) (q % 65536) = some ((q0, len, ins, 0, b, z, wd), nL, dd)) (hi : mm_inv ins = some 2) (hn : n / 65536 = q / 65536) (hn2 : n % 65536 = q % 65536 + len) : en_OS E kds P L ρ ω h0 fsC FIN q (en_oinit n) := by
  intro loc st hp w ih c0 hih hk hR
  obtain ⟨lv, sv, gs, h, o, rfl, ⟨cs', nL', dd', hP', hl⟩, hs, hh, he, hx, hd, hf⟩ := hR
  cases hP.symm.trans hP'
  unfold en_oinit at hk
  obtain ⟨a, st1, rfl, hk1⟩ := en_pop_t hk
  obtain ⟨va, sv1, rfl, h3, hs1⟩ := en_sr_cons hs
  obtain ⟨a1, hk2⟩ := en_if_and.mp hk1
  obtain ⟨a2, hk3⟩ := en_if_and.mp hk2
  obtain ⟨a3, hk4⟩ := en_if_and.mp hk3
  have a2 := en_ble_t.mp a2
  have a3 := en_ble_t.mp a3
  obtain ⟨x, rfl⟩ := en_isR_ref a1 h3
  have hlen := en_frs_len _ _ hf
  refine en_step_sp hat hi (by decide) (by omega) (pc' := n % 65536) (lv' := lv) (sv' := sv1) (cb' := w.1) (sb' := w.2.1) (h' := h) ?_ (en_go_on hih hk4 hn hP hl hs1 hh he hx hd hf rfl rfl)
  unfold mm_sp
  rw [if_pos rfl]
  have hc := en_cat_v _ _ hs1
  simp only []
  rw [if_pos ⟨trivial, by omega⟩, hn2]
theorem en_O_copy (hP : P[q / 65536]? = some (cs, nL, dd)) {len b wd : Nat} {z : Int} {ins : Instr} {q0 : Nat} (hat : mm_at P (q / 65536) (q % 65536) = some ((q0, len, ins, 1, b, z, wd), nL, dd)) (hi : mm_inv ins = some 0) (hn : n / 65536 = q / 65536) (hn2 : n % 65536 = q % 65536 + len) : en_OS E kds P L ρ ω h0 fsC FIN q (en_copy n) := by
  intro loc st hp w ih c0 hih hk hR
  obtain ⟨lv, sv, gs, h, o, rfl, ⟨cs', nL', dd', hP', hl⟩, hs, hh, he, hx, hd, hf⟩ := hR
  cases hP.symm.trans hP'
  unfold en_copy at hk
  obtain ⟨m, st1, rfl, hk1⟩ := en_pop_t hk
  obtain ⟨p1, st2, rfl, hk2⟩ := en_pop_t hk1
  obtain ⟨d1, st3, rfl, hk3⟩ := en_pop_t hk2
  obtain ⟨p2, st4, rfl, hk4⟩ := en_pop_t hk3
  obtain ⟨s1, st5, rfl, hk5⟩ := en_pop_t hk4
  obtain ⟨vm, sv1, rfl, g1, hs1⟩ := en_sr_cons hs
  obtain ⟨vp1, sv2, rfl, g2, hs2⟩ := en_sr_cons hs1
  obtain ⟨vd, sv3, rfl, g3, hs3⟩ := en_sr_cons hs2
  obtain ⟨vp2, sv4, rfl, g4, hs4⟩ := en_sr_cons hs3
  obtain ⟨vs, sv5, rfl, g5, hs5⟩ := en_sr_cons hs4
  obtain ⟨a1, hk6⟩ := en_if_and.mp hk5
  obtain ⟨a2, hk7⟩ := en_if_and.mp hk6
  obtain ⟨a3, hk8⟩ := en_if_and.mp hk7
  obtain ⟨a4, hk9⟩ := en_if_and.mp hk8
  have a3 := en_ble_t.mp a3
  have a4 := en_ble_t.mp a4
  rw [en_beq_t.mp a1] at g2
  rw [en_beq_t.mp a2] at g4
  have e2 := (en_v_const (by decide)).mp g2
  have e4 := (en_v_const (by decide)).mp g4
  rw [en_d_zero] at e2 e4
  subst e2
  subst e4
  rcases en_cell_v g5 hk9 with ⟨i, hi1, rfl, hk10⟩ | ⟨i, qs, -, -, hk10⟩
  · rcases en_cell_v g3 hk10 with ⟨j, hj1, rfl, hk11⟩ | ⟨j, qs, -, -, hk11⟩
    · obtain ⟨b1, hk12⟩ := en_if_and.mp hk11
      obtain ⟨b2, hk13⟩ := en_if_and.mp hk12
      obtain ⟨b3, hk14⟩ := en_if_and.mp hk13
      obtain ⟨b4, hk15⟩ := en_if_and.mp hk14
      have b1 := en_beq_t.mp b1
      have b2 := en_beq_t.mp b2
      have b3 : m = 2147483648 + en_len (en_get hp i) := en_beq_t.mp b3
      have b4 : m = 2147483648 + en_len (en_get hp j) := en_beq_t.mp b4
      have hl1 : en_len (en_get hp i) < 16777216 := Nat.mod_lt _ (by decide)
      have e1 := (en_v_const (by omega)).mp g1
      have im := en_d_int (c := m) (by omega)
      have cm : (en_d m).toNatClampNeg = en_len (en_get hp i) := by show (en_d m).toInt.toNat = _; omega
      subst e1
      have hci := en_h_get hh hi1 (by omega)
      have hcj := en_h_get hh hj1 (by omega)
      have hjl := en_cr_lt hcj
      have hlen := en_frs_len _ _ hf
      have hcat := en_cat_v _ _ hs5
      rcases hci with ⟨t, f, q1, q2, q3, q4⟩ | ⟨f, q1, -⟩ | ⟨f, q1, -⟩ | ⟨c2, fs2, q1, -⟩
      · rcases hcj with ⟨t', g, q1', q2', q3', q4'⟩ | ⟨f, q1', -⟩ | ⟨f, q1', -⟩ | ⟨c2, fs2, q1', -⟩
        · have ht : t = 0 := by omega
          have ht' : t' = 0 := by omega
          subst ht
          subst ht'
          have hnew : en_cr E ρ ω (en_get hp i) (some (.inl (0, en_len (en_get hp j), .inl (va_cpy f g (0 : Int32).toNatClampNeg (0 : Int32).toNatClampNeg (en_d m).toNatClampNeg)))) := by
            refine Or.inl ⟨0, va_cpy f g (0 : Int32).toNatClampNeg (0 : Int32).toNatClampNeg (en_d m).toNatClampNeg, q1, q2, ?_, fun k hk => ?_⟩
            · rw [show en_len (en_get hp j) = en_len (en_get hp i) by omega]
            · have ez : (0 : Int32).toNatClampNeg = 0 := by decide
              rw [ez, cm]
              have e9 : va_cpy f g 0 0 (en_len (en_get hp i)) k = f k := by
                unfold va_cpy
                rw [if_pos (by omega), Nat.sub_zero, Nat.zero_add]
              rw [e9]
              exact q4 k hk
          refine en_step_sp hat hi (by decide) (by omega) (pc' := n % 65536) (lv' := lv) (sv' := sv5) (cb' := w.1) (sb' := w.2.1) ?_ (en_go_on hih hk15 hn hP hl hs5 (en_h_put hh hj1 hjl hnew) he (by rw [List.length_set]; exact hx) hd hf rfl rfl)
          unfold mm_sp
          rw [if_neg (by decide), if_pos rfl]
          unfold mm_copy
          simp only [en_mmcell, q3, q3']
          have ez : (0 : Int32).toNatClampNeg = 0 := by decide
          have ez2 : (0 : Int32).toInt = 0 := by decide
          rw [if_pos ⟨trivial, trivial, by omega, by omega, by omega, by rw [cm, ez]; omega, by rw [cm, ez]; omega, by omega⟩, Nat.add_sub_cancel_left, hn2]
        · omega
        · omega
        · omega
      · omega
      · omega
      · omega
    · cases hk11
  · cases hk10
theorem en_take_v : ∀ (np : Nat) (acc st : List Nat) (k : List Nat → List Nat → Bool), en_take np acc st k = true → np ≤ st.length ∧ k ((st.take np).reverse ++ acc) (st.drop np) = true := by
  intro np
  induction np with
  | zero => intro acc st k h; exact ⟨Nat.zero_le _, h⟩
  | succ np ih =>
    intro acc st k h
    have h9 : en_pop st (fun a r => en_take np (a :: acc) r k) = true := h
    obtain ⟨a, r, rfl, h1⟩ := en_pop_t h9
    obtain ⟨h2, h3⟩ := ih _ _ _ h1
    refine ⟨by rw [List.length_cons]; omega, ?_⟩
    rw [List.take_succ_cons, List.reverse_cons, List.append_assoc, List.drop_succ_cons]
    exact h3
theorem en_sr_take : ∀ (np : Nat) (st : List Nat) (sv : List Value), en_sr E ρ ω st sv → en_sr E ρ ω (st.take np) (sv.take np) ∧ en_sr E ρ ω (st.drop np) (sv.drop np) := by
  intro np
  induction np with
  | zero => intro st sv h; exact ⟨trivial, h⟩
  | succ np ih =>
    intro st sv h
    cases st with
    | nil => rw [en_sr_nil h]; exact ⟨trivial, trivial⟩
    | cons c r =>
      obtain ⟨v, vs, rfl, h1, h2⟩ := en_sr_cons h
      obtain ⟨h3, h4⟩ := ih r vs h2
      exact ⟨⟨h1, h3⟩, h4⟩
theorem en_sr_app : ∀ (a : List Nat) (x : List Value) (b : List Nat) (y : List Value), en_sr E ρ ω a x → en_sr E ρ ω b y → en_sr E ρ ω (a ++ b) (x ++ y) := by
  intro a
  induction a with
  | nil => intro x b y h1 h2; rw [en_sr_nil h1]; exact h2
  | cons c r ih =>
    intro x b y h1 h2
    obtain ⟨v, vs, rfl, h3, h4⟩ := en_sr_cons h1
    exact ⟨h3, ih vs b y h4 h2⟩
theorem en_sr_rev : ∀ (a : List Nat) (x : List Value), en_sr E ρ ω a x → en_sr E ρ ω a.reverse x.reverse := by
  intro a
  induction a with
  | nil => intro x h; rw [en_sr_nil h]; exact trivial
  | cons c r ih =>
    intro x h
    obtain ⟨v, vs, rfl, h3, h4⟩ := en_sr_cons h
    rw [List.reverse_cons, List.reverse_cons]
    exact en_sr_app _ _ _ _ (ih vs h4) ⟨h3, trivial⟩
theorem en_sr_len : ∀ (a : List Nat) (x : List Value), en_sr E ρ ω a x → x.length = a.length := by
  intro a
  induction a with
  | nil => intro x h; rw [en_sr_nil h]; rfl
  | cons c r ih =>
    intro x h
    obtain ⟨v, vs, rfl, h3, h4⟩ := en_sr_cons h
    rw [List.length_cons, List.length_cons, ih vs h4]
theorem en_get_cons {i j : Nat} {v : Value} {l : mm_V} : mm_get ((j, v) :: l) i = if j = i then some v else mm_get l i := by
  unfold mm_get
  by_cases h : j = i
  · subst h; simp
  · rw [List.find?_cons_of_neg (by simpa using h), if_neg h]
theorem en_args_v : ∀ (l : List Nat) (vs : List Value) (j loc : Nat) (k : Nat → Nat → Bool), en_sr E ρ ω l vs → en_args l j loc k = true → ∃ loc', k (j + (lg_sl vs).length) loc' = true ∧ (∀ i, i < j → en_elt loc' i = en_elt loc i) ∧ ∀ i, (∃ v, mm_get (lv_args j vs) i = some v ∧ en_v E ρ ω (en_elt loc' i) v) ∨ en_elt loc' i = en_elt loc i := by
  intro l
  induction l with
  | nil =>
    intro vs j loc k hs h
    rw [en_sr_nil hs]
    exact ⟨loc, h, fun _ _ => rfl, fun _ => Or.inr rfl⟩
  | cons c r ih =>
    intro vs j loc k hs h
    obtain ⟨v, vs, rfl, h1, h2⟩ := en_sr_cons hs
    have h9 : en_if (en_one c) (en_args r (Nat.succ j) (en_eset loc j c) k) (en_if (en_isL c) (en_args r (Nat.succ (Nat.succ j)) (en_eset loc j c) k) false) = true := h
    have key : ∀ j', j < j' → (if v.category = 2 then j + 2 else j + 1) = j' → en_args r j' (en_eset loc j c) k = true → (lg_sl (v :: vs)).length = (j' - j) + (lg_sl vs).length → ∃ loc', k (j + (lg_sl (v :: vs)).length) loc' = true ∧ (∀ i, i < j → en_elt loc' i = en_elt loc i) ∧ ∀ i, (∃ u, mm_get (lv_args j (v :: vs)) i = some u ∧ en_v E ρ ω (en_elt loc' i) u) ∨ en_elt loc' i = en_elt loc i := by
      intro j' hj hj2 hk hlen
      obtain ⟨loc', k1, k2, k3⟩ := ih vs j' (en_eset loc j c) k h2 hk
      refine ⟨loc', ?_, fun i hi => ?_, fun i => ?_⟩
      · rw [hlen, show j + (j' - j + (lg_sl vs).length) = j' + (lg_sl vs).length by omega]
        exact k1
      · rw [k2 i (by omega), en_elt_eset (en_v_68 h1), if_neg (by omega)]
      · show (∃ u, mm_get ((j, v) :: lv_args (if v.category = 2 then j + 2 else j + 1) vs) i = some u ∧ _) ∨ _
        rw [hj2, en_get_cons]
        by_cases hji : j = i
        · subst hji
          left
          refine ⟨v, by rw [if_pos rfl], ?_⟩
          rw [k2 j hj, en_elt_eset (en_v_68 h1), if_pos rfl]
          exact h1
        · rw [if_neg hji]
          rcases k3 i with h5 | h5
          · exact Or.inl h5
          · right
            rw [h5, en_elt_eset (en_v_68 h1), if_neg (fun e => hji e.symm)]
    rcases en_if_or.mp h9 with ⟨a1, h3⟩ | ⟨-, h3⟩
    · have hc := en_one_cat a1 h1
      refine key (j + 1) (by omega) (by rw [if_neg (by omega)]) h3 ?_
      simp [lg_sl, hc]
      omega
    · obtain ⟨a2, h3⟩ := en_if_and.mp h3
      obtain ⟨x, rfl⟩ := en_isL_long a2 h1
      refine key (j + 2) (by omega) (if_pos rfl) h3 ?_
      simp [lg_sl, Value.category]
      omega
theorem en_step_call {len a b wd ik : Nat} {z : Int} {ins : Instr} {q0 : Nat} (hat : mm_at P (q / 65536) (q % 65536) = some ((q0, len, ins, a, b, z, wd), nL, dd)) (hi : mm_inv ins = some ik) (ha : ¬ a < 2) {lv : mm_V} {sv : List Value} {cb sb : Nat} {h : mm_H} {gs : List mm_F} {o : Option Value} {c' : mm_C} (hx : mm_call E L P a ik (q / 65536) (q % 65536 + len) lv sv cb sb gs h = some c') (g : en_Good E kds P L FIN c') : en_Good E kds P L FIN ((q / 65536, q % 65536, lv, sv, cb, sb) :: gs, h, o) := by
  refine en_good_step ?_ g
  obtain ⟨d1, d2, d3, d4, d5, d6⟩ := dd
  simp only [mm_stp, hat, hi, if_neg ha, hx]
theorem en_O_call (hP : P[q / 65536]? = some (cs, nL, dd)) {len a b wd kd : Nat} {z : Int} {ins : Instr} {q0 : Nat} (hat : mm_at P (q / 65536) (q % 65536) = some ((q0, len, ins, a, b, z, wd), nL, dd)) (hi : mm_inv ins = some kd) (ha : ¬ a < 2) (hn : n / 65536 = q / 65536) (hn2 : n % 65536 = q % 65536 + len) {cs1 : List (List mm_I)} {nL1 np ci rk mc ms : Nat} (hPa : P[a]? = some (cs1, nL1, np, kd, ci, rk, mc, ms)) (hnL1 : nL1 < 16777216) : en_OS E kds P L ρ ω h0 fsC FIN q (en_call n (65536 * a) nL1 np kd ci mc ms) := by
  intro loc st hp w ih c0 hih hk hR
  obtain ⟨lv, sv, gs, h, o, rfl, ⟨cs', nL', dd', hP', hl⟩, hs, hh, he, hx, hd, hf⟩ := hR
  cases hP.symm.trans hP'
  unfold en_call at hk
  obtain ⟨hnp, hk1⟩ := en_take_v _ _ _ _ hk
  rw [List.append_nil] at hk1
  obtain ⟨a1, hk2⟩ := en_if_and.mp hk1
  obtain ⟨a2, hk3⟩ := en_if_and.mp hk2
  obtain ⟨a3, hk4⟩ := en_if_and.mp hk3
  have a1 := en_ble_t.mp a1
  have a2 := en_ble_t.mp a2
  have a3 := en_ble_t.mp a3
  obtain ⟨hs1, hs2⟩ := en_sr_take np _ _ hs
  have hs3 := en_sr_rev _ _ hs1
  have hlen := en_frs_len _ _ hf
  have hsl := en_sr_len _ _ hs
  have go : ∀ (as r : List Nat) (av rv : List Value), en_go n (65536 * a) nL1 mc ms as r loc st hp w ih = true → en_sr E ρ ω as av → en_sr E ρ ω r rv → ((rv.map fun v => v.category).sum ≤ 8 ∧ (lg_sl av).length ≤ nL1) ∧ en_Good E kds P L FIN ((a, 0, lv_args 0 av, [], mc, ms) :: (q / 65536, q % 65536 + len, lv, rv, w.1 - mc, w.2.1 - ms) :: gs, h, none) := by
    intro as r av rv hg h1 h2
    unfold en_go at hg
    obtain ⟨b1, hg⟩ := en_if_and.mp hg
    have b1 := en_ble_t.mp b1
    obtain ⟨loc', k1, -, k3⟩ := en_args_v as av 0 _ _ h1 hg
    obtain ⟨b2, k4⟩ := en_if_and.mp k1
    have b2 := en_ble_t.mp b2
    rw [Nat.zero_add] at b2
    have hcat := en_cat_v _ _ h2
    refine ⟨⟨by omega, b2⟩, ?_⟩
    refine hih _ _ _ _ _ _ k4 ⟨lv_args 0 av, [], (q / 65536, q % 65536 + len, lv, rv, w.1 - mc, w.2.1 - ms) :: gs, h, none, ?_, ⟨cs1, nL1, (np, kd, ci, rk, mc, ms), ?_, fun i hi => ?_⟩, trivial, hh, he, hx, ?_, ⟨?_, ?_, hf⟩⟩
    · rw [show 65536 * a / 65536 = a by omega, show 65536 * a % 65536 = 0 by omega]
    · rw [show 65536 * a / 65536 = a by omega]
      exact hPa
    · rcases k3 i with ⟨v, h5, h6⟩ | h5
      · exact Or.inr ⟨v, h5, h6⟩
      · left
        rw [h5, en_rep_elt (by decide) hnL1 (by decide) hi]
    · show fsC.length + (_ :: w.2.2.2.1).length + 1 + (w.2.2.1 - 1) ≤ L
      rw [List.length_cons]
      omega
    · exact ⟨hn.symm, hn2.symm, ⟨cs, nL, dd, hP, hl⟩, h2, rfl, rfl⟩
    · exact hd
  rcases en_if_or.mp hk4 with ⟨a4, hk5⟩ | ⟨a4, hk5⟩
  · have a4 := en_beq_t.mp a4
    subst a4
    obtain ⟨⟨g1, g2⟩, g3⟩ := go _ _ _ _ hk5 hs3 hs2
    refine en_step_call hat hi ha ?_ g3
    unfold mm_call
    rw [hPa]
    simp only []
    rw [if_pos ⟨trivial, by omega, a2, a3, by omega⟩]
    unfold mm_recv
    rw [if_pos rfl]
    simp only [List.nil_append]
    rw [if_pos ⟨g1, g2⟩]
  · have a4 := en_beq_f.mp a4
    obtain ⟨c, r, hdr, hk6⟩ := en_pop_t hk5
    rw [hdr] at hs2
    obtain ⟨v, rv, hdv, g4, hs4⟩ := en_sr_cons hs2
    rcases en_cell_v g4 hk6 with ⟨i, hi1, rfl, hk7⟩ | ⟨i, qs, -, -, hk7⟩
    · obtain ⟨b1, hk8⟩ := en_if_and.mp hk7
      have b1 : en_kind (en_get hp i) = 6 + ci := en_beq_t.mp b1
      obtain ⟨⟨g1, g2⟩, g3⟩ := go _ _ (.ref (E.1 + i) :: (sv.take np).reverse) rv hk8 ⟨g4, hs3⟩ hs4
      rcases en_h_get hh hi1 (by omega) with ⟨t, f, q1, q2, -⟩ | ⟨f, q1, -⟩ | ⟨f, q1, -⟩ | ⟨c2, fs2, q1, e, -⟩
      · omega
      · omega
      · omega
      · have hc2 : c2 = ci := by omega
        subst hc2
        refine en_step_call hat hi ha ?_ g3
        unfold mm_call
        rw [hPa]
        simp only []
        rw [if_pos ⟨trivial, by omega, a2, a3, by omega⟩]
        unfold mm_recv
        rw [if_neg a4, hdv]
        simp only [en_mmcell, e, if_true]
        rw [if_pos ⟨g1, g2⟩]
        rfl
    · cases hk7
/-- what the lowest frame answers -/
def en_vo (E : mm_E) (ρ : Nat → Int32) (ω : Nat → Value) (v : List Nat) (vo : Option Value) : Prop := (v = [] ∧ vo = none) ∨ ∃ c V, v = [c] ∧ vo = some V ∧ en_v E ρ ω c V
def en_FS (E : mm_E) (kds : List (List Nat)) (P : mm_T) (L : Nat) (ρ : Nat → Int32) (ω : Nat → Value) (h0 : mm_H) (fsC : List mm_F) (FIN : mm_C → Prop) (fin : List Nat → en_H → en_W → Bool) : Prop := ∀ (v : List Nat) (vo : Option Value) (hp : en_H) (w : en_W) (h : mm_H), fin v hp w = true → en_vo E ρ ω v vo → en_h E ρ ω h0 hp h → en_e ρ (en_ev w) → h.length = w.2.2.2.2.1 → en_Good E kds P L FIN (mm_back vo fsC h)
theorem en_O_ret (hP : P[q / 65536]? = some (cs, nL, dd)) {len a b wd ik : Nat} {z : Int} {ins : Instr} {q0 np kd ci rk mc ms : Nat} (hat : mm_at P (q / 65536) (q % 65536) = some ((q0, len, ins, a, b, z, wd), nL, (np, kd, ci, rk, mc, ms))) (hi : mm_inv ins = none) (hr : mm_rtn ins = some ik) {fin : List Nat → en_H → en_W → Bool} (hfin : en_FS E kds P L ρ ω h0 fsC FIN fin) : en_OS E kds P L ρ ω h0 fsC FIN q (en_ret fin rk ik) := by
  intro loc st hp w ih c0 hih hk hR
  obtain ⟨lv, sv, gs, h, o, rfl, -, hs, hh, he, hx, hd, hf⟩ := hR
  have key : ∀ (v : List Nat) (vo : Option Value), en_back fin v loc st hp w ih = true → en_vo E ρ ω v vo → mm_ans rk ik sv = some vo → en_Good E kds P L FIN ((q / 65536, q % 65536, lv, sv, w.1, w.2.1) :: gs, h, o) := by
    intro v vo hb hv ha
    refine en_good_step (c' := mm_back vo gs h) ?_ ?_
    · simp only [mm_stp, hat, hi, hr, ha]
    · unfold en_back at hb
      generalize hfs : w.2.2.2.1 = fs at hb hf
      cases fs with
      | nil =>
        have hg : gs = fsC := hf
        rw [hg]
        exact hfin v vo hp w h hb hv hh he hx
      | cons f fs =>
        cases gs with
        | nil => exact hf.elim
        | cons g gs =>
          obtain ⟨⟨r1, r2, ⟨cs2, nL2, dd2, r3, r4⟩, r5, r6, r7⟩, r8, r9⟩ := hf
          refine hih _ _ _ _ _ _ hb ⟨g.2.2.1, vo.toList ++ g.2.2.2.1, gs, h, none, ?_, ⟨cs2, nL2, dd2, by rw [← r1]; exact r3, r4⟩, ?_, hh, he, hx, r8, r9⟩
          · show mm_back vo (g :: gs) h = _
            obtain ⟨g1, g2, g3, g4, g5, g6⟩ := g
            simp only [mm_back] at *
            rw [r1, r2, r6, r7]
          · rcases hv with ⟨rfl, rfl⟩ | ⟨c, V, rfl, rfl, hv⟩
            · exact r5
            · exact ⟨hv, r5⟩
  unfold en_ret at hk
  cases st with
  | nil =>
    rw [en_sr_nil hs] at key ⊢
    obtain ⟨a1, hk⟩ := en_if_and.mp (show en_if (Nat.beq rk 0) (en_if (Nat.beq ik 0) (en_back fin [] loc [] hp w ih) false) false = true from hk)
    obtain ⟨a2, hk⟩ := en_if_and.mp hk
    refine key [] none hk (Or.inl ⟨rfl, rfl⟩) ?_
    unfold mm_ans
    rw [if_pos ⟨en_beq_t.mp a1, en_beq_t.mp a2⟩]
  | cons c r =>
    obtain ⟨V, vs, rfl, h1, h2⟩ := en_sr_cons hs
    cases r with
    | cons c2 r2 => cases hk
    | nil =>
      rw [en_sr_nil h2] at key ⊢
      rcases en_if_or.mp (show en_if (Nat.beq ik 1) _ _ = true from hk) with ⟨a1, hk⟩ | ⟨-, hk⟩
      · have a1 := en_beq_t.mp a1
        obtain ⟨a2, hk⟩ := en_if_and.mp hk
        obtain ⟨x, rfl⟩ := en_isI_int a2 h1
        rcases en_if_or.mp hk with ⟨a3, hk⟩ | ⟨-, hk⟩
        · refine key [c] _ hk (Or.inr ⟨c, _, rfl, rfl, h1⟩) ?_
          show (if ik = 1 ∧ (rk = 1 ∨ _) then some (some (Value.int x)) else none) = _
          rw [if_pos ⟨a1, Or.inl (en_beq_t.mp a3)⟩]
        · obtain ⟨a3, hk⟩ := en_if_and.mp hk
          obtain ⟨a4, hk⟩ := en_if_and.mp hk
          obtain ⟨a5, hk⟩ := en_if_and.mp hk
          have a4 := en_ble_t.mp a4
          have a5 := en_ble_t.mp a5
          refine key [c] _ hk (Or.inr ⟨c, _, rfl, rfl, h1⟩) ?_
          show (if ik = 1 ∧ (rk = 1 ∨ (rk = 2 ∧ (x = 0 ∨ x = 1))) then some (some (Value.int x)) else none) = _
          have e : x = en_d c := by simpa using (en_v_const (by omega)).mp h1
          have hx01 : x = 0 ∨ x = 1 := by
            rcases Nat.lt_or_ge 2147483648 c with q9 | q9
            · right; rw [e, show c = 2147483649 by omega]; decide
            · left; rw [e, show c = 2147483648 by omega]; decide
          rw [if_pos ⟨a1, Or.inr ⟨en_beq_t.mp a3, hx01⟩⟩]
      · obtain ⟨a1, hk⟩ := en_if_and.mp hk
        obtain ⟨a2, hk⟩ := en_if_and.mp hk
        obtain ⟨a3, hk⟩ := en_if_and.mp hk
        obtain ⟨x, rfl⟩ := en_isL_long a2 h1
        refine key [c] _ hk (Or.inr ⟨c, _, rfl, rfl, h1⟩) ?_
        show (if ik = 3 ∧ rk = 3 then some (some (Value.long x)) else none) = _
        rw [if_pos ⟨en_beq_t.mp a1, en_beq_t.mp a3⟩]
end OPU
end ENU
end
section
/-! THE ENGINE IS SOUND, 7: every instruction of the table, every run -/
theorem en_b8 {x : Int} (h1 : -128 ≤ x) (h2 : x < 128) : (Int8.ofInt x).toInt32 = Int32.ofInt x := by
  apply Int32.toInt_inj.mp
  rw [Int8.toInt_toInt32, Int8.toInt_ofInt_of_le (by omega) (by omega), Int32.toInt_ofInt_of_le (by omega) (by omega)]
theorem en_b16 {x : Int} (h1 : -32768 ≤ x) (h2 : x < 32768) : (Int16.ofInt x).toInt32 = Int32.ofInt x := by
  apply Int32.toInt_inj.mp
  rw [Int16.toInt_toInt32, Int16.toInt_ofInt_of_le (by omega) (by omega), Int32.toInt_ofInt_of_le (by omega) (by omega)]
theorem en_nar_b : ∀ k, k < 256 → vp_nar .byte (en_d (2147483520 + k)) = en_d (2147483520 + k) := by decide +kernel
theorem en_nar_z : ∀ k, k < 2 → vp_nar .boolean (en_d (2147483648 + k)) = en_d (2147483648 + k) := by decide +kernel
section ENX
variable {E : mm_E} {kds : List (List Nat)} {P : mm_T} {L : Nat} {ρ : Nat → Int32} {ω : Nat → Value} {h0 : mm_H} {fsC : List mm_F} {FIN : mm_C → Prop}
theorem en_c_v {x : Int} (h1 : -2147483648 ≤ x) (h2 : x < 2147483648) : en_v E ρ ω (en_c x) (.int (Int32.ofInt x)) := by
  unfold en_c
  rw [en_v_const (by omega)]
  unfold en_d
  exact congrArg (fun z => Value.int (Int32.ofInt z)) (by omega)
theorem en_tgt_v {q : Nat} {off : Int} (h : en_tgt (q % 65536) off = true) : 0 ≤ ((q % 65536 : Nat) : Int) + off ∧ (q / 65536 * 65536 + (((q % 65536 : Nat) : Int) + off).toNat) / 65536 = q / 65536 ∧ (q / 65536 * 65536 + (((q % 65536 : Nat) : Int) + off).toNat) % 65536 = (((q % 65536 : Nat) : Int) + off).toNat := by
  unfold en_tgt at h
  simp only [Bool.and_eq_true, decide_eq_true_eq] at h
  omega
/-- loads and stores of rows, by kind -/
theorem en_ald_X {kd kd2 n : Nat} {N : Nat} {I : Int32} {a : Nat} {r : List Value} {cb sb : Nat} {h : mm_H} {lv : mm_V} (hkd : en_kind N = kd + 1 ∨ en_kind N = kd2 + 1) (hlt : kd < 3 ∧ kd2 < 3) (hc : en_cr E ρ ω N h[a]?) (hin : mm_inr I (en_len N) = true) (hj : I.toNatClampNeg < en_len N) : ∃ v, mm_ald E lv (.int I :: .ref (E.1 + a) :: r) cb sb h n kd kd2 = some (n, lv, v :: r, cb, sb, h) ∧ en_v E ρ ω (en_elt N I.toNatClampNeg) v := by
  rcases hc with ⟨t, f, q1, q2, q3, q4⟩ | ⟨f, q1, -⟩ | ⟨f, q1, -⟩ | ⟨c2, fs2, q1, -⟩
  · refine ⟨.int (f I.toNatClampNeg), ?_, q4 _ hj⟩
    unfold mm_ald
    simp only [en_mmcell, q3]
    rw [if_pos ⟨show (t : Nat) = kd ∨ (t : Nat) = kd2 by omega, hin⟩]
  · omega
  · omega
  · omega
theorem en_fit_1 {v : Nat} {V : Value} {k : Nat → Bool} {kind : Nat} (hk : kind = 1 ∨ kind = 2 ∨ kind = 3) (hv : en_v E ρ ω v V) (h : en_fit kind v k = true) : ∃ x v', V = .int x ∧ k v' = true ∧ en_v E ρ ω v' (.int (mm_nar (kind - 1) x)) := by
  unfold en_fit at h
  rcases en_if_or.mp h with ⟨a1, k1⟩ | ⟨a1, k1⟩
  · obtain ⟨a2, k2⟩ := en_if_and.mp k1
    obtain ⟨x, rfl⟩ := en_isI_int a2 hv
    refine ⟨x, v, rfl, k2, ?_⟩
    rw [en_beq_t.mp a1]
    exact hv
  · have a1 := en_beq_f.mp a1
    rcases en_if_or.mp k1 with ⟨a2, k2⟩ | ⟨-, k2⟩
    · have := en_beq_t.mp a2
      omega
    · rcases en_if_or.mp k2 with ⟨a3, k3⟩ | ⟨a3, k3⟩
      · have a3 := en_beq_t.mp a3
        subst a3
        rcases en_if_or.mp k3 with ⟨a4, k4⟩ | ⟨a4, k4⟩
        · obtain ⟨b1, k5⟩ := en_if_and.mp k4
          obtain ⟨b2, k6⟩ := en_if_and.mp k5
          have a4 := en_ble_t.mp a4
          have b1 := en_ble_t.mp b1
          have b2 := en_ble_t.mp b2
          have e := (en_v_const (by omega)).mp hv
          refine ⟨_, v, e, k6, ?_⟩
          rw [en_v_const (by omega)]
          have := en_nar_z (v - 2147483648) (by omega)
          rw [show 2147483648 + (v - 2147483648) = v by omega] at this
          exact congrArg Value.int this
        · obtain ⟨b1, k5⟩ := en_if_and.mp k4
          obtain ⟨x, rfl⟩ := en_isI_int b1 hv
          exact ⟨x, _, rfl, k5, en_any_v _⟩
      · obtain ⟨a5, k4⟩ := en_if_and.mp k3
        have a5 := en_beq_t.mp a5
        subst a5
        rcases en_if_or.mp k4 with ⟨a4, k4⟩ | ⟨a4, k4⟩
        · obtain ⟨b1, k5⟩ := en_if_and.mp k4
          obtain ⟨b2, k6⟩ := en_if_and.mp k5
          have a4 := en_ble_t.mp a4
          have b1 := en_ble_t.mp b1
          have b2 := en_ble_t.mp b2
          have e := (en_v_const (by omega)).mp hv
          refine ⟨_, v, e, k6, ?_⟩
          rw [en_v_const (by omega)]
          have := en_nar_b (v - 2147483520) (by omega)
          rw [show 2147483520 + (v - 2147483520) = v by omega] at this
          exact congrArg Value.int this
        · obtain ⟨b1, k5⟩ := en_if_and.mp k4
          obtain ⟨x, rfl⟩ := en_isI_int b1 hv
          exact ⟨x, _, rfl, k5, en_any_v _⟩
theorem en_ast_X {kd kd2 n : Nat} {lv : mm_V} {V : Value} {v : Nat} {k : Nat → Bool} {I : Int32} {a : Nat} {r : List Value} {cb sb : Nat} {h : mm_H} {N : Nat} (hkd : en_kind N = kd + 1 ∨ en_kind N = kd2 + 1) (hlt : kd < 3 ∧ kd2 < 3) (hc : en_cr E ρ ω N h[a]?) (hv : en_v E ρ ω v V) (hf : en_fit (en_kind N) v k = true) : ∃ v', k v' = true ∧ (mm_inr I (en_len N) = true → I.toNatClampNeg < en_len N → ∃ e', mm_ast E lv (V :: .int I :: .ref (E.1 + a) :: r) cb sb h n kd kd2 = some (n, lv, r, cb, sb, h.set a e') ∧ en_cr E ρ ω (en_eset N I.toNatClampNeg v') (some e')) := by
  obtain ⟨x, v', rfl, h1, h2⟩ := en_fit_1 (by omega) hv hf
  refine ⟨v', h1, fun hin hj => ?_⟩
  rcases hc with ⟨t, f, q1, q2, q3, q4⟩ | ⟨f, q1, -⟩ | ⟨f, q1, -⟩ | ⟨c2, fs2, q1, -⟩
  · refine ⟨.inl (t, en_len N, .inl (upd f I.toNatClampNeg (mm_nar t x))), ?_, Or.inl ⟨t, upd f I.toNatClampNeg (mm_nar t x), by rw [en_eset_kind]; exact q1, q2, by rw [en_eset_len], fun j hj2 => ?_⟩⟩
    · unfold mm_ast
      simp only [en_mmcell, q3]
      rw [if_pos ⟨show (t : Nat) = kd ∨ (t : Nat) = kd2 by omega, hin⟩, Nat.add_sub_cancel_left]
    · rw [en_eset_len] at hj2
      rw [en_elt_eset (en_v_68 h2)]
      by_cases hji : j = I.toNatClampNeg
      · rw [if_pos hji]
        have e : upd f I.toNatClampNeg (mm_nar t x) j = mm_nar t x := by rw [hji]; exact pk_us
        rw [e]
        rw [q1] at h2
        exact h2
      · rw [if_neg hji, pk_un hji]
        exact q4 j hj2
  · omega
  · omega
  · omega
theorem en_last_X {n : Nat} {lv : mm_V} {V : Value} {v : Nat} {k : Nat → Bool} {I : Int32} {a : Nat} {r : List Value} {cb sb : Nat} {h : mm_H} {N : Nat} (hkd : en_kind N = 4) (hc : en_cr E ρ ω N h[a]?) (hv : en_v E ρ ω v V) (hf : en_fit (en_kind N) v k = true) : ∃ v', k v' = true ∧ (mm_inr I (en_len N) = true → I.toNatClampNeg < en_len N → ∃ e', mm_last E lv (V :: .int I :: .ref (E.1 + a) :: r) cb sb h n = some (n, lv, r, cb, sb, h.set a e') ∧ en_cr E ρ ω (en_eset N I.toNatClampNeg v') (some e')) := by
  rw [hkd] at hf
  have hf2 : en_if (en_isL v) (k v) false = true := hf
  obtain ⟨a1, k1⟩ := en_if_and.mp hf2
  obtain ⟨x, rfl⟩ := en_isL_long a1 hv
  refine ⟨v, k1, fun hin hj => ?_⟩
  rcases hc with ⟨t, f, q1, q2, q3, q4⟩ | ⟨f, q1, q3, q4⟩ | ⟨f, q1, -⟩ | ⟨c2, fs2, q1, -⟩
  · omega
  · refine ⟨.inl (3, en_len N, .inr (.inl (vp_updL f I.toNatClampNeg x))), ?_, Or.inr (Or.inl ⟨vp_updL f I.toNatClampNeg x, by rw [en_eset_kind]; exact q1, by rw [en_eset_len], fun j hj2 => ?_⟩)⟩
    · unfold mm_last
      simp only [en_mmcell, q3]
      rw [if_pos ⟨trivial, hin⟩, Nat.add_sub_cancel_left]
    · rw [en_eset_len] at hj2
      rw [en_elt_eset (en_v_68 hv)]
      by_cases hji : j = I.toNatClampNeg
      · rw [if_pos hji, hji, pk_uLs]
        exact hv
      · rw [if_neg hji, pk_uLn hji]
        exact q4 j hj2
  · omega
  · omega
theorem en_lald_X {n : Nat} {N : Nat} {I : Int32} {a : Nat} {r : List Value} {cb sb : Nat} {h : mm_H} {lv : mm_V} (hkd : en_kind N = 4) (hc : en_cr E ρ ω N h[a]?) (hin : mm_inr I (en_len N) = true) (hj : I.toNatClampNeg < en_len N) : ∃ v, mm_lald E lv (.int I :: .ref (E.1 + a) :: r) cb sb h n = some (n, lv, v :: r, cb, sb, h) ∧ en_v E ρ ω (en_elt N I.toNatClampNeg) v := by
  rcases hc with ⟨t, f, q1, q2, q3, q4⟩ | ⟨f, q1, q3, q4⟩ | ⟨f, q1, -⟩ | ⟨c2, fs2, q1, -⟩
  · omega
  · refine ⟨.long (f I.toNatClampNeg), ?_, q4 _ hj⟩
    unfold mm_lald
    simp only [en_mmcell, q3]
    rw [if_pos ⟨trivial, hin⟩]
  · omega
  · omega
theorem en_aald_X {n : Nat} {N : Nat} {I : Int32} {a : Nat} {r : List Value} {cb sb : Nat} {h : mm_H} {lv : mm_V} (hkd : en_kind N = 5) (hc : en_cr E ρ ω N h[a]?) (hin : mm_inr I (en_len N) = true) (hj : I.toNatClampNeg < en_len N) : ∃ v, mm_aald E lv (.int I :: .ref (E.1 + a) :: r) cb sb h n = some (n, lv, v :: r, cb, sb, h) ∧ en_v E ρ ω (en_elt N I.toNatClampNeg) v := by
  rcases hc with ⟨t, f, q1, q2, q3, q4⟩ | ⟨f, q1, q3, q4⟩ | ⟨f, q1, q3, q4⟩ | ⟨c2, fs2, q1, -⟩
  · omega
  · omega
  · refine ⟨va_rf (f I.toNatClampNeg), ?_, q4 _ hj⟩
    unfold mm_aald
    simp only [en_mmcell, q3]
    rw [if_pos ⟨trivial, hin⟩]
  · omega
set_option maxHeartbeats 4000000 in
set_option maxRecDepth 100000 in
theorem en_comp_v {SA : List (Nat × Nat)} (hSA : en_SA E ρ ω SA) {fin : List Nat → en_H → en_W → Bool} (hfin : en_FS E kds P L ρ ω h0 fsC FIN fin) (hPn : ∀ (k : Nat) (cs : List (List mm_I)) (nL : Nat) (dd : mm_M), P[k]? = some (cs, nL, dd) → nL < 16777216) {q len a b wd nL np kd ci rk mc ms : Nat} {z : Int} {ins : Instr} {q0 : Nat} (hat : mm_at P (q / 65536) (q % 65536) = some ((q0, len, ins, a, b, z, wd), nL, (np, kd, ci, rk, mc, ms))) (hlen : q % 65536 + len < 65536) {o : en_O}
    (hc : en_comp SA fin kds P (q / 65536) (q % 65536) nL rk ins len a b z q (q + len) (fun off => q / 65536 * 65536 + (((q % 65536 : Nat) : Int) + off).toNat) = some o) : en_OS E kds P L ρ ω h0 fsC FIN q o := by
  obtain ⟨cs, hP, -, -⟩ := rf_mmat hat
  have hn1 : (q + len) / 65536 = q / 65536 := by omega
  have hn2 : (q + len) % 65536 = q % 65536 + len := by omega
  cases ins
  case iconst x =>
    simp only [en_comp] at hc
    split at hc <;> cases hc
    rename_i hr
    exact en_O_push hP (en_step1 hat rfl rfl) hn1 (en_c_v hr.1 hr.2) (fun lv sv cb sb h => by simp only [mm_ex, hn2])
  case bipush x =>
    simp only [en_comp] at hc
    split at hc <;> cases hc
    rename_i hr
    exact en_O_push hP (en_step1 hat rfl rfl) hn1 (en_c_v (by omega) (by omega)) (fun lv sv cb sb h => by simp only [mm_ex, hn2, en_b8 hr.1 hr.2])
  case sipush x =>
    simp only [en_comp] at hc
    split at hc <;> cases hc
    rename_i hr
    exact en_O_push hP (en_step1 hat rfl rfl) hn1 (en_c_v (by omega) (by omega)) (fun lv sv cb sb h => by simp only [mm_ex, hn2, en_b16 hr.1 hr.2])
  case ldc x =>
    simp only [en_comp] at hc
    split at hc <;> cases hc
    rename_i hr
    exact en_O_push hP (en_step1 hat rfl rfl) hn1 (en_c_v hr.1 hr.2) (fun lv sv cb sb h => by simp only [mm_ex, hn2])
  case ldc_w x =>
    simp only [en_comp] at hc
    split at hc <;> cases hc
    rename_i hr
    exact en_O_push hP (en_step1 hat rfl rfl) hn1 (en_c_v hr.1 hr.2) (fun lv sv cb sb h => by simp only [mm_ex, hn2])
  case lconst x =>
    cases hc
    have hx := x.isLt
    refine en_O_push (v := .long (Int64.ofNat (x : Nat))) hP (en_step1 hat rfl rfl) hn1 ?_ (fun lv sv cb sb h => by simp only [mm_ex, hn2])
    rw [en_v_long (by omega) (by omega), Nat.add_sub_cancel_left]
  case ldc2_w x =>
    simp only [en_comp] at hc
    split at hc <;> cases hc
    rename_i hr
    refine en_O_push (v := .long (Int64.ofInt z)) hP (en_step1 hat rfl rfl) hn1 ?_ (fun lv sv cb sb h => by simp only [mm_ex, hn2])
    rw [en_v_long (by omega) (by omega), Nat.add_sub_cancel_left]
    have e : z = ((z.toNat : Nat) : Int) := (Int.toNat_of_nonneg hr.1).symm
    have e2 : Int64.ofInt ((z.toNat : Nat) : Int) = Int64.ofNat z.toNat := Int64.ofInt_eq_ofNat
    rw [← e2, ← e]
  case iload_n k =>
    simp only [en_comp] at hc
    split at hc <;> cases hc
    rename_i hr
    exact en_O_load hP (en_step1 hat rfl rfl) hn1 hr (fun c v h1 h2 => by obtain ⟨x, rfl⟩ := en_isI_int h1 h2; rfl) (by decide) (fun lv sv cb sb h => by simp only [mm_ex, hn2])
  case iload k =>
    simp only [en_comp] at hc
    split at hc <;> cases hc
    rename_i hr
    exact en_O_load hP (en_step1 hat rfl rfl) hn1 hr (fun c v h1 h2 => by obtain ⟨x, rfl⟩ := en_isI_int h1 h2; rfl) (by decide) (fun lv sv cb sb h => by simp only [mm_ex, hn2])
  case lload_n k =>
    simp only [en_comp] at hc
    split at hc <;> cases hc
    rename_i hr
    exact en_O_load hP (en_step1 hat rfl rfl) hn1 hr (fun c v h1 h2 => by obtain ⟨x, rfl⟩ := en_isL_long h1 h2; rfl) (by decide) (fun lv sv cb sb h => by simp only [mm_ex, hn2])
  case lload k =>
    simp only [en_comp] at hc
    split at hc <;> cases hc
    rename_i hr
    exact en_O_load hP (en_step1 hat rfl rfl) hn1 hr (fun c v h1 h2 => by obtain ⟨x, rfl⟩ := en_isL_long h1 h2; rfl) (by decide) (fun lv sv cb sb h => by simp only [mm_ex, hn2])
  case aload_n k =>
    simp only [en_comp] at hc
    split at hc <;> cases hc
    rename_i hr
    exact en_O_load hP (en_step1 hat rfl rfl) hn1 hr (fun c v h1 h2 => by obtain ⟨x, rfl⟩ := en_isR_ref h1 h2; rfl) (by decide) (fun lv sv cb sb h => by simp only [mm_ex, hn2])
  case aload k =>
    simp only [en_comp] at hc
    split at hc <;> cases hc
    rename_i hr
    exact en_O_load hP (en_step1 hat rfl rfl) hn1 hr (fun c v h1 h2 => by obtain ⟨x, rfl⟩ := en_isR_ref h1 h2; rfl) (by decide) (fun lv sv cb sb h => by simp only [mm_ex, hn2])
  case istore_n k =>
    simp only [en_comp] at hc
    split at hc <;> cases hc
    rename_i hr
    exact en_O_store (kd := 0) hP (en_step1 hat rfl rfl) hn1 hr (by decide) (fun c v h1 h2 => by obtain ⟨x, rfl⟩ := en_isI_int h1 h2; rfl) (fun lv sv cb sb h => by simp only [mm_ex, hn2])
  case istore k =>
    simp only [en_comp] at hc
    split at hc <;> cases hc
    rename_i hr
    exact en_O_store (kd := 0) hP (en_step1 hat rfl rfl) hn1 hr (by decide) (fun c v h1 h2 => by obtain ⟨x, rfl⟩ := en_isI_int h1 h2; rfl) (fun lv sv cb sb h => by simp only [mm_ex, hn2])
  case astore_n k =>
    simp only [en_comp] at hc
    split at hc <;> cases hc
    rename_i hr
    exact en_O_store (kd := 2) hP (en_step1 hat rfl rfl) hn1 hr (by decide) (fun c v h1 h2 => by obtain ⟨x, rfl⟩ := en_isR_ref h1 h2; rfl) (fun lv sv cb sb h => by simp only [mm_ex, hn2])
  case astore k =>
    simp only [en_comp] at hc
    split at hc <;> cases hc
    rename_i hr
    exact en_O_store (kd := 2) hP (en_step1 hat rfl rfl) hn1 hr (by decide) (fun c v h1 h2 => by obtain ⟨x, rfl⟩ := en_isR_ref h1 h2; rfl) (fun lv sv cb sb h => by simp only [mm_ex, hn2])
  case lstore_n k =>
    simp only [en_comp] at hc
    split at hc <;> cases hc
    rename_i hr
    exact en_O_storeL hP (en_step1 hat rfl rfl) hn1 hr (fun lv sv cb sb h => by simp only [mm_ex, hn2])
  case lstore k =>
    simp only [en_comp] at hc
    split at hc <;> cases hc
    rename_i hr
    exact en_O_storeL hP (en_step1 hat rfl rfl) hn1 hr (fun lv sv cb sb h => by simp only [mm_ex, hn2])
  case iinc i x =>
    simp only [en_comp] at hc
    split at hc <;> cases hc
    rename_i hr
    exact en_O_iinc hP (en_step1 hat rfl rfl) hn1 hr.1 hr.2.1 hr.2.2 (fun lv sv cb sb h => by simp only [mm_ex, hn2]; cases mm_get lv i with
      | none => rfl
      | some v => cases v <;> rfl)
  case iadd => cases hc; exact en_O_bin hP (en_step1 hat rfl rfl) hn1 en_add_G (fun lv sv cb sb h => by simp only [mm_ex, hn2])
  case isub => cases hc; exact en_O_bin hP (en_step1 hat rfl rfl) hn1 en_sub_G (fun lv sv cb sb h => by simp only [mm_ex, hn2])
  case imul => cases hc; exact en_O_bin hP (en_step1 hat rfl rfl) hn1 en_mul_G (fun lv sv cb sb h => by simp only [mm_ex, hn2])
  case idiv => cases hc; exact en_O_bin hP (en_step1 hat rfl rfl) hn1 en_div_G (fun lv sv cb sb h => by simp only [mm_ex, hn2])
  case irem => cases hc; exact en_O_bin hP (en_step1 hat rfl rfl) hn1 en_rem_G (fun lv sv cb sb h => by simp only [mm_ex, hn2])
  case iand => cases hc; exact en_O_bin hP (en_step1 hat rfl rfl) hn1 en_and_G (fun lv sv cb sb h => by simp only [mm_ex, hn2])
  case ior => cases hc; exact en_O_bin hP (en_step1 hat rfl rfl) hn1 en_or_G (fun lv sv cb sb h => by simp only [mm_ex, hn2])
  case ishl => cases hc; exact en_O_bin hP (en_step1 hat rfl rfl) hn1 en_shl_G (fun lv sv cb sb h => by simp only [mm_ex, hn2])
  case ishr => cases hc; exact en_O_bin hP (en_step1 hat rfl rfl) hn1 en_shr_G (fun lv sv cb sb h => by simp only [mm_ex, hn2])
  case iushr => cases hc; exact en_O_bin hP (en_step1 hat rfl rfl) hn1 (en_any_G (r := fun x y => (x.toUInt32 >>> (y.toUInt32 &&& Int32.toUInt32 31)).toInt32)) (fun lv sv cb sb h => by simp only [mm_ex, hn2])
  case ixor => cases hc; exact en_O_bin hP (en_step1 hat rfl rfl) hn1 (en_any_G (r := fun x y => x ^^^ y)) (fun lv sv cb sb h => by simp only [mm_ex, hn2])
  case ineg => cases hc; exact en_O_un (r := fun x => -x) hP (en_step1 hat rfl rfl) hn1 (fun lv sv cb sb h => by simp only [mm_ex, hn2])
  case i2b => cases hc; exact en_O_un (r := fun x => x.toInt8.toInt32) hP (en_step1 hat rfl rfl) hn1 (fun lv sv cb sb h => by simp only [mm_ex, hn2])
  case i2c => cases hc; exact en_O_un (r := fun x => (x.toUInt32 % 65536).toInt32) hP (en_step1 hat rfl rfl) hn1 (fun lv sv cb sb h => by simp only [mm_ex, hn2])
  case i2l => cases hc; exact en_O_i2l hP (en_step1 hat rfl rfl) hn1 (fun lv sv cb sb h => by simp only [mm_ex, hn2])
  case ladd => cases hc; exact en_O_binL (r := fun x y => x + y) hP (en_step1 hat rfl rfl) hn1 (fun a b => lN_add a b) (fun lv sv cb sb h => by simp only [mm_ex, hn2])
  case lmul => cases hc; exact en_O_binL (r := fun x y => x * y) hP (en_step1 hat rfl rfl) hn1 (fun a b => lN_mul a b) (fun lv sv cb sb h => by simp only [mm_ex, hn2])
  case dup => cases hc; exact en_O_dup hP (en_step1 hat rfl rfl) hn1 (fun lv v sv cb sb h hv => by simp only [mm_ex, hn2]; rw [if_pos hv])
  case pop => cases hc; exact en_O_drop hP (en_step1 hat rfl rfl) hn1 (fun lv v sv cb sb h hv => by simp only [mm_ex, hn2]; rw [if_pos hv])
  case dup2 => cases hc; exact en_O_dup2 hP (en_step1 hat rfl rfl) hn1 (fun lv v u sv cb sb h hv => by simp only [mm_ex, hn2]; rw [if_pos hv])
  case if_icmp k off =>
    simp only [en_comp] at hc
    split at hc <;> cases hc
    rename_i hr
    obtain ⟨t1, t2, t3⟩ := en_tgt_v hr
    exact en_O_icmp hP (en_step1 hat rfl rfl) hn1 t2 (fun lv x y sv cb sb h => by simp only [mm_ex, mm_jump, hn2, t3]; rw [if_pos t1])
  case ifCond k off =>
    simp only [en_comp] at hc
    split at hc <;> cases hc
    rename_i hr
    obtain ⟨t1, t2, t3⟩ := en_tgt_v hr
    exact en_O_if0 hP (en_step1 hat rfl rfl) hn1 t2 (fun lv x sv cb sb h => by simp only [mm_ex, mm_jump, hn2, t3]; rw [if_pos t1])
  case goto off =>
    simp only [en_comp] at hc
    split at hc <;> cases hc
    rename_i hr
    obtain ⟨t1, t2, t3⟩ := en_tgt_v hr
    exact en_O_goto hP (en_step1 hat rfl rfl) t2 (fun lv sv cb sb h => by simp only [mm_ex, mm_jump, t3]; rw [if_pos t1])
  case tableswitch dflt lo hi offs =>
    simp only [en_comp] at hc
    split at hc <;> cases hc
    rename_i hr
    obtain ⟨r1, r2, r3, r4, r5, r6⟩ := hr
    obtain ⟨t1, t2, t3⟩ := en_tgt_v r5
    have r6 := List.all_eq_true.mp r6
    have ecl : ((en_c lo : Nat) : Int) = lo + 2147483648 := by unfold en_c; omega
    refine en_O_sw hP (en_step1 hat rfl rfl) t2 (fun x hx => ?_) (by omega) (by simp; omega) (fun lv I sv cb sb h hI => ?_) (fun lv I sv cb sb h t h1 h2 ht => ?_)
    · obtain ⟨off, ho, rfl⟩ := List.mem_map.mp hx
      exact (en_tgt_v (r6 off ho)).2.1
    · have hz := en_z_int I
      simp only [mm_ex, mm_sw, mm_jump, t3]
      rw [if_pos (by omega), if_pos t1]
    · have hz := en_z_int I
      simp only [mm_ex, mm_sw]
      rw [if_neg (by omega)]
      rw [List.getElem?_map] at ht
      have ei : en_z I - en_c lo = (I.toInt - lo).toNat := by omega
      rw [ei] at ht
      cases hof : offs.toList[(I.toInt - lo).toNat]? with
      | none => rw [hof] at ht; cases ht
      | some off =>
        rw [hof] at ht
        cases ht
        rw [Array.getElem?_toList] at hof
        obtain ⟨u1, u2, u3⟩ := en_tgt_v (r6 off (List.mem_of_getElem? (by rw [Array.getElem?_toList]; exact hof)))
        rw [hof]
        simp only [mm_jump]
        rw [if_pos u1, u3]
  case getstatic i =>
    simp only [en_comp] at hc
    split at hc <;> cases hc
    rename_i hr
    have hsa : SA[a]? = some SA[a] := List.getElem?_eq_getElem hr.2
    obtain ⟨qq, q', g1, -⟩ := hSA a SA[a].1 SA[a].2 hsa
    refine en_O_push (v := .ref qq.1) hP (en_step1 hat rfl rfl) hn1 ?_ (fun lv sv cb sb h => by simp only [mm_ex, hn2, g1])
    rw [en_v_stat (by omega) (by omega), Nat.add_sub_cancel_left]
    exact ⟨qq, g1, rfl⟩
  case iaload =>
    cases hc
    refine en_O_aload hP (en_step1 hat rfl rfl) hn1 hSA (by decide) (fun lv I a2 r cb sb h N ht hcr hin hj => ?_) (fun _ lv I a2 r cb sb h q' hlt hst hin => ?_)
    · simp only [mm_ex, ← hn2]
      exact en_ald_X (Or.inl (by have := en_beq_t.mp ht; omega)) (by decide) hcr hin hj
    · have e1 : mm_cell E h a2 = none := by unfold mm_cell; rw [if_neg (by omega)]
      simp only [mm_ex, mm_ald, e1, hst, hn2]
      rw [if_pos ⟨trivial, hin⟩]
  case baload =>
    cases hc
    refine en_O_aload hP (en_step1 hat rfl rfl) hn1 hSA (by decide) (fun lv I a2 r cb sb h N ht hcr hin hj => ?_) (fun ht => absurd ht (by decide))
    simp only [mm_ex, ← hn2]
    refine en_ald_X ?_ (by decide) hcr hin hj
    rcases en_if_or.mp ht with ⟨a1, -⟩ | ⟨-, a1⟩
    · have := en_beq_t.mp a1; omega
    · have := en_beq_t.mp a1; omega
  case laload =>
    cases hc
    refine en_O_aload hP (en_step1 hat rfl rfl) hn1 hSA (by decide) (fun lv I a2 r cb sb h N ht hcr hin hj => ?_) (fun ht => absurd ht (by decide))
    simp only [mm_ex, ← hn2]
    exact en_lald_X (en_beq_t.mp ht) hcr hin hj
  case aaload =>
    cases hc
    refine en_O_aload hP (en_step1 hat rfl rfl) hn1 hSA (by decide) (fun lv I a2 r cb sb h N ht hcr hin hj => ?_) (fun ht => absurd ht (by decide))
    simp only [mm_ex, ← hn2]
    exact en_aald_X (en_beq_t.mp ht) hcr hin hj
  case iastore =>
    cases hc
    refine en_O_astore hP (en_step1 hat rfl rfl) hn1 (by decide) (fun lv V v k I a2 r cb sb h N ht hcr hv hf => ?_)
    simp only [mm_ex, ← hn2]
    exact en_ast_X (Or.inl (by have := en_beq_t.mp ht; omega)) (by decide) hcr hv hf
  case bastore =>
    cases hc
    refine en_O_astore hP (en_step1 hat rfl rfl) hn1 (by decide) (fun lv V v k I a2 r cb sb h N ht hcr hv hf => ?_)
    simp only [mm_ex, ← hn2]
    refine en_ast_X ?_ (by decide) hcr hv hf
    rcases en_if_or.mp ht with ⟨a1, -⟩ | ⟨-, a1⟩
    · have := en_beq_t.mp a1; omega
    · have := en_beq_t.mp a1; omega
  case lastore =>
    cases hc
    refine en_O_astore hP (en_step1 hat rfl rfl) hn1 (by decide) (fun lv V v k I a2 r cb sb h N ht hcr hv hf => ?_)
    simp only [mm_ex, ← hn2]
    exact en_last_X (en_beq_t.mp ht) hcr hv hf
  case arraylength => cases hc; exact en_O_alen hP (en_step1 hat rfl rfl) hn1 hSA (fun lv sv cb sb h => by simp only [mm_ex, hn2])
  case getfield i => cases hc; exact en_O_getf hP (en_step1 hat rfl rfl) hn1 (fun lv sv cb sb h => by simp only [mm_ex, hn2])
  case putfield i =>
    simp only [en_comp] at hc
    split at hc
    · rename_i l hl
      split at hc
      · rename_i kd2 hkd2
        cases hc
        exact en_O_putf hP (en_step1 hat rfl rfl) hn1 (fun lv sv cb sb h => by simp only [mm_ex, hn2, hl, hkd2])
      · cases hc
    · cases hc
  case new i =>
    simp only [en_comp] at hc
    split at hc
    · rename_i ha
      split at hc
      · rename_i l hl
        split at hc
        · rename_i hll
          cases hc
          exact en_O_newo hP (en_step1 hat rfl rfl) hn1 ha hll (fun lv sv cb sb h => by simp only [mm_ex, hn2, hl])
        · cases hc
      · cases hc
    · cases hc
  case newarray t =>
    cases t <;> simp only [en_comp, reduceCtorEq] at hc <;> cases hc
    · refine en_O_newa (mk := fun m => .inl (2, m, .inl (fun _ => 0))) hP (en_step1 hat rfl rfl) hn1 (by decide) (by decide) (fun N m hm h1 h2 h3 => Or.inl ⟨2, fun _ => 0, h1, by decide, by rw [h2], fun j hj => ?_⟩) (fun lv I sv cb sb h hI => by simp only [mm_ex, mm_newa, hn2]; rw [if_pos hI])
      rw [h3 j (by omega), en_v_const (by decide), en_d_zero]
    · refine en_O_newa (mk := fun m => .inl (1, m, .inl (fun _ => 0))) hP (en_step1 hat rfl rfl) hn1 (by decide) (by decide) (fun N m hm h1 h2 h3 => Or.inl ⟨1, fun _ => 0, h1, by decide, by rw [h2], fun j hj => ?_⟩) (fun lv I sv cb sb h hI => by simp only [mm_ex, mm_newa, hn2]; rw [if_pos hI])
      rw [h3 j (by omega), en_v_const (by decide), en_d_zero]
    · refine en_O_newa (mk := fun m => .inl (0, m, .inl (fun _ => 0))) hP (en_step1 hat rfl rfl) hn1 (by decide) (by decide) (fun N m hm h1 h2 h3 => Or.inl ⟨0, fun _ => 0, h1, by decide, by rw [h2], fun j hj => ?_⟩) (fun lv I sv cb sb h hI => by simp only [mm_ex, mm_newa, hn2]; rw [if_pos hI])
      rw [h3 j (by omega), en_v_const (by decide), en_d_zero]
    · refine en_O_newa (mk := fun m => .inl (3, m, .inr (.inl (fun _ => 0)))) hP (en_step1 hat rfl rfl) hn1 (by decide) (by decide) (fun N m hm h1 h2 h3 => Or.inr (Or.inl ⟨fun _ => 0, h1, by rw [h2], fun j hj => ?_⟩)) (fun lv I sv cb sb h hI => by simp only [mm_ex, mm_newa, hn2]; rw [if_pos hI])
      rw [h3 j (by omega), en_v_long (by decide) (by decide)]
      rfl
  case multianewarray i dims =>
    rcases dims with _ | _ | _ | dims
    · cases hc
    · cases hc
    · cases hc
      exact en_O_mna hP (en_step1 hat rfl rfl) hn1 (fun lv sv cb sb h => by simp only [mm_ex, hn2])
    · cases hc
  case return_ => cases hc; exact en_O_ret hP hat rfl rfl hfin
  case ireturn => cases hc; exact en_O_ret hP hat rfl rfl hfin
  case lreturn => cases hc; exact en_O_ret hP hat rfl rfl hfin
  case invokestatic i =>
    simp only [en_comp] at hc
    split at hc
    · rename_i ha
      cases hc
      subst ha
      exact en_O_copy hP hat rfl hn1 hn2
    · split at hc
      · cases hc
      · rename_i ha
        split at hc
        · rename_i cs1 nL1 np1 kd1 ci1 rk1 mc1 ms1 hPa
          split at hc
          · rename_i hkd
            cases hc
            subst hkd
            exact en_O_call hP hat rfl ha hn1 hn2 hPa (hPn _ _ _ _ hPa)
          · cases hc
        · cases hc
  case invokevirtual i =>
    simp only [en_comp] at hc
    split at hc
    · cases hc
    · rename_i ha
      split at hc
      · rename_i cs1 nL1 np1 kd1 ci1 rk1 mc1 ms1 hPa
        split at hc
        · rename_i hkd
          cases hc
          subst hkd
          exact en_O_call hP hat rfl ha hn1 hn2 hPa (hPn _ _ _ _ hPa)
        · cases hc
      · cases hc
  case invokespecial i =>
    simp only [en_comp] at hc
    split at hc
    · rename_i ha
      cases hc
      subst ha
      exact en_O_oinit hP hat rfl hn1 hn2
    · split at hc
      · cases hc
      · rename_i ha
        split at hc
        · rename_i cs1 nL1 np1 kd1 ci1 rk1 mc1 ms1 hPa
          split at hc
          · rename_i hkd
            cases hc
            subst hkd
            exact en_O_call hP hat rfl ha hn1 hn2 hPa (hPn _ _ _ _ hPa)
          · cases hc
        · cases hc
  all_goals (exact absurd hc (by simp [en_comp]))
theorem en_run_v {SA : List (Nat × Nat)} (hSA : en_SA E ρ ω SA) {fin : List Nat → en_H → en_W → Bool} (hfin : en_FS E kds P L ρ ω h0 fsC FIN fin) (hPn : ∀ (k : Nat) (cs : List (List mm_I)) (nL : Nat) (dd : mm_M), P[k]? = some (cs, nL, dd) → nL < 16777216) {tb : en_T} (htb : ∀ q hk o, tb q = some hk → en_OS E kds P L ρ ω h0 fsC FIN q o → en_OS E kds P L ρ ω h0 fsC FIN q (hk o)) (n : Nat) : en_S E kds P L ρ ω h0 fsC FIN (en_run SA fin kds P tb n) := by
  induction n with
  | zero => intro q loc st hp w c h; cases h
  | succ n ih =>
    intro q loc st hp w c h hR
    cases q with
    | zero => cases h
    | succ q =>
      have h9 : (Option.rec (motive := fun _ => Bool) false (fun o => o loc st hp w (en_run SA fin kds P tb n)) (en_fetch SA fin kds P tb (Nat.succ q)) : Bool) = true := h
      cases hf : en_fetch SA fin kds P tb (Nat.succ q) with
      | none => rw [hf] at h9; cases h9
      | some o =>
        rw [hf] at h9
        have hos : en_OS E kds P L ρ ω h0 fsC FIN (Nat.succ q) o := by
          unfold en_fetch at hf
          split at hf
          · cases hf
          · rename_i q0 len ins a b z wd nL np kd ci rk mc ms hat
            split at hf
            · cases hf
            · rename_i hlen
              split at hf
              · cases hf
              · rename_i o1 hc
                have h1 := en_comp_v (h0 := h0) hSA hfin hPn hat (by omega) hc
                split at hf
                · cases hf
                  exact h1
                · rename_i hk htq
                  cases hf
                  exact htb _ hk o1 htq h1
        exact hos loc st hp w _ c ih h9 hR
end ENX
end
section
/-! A run of the mini machine down to its last frame is a big step -/
section SMB
variable {E : mm_E} {kds : List (List Nat)} {P : mm_T}
theorem mm_big_mono (n : Nat) : ∀ (d : Nat) (f : mm_F) (h : mm_H) (r : Option Value × mm_H), mm_big E kds P n d f h = some r → mm_big E kds P (n + 1) d f h = some r := by
  induction n with
  | zero => intro d f h r hh; cases hh
  | succ n ih =>
    intro d f h r hh
    obtain ⟨m, pc, lv, st, cb, sb⟩ := f
    cases hat : mm_at P m pc with
    | none => simp [mm_big, hat] at hh
    | some q =>
      obtain ⟨⟨q0, len, ins, a, b, z, wd⟩, nL, np, kd, ci, rk, mc, ms⟩ := q
      rw [mm_big] at hh ⊢
      simp only [hat] at hh ⊢
      cases hi : mm_inv ins with
      | some ik =>
        simp only [hi] at hh ⊢
        by_cases hd : d = 0
        · rw [if_pos hd] at hh; cases hh
        · rw [if_neg hd] at hh ⊢
          by_cases ha : a < 2
          · rw [if_pos ha] at hh ⊢
            cases hs : mm_sp E a ik lv st cb sb h (pc + len) with
            | none => rw [hs] at hh; cases hh
            | some q =>
              obtain ⟨pc', lv', st', cb', sb', h'⟩ := q
              rw [hs] at hh
              exact ih _ _ _ _ hh
          · rw [if_neg ha] at hh ⊢
            cases hp : P[a]? with
            | none => rw [hp] at hh; cases hh
            | some q =>
              obtain ⟨cs1, nL1, np1, kd1, ci1, rk1, mc1, ms1⟩ := q
              rw [hp] at hh
              simp only [] at hh ⊢
              split at hh
              · rename_i hc
                rw [if_pos hc]
                cases hv : mm_recv E h kd1 ci1 (st.drop np1) with
                | none => rw [hv] at hh; cases hh
                | some q =>
                  obtain ⟨rv, rr⟩ := q
                  rw [hv] at hh
                  simp only [] at hh ⊢
                  split at hh
                  · rename_i hc2
                    rw [if_pos hc2]
                    cases hb : mm_big E kds P n (d - 1) (a, 0, lv_args 0 (rv ++ (st.take np1).reverse), [], mc1, ms1) h with
                    | none => rw [hb] at hh; cases hh
                    | some q =>
                      obtain ⟨v1, h1⟩ := q
                      rw [hb] at hh
                      rw [ih _ _ _ _ hb]
                      exact ih _ _ _ _ hh
                  · cases hh
              · cases hh
      | none =>
        simp only [hi] at hh ⊢
        cases hr : mm_rtn ins with
        | some ik =>
          simp only [hr] at hh ⊢
          exact hh
        | none =>
          simp only [hr] at hh ⊢
          cases hx : mm_ex E kds nL ins len a b z pc lv st cb sb h with
          | none => rw [hx] at hh; cases hh
          | some q =>
            obtain ⟨pc', lv', st', cb', sb', h'⟩ := q
            rw [hx] at hh
            exact ih _ _ _ _ hh
theorem mm_big_le {n k d : Nat} {f : mm_F} {h : mm_H} {r : Option Value × mm_H} (hh : mm_big E kds P n d f h = some r) : mm_big E kds P (n + k) d f h = some r := by
  induction k with
  | zero => exact hh
  | succ k ih => exact mm_big_mono _ _ _ _ _ ih
theorem mm_run_big {L : Nat} (hF : mm_H) (vF : Option Value) : ∀ (n : Nat) (f : mm_F) (fs : List mm_F) (h : mm_H) (o : Option Value), fs.length < L → mm_run E kds P L n (f :: fs, h, o) = some ([], hF, vF) → ∃ N v1 h1 k, mm_big E kds P N (L - 1 - fs.length) f h = some (v1, h1) ∧ k < n ∧ mm_run E kds P L k (mm_back v1 fs h1) = some ([], hF, vF) := by
  intro n
  induction n using Nat.strongRecOn with
  | _ n ih =>
    intro f fs h o hl hh
    cases n with
    | zero => cases hh
    | succ n =>
      have hh2 : (match mm_stp E kds P L (f :: fs, h, o) with
        | some c' => mm_run E kds P L n c'
        | none => none) = some ([], hF, vF) := hh
      cases hs : mm_stp E kds P L (f :: fs, h, o) with
      | none => rw [hs] at hh2; cases hh2
      | some c' =>
        rw [hs] at hh2
        simp only [] at hh2
        obtain ⟨m, pc, lv, st, cb, sb⟩ := f
        cases hat : mm_at P m pc with
        | none => simp [mm_stp, hat] at hs
        | some q =>
          obtain ⟨⟨q0, len, ins, a, b, z, wd⟩, nL, np, kd, ci, rk, mc, ms⟩ := q
          simp only [mm_stp, hat] at hs
          cases hi : mm_inv ins with
          | some ik =>
            simp only [hi] at hs
            by_cases ha : a < 2
            · rw [if_pos ha] at hs
              split at hs
              · rename_i hfl
                cases hsp : mm_sp E a ik lv st cb sb h (pc + len) with
                | none => rw [hsp] at hs; cases hs
                | some q =>
                  obtain ⟨pc', lv', st', cb', sb', h'⟩ := q
                  rw [hsp] at hs
                  cases hs
                  obtain ⟨N, v1, h1, k, e1, e2, e3⟩ := ih n (by omega) _ _ _ _ hl hh2
                  refine ⟨N + 1, v1, h1, k, ?_, by omega, e3⟩
                  rw [mm_big]
                  simp only [hat, hi]
                  rw [if_neg (by omega), if_pos ha, hsp]
                  exact e1
              · cases hs
            · rw [if_neg ha] at hs
              unfold mm_call at hs
              cases hp : P[a]? with
              | none => rw [hp] at hs; cases hs
              | some q =>
                obtain ⟨cs1, nL1, np1, kd1, ci1, rk1, mc1, ms1⟩ := q
                rw [hp] at hs
                simp only [] at hs
                split at hs
                · rename_i hc
                  cases hv : mm_recv E h kd1 ci1 (st.drop np1) with
                  | none => rw [hv] at hs; cases hs
                  | some q =>
                    obtain ⟨rv, rr⟩ := q
                    rw [hv] at hs
                    simp only [] at hs
                    split at hs
                    · rename_i hc2
                      cases hs
                      obtain ⟨N, v1, h1, k, e1, e2, e3⟩ := ih n (by omega) _ _ _ _ (by rw [List.length_cons]; omega) hh2
                      obtain ⟨N2, v2, h2, k2, g1, g2, g3⟩ := ih k (by omega) (m, pc + len, lv, v1.toList ++ rr, cb - mc1, sb - ms1) fs h1 none hl e3
                      refine ⟨N + N2 + 1, v2, h2, k2, ?_, by omega, g3⟩
                      rw [mm_big]
                      simp only [hat, hi]
                      rw [if_neg (by omega), if_neg ha, hp]
                      simp only []
                      rw [if_pos ⟨hc.1, hc.2.2.1, hc.2.2.2.1, hc.2.2.2.2⟩, hv]
                      simp only []
                      rw [if_pos hc2]
                      have e4 : L - 1 - (((m, pc + len, lv, rr, cb - mc1, sb - ms1) : mm_F) :: fs).length = L - 1 - fs.length - 1 := by rw [List.length_cons]; omega
                      rw [e4] at e1
                      rw [mm_big_le (k := N2) e1]
                      simp only []
                      rw [Nat.add_comm]
                      exact mm_big_le g1
                    · cases hs
                · cases hs
          | none =>
            simp only [hi] at hs
            cases hr : mm_rtn ins with
            | some ik =>
              simp only [hr] at hs
              cases hn : mm_ans rk ik st with
              | none => rw [hn] at hs; cases hs
              | some v =>
                rw [hn] at hs
                cases hs
                refine ⟨1, v, h, n, ?_, by omega, hh2⟩
                rw [mm_big]
                simp only [hat, hi, hr, hn]
            | none =>
              simp only [hr] at hs
              cases hx : mm_ex E kds nL ins len a b z pc lv st cb sb h with
              | none => rw [hx] at hs; cases hs
              | some q =>
                obtain ⟨pc', lv', st', cb', sb', h'⟩ := q
                rw [hx] at hs
                cases hs
                obtain ⟨N, v1, h1, k, e1, e2, e3⟩ := ih n (by omega) _ _ _ _ hl hh2
                refine ⟨N + 1, v1, h1, k, ?_, by omega, e3⟩
                rw [mm_big]
                simp only [hat, hi, hr, hx]
                exact e1
end SMB
end
section
/-! TABLES, by program (wip/p1/tab.py): the methods as the mini machine takes them; 0 and 1 are the special callees, the law is the last -/
/-- StrawWatchModel.appends.(JI)J -/
def mt_2 : List (List mm_I) × Nat × mm_M := ([[(0, 1, .iload_n 2, 0, 0, 0, 0), (1, 3, .ifCond .ne 7, 0, 0, 0, 0), (4, 1, .lload_n 0, 0, 0, 0, 0), (5, 3, .goto 16, 0, 0, 0, 0), (8, 3, .ldc2_w 175, 0, 0, 27, 1201), (11, 1, .lload_n 0, 0, 0, 0, 0), (12, 1, .lmul, 0, 0, 0, 0), (13, 1, .iload_n 2, 0, 0, 0, 0), (14, 2, .bipush 97, 0, 0, 0, 0)], [(16, 1, .isub, 0, 0, 0, 0), (17, 1, .iconst 1, 0, 0, 0, 0), (18, 1, .iadd, 0, 0, 0, 0), (19, 1, .i2l, 0, 0, 0, 0), (20, 1, .ladd, 0, 0, 0, 0), (21, 1, .lreturn, 0, 0, 0, 0)]], 3, 2, 0, 9, 3, 0, 0)
/-- StrawWatchModel.asks.(IIII)I -/
def mt_3 : List (List mm_I) × Nat × mm_M := ([[(0, 1, .iload_n 2, 0, 0, 0, 0), (1, 2, .istore 5, 0, 0, 0, 0), (3, 1, .aload_n 0, 0, 0, 0, 0), (4, 3, .getfield 70, 9, 31, 0, 1248), (7, 2, .bipush 7, 0, 0, 0, 0), (9, 1, .aload_n 0, 0, 0, 0, 0), (10, 3, .getfield 233, 9, 18, 0, 1235), (13, 1, .imul, 0, 0, 0, 0), (14, 1, .iload_n 1, 0, 0, 0, 0), (15, 1, .iadd, 0, 0, 0, 0)], [(16, 1, .iaload, 0, 0, 0, 0), (17, 1, .aload_n 0, 0, 0, 0, 0), (18, 3, .getfield 73, 9, 32, 0, 1249), (21, 2, .bipush 7, 0, 0, 0, 0), (23, 1, .aload_n 0, 0, 0, 0, 0), (24, 3, .getfield 233, 9, 18, 0, 1235), (27, 1, .imul, 0, 0, 0, 0), (28, 1, .iload_n 1, 0, 0, 0, 0), (29, 1, .iadd, 0, 0, 0, 0), (30, 1, .iaload, 0, 0, 0, 0), (31, 3, .if_icmp .ge 18, 0, 0, 0, 0)], [(34, 1, .aload_n 0, 0, 0, 0, 0), (35, 2, .bipush 7, 0, 0, 0, 0), (37, 1, .aload_n 0, 0, 0, 0, 0), (38, 3, .getfield 233, 9, 18, 0, 1235), (41, 1, .imul, 0, 0, 0, 0), (42, 1, .iload_n 1, 0, 0, 0, 0), (43, 1, .iadd, 0, 0, 0, 0), (44, 3, .invokevirtual 321, 57, 0, 0, 1582), (47, 2, .istore 5, 0, 0, 0, 0)], [(49, 2, .iload 5, 0, 0, 0, 0), (51, 1, .iload_n 3, 0, 0, 0, 0), (52, 3, .if_icmp .ge 7, 0, 0, 0, 0), (55, 1, .iload_n 3, 0, 0, 0, 0), (56, 3, .goto 17, 0, 0, 0, 0), (59, 2, .iload 5, 0, 0, 0, 0), (61, 2, .iload 4, 0, 0, 0, 0), (63, 3, .if_icmp .le 8, 0, 0, 0, 0)], [(66, 2, .iload 4, 0, 0, 0, 0), (68, 3, .goto 5, 0, 0, 0, 0), (71, 2, .iload 5, 0, 0, 0, 0), (73, 1, .ireturn, 0, 0, 0, 0)]], 6, 4, 1, 9, 1, 0, 0)
/-- StrawWatchModel.at.(II)I -/
def mt_4 : List (List mm_I) × Nat × mm_M := ([[(0, 1, .iload_n 0, 0, 0, 0, 0), (1, 1, .iconst 3, 0, 0, 0, 0), (2, 1, .iload_n 1, 0, 0, 0, 0), (3, 1, .isub, 0, 0, 0, 0), (4, 3, .invokestatic 399, 86, 0, 0, 1688), (7, 1, .idiv, 0, 0, 0, 0), (8, 2, .bipush 7, 0, 0, 0, 0), (10, 1, .irem, 0, 0, 0, 0), (11, 1, .istore_n 2, 0, 0, 0, 0), (12, 1, .iload_n 2, 0, 0, 0, 0), (13, 2, .bipush 6, 0, 0, 0, 0), (15, 3, .if_icmp .ne 8, 0, 0, 0, 0)], [(18, 2, .bipush (-2), 0, 0, 0, 0), (20, 3, .goto 4, 0, 0, 0, 0), (23, 1, .iload_n 2, 0, 0, 0, 0), (24, 1, .ireturn, 0, 0, 0, 0)]], 3, 2, 0, 9, 1, 0, 0)
/-- StrawWatchModel.back.(I)I -/
def mt_5 : List (List mm_I) × Nat × mm_M := ([[(0, 1, .iload_n 1, 0, 0, 0, 0), (1, 3, .ifCond .lt 11, 0, 0, 0, 0), (4, 1, .iload_n 1, 0, 0, 0, 0), (5, 1, .aload_n 0, 0, 0, 0, 0), (6, 3, .getfield 166, 9, 2, 0, 1219), (9, 3, .if_icmp .le 5, 0, 0, 0, 0), (12, 1, .iconst (-1), 0, 0, 0, 0), (13, 1, .ireturn, 0, 0, 0, 0), (14, 1, .aload_n 0, 0, 0, 0, 0), (15, 1, .dup, 0, 0, 0, 0)], [(16, 3, .getfield 166, 9, 2, 0, 1219), (19, 1, .iload_n 1, 0, 0, 0, 0), (20, 1, .isub, 0, 0, 0, 0), (21, 3, .putfield 166, 9, 2, 0, 1219), (24, 1, .aload_n 0, 0, 0, 0, 0), (25, 3, .getfield 166, 9, 2, 0, 1219), (28, 1, .ireturn, 0, 0, 0, 0)]], 2, 1, 1, 9, 1, 0, 0)
/-- StrawWatchModel.began.(II)I -/
def mt_6 : List (List mm_I) × Nat × mm_M := ([[(0, 1, .iload_n 1, 0, 0, 0, 0), (1, 1, .iconst 0, 0, 0, 0, 0), (2, 1, .aload_n 0, 0, 0, 0, 0), (3, 3, .getfield 257, 9, 67, 0, 1284), (6, 3, .invokestatic 300, 43, 0, 0, 1543), (9, 3, .ifCond .eq 8, 0, 0, 0, 0), (12, 1, .iload_n 2, 0, 0, 0, 0), (13, 1, .iconst (-1), 0, 0, 0, 0), (14, 3, .if_icmp .ge 5, 0, 0, 0, 0)], [(17, 1, .iconst (-1), 0, 0, 0, 0), (18, 1, .ireturn, 0, 0, 0, 0), (19, 1, .iconst 0, 0, 0, 0, 0), (20, 1, .istore_n 3, 0, 0, 0, 0), (21, 1, .iconst 0, 0, 0, 0, 0), (22, 2, .istore 4, 0, 0, 0, 0), (24, 2, .iload 4, 0, 0, 0, 0), (26, 2, .bipush 99, 0, 0, 0, 0), (28, 3, .if_icmp .gt 47, 0, 0, 0, 0), (31, 2, .iload 4, 0, 0, 0, 0)], [(33, 1, .aload_n 0, 0, 0, 0, 0), (34, 3, .getfield 61, 9, 28, 0, 1245), (37, 1, .aload_n 0, 0, 0, 0, 0), (38, 3, .getfield 233, 9, 18, 0, 1235), (41, 1, .iaload, 0, 0, 0, 0), (42, 3, .if_icmp .gt 33, 0, 0, 0, 0), (45, 1, .aload_n 0, 0, 0, 0, 0), (46, 1, .iload_n 1, 0, 0, 0, 0), (47, 2, .iload 4, 0, 0, 0, 0)], [(49, 3, .invokevirtual 475, 54, 0, 0, 1826), (52, 3, .ifCond .ne 6, 0, 0, 0, 0), (55, 3, .goto 14, 0, 0, 0, 0), (58, 1, .iload_n 3, 0, 0, 0, 0), (59, 1, .iload_n 2, 0, 0, 0, 0), (60, 3, .if_icmp .ne 6, 0, 0, 0, 0), (63, 2, .iload 4, 0, 0, 0, 0)], [(65, 1, .ireturn, 0, 0, 0, 0), (66, 3, .iinc 3 1, 0, 0, 0, 0), (69, 3, .iinc 4 1, 0, 0, 0, 0), (72, 3, .goto (-48), 0, 0, 0, 0), (75, 1, .iload_n 2, 0, 0, 0, 0), (76, 1, .iconst (-1), 0, 0, 0, 0), (77, 3, .if_icmp .ne 7, 0, 0, 0, 0)], [(80, 1, .iload_n 3, 0, 0, 0, 0), (81, 3, .goto 4, 0, 0, 0, 0), (84, 1, .iconst (-1), 0, 0, 0, 0), (85, 1, .ireturn, 0, 0, 0, 0)]], 5, 2, 1, 9, 1, 0, 0)
/-- StrawWatchModel.begins.()V -/
def mt_7 : List (List mm_I) × Nat × mm_M := ([[(0, 1, .aload_n 0, 0, 0, 0, 0), (1, 1, .iconst 0, 0, 0, 0, 0), (2, 3, .invokevirtual 314, 8, 0, 0, 1206), (5, 1, .return_, 0, 0, 0, 0)]], 1, 0, 1, 9, 0, 0, 0)
/-- StrawWatchModel.beginsAt.(I)V -/
def mt_8 : List (List mm_I) × Nat × mm_M := ([[(0, 1, .iconst 0, 0, 0, 0, 0), (1, 1, .istore_n 2, 0, 0, 0, 0), (2, 1, .iload_n 2, 0, 0, 0, 0), (3, 2, .bipush 60, 0, 0, 0, 0), (5, 3, .if_icmp .ge 16, 0, 0, 0, 0), (8, 1, .aload_n 0, 0, 0, 0, 0), (9, 3, .getfield 110, 9, 48, 0, 1265), (12, 1, .iload_n 2, 0, 0, 0, 0), (13, 1, .iconst 0, 0, 0, 0, 0), (14, 1, .iastore, 0, 0, 0, 0), (15, 3, .iinc 2 1, 0, 0, 0, 0)], [(18, 3, .goto (-16), 0, 0, 0, 0), (21, 1, .iconst 0, 0, 0, 0, 0), (22, 1, .istore_n 2, 0, 0, 0, 0), (23, 1, .iload_n 2, 0, 0, 0, 0), (24, 1, .aload_n 0, 0, 0, 0, 0), (25, 3, .getfield 43, 9, 22, 0, 1239), (28, 1, .aload_n 0, 0, 0, 0, 0), (29, 3, .getfield 233, 9, 18, 0, 1235)], [(32, 1, .iaload, 0, 0, 0, 0), (33, 3, .if_icmp .ge 29, 0, 0, 0, 0), (36, 1, .aload_n 0, 0, 0, 0, 0), (37, 3, .getfield 110, 9, 48, 0, 1265), (40, 1, .iload_n 2, 0, 0, 0, 0), (41, 1, .aload_n 0, 0, 0, 0, 0), (42, 3, .getfield 49, 9, 24, 0, 1241), (45, 2, .bipush 6, 0, 0, 0, 0), (47, 1, .aload_n 0, 0, 0, 0, 0)], [(48, 3, .getfield 233, 9, 18, 0, 1235), (51, 1, .imul, 0, 0, 0, 0), (52, 1, .iload_n 2, 0, 0, 0, 0), (53, 1, .iadd, 0, 0, 0, 0), (54, 1, .iaload, 0, 0, 0, 0), (55, 1, .iastore, 0, 0, 0, 0), (56, 3, .iinc 2 1, 0, 0, 0, 0), (59, 3, .goto (-36), 0, 0, 0, 0), (62, 1, .iconst 0, 0, 0, 0, 0), (63, 1, .istore_n 2, 0, 0, 0, 0)], [(64, 1, .iload_n 2, 0, 0, 0, 0), (65, 1, .iconst 4, 0, 0, 0, 0), (66, 3, .if_icmp .ge 20, 0, 0, 0, 0), (69, 1, .aload_n 0, 0, 0, 0, 0), (70, 3, .getfield 110, 9, 48, 0, 1265), (73, 2, .bipush 18, 0, 0, 0, 0), (75, 1, .iload_n 2, 0, 0, 0, 0), (76, 1, .iadd, 0, 0, 0, 0), (77, 2, .bipush (-2), 0, 0, 0, 0), (79, 1, .iastore, 0, 0, 0, 0)], [(80, 3, .iinc 2 1, 0, 0, 0, 0), (83, 3, .goto (-19), 0, 0, 0, 0), (86, 1, .aload_n 0, 0, 0, 0, 0), (87, 3, .getfield 110, 9, 48, 0, 1265), (90, 2, .bipush 46, 0, 0, 0, 0), (92, 1, .iload_n 1, 0, 0, 0, 0), (93, 1, .iastore, 0, 0, 0, 0), (94, 1, .aload_n 0, 0, 0, 0, 0), (95, 3, .getfield 110, 9, 48, 0, 1265)], [(98, 2, .bipush 47, 0, 0, 0, 0), (100, 1, .aload_n 0, 0, 0, 0, 0), (101, 3, .getfield 52, 9, 25, 0, 1242), (104, 1, .aload_n 0, 0, 0, 0, 0), (105, 3, .getfield 233, 9, 18, 0, 1235), (108, 1, .iaload, 0, 0, 0, 0), (109, 1, .iastore, 0, 0, 0, 0), (110, 1, .aload_n 0, 0, 0, 0, 0), (111, 3, .getfield 110, 9, 48, 0, 1265)], [(114, 2, .bipush 48, 0, 0, 0, 0), (116, 1, .aload_n 0, 0, 0, 0, 0), (117, 3, .getfield 55, 9, 26, 0, 1243), (120, 1, .aload_n 0, 0, 0, 0, 0), (121, 3, .getfield 233, 9, 18, 0, 1235), (124, 1, .iaload, 0, 0, 0, 0), (125, 1, .iastore, 0, 0, 0, 0), (126, 1, .aload_n 0, 0, 0, 0, 0), (127, 3, .getfield 110, 9, 48, 0, 1265)], [(130, 2, .bipush 49, 0, 0, 0, 0), (132, 1, .aload_n 0, 0, 0, 0, 0), (133, 3, .getfield 58, 9, 27, 0, 1244), (136, 1, .aload_n 0, 0, 0, 0, 0), (137, 3, .getfield 233, 9, 18, 0, 1235), (140, 1, .iaload, 0, 0, 0, 0), (141, 1, .iastore, 0, 0, 0, 0), (142, 1, .aload_n 0, 0, 0, 0, 0), (143, 3, .getfield 110, 9, 48, 0, 1265)], [(146, 2, .bipush 51, 0, 0, 0, 0), (148, 1, .aload_n 0, 0, 0, 0, 0), (149, 3, .getfield 64, 9, 29, 0, 1246), (152, 1, .aload_n 0, 0, 0, 0, 0), (153, 3, .getfield 233, 9, 18, 0, 1235), (156, 1, .iaload, 0, 0, 0, 0), (157, 1, .iastore, 0, 0, 0, 0), (158, 1, .aload_n 0, 0, 0, 0, 0), (159, 3, .getfield 110, 9, 48, 0, 1265)], [(162, 2, .bipush 54, 0, 0, 0, 0), (164, 2, .bipush (-2), 0, 0, 0, 0), (166, 1, .iastore, 0, 0, 0, 0), (167, 1, .aload_n 0, 0, 0, 0, 0), (168, 3, .getfield 110, 9, 48, 0, 1265), (171, 2, .bipush 52, 0, 0, 0, 0), (173, 1, .aload_n 0, 0, 0, 0, 0), (174, 3, .invokevirtual 304, 42, 0, 0, 1210)], [(177, 1, .iastore, 0, 0, 0, 0), (178, 1, .aload_n 0, 0, 0, 0, 0), (179, 1, .aload_n 0, 0, 0, 0, 0), (180, 3, .getfield 67, 9, 30, 0, 1247), (183, 1, .aload_n 0, 0, 0, 0, 0), (184, 3, .getfield 233, 9, 18, 0, 1235), (187, 1, .iaload, 0, 0, 0, 0), (188, 3, .putfield 308, 9, 49, 0, 1266), (191, 1, .aload_n 0, 0, 0, 0, 0)], [(192, 1, .iconst (-1), 0, 0, 0, 0), (193, 3, .putfield 311, 9, 50, 0, 1267), (196, 1, .return_, 0, 0, 0, 0)]], 3, 1, 1, 9, 0, 0, 0)
/-- StrawWatchModel.better.(Z)I -/
def mt_9 : List (List mm_I) × Nat × mm_M := ([[(0, 1, .aload_n 0, 0, 0, 0, 0), (1, 3, .invokevirtual 455, 33, 0, 0, 1739), (4, 1, .iconst 0, 0, 0, 0, 0), (5, 1, .istore_n 2, 0, 0, 0, 0), (6, 1, .iconst 0, 0, 0, 0, 0), (7, 1, .istore_n 3, 0, 0, 0, 0), (8, 1, .iload_n 3, 0, 0, 0, 0), (9, 3, .sipush 2401, 0, 0, 0, 0), (12, 3, .if_icmp .ge 25, 0, 0, 0, 0), (15, 1, .aload_n 0, 0, 0, 0, 0)], [(16, 1, .iload_n 3, 0, 0, 0, 0), (17, 3, .invokevirtual 416, 49, 0, 0, 1681), (20, 3, .ifCond .eq 11, 0, 0, 0, 0), (23, 1, .iload_n 2, 0, 0, 0, 0), (24, 1, .aload_n 0, 0, 0, 0, 0), (25, 1, .iload_n 3, 0, 0, 0, 0), (26, 3, .invokevirtual 449, 91, 0, 0, 1743), (29, 1, .iadd, 0, 0, 0, 0), (30, 1, .istore_n 2, 0, 0, 0, 0), (31, 3, .iinc 3 1, 0, 0, 0, 0)], [(34, 3, .goto (-26), 0, 0, 0, 0), (37, 1, .aload_n 0, 0, 0, 0, 0), (38, 3, .getfield 452, 9, 64, 0, 1281), (41, 1, .aload_n 0, 0, 0, 0, 0), (42, 3, .invokevirtual 422, 22, 0, 0, 1695), (45, 1, .imul, 0, 0, 0, 0), (46, 1, .iload_n 2, 0, 0, 0, 0), (47, 1, .isub, 0, 0, 0, 0)], [(48, 1, .aload_n 0, 0, 0, 0, 0), (49, 3, .invokevirtual 422, 22, 0, 0, 1695), (52, 1, .iload_n 1, 0, 0, 0, 0), (53, 3, .invokestatic 408, 59, 0, 0, 1662), (56, 1, .ireturn, 0, 0, 0, 0)]], 4, 1, 1, 9, 1, 0, 0)
/-- StrawWatchModel.bounded.(II)I -/
def mt_10 : List (List mm_I) × Nat × mm_M := ([[(0, 1, .aload_n 0, 0, 0, 0, 0), (1, 3, .getfield 203, 9, 13, 0, 1230), (4, 3, .ifCond .gt 11, 0, 0, 0, 0), (7, 1, .aload_n 0, 0, 0, 0, 0), (8, 1, .iconst 2, 0, 0, 0, 0), (9, 3, .invokevirtual 221, 45, 0, 0, 1475), (12, 3, .ifCond .ne 10, 0, 0, 0, 0), (15, 1, .aload_n 0, 0, 0, 0, 0)], [(16, 1, .iconst 1, 0, 0, 0, 0), (17, 3, .invokevirtual 218, 27, 0, 0, 1483), (20, 1, .iload_n 1, 0, 0, 0, 0), (21, 1, .ireturn, 0, 0, 0, 0), (22, 1, .aload_n 0, 0, 0, 0, 0), (23, 3, .getfield 27, 9, 7, 0, 1224), (26, 1, .aload_n 0, 0, 0, 0, 0), (27, 3, .getfield 206, 9, 11, 0, 1228), (30, 1, .iaload, 0, 0, 0, 0), (31, 1, .istore_n 3, 0, 0, 0, 0)], [(32, 1, .iload_n 3, 0, 0, 0, 0), (33, 1, .iload_n 1, 0, 0, 0, 0), (34, 3, .if_icmp .lt 8, 0, 0, 0, 0), (37, 1, .iload_n 3, 0, 0, 0, 0), (38, 1, .iload_n 2, 0, 0, 0, 0), (39, 3, .if_icmp .le 12, 0, 0, 0, 0), (42, 1, .aload_n 0, 0, 0, 0, 0), (43, 1, .iconst 5, 0, 0, 0, 0), (44, 1, .aload_n 0, 0, 0, 0, 0), (45, 3, .getfield 206, 9, 11, 0, 1228)], [(48, 3, .invokevirtual 273, 112, 0, 0, 1499), (51, 1, .aload_n 0, 0, 0, 0, 0), (52, 3, .invokevirtual 224, 37, 0, 0, 1491), (55, 1, .iload_n 3, 0, 0, 0, 0), (56, 1, .ireturn, 0, 0, 0, 0)]], 4, 2, 1, 9, 1, 0, 0)
/-- StrawWatchModel.broom.()I -/
def mt_11 : List (List mm_I) × Nat × mm_M := ([[(0, 1, .aload_n 0, 0, 0, 0, 0), (1, 3, .getfield 43, 9, 22, 0, 1239), (4, 1, .aload_n 0, 0, 0, 0, 0), (5, 3, .getfield 233, 9, 18, 0, 1235), (8, 1, .iaload, 0, 0, 0, 0), (9, 3, .ifCond .ne 9, 0, 0, 0, 0), (12, 3, .sipush 9999, 0, 0, 0, 0), (15, 3, .goto 20, 0, 0, 0, 0)], [(18, 1, .aload_n 0, 0, 0, 0, 0), (19, 3, .getfield 107, 9, 47, 0, 1264), (22, 2, .bipush 51, 0, 0, 0, 0), (24, 1, .iaload, 0, 0, 0, 0), (25, 1, .aload_n 0, 0, 0, 0, 0), (26, 3, .getfield 43, 9, 22, 0, 1239), (29, 1, .aload_n 0, 0, 0, 0, 0), (30, 3, .getfield 233, 9, 18, 0, 1235)], [(33, 1, .iaload, 0, 0, 0, 0), (34, 1, .idiv, 0, 0, 0, 0), (35, 1, .ireturn, 0, 0, 0, 0)]], 1, 0, 1, 9, 1, 0, 0)
/-- StrawWatchModel.byteAt.(I)I -/
def mt_12 : List (List mm_I) × Nat × mm_M := ([[(0, 1, .iload_n 1, 0, 0, 0, 0), (1, 1, .aload_n 0, 0, 0, 0, 0), (2, 3, .getfield 172, 9, 4, 0, 1221), (5, 3, .if_icmp .ge 16, 0, 0, 0, 0), (8, 1, .aload_n 0, 0, 0, 0, 0), (9, 3, .getfield 17, 9, 3, 0, 1220), (12, 1, .iload_n 1, 0, 0, 0, 0), (13, 1, .baload, 0, 0, 0, 0), (14, 3, .sipush 255, 0, 0, 0, 0)], [(17, 1, .iand, 0, 0, 0, 0), (18, 3, .goto 4, 0, 0, 0, 0), (21, 1, .iconst 0, 0, 0, 0, 0), (22, 1, .ireturn, 0, 0, 0, 0)]], 2, 1, 1, 9, 1, 0, 0)
/-- StrawWatchModel.captainIn.(III)I -/
def mt_13 : List (List mm_I) × Nat × mm_M := ([[(0, 1, .aload_n 0, 0, 0, 0, 0), (1, 3, .invokevirtual 380, 17, 0, 0, 1546), (4, 1, .aload_n 0, 0, 0, 0, 0), (5, 3, .getfield 110, 9, 48, 0, 1265), (8, 2, .bipush 6, 0, 0, 0, 0), (10, 1, .iload_n 1, 0, 0, 0, 0), (11, 1, .iadd, 0, 0, 0, 0), (12, 1, .iload_n 3, 0, 0, 0, 0), (13, 1, .iastore, 0, 0, 0, 0), (14, 1, .aload_n 0, 0, 0, 0, 0), (15, 1, .iload_n 2, 0, 0, 0, 0)], [(16, 3, .invokevirtual 461, 36, 0, 0, 1762), (19, 1, .aload_n 0, 0, 0, 0, 0), (20, 3, .getfield 110, 9, 48, 0, 1265), (23, 2, .bipush 12, 0, 0, 0, 0), (25, 1, .iload_n 1, 0, 0, 0, 0), (26, 1, .iadd, 0, 0, 0, 0), (27, 1, .iaload, 0, 0, 0, 0), (28, 1, .ireturn, 0, 0, 0, 0)]], 4, 3, 1, 9, 1, 0, 0)
/-- StrawWatchModel.cheats.(IIZ)I -/
def mt_14 : List (List mm_I) × Nat × mm_M := ([[(0, 1, .aload_n 0, 0, 0, 0, 0), (1, 1, .iload_n 1, 0, 0, 0, 0), (2, 3, .invokevirtual 377, 52, 0, 0, 1539), (5, 3, .ifCond .eq 15, 0, 0, 0, 0), (8, 1, .iload_n 2, 0, 0, 0, 0), (9, 1, .iconst 0, 0, 0, 0, 0), (10, 1, .aload_n 0, 0, 0, 0, 0), (11, 3, .getfield 254, 9, 65, 0, 1282), (14, 3, .invokestatic 300, 43, 0, 0, 1543)], [(17, 3, .ifCond .ne 5, 0, 0, 0, 0), (20, 1, .iconst (-1), 0, 0, 0, 0), (21, 1, .ireturn, 0, 0, 0, 0), (22, 1, .iconst 0, 0, 0, 0, 0), (23, 2, .istore 4, 0, 0, 0, 0), (25, 2, .iload 4, 0, 0, 0, 0), (27, 1, .iload_n 2, 0, 0, 0, 0), (28, 3, .if_icmp .ge 30, 0, 0, 0, 0), (31, 1, .aload_n 0, 0, 0, 0, 0)], [(32, 3, .getfield 134, 9, 66, 0, 1283), (35, 2, .iload 4, 0, 0, 0, 0), (37, 1, .iaload, 0, 0, 0, 0), (38, 1, .iload_n 1, 0, 0, 0, 0), (39, 3, .if_icmp .ne 13, 0, 0, 0, 0), (42, 1, .iload_n 3, 0, 0, 0, 0), (43, 3, .ifCond .eq 7, 0, 0, 0, 0), (46, 1, .iconst 1, 0, 0, 0, 0), (47, 3, .goto 4, 0, 0, 0, 0)], [(50, 1, .iconst 0, 0, 0, 0, 0), (51, 1, .ireturn, 0, 0, 0, 0), (52, 3, .iinc 4 1, 0, 0, 0, 0), (55, 3, .goto (-30), 0, 0, 0, 0), (58, 1, .aload_n 0, 0, 0, 0, 0), (59, 3, .getfield 43, 9, 22, 0, 1239), (62, 1, .aload_n 0, 0, 0, 0, 0), (63, 3, .getfield 233, 9, 18, 0, 1235)], [(66, 1, .iaload, 0, 0, 0, 0), (67, 1, .iload_n 2, 0, 0, 0, 0), (68, 3, .invokestatic 470, 75, 0, 0, 1810), (71, 2, .istore 4, 0, 0, 0, 0), (73, 2, .iload 4, 0, 0, 0, 0), (75, 2, .iload 4, 0, 0, 0, 0), (77, 1, .aload_n 0, 0, 0, 0, 0), (78, 3, .getfield 43, 9, 22, 0, 1239)], [(81, 1, .aload_n 0, 0, 0, 0, 0), (82, 3, .getfield 233, 9, 18, 0, 1235), (85, 1, .iaload, 0, 0, 0, 0), (86, 1, .iconst 1, 0, 0, 0, 0), (87, 1, .isub, 0, 0, 0, 0), (88, 1, .iload_n 2, 0, 0, 0, 0), (89, 3, .invokestatic 470, 75, 0, 0, 1810), (92, 1, .iadd, 0, 0, 0, 0), (93, 1, .iload_n 3, 0, 0, 0, 0), (94, 3, .invokestatic 408, 59, 0, 0, 1662)], [(97, 1, .ireturn, 0, 0, 0, 0)]], 5, 3, 1, 9, 1, 0, 0)
/-- StrawWatchModel.comesOut.(Z)V -/
def mt_15 : List (List mm_I) × Nat × mm_M := ([[(0, 1, .aload_n 0, 0, 0, 0, 0), (1, 3, .getfield 283, 9, 43, 0, 1260), (4, 3, .ifCond .le 87, 0, 0, 0, 0), (7, 1, .aload_n 0, 0, 0, 0, 0), (8, 3, .getfield 98, 9, 42, 0, 1259), (11, 1, .aload_n 0, 0, 0, 0, 0), (12, 3, .getfield 283, 9, 43, 0, 1260), (15, 1, .iconst 1, 0, 0, 0, 0)], [(16, 1, .isub, 0, 0, 0, 0), (17, 1, .iaload, 0, 0, 0, 0), (18, 1, .istore_n 2, 0, 0, 0, 0), (19, 1, .iload_n 2, 0, 0, 0, 0), (20, 2, .bipush 6, 0, 0, 0, 0), (22, 3, .if_icmp .eq 19, 0, 0, 0, 0), (25, 1, .iload_n 1, 0, 0, 0, 0), (26, 3, .ifCond .eq 16, 0, 0, 0, 0), (29, 1, .iload_n 2, 0, 0, 0, 0), (30, 2, .bipush 8, 0, 0, 0, 0)], [(32, 3, .if_icmp .eq 9, 0, 0, 0, 0), (35, 1, .iload_n 2, 0, 0, 0, 0), (36, 2, .bipush 9, 0, 0, 0, 0), (38, 3, .if_icmp .ne 4, 0, 0, 0, 0), (41, 1, .return_, 0, 0, 0, 0), (42, 1, .aload_n 0, 0, 0, 0, 0), (43, 1, .dup, 0, 0, 0, 0), (44, 3, .getfield 283, 9, 43, 0, 1260), (47, 1, .iconst 1, 0, 0, 0, 0)], [(48, 1, .isub, 0, 0, 0, 0), (49, 3, .putfield 283, 9, 43, 0, 1260), (52, 1, .aload_n 0, 0, 0, 0, 0), (53, 1, .iload_n 2, 0, 0, 0, 0), (54, 2, .bipush 8, 0, 0, 0, 0), (56, 3, .if_icmp .ne 7, 0, 0, 0, 0), (59, 1, .iconst 2, 0, 0, 0, 0), (60, 3, .goto 24, 0, 0, 0, 0), (63, 1, .iload_n 2, 0, 0, 0, 0)], [(64, 2, .bipush 9, 0, 0, 0, 0), (66, 3, .if_icmp .ne 7, 0, 0, 0, 0), (69, 1, .iconst 3, 0, 0, 0, 0), (70, 3, .goto 14, 0, 0, 0, 0), (73, 1, .iload_n 2, 0, 0, 0, 0), (74, 2, .bipush 10, 0, 0, 0, 0), (76, 3, .if_icmp .ne 7, 0, 0, 0, 0), (79, 1, .iconst 4, 0, 0, 0, 0)], [(80, 3, .goto 4, 0, 0, 0, 0), (83, 1, .iconst 5, 0, 0, 0, 0), (84, 1, .iconst 0, 0, 0, 0, 0), (85, 3, .invokevirtual 286, 23, 0, 0, 1519), (88, 3, .goto (-88), 0, 0, 0, 0), (91, 1, .return_, 0, 0, 0, 0)]], 3, 1, 1, 9, 0, 0, 0)
/-- StrawWatchModel.common.(II)I -/
def mt_16 : List (List mm_I) × Nat × mm_M := ([[(0, 1, .iload_n 0, 0, 0, 0, 0), (1, 3, .ifCond .ge 8, 0, 0, 0, 0), (4, 1, .iload_n 0, 0, 0, 0, 0), (5, 1, .ineg, 0, 0, 0, 0), (6, 3, .goto 4, 0, 0, 0, 0), (9, 1, .iload_n 0, 0, 0, 0, 0), (10, 1, .istore_n 2, 0, 0, 0, 0), (11, 1, .iload_n 1, 0, 0, 0, 0), (12, 1, .istore_n 3, 0, 0, 0, 0), (13, 1, .iload_n 3, 0, 0, 0, 0), (14, 3, .ifCond .eq 16, 0, 0, 0, 0)], [(17, 1, .iload_n 2, 0, 0, 0, 0), (18, 1, .iload_n 3, 0, 0, 0, 0), (19, 1, .irem, 0, 0, 0, 0), (20, 2, .istore 4, 0, 0, 0, 0), (22, 1, .iload_n 3, 0, 0, 0, 0), (23, 1, .istore_n 2, 0, 0, 0, 0), (24, 2, .iload 4, 0, 0, 0, 0), (26, 1, .istore_n 3, 0, 0, 0, 0), (27, 3, .goto (-14), 0, 0, 0, 0), (30, 1, .iload_n 2, 0, 0, 0, 0), (31, 1, .ireturn, 0, 0, 0, 0)]], 5, 2, 0, 9, 1, 0, 0)
/-- StrawWatchModel.copies.()V -/
def mt_17 : List (List mm_I) × Nat × mm_M := ([[(0, 1, .iconst 0, 0, 0, 0, 0), (1, 1, .istore_n 1, 0, 0, 0, 0), (2, 1, .iload_n 1, 0, 0, 0, 0), (3, 2, .bipush 60, 0, 0, 0, 0), (5, 3, .if_icmp .ge 21, 0, 0, 0, 0), (8, 1, .aload_n 0, 0, 0, 0, 0), (9, 3, .getfield 110, 9, 48, 0, 1265), (12, 1, .iload_n 1, 0, 0, 0, 0), (13, 1, .aload_n 0, 0, 0, 0, 0), (14, 3, .getfield 107, 9, 47, 0, 1264)], [(17, 1, .iload_n 1, 0, 0, 0, 0), (18, 1, .iaload, 0, 0, 0, 0), (19, 1, .iastore, 0, 0, 0, 0), (20, 3, .iinc 1 1, 0, 0, 0, 0), (23, 3, .goto (-21), 0, 0, 0, 0), (26, 1, .aload_n 0, 0, 0, 0, 0), (27, 1, .aload_n 0, 0, 0, 0, 0), (28, 3, .getfield 67, 9, 30, 0, 1247), (31, 1, .aload_n 0, 0, 0, 0, 0)], [(32, 3, .getfield 233, 9, 18, 0, 1235), (35, 1, .iaload, 0, 0, 0, 0), (36, 3, .putfield 308, 9, 49, 0, 1266), (39, 1, .aload_n 0, 0, 0, 0, 0), (40, 1, .iconst (-1), 0, 0, 0, 0), (41, 3, .putfield 311, 9, 50, 0, 1267), (44, 1, .return_, 0, 0, 0, 0)]], 2, 0, 1, 9, 0, 0, 0)
/-- StrawWatchModel.count.(I)I -/
def mt_18 : List (List mm_I) × Nat × mm_M := ([[(0, 1, .iconst 0, 0, 0, 0, 0), (1, 1, .istore_n 2, 0, 0, 0, 0), (2, 1, .iload_n 1, 0, 0, 0, 0), (3, 61, .tableswitch 236 0 11 #[61, 71, 81, 86, 91, 96, 101, 146, 183, 215, 223, 231], 0, 0, 0, 0)], [], [], [], [(64, 1, .aload_n 0, 0, 0, 0, 0), (65, 3, .getfield 43, 9, 22, 0, 1239), (68, 1, .aload_n 0, 0, 0, 0, 0), (69, 3, .getfield 233, 9, 18, 0, 1235), (72, 1, .iaload, 0, 0, 0, 0), (73, 1, .ireturn, 0, 0, 0, 0), (74, 1, .aload_n 0, 0, 0, 0, 0), (75, 3, .getfield 61, 9, 28, 0, 1245), (78, 1, .aload_n 0, 0, 0, 0, 0), (79, 3, .getfield 233, 9, 18, 0, 1235)], [(82, 1, .iaload, 0, 0, 0, 0), (83, 1, .ireturn, 0, 0, 0, 0), (84, 1, .aload_n 0, 0, 0, 0, 0), (85, 3, .getfield 166, 9, 2, 0, 1219), (88, 1, .ireturn, 0, 0, 0, 0), (89, 1, .aload_n 0, 0, 0, 0, 0), (90, 3, .getfield 251, 9, 54, 0, 1271), (93, 1, .ireturn, 0, 0, 0, 0), (94, 1, .aload_n 0, 0, 0, 0, 0), (95, 3, .getfield 254, 9, 65, 0, 1282)], [(98, 1, .ireturn, 0, 0, 0, 0), (99, 1, .aload_n 0, 0, 0, 0, 0), (100, 3, .getfield 257, 9, 67, 0, 1284), (103, 1, .ireturn, 0, 0, 0, 0), (104, 1, .aload_n 0, 0, 0, 0, 0), (105, 3, .getfield 146, 9, 71, 0, 1288), (108, 1, .iconst 0, 0, 0, 0, 0), (109, 1, .baload, 0, 0, 0, 0), (110, 3, .ifCond .eq 7, 0, 0, 0, 0)], [(113, 1, .iconst 1, 0, 0, 0, 0), (114, 3, .goto 4, 0, 0, 0, 0), (117, 1, .iconst 0, 0, 0, 0, 0), (118, 1, .aload_n 0, 0, 0, 0, 0), (119, 3, .getfield 146, 9, 71, 0, 1288), (122, 1, .iconst 1, 0, 0, 0, 0), (123, 1, .baload, 0, 0, 0, 0), (124, 3, .ifCond .eq 7, 0, 0, 0, 0), (127, 1, .iconst 1, 0, 0, 0, 0)], [(128, 3, .goto 4, 0, 0, 0, 0), (131, 1, .iconst 0, 0, 0, 0, 0), (132, 1, .iadd, 0, 0, 0, 0), (133, 1, .aload_n 0, 0, 0, 0, 0), (134, 3, .getfield 146, 9, 71, 0, 1288), (137, 1, .iconst 2, 0, 0, 0, 0), (138, 1, .baload, 0, 0, 0, 0), (139, 3, .ifCond .eq 7, 0, 0, 0, 0), (142, 1, .iconst 1, 0, 0, 0, 0), (143, 3, .goto 4, 0, 0, 0, 0)], [(146, 1, .iconst 0, 0, 0, 0, 0), (147, 1, .iadd, 0, 0, 0, 0), (148, 1, .ireturn, 0, 0, 0, 0), (149, 1, .iconst 0, 0, 0, 0, 0), (150, 1, .istore_n 3, 0, 0, 0, 0), (151, 1, .iload_n 3, 0, 0, 0, 0), (152, 1, .aload_n 0, 0, 0, 0, 0), (153, 3, .getfield 43, 9, 22, 0, 1239), (156, 1, .aload_n 0, 0, 0, 0, 0), (157, 3, .getfield 233, 9, 18, 0, 1235)], [(160, 1, .iaload, 0, 0, 0, 0), (161, 3, .if_icmp .ge 23, 0, 0, 0, 0), (164, 1, .iload_n 2, 0, 0, 0, 0), (165, 1, .aload_n 0, 0, 0, 0, 0), (166, 3, .getfield 107, 9, 47, 0, 1264), (169, 2, .bipush 6, 0, 0, 0, 0), (171, 1, .iload_n 3, 0, 0, 0, 0), (172, 1, .iadd, 0, 0, 0, 0), (173, 1, .iaload, 0, 0, 0, 0), (174, 1, .iload_n 3, 0, 0, 0, 0), (175, 1, .ishl, 0, 0, 0, 0)], [(176, 1, .ior, 0, 0, 0, 0), (177, 1, .istore_n 2, 0, 0, 0, 0), (178, 3, .iinc 3 1, 0, 0, 0, 0), (181, 3, .goto (-30), 0, 0, 0, 0), (184, 1, .iload_n 2, 0, 0, 0, 0), (185, 1, .ireturn, 0, 0, 0, 0), (186, 1, .iconst 0, 0, 0, 0, 0), (187, 1, .istore_n 3, 0, 0, 0, 0), (188, 1, .iload_n 3, 0, 0, 0, 0), (189, 1, .aload_n 0, 0, 0, 0, 0), (190, 3, .getfield 43, 9, 22, 0, 1239)], [(193, 1, .aload_n 0, 0, 0, 0, 0), (194, 3, .getfield 233, 9, 18, 0, 1235), (197, 1, .iaload, 0, 0, 0, 0), (198, 3, .if_icmp .ge 18, 0, 0, 0, 0), (201, 1, .iload_n 2, 0, 0, 0, 0), (202, 1, .aload_n 0, 0, 0, 0, 0), (203, 3, .getfield 107, 9, 47, 0, 1264), (206, 1, .iload_n 3, 0, 0, 0, 0), (207, 1, .iaload, 0, 0, 0, 0)], [(208, 1, .iadd, 0, 0, 0, 0), (209, 1, .istore_n 2, 0, 0, 0, 0), (210, 3, .iinc 3 1, 0, 0, 0, 0), (213, 3, .goto (-25), 0, 0, 0, 0), (216, 1, .iload_n 2, 0, 0, 0, 0), (217, 1, .ireturn, 0, 0, 0, 0), (218, 1, .aload_n 0, 0, 0, 0, 0), (219, 3, .getfield 107, 9, 47, 0, 1264), (222, 2, .bipush 55, 0, 0, 0, 0)], [(224, 1, .iaload, 0, 0, 0, 0), (225, 1, .ireturn, 0, 0, 0, 0), (226, 1, .aload_n 0, 0, 0, 0, 0), (227, 3, .getfield 107, 9, 47, 0, 1264), (230, 2, .bipush 54, 0, 0, 0, 0), (232, 1, .iaload, 0, 0, 0, 0), (233, 1, .ireturn, 0, 0, 0, 0), (234, 1, .aload_n 0, 0, 0, 0, 0), (235, 3, .invokevirtual 422, 22, 0, 0, 1695), (238, 1, .ireturn, 0, 0, 0, 0), (239, 1, .iconst (-1), 0, 0, 0, 0)], [(240, 1, .ireturn, 0, 0, 0, 0)]], 4, 1, 1, 9, 1, 0, 0)
/-- StrawWatchModel.cut.()V -/
def mt_19 : List (List mm_I) × Nat × mm_M := ([[(0, 1, .aload_n 0, 0, 0, 0, 0), (1, 1, .iconst 0, 0, 0, 0, 0), (2, 3, .putfield 181, 9, 10, 0, 1227), (5, 1, .iconst 0, 0, 0, 0, 0), (6, 1, .istore_n 1, 0, 0, 0, 0), (7, 1, .aload_n 0, 0, 0, 0, 0), (8, 3, .getfield 181, 9, 10, 0, 1227), (11, 3, .sipush 400, 0, 0, 0, 0), (14, 3, .if_icmp .gt 280, 0, 0, 0, 0)], [(17, 1, .aload_n 0, 0, 0, 0, 0), (18, 1, .iload_n 1, 0, 0, 0, 0), (19, 3, .invokevirtual 184, 12, 0, 0, 1457), (22, 1, .istore_n 2, 0, 0, 0, 0), (23, 1, .iload_n 1, 0, 0, 0, 0), (24, 1, .aload_n 0, 0, 0, 0, 0), (25, 3, .getfield 172, 9, 4, 0, 1221), (28, 3, .if_icmp .lt 15, 0, 0, 0, 0), (31, 1, .aload_n 0, 0, 0, 0, 0)], [(32, 1, .iconst 0, 0, 0, 0, 0), (33, 1, .aload_n 0, 0, 0, 0, 0), (34, 3, .getfield 172, 9, 4, 0, 1221), (37, 1, .iconst 0, 0, 0, 0, 0), (38, 1, .lconst 0, 0, 0, 0, 0), (39, 3, .invokevirtual 188, 103, 0, 0, 1461), (42, 1, .return_, 0, 0, 0, 0), (43, 1, .iload_n 2, 0, 0, 0, 0), (44, 2, .bipush 9, 0, 0, 0, 0), (46, 3, .if_icmp .eq 21, 0, 0, 0, 0)], [(49, 1, .iload_n 2, 0, 0, 0, 0), (50, 2, .bipush 10, 0, 0, 0, 0), (52, 3, .if_icmp .eq 15, 0, 0, 0, 0), (55, 1, .iload_n 2, 0, 0, 0, 0), (56, 2, .bipush 13, 0, 0, 0, 0), (58, 3, .if_icmp .eq 9, 0, 0, 0, 0), (61, 1, .iload_n 2, 0, 0, 0, 0), (62, 2, .bipush 32, 0, 0, 0, 0)], [(64, 3, .if_icmp .ne 9, 0, 0, 0, 0), (67, 3, .iinc 1 1, 0, 0, 0, 0), (70, 3, .goto 221, 0, 0, 0, 0), (73, 1, .iload_n 2, 0, 0, 0, 0), (74, 3, .invokestatic 192, 50, 0, 0, 1465), (77, 3, .ifCond .eq 119, 0, 0, 0, 0)], [(80, 1, .iconst 0, 0, 0, 0, 0), (81, 1, .istore_n 3, 0, 0, 0, 0), (82, 1, .lconst 0, 0, 0, 0, 0), (83, 2, .lstore 4, 0, 0, 0, 0), (85, 1, .aload_n 0, 0, 0, 0, 0), (86, 1, .iload_n 1, 0, 0, 0, 0), (87, 1, .iload_n 3, 0, 0, 0, 0), (88, 1, .iadd, 0, 0, 0, 0), (89, 3, .invokevirtual 184, 12, 0, 0, 1457), (92, 3, .invokestatic 192, 50, 0, 0, 1465), (95, 3, .ifCond .eq 29, 0, 0, 0, 0)], [(98, 1, .iload_n 3, 0, 0, 0, 0), (99, 2, .bipush 8, 0, 0, 0, 0), (101, 3, .if_icmp .ge 17, 0, 0, 0, 0), (104, 2, .lload 4, 0, 0, 0, 0), (106, 1, .aload_n 0, 0, 0, 0, 0), (107, 1, .iload_n 1, 0, 0, 0, 0), (108, 1, .iload_n 3, 0, 0, 0, 0), (109, 1, .iadd, 0, 0, 0, 0), (110, 3, .invokevirtual 184, 12, 0, 0, 1457)], [(113, 3, .invokestatic 177, 2, 0, 0, 1198), (116, 2, .lstore 4, 0, 0, 0, 0), (118, 3, .iinc 3 1, 0, 0, 0, 0), (121, 3, .goto (-36), 0, 0, 0, 0), (124, 1, .iload_n 3, 0, 0, 0, 0), (125, 2, .bipush 8, 0, 0, 0, 0), (127, 3, .if_icmp .le 7, 0, 0, 0, 0)], [(130, 1, .iconst 3, 0, 0, 0, 0), (131, 3, .goto 4, 0, 0, 0, 0), (134, 1, .iconst 1, 0, 0, 0, 0), (135, 2, .istore 6, 0, 0, 0, 0), (137, 1, .iload_n 3, 0, 0, 0, 0), (138, 2, .bipush 7, 0, 0, 0, 0), (140, 3, .if_icmp .gt 39, 0, 0, 0, 0), (143, 1, .iconst 0, 0, 0, 0, 0)], [(144, 2, .istore 7, 0, 0, 0, 0), (146, 2, .iload 7, 0, 0, 0, 0), (148, 2, .bipush 24, 0, 0, 0, 0), (150, 3, .if_icmp .ge 29, 0, 0, 0, 0), (153, 1, .aload_n 0, 0, 0, 0, 0), (154, 3, .getfield 34, 9, 9, 0, 1226), (157, 2, .iload 7, 0, 0, 0, 0), (159, 1, .laload, 0, 0, 0, 0)], [(160, 2, .lload 4, 0, 0, 0, 0), (162, 1, .lcmp, 0, 0, 0, 0), (163, 3, .ifCond .ne 10, 0, 0, 0, 0), (166, 2, .bipush 20, 0, 0, 0, 0), (168, 2, .iload 7, 0, 0, 0, 0), (170, 1, .iadd, 0, 0, 0, 0), (171, 2, .istore 6, 0, 0, 0, 0), (173, 3, .iinc 7 1, 0, 0, 0, 0)], [(176, 3, .goto (-30), 0, 0, 0, 0), (179, 1, .aload_n 0, 0, 0, 0, 0), (180, 2, .iload 6, 0, 0, 0, 0), (182, 1, .iload_n 1, 0, 0, 0, 0), (183, 1, .iconst 0, 0, 0, 0, 0), (184, 2, .lload 4, 0, 0, 0, 0), (186, 3, .invokevirtual 188, 103, 0, 0, 1461), (189, 1, .iload_n 1, 0, 0, 0, 0), (190, 1, .iload_n 3, 0, 0, 0, 0), (191, 1, .iadd, 0, 0, 0, 0)], [(192, 1, .istore_n 1, 0, 0, 0, 0), (193, 3, .goto 98, 0, 0, 0, 0), (196, 1, .iload_n 2, 0, 0, 0, 0), (197, 3, .invokestatic 196, 48, 0, 0, 1468), (200, 3, .ifCond .eq 75, 0, 0, 0, 0), (203, 1, .iconst 0, 0, 0, 0, 0), (204, 1, .istore_n 3, 0, 0, 0, 0), (205, 1, .iconst 0, 0, 0, 0, 0), (206, 2, .istore 4, 0, 0, 0, 0)], [(208, 1, .aload_n 0, 0, 0, 0, 0), (209, 1, .iload_n 1, 0, 0, 0, 0), (210, 1, .iload_n 3, 0, 0, 0, 0), (211, 1, .iadd, 0, 0, 0, 0), (212, 3, .invokevirtual 184, 12, 0, 0, 1457), (215, 3, .invokestatic 196, 48, 0, 0, 1468), (218, 3, .ifCond .eq 32, 0, 0, 0, 0), (221, 1, .iload_n 3, 0, 0, 0, 0), (222, 1, .iconst 4, 0, 0, 0, 0), (223, 3, .if_icmp .ge 21, 0, 0, 0, 0)], [(226, 2, .bipush 10, 0, 0, 0, 0), (228, 2, .iload 4, 0, 0, 0, 0), (230, 1, .imul, 0, 0, 0, 0), (231, 1, .aload_n 0, 0, 0, 0, 0), (232, 1, .iload_n 1, 0, 0, 0, 0), (233, 1, .iload_n 3, 0, 0, 0, 0), (234, 1, .iadd, 0, 0, 0, 0), (235, 3, .invokevirtual 184, 12, 0, 0, 1457), (238, 1, .iadd, 0, 0, 0, 0), (239, 2, .bipush 48, 0, 0, 0, 0)], [(241, 1, .isub, 0, 0, 0, 0), (242, 2, .istore 4, 0, 0, 0, 0), (244, 3, .iinc 3 1, 0, 0, 0, 0), (247, 3, .goto (-39), 0, 0, 0, 0), (250, 1, .aload_n 0, 0, 0, 0, 0), (251, 1, .iload_n 3, 0, 0, 0, 0), (252, 1, .iconst 4, 0, 0, 0, 0), (253, 3, .if_icmp .le 7, 0, 0, 0, 0)], [(256, 1, .iconst 3, 0, 0, 0, 0), (257, 3, .goto 4, 0, 0, 0, 0), (260, 1, .iconst 2, 0, 0, 0, 0), (261, 1, .iload_n 1, 0, 0, 0, 0), (262, 2, .iload 4, 0, 0, 0, 0), (264, 1, .lconst 0, 0, 0, 0, 0), (265, 3, .invokevirtual 188, 103, 0, 0, 1461), (268, 1, .iload_n 1, 0, 0, 0, 0), (269, 1, .iload_n 3, 0, 0, 0, 0), (270, 1, .iadd, 0, 0, 0, 0), (271, 1, .istore_n 1, 0, 0, 0, 0)], [(272, 3, .goto 19, 0, 0, 0, 0), (275, 1, .iload_n 1, 0, 0, 0, 0), (276, 1, .aload_n 0, 0, 0, 0, 0), (277, 1, .iload_n 1, 0, 0, 0, 0), (278, 1, .iload_n 2, 0, 0, 0, 0), (279, 1, .aload_n 0, 0, 0, 0, 0), (280, 1, .iload_n 1, 0, 0, 0, 0), (281, 1, .iconst 1, 0, 0, 0, 0), (282, 1, .iadd, 0, 0, 0, 0), (283, 3, .invokevirtual 184, 12, 0, 0, 1457), (286, 3, .invokevirtual 199, 89, 0, 0, 1471)], [(289, 1, .iadd, 0, 0, 0, 0), (290, 1, .istore_n 1, 0, 0, 0, 0), (291, 3, .goto (-284), 0, 0, 0, 0), (294, 1, .return_, 0, 0, 0, 0)]], 8, 0, 1, 9, 0, 0, 0)
/-- StrawWatchModel.dangerNow.()I -/
def mt_20 : List (List mm_I) × Nat × mm_M := ([[(0, 1, .aload_n 0, 0, 0, 0, 0), (1, 3, .invokevirtual 327, 61, 0, 0, 1574), (4, 1, .aload_n 0, 0, 0, 0, 0), (5, 1, .iconst 1, 0, 0, 0, 0), (6, 1, .iconst 0, 0, 0, 0, 0), (7, 1, .iconst 0, 0, 0, 0, 0), (8, 2, .bipush 9, 0, 0, 0, 0), (10, 3, .invokevirtual 330, 3, 0, 0, 1578), (13, 1, .ireturn, 0, 0, 0, 0)]], 1, 0, 1, 9, 1, 0, 0)
/-- StrawWatchModel.draws.()V -/
def mt_21 : List (List mm_I) × Nat × mm_M := ([[(0, 1, .aload_n 0, 0, 0, 0, 0), (1, 3, .getfield 110, 9, 48, 0, 1265), (4, 2, .bipush 51, 0, 0, 0, 0), (6, 1, .iaload, 0, 0, 0, 0), (7, 1, .aload_n 0, 0, 0, 0, 0), (8, 3, .getfield 43, 9, 22, 0, 1239), (11, 1, .aload_n 0, 0, 0, 0, 0), (12, 3, .getfield 233, 9, 18, 0, 1235), (15, 1, .iaload, 0, 0, 0, 0)], [(16, 3, .if_icmp .ge 4, 0, 0, 0, 0), (19, 1, .return_, 0, 0, 0, 0), (20, 1, .aload_n 0, 0, 0, 0, 0), (21, 3, .getfield 110, 9, 48, 0, 1265), (24, 2, .bipush 51, 0, 0, 0, 0), (26, 1, .dup2, 0, 0, 0, 0), (27, 1, .iaload, 0, 0, 0, 0), (28, 1, .aload_n 0, 0, 0, 0, 0), (29, 3, .getfield 43, 9, 22, 0, 1239)], [(32, 1, .aload_n 0, 0, 0, 0, 0), (33, 3, .getfield 233, 9, 18, 0, 1235), (36, 1, .iaload, 0, 0, 0, 0), (37, 1, .isub, 0, 0, 0, 0), (38, 1, .iastore, 0, 0, 0, 0), (39, 1, .iconst 1, 0, 0, 0, 0), (40, 1, .aload_n 0, 0, 0, 0, 0), (41, 3, .getfield 43, 9, 22, 0, 1239), (44, 1, .aload_n 0, 0, 0, 0, 0), (45, 3, .getfield 233, 9, 18, 0, 1235)], [(48, 1, .iaload, 0, 0, 0, 0), (49, 1, .ishl, 0, 0, 0, 0), (50, 1, .iconst 1, 0, 0, 0, 0), (51, 1, .isub, 0, 0, 0, 0), (52, 1, .istore_n 1, 0, 0, 0, 0), (53, 1, .aload_n 0, 0, 0, 0, 0), (54, 3, .getfield 43, 9, 22, 0, 1239), (57, 1, .aload_n 0, 0, 0, 0, 0), (58, 3, .getfield 233, 9, 18, 0, 1235), (61, 1, .iaload, 0, 0, 0, 0), (62, 1, .istore_n 2, 0, 0, 0, 0), (63, 1, .iconst 0, 0, 0, 0, 0)], [(64, 1, .istore_n 3, 0, 0, 0, 0), (65, 1, .iload_n 3, 0, 0, 0, 0), (66, 1, .iconst 4, 0, 0, 0, 0), (67, 3, .if_icmp .ge 105, 0, 0, 0, 0), (70, 1, .aload_n 0, 0, 0, 0, 0), (71, 3, .getfield 110, 9, 48, 0, 1265), (74, 2, .bipush 18, 0, 0, 0, 0), (76, 1, .iload_n 3, 0, 0, 0, 0), (77, 1, .iadd, 0, 0, 0, 0), (78, 2, .bipush (-2), 0, 0, 0, 0)], [(80, 1, .iastore, 0, 0, 0, 0), (81, 1, .iload_n 2, 0, 0, 0, 0), (82, 3, .ifCond .ne 6, 0, 0, 0, 0), (85, 3, .goto 81, 0, 0, 0, 0), (88, 1, .aload_n 0, 0, 0, 0, 0), (89, 2, .bipush 64, 0, 0, 0, 0), (91, 1, .aload_n 0, 0, 0, 0, 0), (92, 3, .getfield 110, 9, 48, 0, 1265), (95, 2, .bipush 53, 0, 0, 0, 0)], [(97, 1, .iaload, 0, 0, 0, 0), (98, 1, .imul, 0, 0, 0, 0), (99, 1, .iload_n 3, 0, 0, 0, 0), (100, 1, .iadd, 0, 0, 0, 0), (101, 1, .iload_n 2, 0, 0, 0, 0), (102, 3, .invokevirtual 351, 62, 0, 0, 1646), (105, 2, .istore 4, 0, 0, 0, 0), (107, 1, .iconst 0, 0, 0, 0, 0), (108, 2, .istore 5, 0, 0, 0, 0), (110, 1, .iload_n 1, 0, 0, 0, 0), (111, 2, .iload 5, 0, 0, 0, 0)], [(113, 1, .ishr, 0, 0, 0, 0), (114, 1, .iconst 1, 0, 0, 0, 0), (115, 1, .iand, 0, 0, 0, 0), (116, 3, .ifCond .eq 8, 0, 0, 0, 0), (119, 2, .iload 4, 0, 0, 0, 0), (121, 3, .ifCond .le 22, 0, 0, 0, 0), (124, 1, .iload_n 1, 0, 0, 0, 0), (125, 2, .iload 5, 0, 0, 0, 0), (127, 1, .ishr, 0, 0, 0, 0)], [(128, 1, .iconst 1, 0, 0, 0, 0), (129, 1, .iand, 0, 0, 0, 0), (130, 1, .iconst 1, 0, 0, 0, 0), (131, 3, .if_icmp .ne 6, 0, 0, 0, 0), (134, 3, .iinc 4 (-1), 0, 0, 0, 0), (137, 3, .iinc 5 1, 0, 0, 0, 0), (140, 3, .goto (-30), 0, 0, 0, 0), (143, 1, .aload_n 0, 0, 0, 0, 0)], [(144, 3, .getfield 110, 9, 48, 0, 1265), (147, 2, .bipush 18, 0, 0, 0, 0), (149, 1, .iload_n 3, 0, 0, 0, 0), (150, 1, .iadd, 0, 0, 0, 0), (151, 2, .iload 5, 0, 0, 0, 0), (153, 1, .iastore, 0, 0, 0, 0), (154, 1, .iload_n 1, 0, 0, 0, 0), (155, 1, .iconst 1, 0, 0, 0, 0), (156, 2, .iload 5, 0, 0, 0, 0), (158, 1, .ishl, 0, 0, 0, 0), (159, 1, .iconst (-1), 0, 0, 0, 0)], [(160, 1, .ixor, 0, 0, 0, 0), (161, 1, .iand, 0, 0, 0, 0), (162, 1, .istore_n 1, 0, 0, 0, 0), (163, 3, .iinc 2 (-1), 0, 0, 0, 0), (166, 3, .iinc 3 1, 0, 0, 0, 0), (169, 3, .goto (-104), 0, 0, 0, 0), (172, 1, .aload_n 0, 0, 0, 0, 0), (173, 3, .getfield 110, 9, 48, 0, 1265)], [(176, 2, .bipush 18, 0, 0, 0, 0), (178, 1, .iaload, 0, 0, 0, 0), (179, 1, .istore_n 3, 0, 0, 0, 0), (180, 1, .iload_n 3, 0, 0, 0, 0), (181, 3, .ifCond .lt 34, 0, 0, 0, 0), (184, 1, .aload_n 0, 0, 0, 0, 0), (185, 3, .getfield 110, 9, 48, 0, 1265), (188, 2, .bipush 6, 0, 0, 0, 0), (190, 1, .iload_n 3, 0, 0, 0, 0), (191, 1, .iadd, 0, 0, 0, 0)], [(192, 1, .iaload, 0, 0, 0, 0), (193, 3, .ifCond .eq 22, 0, 0, 0, 0), (196, 1, .aload_n 0, 0, 0, 0, 0), (197, 3, .getfield 110, 9, 48, 0, 1265), (200, 1, .iload_n 3, 0, 0, 0, 0), (201, 1, .iaload, 0, 0, 0, 0), (202, 3, .ifCond .eq 13, 0, 0, 0, 0), (205, 1, .aload_n 0, 0, 0, 0, 0), (206, 3, .getfield 110, 9, 48, 0, 1265)], [(209, 2, .bipush 19, 0, 0, 0, 0), (211, 1, .iaload, 0, 0, 0, 0), (212, 3, .ifCond .ge 4, 0, 0, 0, 0), (215, 1, .return_, 0, 0, 0, 0), (216, 1, .aload_n 0, 0, 0, 0, 0), (217, 3, .getfield 110, 9, 48, 0, 1265), (220, 1, .iload_n 3, 0, 0, 0, 0), (221, 1, .dup2, 0, 0, 0, 0), (222, 1, .iaload, 0, 0, 0, 0), (223, 1, .iconst 1, 0, 0, 0, 0)], [(224, 1, .isub, 0, 0, 0, 0), (225, 1, .iastore, 0, 0, 0, 0), (226, 1, .aload_n 0, 0, 0, 0, 0), (227, 3, .getfield 110, 9, 48, 0, 1265), (230, 2, .bipush 18, 0, 0, 0, 0), (232, 1, .aload_n 0, 0, 0, 0, 0), (233, 3, .getfield 110, 9, 48, 0, 1265), (236, 2, .bipush 19, 0, 0, 0, 0), (238, 1, .iaload, 0, 0, 0, 0), (239, 1, .iastore, 0, 0, 0, 0)], [(240, 1, .aload_n 0, 0, 0, 0, 0), (241, 3, .getfield 110, 9, 48, 0, 1265), (244, 2, .bipush 19, 0, 0, 0, 0), (246, 1, .iload_n 3, 0, 0, 0, 0), (247, 1, .iastore, 0, 0, 0, 0), (248, 1, .return_, 0, 0, 0, 0)]], 6, 0, 1, 9, 0, 0, 0)
/-- StrawWatchModel.drawsAll.()I -/
def mt_22 : List (List mm_I) × Nat × mm_M := ([[(0, 1, .iconst 1, 0, 0, 0, 0), (1, 1, .istore_n 1, 0, 0, 0, 0), (2, 1, .iconst 0, 0, 0, 0, 0), (3, 1, .istore_n 2, 0, 0, 0, 0), (4, 1, .iload_n 2, 0, 0, 0, 0), (5, 1, .iconst 4, 0, 0, 0, 0), (6, 3, .if_icmp .ge 36, 0, 0, 0, 0), (9, 1, .iload_n 2, 0, 0, 0, 0), (10, 1, .aload_n 0, 0, 0, 0, 0), (11, 3, .getfield 43, 9, 22, 0, 1239), (14, 1, .aload_n 0, 0, 0, 0, 0), (15, 3, .getfield 233, 9, 18, 0, 1235)], [(18, 1, .iaload, 0, 0, 0, 0), (19, 3, .if_icmp .ge 23, 0, 0, 0, 0), (22, 1, .iload_n 1, 0, 0, 0, 0), (23, 1, .aload_n 0, 0, 0, 0, 0), (24, 3, .getfield 43, 9, 22, 0, 1239), (27, 1, .aload_n 0, 0, 0, 0, 0), (28, 3, .getfield 233, 9, 18, 0, 1235), (31, 1, .iaload, 0, 0, 0, 0)], [(32, 1, .iload_n 2, 0, 0, 0, 0), (33, 1, .isub, 0, 0, 0, 0), (34, 1, .imul, 0, 0, 0, 0), (35, 1, .istore_n 1, 0, 0, 0, 0), (36, 3, .iinc 2 1, 0, 0, 0, 0), (39, 3, .goto (-35), 0, 0, 0, 0), (42, 1, .iload_n 1, 0, 0, 0, 0), (43, 1, .ireturn, 0, 0, 0, 0)]], 3, 0, 1, 9, 1, 0, 0)
/-- StrawWatchModel.emit.(II)V -/
def mt_23 : List (List mm_I) × Nat × mm_M := ([[(0, 1, .aload_n 0, 0, 0, 0, 0), (1, 3, .getfield 92, 9, 40, 0, 1257), (4, 1, .aload_n 0, 0, 0, 0, 0), (5, 3, .getfield 245, 9, 39, 0, 1256), (8, 1, .iload_n 1, 0, 0, 0, 0), (9, 1, .iastore, 0, 0, 0, 0), (10, 1, .aload_n 0, 0, 0, 0, 0), (11, 3, .getfield 95, 9, 41, 0, 1258), (14, 1, .aload_n 0, 0, 0, 0, 0), (15, 3, .getfield 245, 9, 39, 0, 1256)], [(18, 1, .iload_n 2, 0, 0, 0, 0), (19, 1, .iastore, 0, 0, 0, 0), (20, 1, .aload_n 0, 0, 0, 0, 0), (21, 1, .dup, 0, 0, 0, 0), (22, 3, .getfield 245, 9, 39, 0, 1256), (25, 1, .iconst 1, 0, 0, 0, 0), (26, 1, .iadd, 0, 0, 0, 0), (27, 3, .putfield 245, 9, 39, 0, 1256), (30, 1, .return_, 0, 0, 0, 0)]], 3, 2, 1, 9, 0, 0, 0)
/-- StrawWatchModel.ends.(I)I -/
def mt_24 : List (List mm_I) × Nat × mm_M := ([[(0, 1, .iload_n 1, 0, 0, 0, 0), (1, 1, .iconst 0, 0, 0, 0, 0), (2, 1, .iconst 1, 0, 0, 0, 0), (3, 3, .invokestatic 300, 43, 0, 0, 1543), (6, 3, .ifCond .ne 5, 0, 0, 0, 0), (9, 1, .iconst (-1), 0, 0, 0, 0), (10, 1, .ireturn, 0, 0, 0, 0), (11, 1, .aload_n 0, 0, 0, 0, 0), (12, 3, .invokevirtual 380, 17, 0, 0, 1546), (15, 1, .aload_n 0, 0, 0, 0, 0)], [(16, 1, .iload_n 1, 0, 0, 0, 0), (17, 3, .invokevirtual 464, 25, 0, 0, 1774), (20, 1, .ireturn, 0, 0, 0, 0)]], 2, 1, 1, 9, 1, 0, 0)
/-- StrawWatchModel.endsBy.(I)I -/
def mt_25 : List (List mm_I) × Nat × mm_M := ([[(0, 1, .iconst 0, 0, 0, 0, 0), (1, 1, .istore_n 2, 0, 0, 0, 0), (2, 1, .iload_n 2, 0, 0, 0, 0), (3, 3, .sipush 200, 0, 0, 0, 0), (6, 3, .if_icmp .ge 16, 0, 0, 0, 0), (9, 1, .aload_n 0, 0, 0, 0, 0), (10, 3, .invokevirtual 373, 106, 0, 0, 1638), (13, 3, .ifCond .eq 9, 0, 0, 0, 0)], [(16, 3, .iinc 2 1, 0, 0, 0, 0), (19, 3, .goto (-17), 0, 0, 0, 0), (22, 1, .aload_n 0, 0, 0, 0, 0), (23, 3, .getfield 110, 9, 48, 0, 1265), (26, 2, .bipush 52, 0, 0, 0, 0), (28, 1, .iaload, 0, 0, 0, 0), (29, 3, .ifCond .ne 6, 0, 0, 0, 0)], [(32, 2, .bipush (-2), 0, 0, 0, 0), (34, 1, .ireturn, 0, 0, 0, 0), (35, 1, .iload_n 1, 0, 0, 0, 0), (36, 3, .ifCond .ne 7, 0, 0, 0, 0), (39, 1, .iload_n 2, 0, 0, 0, 0), (40, 3, .goto 10, 0, 0, 0, 0), (43, 1, .aload_n 0, 0, 0, 0, 0), (44, 3, .getfield 110, 9, 48, 0, 1265), (47, 2, .bipush 52, 0, 0, 0, 0)], [(49, 1, .iaload, 0, 0, 0, 0), (50, 1, .ireturn, 0, 0, 0, 0)]], 3, 1, 1, 9, 1, 0, 0)
/-- StrawWatchModel.expression.()V -/
def mt_26 : List (List mm_I) × Nat × mm_M := ([[(0, 1, .aload_n 0, 0, 0, 0, 0), (1, 1, .iconst 0, 0, 0, 0, 0), (2, 3, .putfield 283, 9, 43, 0, 1260), (5, 1, .aload_n 0, 0, 0, 0, 0), (6, 3, .getfield 230, 9, 12, 0, 1229), (9, 1, .istore_n 1, 0, 0, 0, 0), (10, 1, .iconst 1, 0, 0, 0, 0), (11, 1, .istore_n 2, 0, 0, 0, 0), (12, 1, .iload_n 2, 0, 0, 0, 0), (13, 3, .ifCond .eq 259, 0, 0, 0, 0)], [(16, 1, .aload_n 0, 0, 0, 0, 0), (17, 3, .getfield 203, 9, 13, 0, 1230), (20, 3, .ifCond .ne 252, 0, 0, 0, 0), (23, 1, .aload_n 0, 0, 0, 0, 0), (24, 2, .bipush 6, 0, 0, 0, 0), (26, 3, .invokevirtual 221, 45, 0, 0, 1475), (29, 3, .ifCond .eq 55, 0, 0, 0, 0)], [(32, 1, .aload_n 0, 0, 0, 0, 0), (33, 3, .getfield 230, 9, 12, 0, 1229), (36, 2, .bipush 6, 0, 0, 0, 0), (38, 3, .if_icmp .ne 8, 0, 0, 0, 0), (41, 1, .aload_n 0, 0, 0, 0, 0), (42, 1, .iconst 2, 0, 0, 0, 0), (43, 3, .invokevirtual 218, 27, 0, 0, 1483), (46, 1, .aload_n 0, 0, 0, 0, 0), (47, 1, .dup, 0, 0, 0, 0)], [(48, 3, .getfield 230, 9, 12, 0, 1229), (51, 1, .iconst 1, 0, 0, 0, 0), (52, 1, .iadd, 0, 0, 0, 0), (53, 3, .putfield 230, 9, 12, 0, 1229), (56, 1, .aload_n 0, 0, 0, 0, 0), (57, 3, .invokevirtual 224, 37, 0, 0, 1491), (60, 1, .aload_n 0, 0, 0, 0, 0), (61, 3, .getfield 98, 9, 42, 0, 1259)], [(64, 1, .aload_n 0, 0, 0, 0, 0), (65, 3, .getfield 283, 9, 43, 0, 1260), (68, 2, .bipush 6, 0, 0, 0, 0), (70, 1, .iastore, 0, 0, 0, 0), (71, 1, .aload_n 0, 0, 0, 0, 0), (72, 1, .dup, 0, 0, 0, 0), (73, 3, .getfield 283, 9, 43, 0, 1260), (76, 1, .iconst 1, 0, 0, 0, 0), (77, 1, .iadd, 0, 0, 0, 0), (78, 3, .putfield 283, 9, 43, 0, 1260)], [(81, 3, .goto (-58), 0, 0, 0, 0), (84, 1, .aload_n 0, 0, 0, 0, 0), (85, 3, .invokevirtual 289, 105, 0, 0, 1515), (88, 1, .aload_n 0, 0, 0, 0, 0), (89, 3, .getfield 203, 9, 13, 0, 1230), (92, 3, .ifCond .le 4, 0, 0, 0, 0), (95, 1, .return_, 0, 0, 0, 0)], [(96, 1, .aload_n 0, 0, 0, 0, 0), (97, 2, .bipush 7, 0, 0, 0, 0), (99, 3, .invokevirtual 221, 45, 0, 0, 1475), (102, 3, .ifCond .eq 43, 0, 0, 0, 0), (105, 1, .aload_n 0, 0, 0, 0, 0), (106, 3, .getfield 230, 9, 12, 0, 1229), (109, 1, .iload_n 1, 0, 0, 0, 0), (110, 3, .if_icmp .le 35, 0, 0, 0, 0)], [(113, 1, .aload_n 0, 0, 0, 0, 0), (114, 1, .iconst 0, 0, 0, 0, 0), (115, 3, .invokevirtual 292, 15, 0, 0, 1523), (118, 1, .aload_n 0, 0, 0, 0, 0), (119, 1, .dup, 0, 0, 0, 0), (120, 3, .getfield 283, 9, 43, 0, 1260), (123, 1, .iconst 1, 0, 0, 0, 0), (124, 1, .isub, 0, 0, 0, 0), (125, 3, .putfield 283, 9, 43, 0, 1260)], [(128, 1, .aload_n 0, 0, 0, 0, 0), (129, 1, .dup, 0, 0, 0, 0), (130, 3, .getfield 230, 9, 12, 0, 1229), (133, 1, .iconst 1, 0, 0, 0, 0), (134, 1, .isub, 0, 0, 0, 0), (135, 3, .putfield 230, 9, 12, 0, 1229), (138, 1, .aload_n 0, 0, 0, 0, 0), (139, 3, .invokevirtual 224, 37, 0, 0, 1491), (142, 3, .goto (-46), 0, 0, 0, 0)], [(145, 1, .aload_n 0, 0, 0, 0, 0), (146, 2, .bipush 8, 0, 0, 0, 0), (148, 3, .invokevirtual 221, 45, 0, 0, 1475), (151, 3, .ifCond .ne 30, 0, 0, 0, 0), (154, 1, .aload_n 0, 0, 0, 0, 0), (155, 2, .bipush 9, 0, 0, 0, 0), (157, 3, .invokevirtual 221, 45, 0, 0, 1475)], [(160, 3, .ifCond .ne 21, 0, 0, 0, 0), (163, 1, .aload_n 0, 0, 0, 0, 0), (164, 2, .bipush 10, 0, 0, 0, 0), (166, 3, .invokevirtual 221, 45, 0, 0, 1475), (169, 3, .ifCond .ne 12, 0, 0, 0, 0), (172, 1, .aload_n 0, 0, 0, 0, 0), (173, 2, .bipush 15, 0, 0, 0, 0), (175, 3, .invokevirtual 221, 45, 0, 0, 1475)], [(178, 3, .ifCond .eq 7, 0, 0, 0, 0), (181, 1, .iconst 1, 0, 0, 0, 0), (182, 3, .goto 4, 0, 0, 0, 0), (185, 1, .iconst 0, 0, 0, 0, 0), (186, 1, .istore_n 2, 0, 0, 0, 0), (187, 1, .iload_n 2, 0, 0, 0, 0), (188, 3, .ifCond .ne 22, 0, 0, 0, 0), (191, 1, .aload_n 0, 0, 0, 0, 0)], [(192, 3, .getfield 230, 9, 12, 0, 1229), (195, 1, .iload_n 1, 0, 0, 0, 0), (196, 3, .if_icmp .le 8, 0, 0, 0, 0), (199, 1, .aload_n 0, 0, 0, 0, 0), (200, 1, .iconst 1, 0, 0, 0, 0), (201, 3, .invokevirtual 218, 27, 0, 0, 1483), (204, 1, .aload_n 0, 0, 0, 0, 0), (205, 1, .iconst 0, 0, 0, 0, 0), (206, 3, .invokevirtual 292, 15, 0, 0, 1523)], [(209, 1, .return_, 0, 0, 0, 0), (210, 1, .aload_n 0, 0, 0, 0, 0), (211, 1, .aload_n 0, 0, 0, 0, 0), (212, 2, .bipush 10, 0, 0, 0, 0), (214, 3, .invokevirtual 221, 45, 0, 0, 1475), (217, 3, .ifCond .ne 12, 0, 0, 0, 0), (220, 1, .aload_n 0, 0, 0, 0, 0), (221, 2, .bipush 15, 0, 0, 0, 0), (223, 3, .invokevirtual 221, 45, 0, 0, 1475)], [(226, 3, .ifCond .eq 7, 0, 0, 0, 0), (229, 1, .iconst 1, 0, 0, 0, 0), (230, 3, .goto 4, 0, 0, 0, 0), (233, 1, .iconst 0, 0, 0, 0, 0), (234, 3, .invokevirtual 292, 15, 0, 0, 1523), (237, 1, .aload_n 0, 0, 0, 0, 0), (238, 3, .getfield 98, 9, 42, 0, 1259)], [(241, 1, .aload_n 0, 0, 0, 0, 0), (242, 3, .getfield 283, 9, 43, 0, 1260), (245, 1, .aload_n 0, 0, 0, 0, 0), (246, 3, .getfield 20, 9, 5, 0, 1222), (249, 1, .aload_n 0, 0, 0, 0, 0), (250, 3, .getfield 206, 9, 11, 0, 1228), (253, 1, .iaload, 0, 0, 0, 0), (254, 1, .iastore, 0, 0, 0, 0), (255, 1, .aload_n 0, 0, 0, 0, 0)], [(256, 1, .dup, 0, 0, 0, 0), (257, 3, .getfield 283, 9, 43, 0, 1260), (260, 1, .iconst 1, 0, 0, 0, 0), (261, 1, .iadd, 0, 0, 0, 0), (262, 3, .putfield 283, 9, 43, 0, 1260), (265, 1, .aload_n 0, 0, 0, 0, 0), (266, 3, .invokevirtual 224, 37, 0, 0, 1491), (269, 3, .goto (-257), 0, 0, 0, 0)], [(272, 1, .return_, 0, 0, 0, 0)]], 3, 0, 1, 9, 0, 0, 0)
/-- StrawWatchModel.fail.(I)V -/
def mt_27 : List (List mm_I) × Nat × mm_M := ([[(0, 1, .aload_n 0, 0, 0, 0, 0), (1, 3, .getfield 203, 9, 13, 0, 1230), (4, 3, .ifCond .le 4, 0, 0, 0, 0), (7, 1, .return_, 0, 0, 0, 0), (8, 1, .aload_n 0, 0, 0, 0, 0), (9, 1, .iload_n 1, 0, 0, 0, 0), (10, 3, .putfield 203, 9, 13, 0, 1230), (13, 1, .aload_n 0, 0, 0, 0, 0), (14, 1, .aload_n 0, 0, 0, 0, 0), (15, 3, .getfield 24, 9, 6, 0, 1223)], [(18, 1, .aload_n 0, 0, 0, 0, 0), (19, 3, .getfield 206, 9, 11, 0, 1228), (22, 1, .iaload, 0, 0, 0, 0), (23, 3, .putfield 209, 9, 14, 0, 1231), (26, 1, .return_, 0, 0, 0, 0)]], 2, 1, 1, 9, 0, 0, 0)
/-- StrawWatchModel.feed.(IIIII)I -/
def mt_28 : List (List mm_I) × Nat × mm_M := ([[(0, 1, .aload_n 0, 0, 0, 0, 0), (1, 3, .getfield 166, 9, 2, 0, 1219), (4, 2, .bipush 20, 0, 0, 0, 0), (6, 1, .iadd, 0, 0, 0, 0), (7, 3, .sipush 2000, 0, 0, 0, 0), (10, 3, .if_icmp .le 5, 0, 0, 0, 0), (13, 1, .iconst (-1), 0, 0, 0, 0), (14, 1, .ireturn, 0, 0, 0, 0), (15, 1, .aload_n 0, 0, 0, 0, 0)], [(16, 1, .iload_n 1, 0, 0, 0, 0), (17, 3, .invokevirtual 169, 76, 0, 0, 1441), (20, 1, .aload_n 0, 0, 0, 0, 0), (21, 1, .iload_n 2, 0, 0, 0, 0), (22, 3, .invokevirtual 169, 76, 0, 0, 1441), (25, 1, .aload_n 0, 0, 0, 0, 0), (26, 1, .iload_n 3, 0, 0, 0, 0), (27, 3, .invokevirtual 169, 76, 0, 0, 1441), (30, 1, .aload_n 0, 0, 0, 0, 0), (31, 2, .iload 4, 0, 0, 0, 0)], [(33, 3, .invokevirtual 169, 76, 0, 0, 1441), (36, 1, .aload_n 0, 0, 0, 0, 0), (37, 2, .iload 5, 0, 0, 0, 0), (39, 3, .invokevirtual 169, 76, 0, 0, 1441), (42, 1, .aload_n 0, 0, 0, 0, 0), (43, 3, .getfield 166, 9, 2, 0, 1219), (46, 1, .ireturn, 0, 0, 0, 0)]], 6, 5, 1, 9, 1, 0, 0)
/-- StrawWatchModel.fillsBehind.(I)V -/
def mt_29 : List (List mm_I) × Nat × mm_M := ([[(0, 1, .aload_n 0, 0, 0, 0, 0), (1, 3, .getfield 122, 9, 57, 0, 1274), (4, 1, .iload_n 1, 0, 0, 0, 0), (5, 2, .bipush 9, 0, 0, 0, 0), (7, 1, .iadd, 0, 0, 0, 0), (8, 1, .baload, 0, 0, 0, 0), (9, 3, .ifCond .eq 4, 0, 0, 0, 0), (12, 1, .return_, 0, 0, 0, 0), (13, 1, .aload_n 0, 0, 0, 0, 0), (14, 3, .getfield 122, 9, 57, 0, 1274)], [(17, 1, .iload_n 1, 0, 0, 0, 0), (18, 2, .bipush 9, 0, 0, 0, 0), (20, 1, .iadd, 0, 0, 0, 0), (21, 1, .iconst 1, 0, 0, 0, 0), (22, 1, .bastore, 0, 0, 0, 0), (23, 1, .aload_n 0, 0, 0, 0, 0), (24, 3, .invokevirtual 380, 17, 0, 0, 1546), (27, 1, .aload_n 0, 0, 0, 0, 0), (28, 3, .getfield 110, 9, 48, 0, 1265), (31, 2, .bipush 53, 0, 0, 0, 0)], [(33, 1, .dup2, 0, 0, 0, 0), (34, 1, .iaload, 0, 0, 0, 0), (35, 1, .iconst 1, 0, 0, 0, 0), (36, 1, .iadd, 0, 0, 0, 0), (37, 1, .iastore, 0, 0, 0, 0), (38, 1, .aload_n 0, 0, 0, 0, 0), (39, 3, .getfield 110, 9, 48, 0, 1265), (42, 2, .bipush 46, 0, 0, 0, 0), (44, 1, .aload_n 0, 0, 0, 0, 0), (45, 3, .getfield 110, 9, 48, 0, 1265)], [(48, 2, .bipush 46, 0, 0, 0, 0), (50, 1, .iaload, 0, 0, 0, 0), (51, 1, .iload_n 1, 0, 0, 0, 0), (52, 1, .iadd, 0, 0, 0, 0), (53, 1, .aload_n 0, 0, 0, 0, 0), (54, 3, .getfield 61, 9, 28, 0, 1245), (57, 1, .aload_n 0, 0, 0, 0, 0), (58, 3, .getfield 233, 9, 18, 0, 1235), (61, 1, .iaload, 0, 0, 0, 0), (62, 3, .invokestatic 364, 39, 0, 0, 1631)], [(65, 1, .iastore, 0, 0, 0, 0), (66, 1, .aload_n 0, 0, 0, 0, 0), (67, 3, .invokevirtual 354, 108, 0, 0, 1617), (70, 1, .iconst 0, 0, 0, 0, 0), (71, 1, .istore_n 2, 0, 0, 0, 0), (72, 1, .iload_n 2, 0, 0, 0, 0), (73, 2, .bipush 40, 0, 0, 0, 0), (75, 3, .if_icmp .ge 24, 0, 0, 0, 0), (78, 1, .aload_n 0, 0, 0, 0, 0), (79, 3, .getfield 119, 9, 56, 0, 1273)], [(82, 2, .bipush 40, 0, 0, 0, 0), (84, 1, .iload_n 1, 0, 0, 0, 0), (85, 2, .bipush 9, 0, 0, 0, 0), (87, 1, .iadd, 0, 0, 0, 0), (88, 1, .imul, 0, 0, 0, 0), (89, 1, .iload_n 2, 0, 0, 0, 0), (90, 1, .iadd, 0, 0, 0, 0), (91, 1, .iconst 0, 0, 0, 0, 0), (92, 1, .iastore, 0, 0, 0, 0), (93, 3, .iinc 2 1, 0, 0, 0, 0)], [(96, 3, .goto (-24), 0, 0, 0, 0), (99, 1, .iconst 0, 0, 0, 0, 0), (100, 1, .istore_n 2, 0, 0, 0, 0), (101, 1, .iload_n 2, 0, 0, 0, 0), (102, 3, .sipush 2401, 0, 0, 0, 0), (105, 3, .if_icmp .ge 67, 0, 0, 0, 0), (108, 1, .aload_n 0, 0, 0, 0, 0), (109, 1, .iload_n 2, 0, 0, 0, 0), (110, 3, .invokevirtual 416, 49, 0, 0, 1681)], [(113, 3, .ifCond .ne 6, 0, 0, 0, 0), (116, 3, .goto 50, 0, 0, 0, 0), (119, 1, .iconst 0, 0, 0, 0, 0), (120, 1, .istore_n 3, 0, 0, 0, 0), (121, 1, .iload_n 3, 0, 0, 0, 0), (122, 1, .iconst 4, 0, 0, 0, 0), (123, 3, .if_icmp .ge 43, 0, 0, 0, 0), (126, 1, .aload_n 0, 0, 0, 0, 0), (127, 1, .iload_n 2, 0, 0, 0, 0)], [(128, 1, .iload_n 3, 0, 0, 0, 0), (129, 3, .invokevirtual 419, 31, 0, 0, 1691), (132, 1, .aload_n 0, 0, 0, 0, 0), (133, 3, .getfield 119, 9, 56, 0, 1273), (136, 2, .bipush 40, 0, 0, 0, 0), (138, 1, .iload_n 1, 0, 0, 0, 0), (139, 2, .bipush 9, 0, 0, 0, 0), (141, 1, .iadd, 0, 0, 0, 0), (142, 1, .imul, 0, 0, 0, 0), (143, 2, .bipush 10, 0, 0, 0, 0)], [(145, 1, .iload_n 3, 0, 0, 0, 0), (146, 1, .imul, 0, 0, 0, 0), (147, 1, .iadd, 0, 0, 0, 0), (148, 1, .aload_n 0, 0, 0, 0, 0), (149, 3, .getfield 113, 9, 53, 0, 1270), (152, 1, .iconst 1, 0, 0, 0, 0), (153, 1, .iaload, 0, 0, 0, 0), (154, 1, .iadd, 0, 0, 0, 0), (155, 1, .dup2, 0, 0, 0, 0), (156, 1, .iaload, 0, 0, 0, 0), (157, 1, .iconst 1, 0, 0, 0, 0), (158, 1, .iadd, 0, 0, 0, 0), (159, 1, .iastore, 0, 0, 0, 0)], [(160, 3, .iinc 3 1, 0, 0, 0, 0), (163, 3, .goto (-42), 0, 0, 0, 0), (166, 3, .iinc 2 1, 0, 0, 0, 0), (169, 3, .goto (-68), 0, 0, 0, 0), (172, 1, .return_, 0, 0, 0, 0)]], 4, 1, 1, 9, 0, 0, 0)
/-- StrawWatchModel.fillsDoing.(IIIII)V -/
def mt_30 : List (List mm_I) × Nat × mm_M := ([[(0, 1, .aload_n 0, 0, 0, 0, 0), (1, 1, .iload_n 1, 0, 0, 0, 0), (2, 1, .iconst 0, 0, 0, 0, 0), (3, 3, .invokevirtual 346, 90, 0, 0, 1550), (6, 2, .istore 6, 0, 0, 0, 0), (8, 1, .aload_n 0, 0, 0, 0, 0), (9, 3, .invokevirtual 327, 61, 0, 0, 1574), (12, 1, .aload_n 0, 0, 0, 0, 0), (13, 3, .getfield 101, 9, 44, 0, 1261)], [(16, 1, .iconst 2, 0, 0, 0, 0), (17, 2, .iload 6, 0, 0, 0, 0), (19, 1, .iastore, 0, 0, 0, 0), (20, 1, .aload_n 0, 0, 0, 0, 0), (21, 3, .getfield 101, 9, 44, 0, 1261), (24, 1, .iconst 5, 0, 0, 0, 0), (25, 1, .aload_n 0, 0, 0, 0, 0), (26, 2, .iload 4, 0, 0, 0, 0), (28, 1, .iconst 3, 0, 0, 0, 0), (29, 3, .invokevirtual 346, 90, 0, 0, 1550)], [(32, 1, .iastore, 0, 0, 0, 0), (33, 1, .aload_n 0, 0, 0, 0, 0), (34, 3, .getfield 113, 9, 53, 0, 1270), (37, 1, .iconst 2, 0, 0, 0, 0), (38, 1, .aload_n 0, 0, 0, 0, 0), (39, 1, .iconst 5, 0, 0, 0, 0), (40, 1, .iconst 1, 0, 0, 0, 0), (41, 1, .iconst 0, 0, 0, 0, 0), (42, 2, .bipush 99, 0, 0, 0, 0), (44, 3, .invokevirtual 330, 3, 0, 0, 1578), (47, 1, .iastore, 0, 0, 0, 0)], [(48, 1, .aload_n 0, 0, 0, 0, 0), (49, 3, .getfield 101, 9, 44, 0, 1261), (52, 2, .bipush 6, 0, 0, 0, 0), (54, 2, .iload 5, 0, 0, 0, 0), (56, 1, .iastore, 0, 0, 0, 0), (57, 1, .aload_n 0, 0, 0, 0, 0), (58, 3, .getfield 113, 9, 53, 0, 1270), (61, 1, .iconst 3, 0, 0, 0, 0), (62, 1, .aload_n 0, 0, 0, 0, 0), (63, 2, .bipush 6, 0, 0, 0, 0)], [(65, 1, .iconst 0, 0, 0, 0, 0), (66, 2, .bipush (-9), 0, 0, 0, 0), (68, 2, .bipush 9, 0, 0, 0, 0), (70, 3, .invokevirtual 330, 3, 0, 0, 1578), (73, 1, .iastore, 0, 0, 0, 0), (74, 1, .aload_n 0, 0, 0, 0, 0), (75, 3, .getfield 101, 9, 44, 0, 1261), (78, 1, .iconst 5, 0, 0, 0, 0), (79, 1, .iconst 0, 0, 0, 0, 0)], [(80, 1, .iastore, 0, 0, 0, 0), (81, 1, .aload_n 0, 0, 0, 0, 0), (82, 3, .getfield 101, 9, 44, 0, 1261), (85, 1, .iconst 3, 0, 0, 0, 0), (86, 1, .aload_n 0, 0, 0, 0, 0), (87, 1, .iload_n 2, 0, 0, 0, 0), (88, 1, .iconst 1, 0, 0, 0, 0), (89, 3, .invokevirtual 346, 90, 0, 0, 1550), (92, 1, .iastore, 0, 0, 0, 0), (93, 1, .aload_n 0, 0, 0, 0, 0), (94, 3, .getfield 101, 9, 44, 0, 1261)], [(97, 2, .bipush 7, 0, 0, 0, 0), (99, 1, .aload_n 0, 0, 0, 0, 0), (100, 3, .getfield 337, 9, 51, 0, 1268), (103, 1, .iastore, 0, 0, 0, 0), (104, 1, .aload_n 0, 0, 0, 0, 0), (105, 3, .getfield 101, 9, 44, 0, 1261), (108, 2, .bipush 8, 0, 0, 0, 0), (110, 1, .aload_n 0, 0, 0, 0, 0), (111, 3, .getfield 343, 9, 52, 0, 1269)], [(114, 1, .iastore, 0, 0, 0, 0), (115, 1, .aload_n 0, 0, 0, 0, 0), (116, 3, .getfield 113, 9, 53, 0, 1270), (119, 1, .iconst 0, 0, 0, 0, 0), (120, 1, .aload_n 0, 0, 0, 0, 0), (121, 1, .iconst 3, 0, 0, 0, 0), (122, 1, .aload_n 0, 0, 0, 0, 0), (123, 3, .getfield 337, 9, 51, 0, 1268), (126, 2, .iload 5, 0, 0, 0, 0)], [(128, 1, .iadd, 0, 0, 0, 0), (129, 2, .bipush (-9), 0, 0, 0, 0), (131, 2, .bipush 19, 0, 0, 0, 0), (133, 3, .invokevirtual 330, 3, 0, 0, 1578), (136, 1, .iastore, 0, 0, 0, 0), (137, 1, .aload_n 0, 0, 0, 0, 0), (138, 3, .getfield 101, 9, 44, 0, 1261), (141, 1, .iconst 4, 0, 0, 0, 0), (142, 1, .aload_n 0, 0, 0, 0, 0), (143, 1, .iload_n 3, 0, 0, 0, 0)], [(144, 1, .iconst 2, 0, 0, 0, 0), (145, 3, .invokevirtual 346, 90, 0, 0, 1550), (148, 1, .iastore, 0, 0, 0, 0), (149, 1, .aload_n 0, 0, 0, 0, 0), (150, 3, .getfield 113, 9, 53, 0, 1270), (153, 1, .iconst 1, 0, 0, 0, 0), (154, 1, .aload_n 0, 0, 0, 0, 0), (155, 1, .iconst 4, 0, 0, 0, 0), (156, 1, .iconst 0, 0, 0, 0, 0), (157, 1, .iconst 0, 0, 0, 0, 0), (158, 2, .bipush 9, 0, 0, 0, 0)], [(160, 3, .invokevirtual 330, 3, 0, 0, 1578), (163, 1, .iastore, 0, 0, 0, 0), (164, 1, .return_, 0, 0, 0, 0)]], 7, 5, 1, 9, 0, 0, 0)
/-- StrawWatchModel.fillsDraw.(II)V -/
def mt_31 : List (List mm_I) × Nat × mm_M := ([[(0, 1, .aload_n 0, 0, 0, 0, 0), (1, 1, .iload_n 1, 0, 0, 0, 0), (2, 1, .iconst 0, 0, 0, 0, 0), (3, 3, .invokestatic 402, 4, 0, 0, 1685), (6, 1, .iload_n 1, 0, 0, 0, 0), (7, 1, .iconst 1, 0, 0, 0, 0), (8, 3, .invokestatic 402, 4, 0, 0, 1685), (11, 1, .iload_n 1, 0, 0, 0, 0), (12, 1, .iconst 2, 0, 0, 0, 0), (13, 3, .invokestatic 402, 4, 0, 0, 1685)], [(16, 1, .iload_n 1, 0, 0, 0, 0), (17, 1, .iconst 3, 0, 0, 0, 0), (18, 3, .invokestatic 402, 4, 0, 0, 1685), (21, 1, .iload_n 2, 0, 0, 0, 0), (22, 3, .ifCond .lt 7, 0, 0, 0, 0), (25, 1, .iload_n 2, 0, 0, 0, 0), (26, 3, .goto 12, 0, 0, 0, 0), (29, 1, .aload_n 0, 0, 0, 0, 0), (30, 1, .iload_n 1, 0, 0, 0, 0), (31, 1, .iconst 0, 0, 0, 0, 0)], [(32, 3, .invokestatic 402, 4, 0, 0, 1685), (35, 3, .invokevirtual 357, 70, 0, 0, 1621), (38, 3, .invokevirtual 360, 30, 0, 0, 1627), (41, 1, .return_, 0, 0, 0, 0)]], 3, 2, 1, 9, 0, 0, 0)
/-- StrawWatchModel.fillsFirst.(I)V -/
def mt_32 : List (List mm_I) × Nat × mm_M := ([[(0, 1, .aload_n 0, 0, 0, 0, 0), (1, 3, .invokevirtual 380, 17, 0, 0, 1546), (4, 1, .aload_n 0, 0, 0, 0, 0), (5, 3, .invokevirtual 354, 108, 0, 0, 1617), (8, 1, .iconst 0, 0, 0, 0, 0), (9, 1, .istore_n 2, 0, 0, 0, 0), (10, 1, .iconst 0, 0, 0, 0, 0), (11, 1, .istore_n 3, 0, 0, 0, 0), (12, 1, .iload_n 3, 0, 0, 0, 0), (13, 3, .sipush 2401, 0, 0, 0, 0)], [(16, 3, .if_icmp .ge 65, 0, 0, 0, 0), (19, 1, .aload_n 0, 0, 0, 0, 0), (20, 1, .iload_n 3, 0, 0, 0, 0), (21, 3, .invokevirtual 416, 49, 0, 0, 1681), (24, 3, .ifCond .ne 6, 0, 0, 0, 0), (27, 3, .goto 48, 0, 0, 0, 0), (30, 1, .aload_n 0, 0, 0, 0, 0), (31, 1, .iload_n 3, 0, 0, 0, 0)], [(32, 1, .iload_n 1, 0, 0, 0, 0), (33, 3, .invokevirtual 419, 31, 0, 0, 1691), (36, 1, .aload_n 0, 0, 0, 0, 0), (37, 3, .getfield 125, 9, 60, 0, 1277), (40, 1, .iload_n 2, 0, 0, 0, 0), (41, 1, .aload_n 0, 0, 0, 0, 0), (42, 3, .getfield 113, 9, 53, 0, 1270), (45, 1, .iconst 0, 0, 0, 0, 0), (46, 1, .iaload, 0, 0, 0, 0), (47, 1, .iastore, 0, 0, 0, 0)], [(48, 1, .aload_n 0, 0, 0, 0, 0), (49, 3, .getfield 128, 9, 61, 0, 1278), (52, 1, .iload_n 2, 0, 0, 0, 0), (53, 1, .aload_n 0, 0, 0, 0, 0), (54, 3, .getfield 113, 9, 53, 0, 1270), (57, 1, .iconst 1, 0, 0, 0, 0), (58, 1, .iaload, 0, 0, 0, 0), (59, 1, .iastore, 0, 0, 0, 0), (60, 1, .aload_n 0, 0, 0, 0, 0), (61, 3, .getfield 131, 9, 62, 0, 1279)], [(64, 1, .iload_n 2, 0, 0, 0, 0), (65, 1, .aload_n 0, 0, 0, 0, 0), (66, 3, .getfield 113, 9, 53, 0, 1270), (69, 1, .iconst 2, 0, 0, 0, 0), (70, 1, .iaload, 0, 0, 0, 0), (71, 1, .iastore, 0, 0, 0, 0), (72, 3, .iinc 2 1, 0, 0, 0, 0), (75, 3, .iinc 3 1, 0, 0, 0, 0), (78, 3, .goto (-66), 0, 0, 0, 0)], [(81, 1, .return_, 0, 0, 0, 0)]], 4, 1, 1, 9, 0, 0, 0)
/-- StrawWatchModel.fillsRoster.()V -/
def mt_33 : List (List mm_I) × Nat × mm_M := ([[(0, 1, .aload_n 0, 0, 0, 0, 0), (1, 1, .iconst (-1), 0, 0, 0, 0), (2, 3, .putfield 446, 9, 63, 0, 1280), (5, 1, .iconst 0, 0, 0, 0, 0), (6, 1, .istore_n 1, 0, 0, 0, 0), (7, 1, .iload_n 1, 0, 0, 0, 0), (8, 3, .sipush 2401, 0, 0, 0, 0), (11, 3, .if_icmp .ge 53, 0, 0, 0, 0), (14, 1, .aload_n 0, 0, 0, 0, 0), (15, 1, .iload_n 1, 0, 0, 0, 0)], [(16, 3, .invokevirtual 416, 49, 0, 0, 1681), (19, 3, .ifCond .eq 39, 0, 0, 0, 0), (22, 1, .aload_n 0, 0, 0, 0, 0), (23, 3, .getfield 446, 9, 63, 0, 1280), (26, 3, .ifCond .lt 18, 0, 0, 0, 0), (29, 1, .aload_n 0, 0, 0, 0, 0), (30, 1, .iload_n 1, 0, 0, 0, 0), (31, 3, .invokevirtual 449, 91, 0, 0, 1743)], [(34, 1, .aload_n 0, 0, 0, 0, 0), (35, 3, .getfield 452, 9, 64, 0, 1281), (38, 3, .if_icmp .gt 6, 0, 0, 0, 0), (41, 3, .goto 17, 0, 0, 0, 0), (44, 1, .aload_n 0, 0, 0, 0, 0), (45, 1, .iload_n 1, 0, 0, 0, 0), (46, 3, .putfield 446, 9, 63, 0, 1280)], [(49, 1, .aload_n 0, 0, 0, 0, 0), (50, 1, .aload_n 0, 0, 0, 0, 0), (51, 1, .iload_n 1, 0, 0, 0, 0), (52, 3, .invokevirtual 449, 91, 0, 0, 1743), (55, 3, .putfield 452, 9, 64, 0, 1281), (58, 3, .iinc 1 1, 0, 0, 0, 0), (61, 3, .goto (-54), 0, 0, 0, 0)], [(64, 1, .return_, 0, 0, 0, 0)]], 2, 0, 1, 9, 0, 0, 0)
/-- StrawWatchModel.fillsSafest.(I)V -/
def mt_34 : List (List mm_I) × Nat × mm_M := ([[(0, 1, .iconst 0, 0, 0, 0, 0), (1, 1, .istore_n 2, 0, 0, 0, 0), (2, 1, .iload_n 2, 0, 0, 0, 0), (3, 2, .bipush 29, 0, 0, 0, 0), (5, 3, .if_icmp .ge 16, 0, 0, 0, 0), (8, 1, .aload_n 0, 0, 0, 0, 0), (9, 3, .getfield 122, 9, 57, 0, 1274), (12, 1, .iload_n 2, 0, 0, 0, 0), (13, 1, .iconst 0, 0, 0, 0, 0), (14, 1, .bastore, 0, 0, 0, 0), (15, 3, .iinc 2 1, 0, 0, 0, 0)], [(18, 3, .goto (-16), 0, 0, 0, 0), (21, 1, .aload_n 0, 0, 0, 0, 0), (22, 1, .iconst (-1), 0, 0, 0, 0), (23, 3, .putfield 431, 9, 59, 0, 1276), (26, 1, .iconst 0, 0, 0, 0, 0), (27, 1, .istore_n 2, 0, 0, 0, 0), (28, 1, .iload_n 2, 0, 0, 0, 0), (29, 1, .iload_n 1, 0, 0, 0, 0), (30, 1, .iconst 1, 0, 0, 0, 0), (31, 3, .if_icmp .ne 7, 0, 0, 0, 0)], [(34, 1, .iconst 4, 0, 0, 0, 0), (35, 3, .goto 5, 0, 0, 0, 0), (38, 2, .bipush 16, 0, 0, 0, 0), (40, 3, .if_icmp .ge 154, 0, 0, 0, 0), (43, 1, .iload_n 1, 0, 0, 0, 0), (44, 1, .iconst 1, 0, 0, 0, 0), (45, 3, .if_icmp .ne 7, 0, 0, 0, 0)], [(48, 1, .iload_n 2, 0, 0, 0, 0), (49, 3, .goto 6, 0, 0, 0, 0), (52, 1, .iload_n 2, 0, 0, 0, 0), (53, 1, .iconst 4, 0, 0, 0, 0), (54, 1, .idiv, 0, 0, 0, 0), (55, 1, .istore_n 3, 0, 0, 0, 0), (56, 1, .iload_n 1, 0, 0, 0, 0), (57, 1, .iconst 1, 0, 0, 0, 0), (58, 3, .if_icmp .eq 9, 0, 0, 0, 0), (61, 1, .iload_n 2, 0, 0, 0, 0), (62, 1, .iconst 4, 0, 0, 0, 0), (63, 1, .irem, 0, 0, 0, 0)], [(64, 3, .ifCond .ne 8, 0, 0, 0, 0), (67, 1, .aload_n 0, 0, 0, 0, 0), (68, 1, .iload_n 3, 0, 0, 0, 0), (69, 3, .invokevirtual 434, 32, 0, 0, 1715), (72, 1, .iconst 0, 0, 0, 0, 0), (73, 2, .istore 4, 0, 0, 0, 0), (75, 1, .aload_n 0, 0, 0, 0, 0), (76, 3, .getfield 107, 9, 47, 0, 1264), (79, 2, .bipush 52, 0, 0, 0, 0)], [(81, 1, .iaload, 0, 0, 0, 0), (82, 3, .ifCond .le 43, 0, 0, 0, 0), (85, 1, .aload_n 0, 0, 0, 0, 0), (86, 3, .getfield 107, 9, 47, 0, 1264), (89, 2, .bipush 47, 0, 0, 0, 0), (91, 1, .iaload, 0, 0, 0, 0), (92, 3, .ifCond .le 27, 0, 0, 0, 0), (95, 1, .iload_n 1, 0, 0, 0, 0)], [(96, 1, .iconst 1, 0, 0, 0, 0), (97, 3, .if_icmp .ne 10, 0, 0, 0, 0), (100, 1, .aload_n 0, 0, 0, 0, 0), (101, 3, .invokevirtual 422, 22, 0, 0, 1695), (104, 3, .goto 16, 0, 0, 0, 0), (107, 1, .aload_n 0, 0, 0, 0, 0), (108, 3, .invokevirtual 422, 22, 0, 0, 1695), (111, 1, .aload_n 0, 0, 0, 0, 0)], [(112, 3, .invokevirtual 422, 22, 0, 0, 1695), (115, 1, .imul, 0, 0, 0, 0), (116, 3, .goto 4, 0, 0, 0, 0), (119, 1, .iconst 0, 0, 0, 0, 0), (120, 2, .istore 4, 0, 0, 0, 0), (122, 3, .goto 36, 0, 0, 0, 0), (125, 1, .iconst 0, 0, 0, 0, 0), (126, 2, .istore 5, 0, 0, 0, 0)], [(128, 2, .iload 5, 0, 0, 0, 0), (130, 1, .aload_n 0, 0, 0, 0, 0), (131, 3, .invokevirtual 422, 22, 0, 0, 1695), (134, 3, .if_icmp .ge 24, 0, 0, 0, 0), (137, 2, .iload 4, 0, 0, 0, 0), (139, 1, .aload_n 0, 0, 0, 0, 0), (140, 2, .iload 5, 0, 0, 0, 0), (142, 1, .iload_n 1, 0, 0, 0, 0), (143, 1, .iload_n 2, 0, 0, 0, 0)], [(144, 1, .iconst 4, 0, 0, 0, 0), (145, 1, .irem, 0, 0, 0, 0), (146, 3, .invokevirtual 437, 83, 0, 0, 1719), (149, 1, .iadd, 0, 0, 0, 0), (150, 2, .istore 4, 0, 0, 0, 0), (152, 3, .iinc 5 1, 0, 0, 0, 0), (155, 3, .goto (-27), 0, 0, 0, 0), (158, 1, .aload_n 0, 0, 0, 0, 0), (159, 3, .getfield 431, 9, 59, 0, 1276)], [(162, 3, .ifCond .lt 15, 0, 0, 0, 0), (165, 2, .iload 4, 0, 0, 0, 0), (167, 1, .aload_n 0, 0, 0, 0, 0), (168, 3, .getfield 440, 9, 58, 0, 1275), (171, 3, .if_icmp .gt 6, 0, 0, 0, 0), (174, 3, .goto 14, 0, 0, 0, 0)], [(177, 1, .aload_n 0, 0, 0, 0, 0), (178, 1, .iload_n 2, 0, 0, 0, 0), (179, 3, .putfield 431, 9, 59, 0, 1276), (182, 1, .aload_n 0, 0, 0, 0, 0), (183, 2, .iload 4, 0, 0, 0, 0), (185, 3, .putfield 440, 9, 58, 0, 1275), (188, 3, .iinc 2 1, 0, 0, 0, 0), (191, 3, .goto (-163), 0, 0, 0, 0)], [(194, 1, .return_, 0, 0, 0, 0)]], 6, 1, 1, 9, 0, 0, 0)
/-- StrawWatchModel.forget.()I -/
def mt_35 : List (List mm_I) × Nat × mm_M := ([[(0, 1, .aload_n 0, 0, 0, 0, 0), (1, 3, .getfield 254, 9, 65, 0, 1282), (4, 1, .aload_n 0, 0, 0, 0, 0), (5, 3, .getfield 257, 9, 67, 0, 1284), (8, 1, .iadd, 0, 0, 0, 0), (9, 1, .istore_n 1, 0, 0, 0, 0), (10, 1, .aload_n 0, 0, 0, 0, 0), (11, 1, .iconst 0, 0, 0, 0, 0), (12, 3, .putfield 254, 9, 65, 0, 1282), (15, 1, .aload_n 0, 0, 0, 0, 0)], [(16, 1, .iconst 0, 0, 0, 0, 0), (17, 3, .putfield 257, 9, 67, 0, 1284), (20, 1, .iload_n 1, 0, 0, 0, 0), (21, 1, .ireturn, 0, 0, 0, 0)]], 2, 0, 1, 9, 1, 0, 0)
/-- StrawWatchModel.goes.(I)V -/
def mt_36 : List (List mm_I) × Nat × mm_M := ([[(0, 1, .iconst 0, 0, 0, 0, 0), (1, 1, .istore_n 2, 0, 0, 0, 0), (2, 1, .iload_n 2, 0, 0, 0, 0), (3, 1, .iload_n 1, 0, 0, 0, 0), (4, 3, .if_icmp .ge 14, 0, 0, 0, 0), (7, 1, .aload_n 0, 0, 0, 0, 0), (8, 3, .invokevirtual 373, 106, 0, 0, 1638), (11, 1, .pop, 0, 0, 0, 0), (12, 3, .iinc 2 1, 0, 0, 0, 0), (15, 3, .goto (-13), 0, 0, 0, 0)], [(18, 1, .return_, 0, 0, 0, 0)]], 3, 1, 1, 9, 0, 0, 0)
/-- StrawWatchModel.goesOn.()V -/
def mt_37 : List (List mm_I) × Nat × mm_M := ([[(0, 1, .aload_n 0, 0, 0, 0, 0), (1, 3, .getfield 206, 9, 11, 0, 1228), (4, 3, .sipush 400, 0, 0, 0, 0), (7, 3, .if_icmp .ne 11, 0, 0, 0, 0), (10, 1, .aload_n 0, 0, 0, 0, 0), (11, 1, .iconst 2, 0, 0, 0, 0), (12, 3, .invokevirtual 218, 27, 0, 0, 1483), (15, 3, .goto 13, 0, 0, 0, 0)], [(18, 1, .aload_n 0, 0, 0, 0, 0), (19, 1, .dup, 0, 0, 0, 0), (20, 3, .getfield 206, 9, 11, 0, 1228), (23, 1, .iconst 1, 0, 0, 0, 0), (24, 1, .iadd, 0, 0, 0, 0), (25, 3, .putfield 206, 9, 11, 0, 1228), (28, 1, .return_, 0, 0, 0, 0)]], 1, 0, 1, 9, 0, 0, 0)
/-- StrawWatchModel.handy.(I)I -/
def mt_38 : List (List mm_I) × Nat × mm_M := ([[(0, 1, .iload_n 1, 0, 0, 0, 0), (1, 1, .iconst 0, 0, 0, 0, 0), (2, 1, .iconst 3, 0, 0, 0, 0), (3, 3, .invokestatic 300, 43, 0, 0, 1543), (6, 3, .ifCond .ne 5, 0, 0, 0, 0), (9, 1, .iconst (-1), 0, 0, 0, 0), (10, 1, .ireturn, 0, 0, 0, 0), (11, 2, .bipush (-2), 0, 0, 0, 0), (13, 1, .istore_n 2, 0, 0, 0, 0), (14, 1, .iconst 0, 0, 0, 0, 0), (15, 1, .istore_n 3, 0, 0, 0, 0)], [(16, 1, .iload_n 3, 0, 0, 0, 0), (17, 1, .aload_n 0, 0, 0, 0, 0), (18, 3, .getfield 43, 9, 22, 0, 1239), (21, 1, .aload_n 0, 0, 0, 0, 0), (22, 3, .getfield 233, 9, 18, 0, 1235), (25, 1, .iaload, 0, 0, 0, 0), (26, 3, .if_icmp .ge 30, 0, 0, 0, 0), (29, 1, .iload_n 2, 0, 0, 0, 0), (30, 3, .ifCond .lt 18, 0, 0, 0, 0)], [(33, 1, .aload_n 0, 0, 0, 0, 0), (34, 1, .iload_n 3, 0, 0, 0, 0), (35, 1, .iload_n 1, 0, 0, 0, 0), (36, 3, .invokevirtual 346, 90, 0, 0, 1550), (39, 1, .aload_n 0, 0, 0, 0, 0), (40, 1, .iload_n 2, 0, 0, 0, 0), (41, 1, .iload_n 1, 0, 0, 0, 0), (42, 3, .invokevirtual 346, 90, 0, 0, 1550), (45, 3, .if_icmp .le 5, 0, 0, 0, 0)], [(48, 1, .iload_n 3, 0, 0, 0, 0), (49, 1, .istore_n 2, 0, 0, 0, 0), (50, 3, .iinc 3 1, 0, 0, 0, 0), (53, 3, .goto (-37), 0, 0, 0, 0), (56, 1, .iload_n 2, 0, 0, 0, 0), (57, 1, .ireturn, 0, 0, 0, 0)]], 4, 1, 1, 9, 1, 0, 0)
/-- StrawWatchModel.held.(II)I -/
def mt_39 : List (List mm_I) × Nat × mm_M := ([[(0, 1, .iload_n 0, 0, 0, 0, 0), (1, 3, .ifCond .ge 7, 0, 0, 0, 0), (4, 1, .iconst 0, 0, 0, 0, 0), (5, 3, .goto 13, 0, 0, 0, 0), (8, 1, .iload_n 0, 0, 0, 0, 0), (9, 1, .iload_n 1, 0, 0, 0, 0), (10, 3, .if_icmp .le 7, 0, 0, 0, 0), (13, 1, .iload_n 1, 0, 0, 0, 0), (14, 3, .goto 4, 0, 0, 0, 0)], [(17, 1, .iload_n 0, 0, 0, 0, 0), (18, 1, .ireturn, 0, 0, 0, 0)]], 2, 2, 0, 9, 1, 0, 0)
/-- StrawWatchModel.hide.(IZ)Z -/
def mt_40 : List (List mm_I) × Nat × mm_M := ([[(0, 1, .aload_n 0, 0, 0, 0, 0), (1, 1, .iload_n 1, 0, 0, 0, 0), (2, 3, .invokevirtual 377, 52, 0, 0, 1539), (5, 3, .ifCond .eq 25, 0, 0, 0, 0), (8, 1, .aload_n 0, 0, 0, 0, 0), (9, 3, .getfield 107, 9, 47, 0, 1264), (12, 2, .bipush 6, 0, 0, 0, 0), (14, 1, .iload_n 1, 0, 0, 0, 0), (15, 1, .iadd, 0, 0, 0, 0)], [(16, 1, .iaload, 0, 0, 0, 0), (17, 1, .iconst 1, 0, 0, 0, 0), (18, 3, .if_icmp .ne 7, 0, 0, 0, 0), (21, 1, .iconst 1, 0, 0, 0, 0), (22, 3, .goto 4, 0, 0, 0, 0), (25, 1, .iconst 0, 0, 0, 0, 0), (26, 1, .iload_n 2, 0, 0, 0, 0), (27, 3, .if_icmp .ne 5, 0, 0, 0, 0), (30, 1, .iconst 0, 0, 0, 0, 0), (31, 1, .ireturn, 0, 0, 0, 0)], [(32, 1, .aload_n 0, 0, 0, 0, 0), (33, 3, .invokevirtual 380, 17, 0, 0, 1546), (36, 1, .aload_n 0, 0, 0, 0, 0), (37, 3, .getfield 110, 9, 48, 0, 1265), (40, 2, .bipush 6, 0, 0, 0, 0), (42, 1, .iload_n 1, 0, 0, 0, 0), (43, 1, .iadd, 0, 0, 0, 0), (44, 1, .iload_n 2, 0, 0, 0, 0), (45, 3, .ifCond .eq 7, 0, 0, 0, 0)], [(48, 1, .iconst 1, 0, 0, 0, 0), (49, 3, .goto 4, 0, 0, 0, 0), (52, 1, .iconst 0, 0, 0, 0, 0), (53, 1, .iastore, 0, 0, 0, 0), (54, 1, .aload_n 0, 0, 0, 0, 0), (55, 3, .invokevirtual 389, 55, 0, 0, 1598), (58, 1, .iconst 1, 0, 0, 0, 0), (59, 1, .ireturn, 0, 0, 0, 0)]], 3, 2, 1, 9, 2, 0, 0)
/-- StrawWatchModel.hold.(I)Z -/
def mt_41 : List (List mm_I) × Nat × mm_M := ([[(0, 1, .iload_n 1, 0, 0, 0, 0), (1, 1, .iconst 0, 0, 0, 0, 0), (2, 1, .iconst 2, 0, 0, 0, 0), (3, 3, .invokestatic 300, 43, 0, 0, 1543), (6, 3, .ifCond .ne 5, 0, 0, 0, 0), (9, 1, .iconst 0, 0, 0, 0, 0), (10, 1, .ireturn, 0, 0, 0, 0), (11, 1, .aload_n 0, 0, 0, 0, 0), (12, 3, .getfield 146, 9, 71, 0, 1288), (15, 1, .iload_n 1, 0, 0, 0, 0)], [(16, 1, .iconst 1, 0, 0, 0, 0), (17, 1, .bastore, 0, 0, 0, 0), (18, 1, .iconst 0, 0, 0, 0, 0), (19, 1, .istore_n 2, 0, 0, 0, 0), (20, 1, .iload_n 2, 0, 0, 0, 0), (21, 2, .bipush 60, 0, 0, 0, 0), (23, 3, .if_icmp .ge 26, 0, 0, 0, 0), (26, 1, .aload_n 0, 0, 0, 0, 0), (27, 3, .getfield 149, 9, 72, 0, 1289), (30, 2, .bipush 60, 0, 0, 0, 0)], [(32, 1, .iload_n 1, 0, 0, 0, 0), (33, 1, .imul, 0, 0, 0, 0), (34, 1, .iload_n 2, 0, 0, 0, 0), (35, 1, .iadd, 0, 0, 0, 0), (36, 1, .aload_n 0, 0, 0, 0, 0), (37, 3, .getfield 107, 9, 47, 0, 1264), (40, 1, .iload_n 2, 0, 0, 0, 0), (41, 1, .iaload, 0, 0, 0, 0), (42, 1, .iastore, 0, 0, 0, 0), (43, 3, .iinc 2 1, 0, 0, 0, 0), (46, 3, .goto (-26), 0, 0, 0, 0)], [(49, 1, .iconst 1, 0, 0, 0, 0), (50, 1, .ireturn, 0, 0, 0, 0)]], 3, 1, 1, 9, 2, 0, 0)
/-- StrawWatchModel.howOver.()I -/
def mt_42 : List (List mm_I) × Nat × mm_M := ([[(0, 1, .aload_n 0, 0, 0, 0, 0), (1, 3, .getfield 110, 9, 48, 0, 1265), (4, 2, .bipush 46, 0, 0, 0, 0), (6, 1, .iaload, 0, 0, 0, 0), (7, 1, .aload_n 0, 0, 0, 0, 0), (8, 3, .getfield 61, 9, 28, 0, 1245), (11, 1, .aload_n 0, 0, 0, 0, 0), (12, 3, .getfield 233, 9, 18, 0, 1235), (15, 1, .iaload, 0, 0, 0, 0)], [(16, 3, .if_icmp .ne 7, 0, 0, 0, 0), (19, 1, .iconst 1, 0, 0, 0, 0), (20, 3, .goto 32, 0, 0, 0, 0), (23, 1, .aload_n 0, 0, 0, 0, 0), (24, 3, .getfield 110, 9, 48, 0, 1265), (27, 2, .bipush 47, 0, 0, 0, 0), (29, 1, .iaload, 0, 0, 0, 0), (30, 3, .ifCond .ne 7, 0, 0, 0, 0)], [(33, 1, .iconst 2, 0, 0, 0, 0), (34, 3, .goto 18, 0, 0, 0, 0), (37, 1, .aload_n 0, 0, 0, 0, 0), (38, 3, .getfield 110, 9, 48, 0, 1265), (41, 2, .bipush 48, 0, 0, 0, 0), (43, 1, .iaload, 0, 0, 0, 0), (44, 3, .ifCond .ne 7, 0, 0, 0, 0), (47, 1, .iconst 3, 0, 0, 0, 0)], [(48, 3, .goto 4, 0, 0, 0, 0), (51, 1, .iconst 0, 0, 0, 0, 0), (52, 1, .ireturn, 0, 0, 0, 0)]], 1, 0, 1, 9, 1, 0, 0)
/-- StrawWatchModel.in.(III)Z -/
def mt_43 : List (List mm_I) × Nat × mm_M := ([[(0, 1, .iload_n 0, 0, 0, 0, 0), (1, 1, .iload_n 1, 0, 0, 0, 0), (2, 3, .if_icmp .lt 12, 0, 0, 0, 0), (5, 1, .iload_n 0, 0, 0, 0, 0), (6, 1, .iload_n 2, 0, 0, 0, 0), (7, 3, .if_icmp .gt 7, 0, 0, 0, 0), (10, 1, .iconst 1, 0, 0, 0, 0), (11, 3, .goto 4, 0, 0, 0, 0), (14, 1, .iconst 0, 0, 0, 0, 0), (15, 1, .ireturn, 0, 0, 0, 0)]], 3, 3, 0, 9, 2, 0, 0)
/-- StrawWatchModel.<init>.()V -/
def mt_44 : List (List mm_I) × Nat × mm_M := ([[(0, 1, .aload_n 0, 0, 0, 0, 0), (1, 3, .invokespecial 7, 0, 0, 0, 1190), (4, 1, .aload_n 0, 0, 0, 0, 0), (5, 3, .sipush 2000, 0, 0, 0, 0), (8, 2, .newarray .byte, 0, 0, 0, 159), (10, 3, .putfield 13, 9, 1, 0, 1218), (13, 1, .aload_n 0, 0, 0, 0, 0), (14, 3, .sipush 2000, 0, 0, 0, 0)], [(17, 2, .newarray .byte, 0, 0, 0, 159), (19, 3, .putfield 17, 9, 3, 0, 1220), (22, 1, .aload_n 0, 0, 0, 0, 0), (23, 3, .sipush 403, 0, 0, 0, 0), (26, 2, .newarray .int, 0, 0, 0, 160), (28, 3, .putfield 20, 9, 5, 0, 1222), (31, 1, .aload_n 0, 0, 0, 0, 0)], [(32, 3, .sipush 403, 0, 0, 0, 0), (35, 2, .newarray .int, 0, 0, 0, 160), (37, 3, .putfield 24, 9, 6, 0, 1223), (40, 1, .aload_n 0, 0, 0, 0, 0), (41, 3, .sipush 403, 0, 0, 0, 0), (44, 2, .newarray .int, 0, 0, 0, 160), (46, 3, .putfield 27, 9, 7, 0, 1224)], [(49, 1, .aload_n 0, 0, 0, 0, 0), (50, 3, .sipush 403, 0, 0, 0, 0), (53, 2, .newarray .long, 0, 0, 0, 235), (55, 3, .putfield 30, 9, 8, 0, 1225), (58, 1, .aload_n 0, 0, 0, 0, 0), (59, 2, .bipush 24, 0, 0, 0, 0), (61, 2, .newarray .long, 0, 0, 0, 235), (63, 3, .putfield 34, 9, 9, 0, 1226)], [(66, 1, .aload_n 0, 0, 0, 0, 0), (67, 1, .iconst (-1), 0, 0, 0, 0), (68, 3, .putfield 37, 9, 17, 0, 1234), (71, 1, .aload_n 0, 0, 0, 0, 0), (72, 2, .bipush 6, 0, 0, 0, 0), (74, 2, .newarray .long, 0, 0, 0, 235), (76, 3, .putfield 40, 9, 21, 0, 1238), (79, 1, .aload_n 0, 0, 0, 0, 0)], [(80, 1, .iconst 2, 0, 0, 0, 0), (81, 2, .newarray .int, 0, 0, 0, 160), (83, 3, .putfield 43, 9, 22, 0, 1239), (86, 1, .aload_n 0, 0, 0, 0, 0), (87, 2, .bipush 48, 0, 0, 0, 0), (89, 2, .newarray .int, 0, 0, 0, 160), (91, 3, .putfield 46, 9, 23, 0, 1240), (94, 1, .aload_n 0, 0, 0, 0, 0), (95, 2, .bipush 12, 0, 0, 0, 0)], [(97, 2, .newarray .int, 0, 0, 0, 160), (99, 3, .putfield 49, 9, 24, 0, 1241), (102, 1, .aload_n 0, 0, 0, 0, 0), (103, 1, .iconst 2, 0, 0, 0, 0), (104, 2, .newarray .int, 0, 0, 0, 160), (106, 3, .putfield 52, 9, 25, 0, 1242), (109, 1, .aload_n 0, 0, 0, 0, 0), (110, 1, .iconst 2, 0, 0, 0, 0), (111, 2, .newarray .int, 0, 0, 0, 160)], [(113, 3, .putfield 55, 9, 26, 0, 1243), (116, 1, .aload_n 0, 0, 0, 0, 0), (117, 1, .iconst 2, 0, 0, 0, 0), (118, 2, .newarray .int, 0, 0, 0, 160), (120, 3, .putfield 58, 9, 27, 0, 1244), (123, 1, .aload_n 0, 0, 0, 0, 0), (124, 1, .iconst 2, 0, 0, 0, 0), (125, 2, .newarray .int, 0, 0, 0, 160), (127, 3, .putfield 61, 9, 28, 0, 1245)], [(130, 1, .aload_n 0, 0, 0, 0, 0), (131, 1, .iconst 2, 0, 0, 0, 0), (132, 2, .newarray .int, 0, 0, 0, 160), (134, 3, .putfield 64, 9, 29, 0, 1246), (137, 1, .aload_n 0, 0, 0, 0, 0), (138, 1, .iconst 2, 0, 0, 0, 0), (139, 2, .newarray .int, 0, 0, 0, 160), (141, 3, .putfield 67, 9, 30, 0, 1247)], [(144, 1, .aload_n 0, 0, 0, 0, 0), (145, 2, .bipush 14, 0, 0, 0, 0), (147, 2, .newarray .int, 0, 0, 0, 160), (149, 3, .putfield 70, 9, 31, 0, 1248), (152, 1, .aload_n 0, 0, 0, 0, 0), (153, 2, .bipush 14, 0, 0, 0, 0), (155, 2, .newarray .int, 0, 0, 0, 160), (157, 3, .putfield 73, 9, 32, 0, 1249)], [(160, 1, .aload_n 0, 0, 0, 0, 0), (161, 3, .sipush 260, 0, 0, 0, 0), (164, 2, .newarray .boolean, 0, 0, 0, 382), (166, 3, .putfield 76, 9, 34, 0, 1251), (169, 1, .aload_n 0, 0, 0, 0, 0), (170, 3, .sipush 260, 0, 0, 0, 0), (173, 2, .newarray .int, 0, 0, 0, 160), (175, 3, .putfield 80, 9, 35, 0, 1252)], [(178, 1, .aload_n 0, 0, 0, 0, 0), (179, 3, .sipush 260, 0, 0, 0, 0), (182, 2, .newarray .int, 0, 0, 0, 160), (184, 3, .putfield 83, 9, 36, 0, 1253), (187, 1, .aload_n 0, 0, 0, 0, 0), (188, 3, .sipush 260, 0, 0, 0, 0), (191, 2, .newarray .int, 0, 0, 0, 160)], [(193, 3, .putfield 86, 9, 37, 0, 1254), (196, 1, .aload_n 0, 0, 0, 0, 0), (197, 3, .sipush 260, 0, 0, 0, 0), (200, 2, .newarray .int, 0, 0, 0, 160), (202, 3, .putfield 89, 9, 38, 0, 1255), (205, 1, .aload_n 0, 0, 0, 0, 0), (206, 3, .sipush 840, 0, 0, 0, 0)], [(209, 2, .newarray .int, 0, 0, 0, 160), (211, 3, .putfield 92, 9, 40, 0, 1257), (214, 1, .aload_n 0, 0, 0, 0, 0), (215, 3, .sipush 840, 0, 0, 0, 0), (218, 2, .newarray .int, 0, 0, 0, 160), (220, 3, .putfield 95, 9, 41, 0, 1258), (223, 1, .aload_n 0, 0, 0, 0, 0)], [(224, 2, .bipush 64, 0, 0, 0, 0), (226, 2, .newarray .int, 0, 0, 0, 160), (228, 3, .putfield 98, 9, 42, 0, 1259), (231, 1, .aload_n 0, 0, 0, 0, 0), (232, 2, .bipush 9, 0, 0, 0, 0), (234, 2, .newarray .int, 0, 0, 0, 160), (236, 3, .putfield 101, 9, 44, 0, 1261), (239, 1, .aload_n 0, 0, 0, 0, 0)], [(240, 3, .sipush 400, 0, 0, 0, 0), (243, 2, .newarray .int, 0, 0, 0, 160), (245, 3, .putfield 104, 9, 45, 0, 1262), (248, 1, .aload_n 0, 0, 0, 0, 0), (249, 2, .bipush 60, 0, 0, 0, 0), (251, 2, .newarray .int, 0, 0, 0, 160), (253, 3, .putfield 107, 9, 47, 0, 1264)], [(256, 1, .aload_n 0, 0, 0, 0, 0), (257, 2, .bipush 60, 0, 0, 0, 0), (259, 2, .newarray .int, 0, 0, 0, 160), (261, 3, .putfield 110, 9, 48, 0, 1265), (264, 1, .aload_n 0, 0, 0, 0, 0), (265, 1, .iconst 4, 0, 0, 0, 0), (266, 2, .newarray .int, 0, 0, 0, 160), (268, 3, .putfield 113, 9, 53, 0, 1270), (271, 1, .aload_n 0, 0, 0, 0, 0)], [(272, 3, .sipush 2400, 0, 0, 0, 0), (275, 2, .newarray .int, 0, 0, 0, 160), (277, 3, .putfield 116, 9, 55, 0, 1272), (280, 1, .aload_n 0, 0, 0, 0, 0), (281, 3, .sipush 1160, 0, 0, 0, 0), (284, 2, .newarray .int, 0, 0, 0, 160), (286, 3, .putfield 119, 9, 56, 0, 1273)], [(289, 1, .aload_n 0, 0, 0, 0, 0), (290, 2, .bipush 29, 0, 0, 0, 0), (292, 2, .newarray .boolean, 0, 0, 0, 382), (294, 3, .putfield 122, 9, 57, 0, 1274), (297, 1, .aload_n 0, 0, 0, 0, 0), (298, 3, .sipush 360, 0, 0, 0, 0), (301, 2, .newarray .int, 0, 0, 0, 160), (303, 3, .putfield 125, 9, 60, 0, 1277)], [(306, 1, .aload_n 0, 0, 0, 0, 0), (307, 3, .sipush 360, 0, 0, 0, 0), (310, 2, .newarray .int, 0, 0, 0, 160), (312, 3, .putfield 128, 9, 61, 0, 1278), (315, 1, .aload_n 0, 0, 0, 0, 0), (316, 3, .sipush 360, 0, 0, 0, 0), (319, 2, .newarray .int, 0, 0, 0, 160)], [(321, 3, .putfield 131, 9, 62, 0, 1279), (324, 1, .aload_n 0, 0, 0, 0, 0), (325, 2, .bipush 10, 0, 0, 0, 0), (327, 2, .newarray .int, 0, 0, 0, 160), (329, 3, .putfield 134, 9, 66, 0, 1283), (332, 1, .aload_n 0, 0, 0, 0, 0), (333, 2, .bipush 20, 0, 0, 0, 0), (335, 2, .newarray .int, 0, 0, 0, 160)], [(337, 3, .putfield 137, 9, 68, 0, 1285), (340, 1, .aload_n 0, 0, 0, 0, 0), (341, 2, .bipush 20, 0, 0, 0, 0), (343, 2, .newarray .int, 0, 0, 0, 160), (345, 3, .putfield 140, 9, 69, 0, 1286), (348, 1, .aload_n 0, 0, 0, 0, 0), (349, 2, .bipush 61, 0, 0, 0, 0), (351, 2, .newarray .int, 0, 0, 0, 160)], [(353, 3, .putfield 143, 9, 70, 0, 1287), (356, 1, .aload_n 0, 0, 0, 0, 0), (357, 1, .iconst 3, 0, 0, 0, 0), (358, 2, .newarray .boolean, 0, 0, 0, 382), (360, 3, .putfield 146, 9, 71, 0, 1288), (363, 1, .aload_n 0, 0, 0, 0, 0), (364, 3, .sipush 180, 0, 0, 0, 0), (367, 2, .newarray .int, 0, 0, 0, 160)], [(369, 3, .putfield 149, 9, 72, 0, 1289), (372, 1, .aload_n 0, 0, 0, 0, 0), (373, 1, .iconst 0, 0, 0, 0, 0), (374, 3, .invokevirtual 152, 72, 0, 0, 1191), (377, 1, .aload_n 0, 0, 0, 0, 0), (378, 3, .getfield 34, 9, 9, 0, 1226), (381, 1, .iconst 0, 0, 0, 0, 0), (382, 2, .bipush 109, 0, 0, 0, 0)], [(384, 2, .bipush 97, 0, 0, 0, 0), (386, 2, .bipush 110, 0, 0, 0, 0), (388, 1, .iconst 0, 0, 0, 0, 0), (389, 1, .iconst 0, 0, 0, 0, 0), (390, 1, .iconst 0, 0, 0, 0, 0), (391, 1, .iconst 0, 0, 0, 0, 0), (392, 3, .invokestatic 156, 111, 0, 0, 1195), (395, 1, .lastore, 0, 0, 0, 0), (396, 1, .aload_n 0, 0, 0, 0, 0), (397, 3, .getfield 34, 9, 9, 0, 1226)], [(400, 1, .iconst 1, 0, 0, 0, 0), (401, 2, .bipush 119, 0, 0, 0, 0), (403, 2, .bipush 105, 0, 0, 0, 0), (405, 2, .bipush 110, 0, 0, 0, 0), (407, 2, .bipush 100, 0, 0, 0, 0), (409, 1, .iconst 0, 0, 0, 0, 0), (410, 1, .iconst 0, 0, 0, 0, 0), (411, 1, .iconst 0, 0, 0, 0, 0), (412, 3, .invokestatic 156, 111, 0, 0, 1195), (415, 1, .lastore, 0, 0, 0, 0)], [(416, 1, .aload_n 0, 0, 0, 0, 0), (417, 3, .getfield 34, 9, 9, 0, 1226), (420, 1, .iconst 2, 0, 0, 0, 0), (421, 2, .bipush 100, 0, 0, 0, 0), (423, 2, .bipush 97, 0, 0, 0, 0), (425, 2, .bipush 110, 0, 0, 0, 0), (427, 2, .bipush 103, 0, 0, 0, 0), (429, 2, .bipush 101, 0, 0, 0, 0), (431, 2, .bipush 114, 0, 0, 0, 0)], [(433, 1, .iconst 0, 0, 0, 0, 0), (434, 3, .invokestatic 156, 111, 0, 0, 1195), (437, 1, .lastore, 0, 0, 0, 0), (438, 1, .aload_n 0, 0, 0, 0, 0), (439, 3, .getfield 34, 9, 9, 0, 1226), (442, 1, .iconst 3, 0, 0, 0, 0), (443, 2, .bipush 111, 0, 0, 0, 0), (445, 2, .bipush 114, 0, 0, 0, 0), (447, 2, .bipush 100, 0, 0, 0, 0)], [(449, 2, .bipush 101, 0, 0, 0, 0), (451, 2, .bipush 114, 0, 0, 0, 0), (453, 2, .bipush 115, 0, 0, 0, 0), (455, 1, .iconst 0, 0, 0, 0, 0), (456, 3, .invokestatic 156, 111, 0, 0, 1195), (459, 1, .lastore, 0, 0, 0, 0), (460, 1, .aload_n 0, 0, 0, 0, 0), (461, 3, .getfield 34, 9, 9, 0, 1226)], [(464, 1, .iconst 4, 0, 0, 0, 0), (465, 2, .bipush 114, 0, 0, 0, 0), (467, 2, .bipush 117, 0, 0, 0, 0), (469, 2, .bipush 110, 0, 0, 0, 0), (471, 2, .bipush 115, 0, 0, 0, 0), (473, 1, .iconst 0, 0, 0, 0, 0), (474, 1, .iconst 0, 0, 0, 0, 0), (475, 1, .iconst 0, 0, 0, 0, 0), (476, 3, .invokestatic 156, 111, 0, 0, 1195), (479, 1, .lastore, 0, 0, 0, 0)], [(480, 1, .aload_n 0, 0, 0, 0, 0), (481, 3, .getfield 34, 9, 9, 0, 1226), (484, 1, .iconst 5, 0, 0, 0, 0), (485, 2, .bipush 115, 0, 0, 0, 0), (487, 2, .bipush 116, 0, 0, 0, 0), (489, 2, .bipush 114, 0, 0, 0, 0), (491, 2, .bipush 105, 0, 0, 0, 0), (493, 2, .bipush 107, 0, 0, 0, 0), (495, 2, .bipush 101, 0, 0, 0, 0)], [(497, 2, .bipush 115, 0, 0, 0, 0), (499, 3, .invokestatic 156, 111, 0, 0, 1195), (502, 1, .lastore, 0, 0, 0, 0), (503, 1, .aload_n 0, 0, 0, 0, 0), (504, 3, .getfield 34, 9, 9, 0, 1226), (507, 2, .bipush 6, 0, 0, 0, 0), (509, 2, .bipush 101, 0, 0, 0, 0), (511, 2, .bipush 97, 0, 0, 0, 0)], [(513, 2, .bipush 116, 0, 0, 0, 0), (515, 2, .bipush 115, 0, 0, 0, 0), (517, 1, .iconst 0, 0, 0, 0, 0), (518, 1, .iconst 0, 0, 0, 0, 0), (519, 1, .iconst 0, 0, 0, 0, 0), (520, 3, .invokestatic 156, 111, 0, 0, 1195), (523, 1, .lastore, 0, 0, 0, 0), (524, 1, .aload_n 0, 0, 0, 0, 0), (525, 3, .getfield 34, 9, 9, 0, 1226)], [(528, 2, .bipush 7, 0, 0, 0, 0), (530, 2, .bipush 109, 0, 0, 0, 0), (532, 2, .bipush 111, 0, 0, 0, 0), (534, 2, .bipush 111, 0, 0, 0, 0), (536, 2, .bipush 100, 0, 0, 0, 0), (538, 2, .bipush 115, 0, 0, 0, 0), (540, 1, .iconst 0, 0, 0, 0, 0), (541, 1, .iconst 0, 0, 0, 0, 0), (542, 3, .invokestatic 156, 111, 0, 0, 1195)], [(545, 1, .lastore, 0, 0, 0, 0), (546, 1, .aload_n 0, 0, 0, 0, 0), (547, 3, .getfield 34, 9, 9, 0, 1226), (550, 2, .bipush 8, 0, 0, 0, 0), (552, 2, .bipush 115, 0, 0, 0, 0), (554, 2, .bipush 104, 0, 0, 0, 0), (556, 2, .bipush 105, 0, 0, 0, 0), (558, 2, .bipush 112, 0, 0, 0, 0)], [(560, 1, .iconst 0, 0, 0, 0, 0), (561, 1, .iconst 0, 0, 0, 0, 0), (562, 1, .iconst 0, 0, 0, 0, 0), (563, 3, .invokestatic 156, 111, 0, 0, 1195), (566, 1, .lastore, 0, 0, 0, 0), (567, 1, .aload_n 0, 0, 0, 0, 0), (568, 3, .getfield 34, 9, 9, 0, 1226), (571, 2, .bipush 9, 0, 0, 0, 0), (573, 2, .bipush 103, 0, 0, 0, 0), (575, 2, .bipush 111, 0, 0, 0, 0)], [(577, 2, .bipush 97, 0, 0, 0, 0), (579, 2, .bipush 108, 0, 0, 0, 0), (581, 1, .iconst 0, 0, 0, 0, 0), (582, 1, .iconst 0, 0, 0, 0, 0), (583, 1, .iconst 0, 0, 0, 0, 0), (584, 3, .invokestatic 156, 111, 0, 0, 1195), (587, 1, .lastore, 0, 0, 0, 0), (588, 1, .aload_n 0, 0, 0, 0, 0), (589, 3, .getfield 34, 9, 9, 0, 1226)], [(592, 2, .bipush 10, 0, 0, 0, 0), (594, 2, .bipush 98, 0, 0, 0, 0), (596, 2, .bipush 114, 0, 0, 0, 0), (598, 2, .bipush 111, 0, 0, 0, 0), (600, 2, .bipush 111, 0, 0, 0, 0), (602, 2, .bipush 109, 0, 0, 0, 0), (604, 1, .iconst 0, 0, 0, 0, 0), (605, 1, .iconst 0, 0, 0, 0, 0), (606, 3, .invokestatic 156, 111, 0, 0, 1195)], [(609, 1, .lastore, 0, 0, 0, 0), (610, 1, .aload_n 0, 0, 0, 0, 0), (611, 3, .getfield 34, 9, 9, 0, 1226), (614, 2, .bipush 11, 0, 0, 0, 0), (616, 2, .bipush 115, 0, 0, 0, 0), (618, 2, .bipush 101, 0, 0, 0, 0), (620, 2, .bipush 101, 0, 0, 0, 0), (622, 2, .bipush 100, 0, 0, 0, 0)], [(624, 1, .iconst 0, 0, 0, 0, 0), (625, 1, .iconst 0, 0, 0, 0, 0), (626, 1, .iconst 0, 0, 0, 0, 0), (627, 3, .invokestatic 156, 111, 0, 0, 1195), (630, 1, .lastore, 0, 0, 0, 0), (631, 1, .aload_n 0, 0, 0, 0, 0), (632, 3, .getfield 34, 9, 9, 0, 1226), (635, 2, .bipush 12, 0, 0, 0, 0), (637, 2, .bipush 105, 0, 0, 0, 0), (639, 2, .bipush 102, 0, 0, 0, 0)], [(641, 1, .iconst 0, 0, 0, 0, 0), (642, 1, .iconst 0, 0, 0, 0, 0), (643, 1, .iconst 0, 0, 0, 0, 0), (644, 1, .iconst 0, 0, 0, 0, 0), (645, 1, .iconst 0, 0, 0, 0, 0), (646, 3, .invokestatic 156, 111, 0, 0, 1195), (649, 1, .lastore, 0, 0, 0, 0), (650, 1, .aload_n 0, 0, 0, 0, 0), (651, 3, .getfield 34, 9, 9, 0, 1226), (654, 2, .bipush 13, 0, 0, 0, 0)], [(656, 2, .bipush 116, 0, 0, 0, 0), (658, 2, .bipush 104, 0, 0, 0, 0), (660, 2, .bipush 101, 0, 0, 0, 0), (662, 2, .bipush 110, 0, 0, 0, 0), (664, 1, .iconst 0, 0, 0, 0, 0), (665, 1, .iconst 0, 0, 0, 0, 0), (666, 1, .iconst 0, 0, 0, 0, 0), (667, 3, .invokestatic 156, 111, 0, 0, 1195), (670, 1, .lastore, 0, 0, 0, 0), (671, 1, .aload_n 0, 0, 0, 0, 0)], [(672, 3, .getfield 34, 9, 9, 0, 1226), (675, 2, .bipush 14, 0, 0, 0, 0), (677, 2, .bipush 101, 0, 0, 0, 0), (679, 2, .bipush 108, 0, 0, 0, 0), (681, 2, .bipush 115, 0, 0, 0, 0), (683, 2, .bipush 101, 0, 0, 0, 0), (685, 1, .iconst 0, 0, 0, 0, 0), (686, 1, .iconst 0, 0, 0, 0, 0), (687, 1, .iconst 0, 0, 0, 0, 0)], [(688, 3, .invokestatic 156, 111, 0, 0, 1195), (691, 1, .lastore, 0, 0, 0, 0), (692, 1, .aload_n 0, 0, 0, 0, 0), (693, 3, .getfield 34, 9, 9, 0, 1226), (696, 2, .bipush 15, 0, 0, 0, 0), (698, 2, .bipush 119, 0, 0, 0, 0), (700, 2, .bipush 97, 0, 0, 0, 0), (702, 2, .bipush 116, 0, 0, 0, 0)], [(704, 2, .bipush 99, 0, 0, 0, 0), (706, 2, .bipush 104, 0, 0, 0, 0), (708, 1, .iconst 0, 0, 0, 0, 0), (709, 1, .iconst 0, 0, 0, 0, 0), (710, 3, .invokestatic 156, 111, 0, 0, 1195), (713, 1, .lastore, 0, 0, 0, 0), (714, 1, .aload_n 0, 0, 0, 0, 0), (715, 3, .getfield 34, 9, 9, 0, 1226), (718, 2, .bipush 16, 0, 0, 0, 0)], [(720, 2, .bipush 108, 0, 0, 0, 0), (722, 2, .bipush 101, 0, 0, 0, 0), (724, 2, .bipush 97, 0, 0, 0, 0), (726, 2, .bipush 103, 0, 0, 0, 0), (728, 2, .bipush 117, 0, 0, 0, 0), (730, 2, .bipush 101, 0, 0, 0, 0), (732, 1, .iconst 0, 0, 0, 0, 0), (733, 3, .invokestatic 156, 111, 0, 0, 1195)], [(736, 1, .lastore, 0, 0, 0, 0), (737, 1, .aload_n 0, 0, 0, 0, 0), (738, 3, .getfield 34, 9, 9, 0, 1226), (741, 2, .bipush 17, 0, 0, 0, 0), (743, 2, .bipush 115, 0, 0, 0, 0), (745, 2, .bipush 107, 0, 0, 0, 0), (747, 2, .bipush 105, 0, 0, 0, 0), (749, 2, .bipush 108, 0, 0, 0, 0), (751, 2, .bipush 108, 0, 0, 0, 0)], [(753, 1, .iconst 0, 0, 0, 0, 0), (754, 1, .iconst 0, 0, 0, 0, 0), (755, 3, .invokestatic 156, 111, 0, 0, 1195), (758, 1, .lastore, 0, 0, 0, 0), (759, 1, .aload_n 0, 0, 0, 0, 0), (760, 3, .getfield 34, 9, 9, 0, 1226), (763, 2, .bipush 18, 0, 0, 0, 0), (765, 2, .bipush 104, 0, 0, 0, 0), (767, 2, .bipush 101, 0, 0, 0, 0)], [(769, 2, .bipush 108, 0, 0, 0, 0), (771, 2, .bipush 109, 0, 0, 0, 0), (773, 1, .iconst 0, 0, 0, 0, 0), (774, 1, .iconst 0, 0, 0, 0, 0), (775, 1, .iconst 0, 0, 0, 0, 0), (776, 3, .invokestatic 156, 111, 0, 0, 1195), (779, 1, .lastore, 0, 0, 0, 0), (780, 1, .aload_n 0, 0, 0, 0, 0), (781, 3, .getfield 34, 9, 9, 0, 1226)], [(784, 2, .bipush 19, 0, 0, 0, 0), (786, 2, .bipush 108, 0, 0, 0, 0), (788, 2, .bipush 111, 0, 0, 0, 0), (790, 2, .bipush 111, 0, 0, 0, 0), (792, 2, .bipush 107, 0, 0, 0, 0), (794, 1, .iconst 0, 0, 0, 0, 0), (795, 1, .iconst 0, 0, 0, 0, 0), (796, 1, .iconst 0, 0, 0, 0, 0), (797, 3, .invokestatic 156, 111, 0, 0, 1195)], [(800, 1, .lastore, 0, 0, 0, 0), (801, 1, .aload_n 0, 0, 0, 0, 0), (802, 3, .getfield 34, 9, 9, 0, 1226), (805, 2, .bipush 20, 0, 0, 0, 0), (807, 2, .bipush 99, 0, 0, 0, 0), (809, 2, .bipush 111, 0, 0, 0, 0), (811, 2, .bipush 111, 0, 0, 0, 0), (813, 2, .bipush 107, 0, 0, 0, 0), (815, 1, .iconst 0, 0, 0, 0, 0)], [(816, 1, .iconst 0, 0, 0, 0, 0), (817, 1, .iconst 0, 0, 0, 0, 0), (818, 3, .invokestatic 156, 111, 0, 0, 1195), (821, 1, .lastore, 0, 0, 0, 0), (822, 1, .aload_n 0, 0, 0, 0, 0), (823, 3, .getfield 34, 9, 9, 0, 1226), (826, 2, .bipush 21, 0, 0, 0, 0), (828, 2, .bipush 115, 0, 0, 0, 0), (830, 2, .bipush 97, 0, 0, 0, 0)], [(832, 2, .bipush 105, 0, 0, 0, 0), (834, 2, .bipush 108, 0, 0, 0, 0), (836, 1, .iconst 0, 0, 0, 0, 0), (837, 1, .iconst 0, 0, 0, 0, 0), (838, 1, .iconst 0, 0, 0, 0, 0), (839, 3, .invokestatic 156, 111, 0, 0, 1195), (842, 1, .lastore, 0, 0, 0, 0), (843, 1, .aload_n 0, 0, 0, 0, 0), (844, 3, .getfield 34, 9, 9, 0, 1226), (847, 2, .bipush 22, 0, 0, 0, 0)], [(849, 2, .bipush 98, 0, 0, 0, 0), (851, 2, .bipush 108, 0, 0, 0, 0), (853, 2, .bipush 111, 0, 0, 0, 0), (855, 2, .bipush 119, 0, 0, 0, 0), (857, 2, .bipush 115, 0, 0, 0, 0), (859, 1, .iconst 0, 0, 0, 0, 0), (860, 1, .iconst 0, 0, 0, 0, 0), (861, 3, .invokestatic 156, 111, 0, 0, 1195)], [(864, 1, .lastore, 0, 0, 0, 0), (865, 1, .aload_n 0, 0, 0, 0, 0), (866, 3, .getfield 34, 9, 9, 0, 1226), (869, 2, .bipush 23, 0, 0, 0, 0), (871, 2, .bipush 110, 0, 0, 0, 0), (873, 2, .bipush 101, 0, 0, 0, 0), (875, 2, .bipush 97, 0, 0, 0, 0), (877, 2, .bipush 114, 0, 0, 0, 0), (879, 1, .iconst 0, 0, 0, 0, 0)], [(880, 1, .iconst 0, 0, 0, 0, 0), (881, 1, .iconst 0, 0, 0, 0, 0), (882, 3, .invokestatic 156, 111, 0, 0, 1195), (885, 1, .lastore, 0, 0, 0, 0), (886, 1, .aload_n 0, 0, 0, 0, 0), (887, 3, .invokevirtual 160, 7, 0, 0, 1202), (890, 1, .aload_n 0, 0, 0, 0, 0), (891, 3, .invokevirtual 163, 56, 0, 0, 1214), (894, 1, .return_, 0, 0, 0, 0)]], 1, 0, 2, 9, 0, 44, 14284)
/-- StrawWatchModel.is.(I)Z -/
def mt_45 : List (List mm_I) × Nat × mm_M := ([[(0, 1, .aload_n 0, 0, 0, 0, 0), (1, 3, .getfield 203, 9, 13, 0, 1230), (4, 3, .ifCond .ne 20, 0, 0, 0, 0), (7, 1, .aload_n 0, 0, 0, 0, 0), (8, 3, .getfield 20, 9, 5, 0, 1222), (11, 1, .aload_n 0, 0, 0, 0, 0), (12, 3, .getfield 206, 9, 11, 0, 1228), (15, 1, .iaload, 0, 0, 0, 0)], [(16, 1, .iload_n 1, 0, 0, 0, 0), (17, 3, .if_icmp .ne 7, 0, 0, 0, 0), (20, 1, .iconst 1, 0, 0, 0, 0), (21, 3, .goto 4, 0, 0, 0, 0), (24, 1, .iconst 0, 0, 0, 0, 0), (25, 1, .ireturn, 0, 0, 0, 0)]], 2, 1, 1, 9, 2, 0, 0)
/-- StrawWatchModel.isAsked.(II)Z -/
def mt_46 : List (List mm_I) × Nat × mm_M := ([[(0, 1, .iload_n 1, 0, 0, 0, 0), (1, 1, .iconst 0, 0, 0, 0, 0), (2, 1, .iconst 3, 0, 0, 0, 0), (3, 3, .invokestatic 300, 43, 0, 0, 1543), (6, 3, .ifCond .eq 16, 0, 0, 0, 0), (9, 1, .iload_n 2, 0, 0, 0, 0), (10, 1, .iconst (-1), 0, 0, 0, 0), (11, 1, .iconst 3, 0, 0, 0, 0), (12, 3, .invokestatic 300, 43, 0, 0, 1543), (15, 3, .ifCond .eq 7, 0, 0, 0, 0)], [(18, 1, .iconst 1, 0, 0, 0, 0), (19, 3, .goto 4, 0, 0, 0, 0), (22, 1, .iconst 0, 0, 0, 0, 0), (23, 1, .ireturn, 0, 0, 0, 0)]], 3, 2, 1, 9, 2, 0, 0)
/-- StrawWatchModel.isCrew.(I)Z -/
def mt_47 : List (List mm_I) × Nat × mm_M := ([[(0, 1, .iload_n 1, 0, 0, 0, 0), (1, 1, .iconst (-1), 0, 0, 0, 0), (2, 3, .if_icmp .eq 11, 0, 0, 0, 0), (5, 1, .aload_n 0, 0, 0, 0, 0), (6, 1, .iload_n 1, 0, 0, 0, 0), (7, 3, .invokevirtual 377, 52, 0, 0, 1539), (10, 3, .ifCond .eq 7, 0, 0, 0, 0), (13, 1, .iconst 1, 0, 0, 0, 0), (14, 3, .goto 4, 0, 0, 0, 0)], [(17, 1, .iconst 0, 0, 0, 0, 0), (18, 1, .ireturn, 0, 0, 0, 0)]], 2, 1, 1, 9, 2, 0, 0)
/-- StrawWatchModel.isDigit.(I)Z -/
def mt_48 : List (List mm_I) × Nat × mm_M := ([[(0, 1, .iload_n 0, 0, 0, 0, 0), (1, 2, .bipush 48, 0, 0, 0, 0), (3, 3, .if_icmp .lt 13, 0, 0, 0, 0), (6, 1, .iload_n 0, 0, 0, 0, 0), (7, 2, .bipush 57, 0, 0, 0, 0), (9, 3, .if_icmp .gt 7, 0, 0, 0, 0), (12, 1, .iconst 1, 0, 0, 0, 0), (13, 3, .goto 4, 0, 0, 0, 0)], [(16, 1, .iconst 0, 0, 0, 0, 0), (17, 1, .ireturn, 0, 0, 0, 0)]], 1, 1, 0, 9, 2, 0, 0)
/-- StrawWatchModel.isDraw.(I)Z -/
def mt_49 : List (List mm_I) × Nat × mm_M := ([[(0, 1, .iconst 0, 0, 0, 0, 0), (1, 1, .istore_n 2, 0, 0, 0, 0), (2, 1, .iconst 0, 0, 0, 0, 0), (3, 1, .istore_n 3, 0, 0, 0, 0), (4, 1, .iload_n 3, 0, 0, 0, 0), (5, 1, .iconst 4, 0, 0, 0, 0), (6, 3, .if_icmp .ge 70, 0, 0, 0, 0), (9, 1, .iload_n 1, 0, 0, 0, 0), (10, 1, .iload_n 3, 0, 0, 0, 0), (11, 3, .invokestatic 402, 4, 0, 0, 1685), (14, 2, .istore 4, 0, 0, 0, 0)], [(16, 1, .iload_n 3, 0, 0, 0, 0), (17, 1, .aload_n 0, 0, 0, 0, 0), (18, 3, .getfield 43, 9, 22, 0, 1239), (21, 1, .aload_n 0, 0, 0, 0, 0), (22, 3, .getfield 233, 9, 18, 0, 1235), (25, 1, .iaload, 0, 0, 0, 0), (26, 3, .if_icmp .lt 11, 0, 0, 0, 0), (29, 2, .iload 4, 0, 0, 0, 0), (31, 3, .ifCond .lt 27, 0, 0, 0, 0)], [(34, 3, .goto 22, 0, 0, 0, 0), (37, 1, .aload_n 0, 0, 0, 0, 0), (38, 2, .iload 4, 0, 0, 0, 0), (40, 3, .invokevirtual 377, 52, 0, 0, 1539), (43, 3, .ifCond .eq 13, 0, 0, 0, 0), (46, 1, .iload_n 2, 0, 0, 0, 0), (47, 2, .iload 4, 0, 0, 0, 0)], [(49, 1, .ishr, 0, 0, 0, 0), (50, 1, .iconst 1, 0, 0, 0, 0), (51, 1, .iand, 0, 0, 0, 0), (52, 1, .iconst 1, 0, 0, 0, 0), (53, 3, .if_icmp .ne 5, 0, 0, 0, 0), (56, 1, .iconst 0, 0, 0, 0, 0), (57, 1, .ireturn, 0, 0, 0, 0), (58, 2, .iload 4, 0, 0, 0, 0), (60, 3, .ifCond .lt 10, 0, 0, 0, 0), (63, 1, .iload_n 2, 0, 0, 0, 0)], [(64, 1, .iconst 1, 0, 0, 0, 0), (65, 2, .iload 4, 0, 0, 0, 0), (67, 1, .ishl, 0, 0, 0, 0), (68, 1, .ior, 0, 0, 0, 0), (69, 1, .istore_n 2, 0, 0, 0, 0), (70, 3, .iinc 3 1, 0, 0, 0, 0), (73, 3, .goto (-69), 0, 0, 0, 0), (76, 1, .iconst 1, 0, 0, 0, 0), (77, 1, .ireturn, 0, 0, 0, 0)]], 5, 1, 1, 9, 2, 0, 0)
/-- StrawWatchModel.isLetter.(I)Z -/
def mt_50 : List (List mm_I) × Nat × mm_M := ([[(0, 1, .iload_n 0, 0, 0, 0, 0), (1, 2, .bipush 97, 0, 0, 0, 0), (3, 3, .if_icmp .lt 13, 0, 0, 0, 0), (6, 1, .iload_n 0, 0, 0, 0, 0), (7, 2, .bipush 122, 0, 0, 0, 0), (9, 3, .if_icmp .gt 7, 0, 0, 0, 0), (12, 1, .iconst 1, 0, 0, 0, 0), (13, 3, .goto 4, 0, 0, 0, 0)], [(16, 1, .iconst 0, 0, 0, 0, 0), (17, 1, .ireturn, 0, 0, 0, 0)]], 1, 1, 0, 9, 2, 0, 0)
/-- StrawWatchModel.isLong.(I)Z -/
def mt_51 : List (List mm_I) × Nat × mm_M := ([[(0, 1, .iload_n 0, 0, 0, 0, 0), (1, 1, .iconst 0, 0, 0, 0, 0), (2, 3, .sipush 200, 0, 0, 0, 0), (5, 3, .invokestatic 300, 43, 0, 0, 1543), (8, 1, .ireturn, 0, 0, 0, 0)]], 1, 1, 0, 9, 2, 0, 0)
/-- StrawWatchModel.isMan.(I)Z -/
def mt_52 : List (List mm_I) × Nat × mm_M := ([[(0, 1, .iload_n 1, 0, 0, 0, 0), (1, 1, .iconst 0, 0, 0, 0, 0), (2, 1, .aload_n 0, 0, 0, 0, 0), (3, 3, .getfield 43, 9, 22, 0, 1239), (6, 1, .aload_n 0, 0, 0, 0, 0), (7, 3, .getfield 233, 9, 18, 0, 1235), (10, 1, .iaload, 0, 0, 0, 0), (11, 1, .iconst 1, 0, 0, 0, 0), (12, 1, .isub, 0, 0, 0, 0), (13, 3, .invokestatic 300, 43, 0, 0, 1543)], [(16, 1, .ireturn, 0, 0, 0, 0)]], 2, 1, 1, 9, 2, 0, 0)
/-- StrawWatchModel.isSame.(II)Z -/
def mt_53 : List (List mm_I) × Nat × mm_M := ([[(0, 1, .iload_n 0, 0, 0, 0, 0), (1, 3, .ifCond .lt 12, 0, 0, 0, 0), (4, 1, .iload_n 0, 0, 0, 0, 0), (5, 1, .iload_n 1, 0, 0, 0, 0), (6, 3, .if_icmp .ne 7, 0, 0, 0, 0), (9, 1, .iconst 1, 0, 0, 0, 0), (10, 3, .goto 4, 0, 0, 0, 0), (13, 1, .iconst 0, 0, 0, 0, 0), (14, 1, .ireturn, 0, 0, 0, 0)]], 2, 2, 0, 9, 2, 0, 0)
/-- StrawWatchModel.isSo.(II)Z -/
def mt_54 : List (List mm_I) × Nat × mm_M := ([[(0, 1, .aload_n 0, 0, 0, 0, 0), (1, 1, .iload_n 2, 0, 0, 0, 0), (2, 3, .invokevirtual 314, 8, 0, 0, 1206), (5, 1, .iconst 0, 0, 0, 0, 0), (6, 1, .istore_n 3, 0, 0, 0, 0), (7, 1, .iload_n 3, 0, 0, 0, 0), (8, 2, .bipush 60, 0, 0, 0, 0), (10, 3, .if_icmp .gt 42, 0, 0, 0, 0), (13, 1, .aload_n 0, 0, 0, 0, 0), (14, 3, .getfield 143, 9, 70, 0, 1287)], [(17, 1, .iload_n 3, 0, 0, 0, 0), (18, 1, .aload_n 0, 0, 0, 0, 0), (19, 3, .getfield 110, 9, 48, 0, 1265), (22, 2, .bipush 52, 0, 0, 0, 0), (24, 1, .iaload, 0, 0, 0, 0), (25, 3, .ifCond .le 8, 0, 0, 0, 0), (28, 2, .bipush (-9), 0, 0, 0, 0), (30, 3, .goto 10, 0, 0, 0, 0)], [(33, 1, .aload_n 0, 0, 0, 0, 0), (34, 3, .getfield 110, 9, 48, 0, 1265), (37, 2, .bipush 46, 0, 0, 0, 0), (39, 1, .iaload, 0, 0, 0, 0), (40, 1, .iastore, 0, 0, 0, 0), (41, 1, .aload_n 0, 0, 0, 0, 0), (42, 3, .invokevirtual 373, 106, 0, 0, 1638), (45, 1, .pop, 0, 0, 0, 0), (46, 3, .iinc 3 1, 0, 0, 0, 0)], [(49, 3, .goto (-42), 0, 0, 0, 0), (52, 1, .iconst 0, 0, 0, 0, 0), (53, 1, .istore_n 3, 0, 0, 0, 0), (54, 1, .iload_n 3, 0, 0, 0, 0), (55, 1, .iload_n 1, 0, 0, 0, 0), (56, 3, .if_icmp .ge 44, 0, 0, 0, 0), (59, 1, .aload_n 0, 0, 0, 0, 0), (60, 3, .getfield 143, 9, 70, 0, 1287), (63, 1, .aload_n 0, 0, 0, 0, 0)], [(64, 3, .getfield 137, 9, 68, 0, 1285), (67, 1, .iload_n 3, 0, 0, 0, 0), (68, 1, .iaload, 0, 0, 0, 0), (69, 1, .iaload, 0, 0, 0, 0), (70, 1, .aload_n 0, 0, 0, 0, 0), (71, 3, .getfield 140, 9, 69, 0, 1286), (74, 1, .iload_n 3, 0, 0, 0, 0), (75, 1, .iaload, 0, 0, 0, 0), (76, 1, .iconst 2, 0, 0, 0, 0), (77, 1, .isub, 0, 0, 0, 0), (78, 1, .aload_n 0, 0, 0, 0, 0), (79, 3, .getfield 140, 9, 69, 0, 1286)], [(82, 1, .iload_n 3, 0, 0, 0, 0), (83, 1, .iaload, 0, 0, 0, 0), (84, 1, .iconst 2, 0, 0, 0, 0), (85, 1, .iadd, 0, 0, 0, 0), (86, 3, .invokestatic 300, 43, 0, 0, 1543), (89, 3, .ifCond .ne 5, 0, 0, 0, 0), (92, 1, .iconst 0, 0, 0, 0, 0), (93, 1, .ireturn, 0, 0, 0, 0), (94, 3, .iinc 3 1, 0, 0, 0, 0)], [(97, 3, .goto (-43), 0, 0, 0, 0), (100, 1, .iconst 1, 0, 0, 0, 0), (101, 1, .ireturn, 0, 0, 0, 0)]], 4, 2, 1, 9, 2, 0, 0)
/-- StrawWatchModel.keeps.()V -/
def mt_55 : List (List mm_I) × Nat × mm_M := ([[(0, 1, .aload_n 0, 0, 0, 0, 0), (1, 3, .getfield 251, 9, 54, 0, 1271), (4, 2, .bipush 40, 0, 0, 0, 0), (6, 3, .if_icmp .ne 43, 0, 0, 0, 0), (9, 1, .iconst 0, 0, 0, 0, 0), (10, 1, .istore_n 1, 0, 0, 0, 0), (11, 1, .iload_n 1, 0, 0, 0, 0), (12, 3, .sipush 2340, 0, 0, 0, 0), (15, 3, .if_icmp .ge 24, 0, 0, 0, 0)], [(18, 1, .aload_n 0, 0, 0, 0, 0), (19, 3, .getfield 116, 9, 55, 0, 1272), (22, 1, .iload_n 1, 0, 0, 0, 0), (23, 1, .aload_n 0, 0, 0, 0, 0), (24, 3, .getfield 116, 9, 55, 0, 1272), (27, 1, .iload_n 1, 0, 0, 0, 0), (28, 2, .bipush 60, 0, 0, 0, 0), (30, 1, .iadd, 0, 0, 0, 0), (31, 1, .iaload, 0, 0, 0, 0)], [(32, 1, .iastore, 0, 0, 0, 0), (33, 3, .iinc 1 1, 0, 0, 0, 0), (36, 3, .goto (-25), 0, 0, 0, 0), (39, 1, .aload_n 0, 0, 0, 0, 0), (40, 1, .dup, 0, 0, 0, 0), (41, 3, .getfield 251, 9, 54, 0, 1271), (44, 1, .iconst 1, 0, 0, 0, 0), (45, 1, .isub, 0, 0, 0, 0), (46, 3, .putfield 251, 9, 54, 0, 1271)], [(49, 1, .iconst 0, 0, 0, 0, 0), (50, 1, .istore_n 1, 0, 0, 0, 0), (51, 1, .iload_n 1, 0, 0, 0, 0), (52, 2, .bipush 60, 0, 0, 0, 0), (54, 3, .if_icmp .ge 29, 0, 0, 0, 0), (57, 1, .aload_n 0, 0, 0, 0, 0), (58, 3, .getfield 116, 9, 55, 0, 1272), (61, 2, .bipush 60, 0, 0, 0, 0), (63, 1, .aload_n 0, 0, 0, 0, 0)], [(64, 3, .getfield 251, 9, 54, 0, 1271), (67, 1, .imul, 0, 0, 0, 0), (68, 1, .iload_n 1, 0, 0, 0, 0), (69, 1, .iadd, 0, 0, 0, 0), (70, 1, .aload_n 0, 0, 0, 0, 0), (71, 3, .getfield 107, 9, 47, 0, 1264), (74, 1, .iload_n 1, 0, 0, 0, 0), (75, 1, .iaload, 0, 0, 0, 0), (76, 1, .iastore, 0, 0, 0, 0), (77, 3, .iinc 1 1, 0, 0, 0, 0)], [(80, 3, .goto (-29), 0, 0, 0, 0), (83, 1, .aload_n 0, 0, 0, 0, 0), (84, 1, .dup, 0, 0, 0, 0), (85, 3, .getfield 251, 9, 54, 0, 1271), (88, 1, .iconst 1, 0, 0, 0, 0), (89, 1, .iadd, 0, 0, 0, 0), (90, 3, .putfield 251, 9, 54, 0, 1271), (93, 1, .aload_n 0, 0, 0, 0, 0), (94, 3, .invokevirtual 163, 56, 0, 0, 1214)], [(97, 1, .return_, 0, 0, 0, 0)]], 2, 0, 1, 9, 0, 0, 0)
/-- StrawWatchModel.keepsRow.()V -/
def mt_56 : List (List mm_I) × Nat × mm_M := ([[(0, 1, .iconst 0, 0, 0, 0, 0), (1, 1, .istore_n 1, 0, 0, 0, 0), (2, 1, .iload_n 1, 0, 0, 0, 0), (3, 2, .bipush 60, 0, 0, 0, 0), (5, 3, .if_icmp .ge 21, 0, 0, 0, 0), (8, 1, .aload_n 0, 0, 0, 0, 0), (9, 3, .getfield 107, 9, 47, 0, 1264), (12, 1, .iload_n 1, 0, 0, 0, 0), (13, 1, .aload_n 0, 0, 0, 0, 0), (14, 3, .getfield 110, 9, 48, 0, 1265)], [(17, 1, .iload_n 1, 0, 0, 0, 0), (18, 1, .iaload, 0, 0, 0, 0), (19, 1, .iastore, 0, 0, 0, 0), (20, 3, .iinc 1 1, 0, 0, 0, 0), (23, 3, .goto (-21), 0, 0, 0, 0), (26, 1, .return_, 0, 0, 0, 0)]], 2, 0, 1, 9, 0, 0, 0)
/-- StrawWatchModel.lawTells.(I)I -/
def mt_57 : List (List mm_I) × Nat × mm_M := ([[(0, 1, .aload_n 0, 0, 0, 0, 0), (1, 1, .iconst 0, 0, 0, 0, 0), (2, 3, .putfield 296, 9, 46, 0, 1263), (5, 1, .aload_n 0, 0, 0, 0, 0), (6, 3, .getfield 70, 9, 31, 0, 1248), (9, 1, .iload_n 1, 0, 0, 0, 0), (10, 1, .iaload, 0, 0, 0, 0), (11, 1, .istore_n 2, 0, 0, 0, 0), (12, 1, .iload_n 2, 0, 0, 0, 0), (13, 1, .aload_n 0, 0, 0, 0, 0), (14, 3, .getfield 73, 9, 32, 0, 1249)], [(17, 1, .iload_n 1, 0, 0, 0, 0), (18, 1, .iaload, 0, 0, 0, 0), (19, 3, .if_icmp .ge 101, 0, 0, 0, 0), (22, 1, .aload_n 0, 0, 0, 0, 0), (23, 3, .getfield 76, 9, 34, 0, 1251), (26, 1, .iload_n 2, 0, 0, 0, 0), (27, 1, .baload, 0, 0, 0, 0), (28, 3, .ifCond .eq 56, 0, 0, 0, 0), (31, 1, .aload_n 0, 0, 0, 0, 0)], [(32, 1, .aload_n 0, 0, 0, 0, 0), (33, 3, .getfield 80, 9, 35, 0, 1252), (36, 1, .iload_n 2, 0, 0, 0, 0), (37, 1, .iaload, 0, 0, 0, 0), (38, 1, .aload_n 0, 0, 0, 0, 0), (39, 3, .getfield 83, 9, 36, 0, 1253), (42, 1, .iload_n 2, 0, 0, 0, 0), (43, 1, .iaload, 0, 0, 0, 0), (44, 3, .invokevirtual 324, 101, 0, 0, 1586), (47, 1, .istore_n 3, 0, 0, 0, 0)], [(48, 1, .aload_n 0, 0, 0, 0, 0), (49, 1, .aload_n 0, 0, 0, 0, 0), (50, 3, .getfield 83, 9, 36, 0, 1253), (53, 1, .iload_n 2, 0, 0, 0, 0), (54, 1, .iaload, 0, 0, 0, 0), (55, 1, .aload_n 0, 0, 0, 0, 0), (56, 3, .getfield 86, 9, 37, 0, 1254), (59, 1, .iload_n 2, 0, 0, 0, 0), (60, 1, .iaload, 0, 0, 0, 0), (61, 3, .invokevirtual 324, 101, 0, 0, 1586)], [(64, 2, .istore 4, 0, 0, 0, 0), (66, 1, .aload_n 0, 0, 0, 0, 0), (67, 3, .getfield 296, 9, 46, 0, 1263), (70, 3, .ifCond .eq 5, 0, 0, 0, 0), (73, 1, .iconst 0, 0, 0, 0, 0), (74, 1, .ireturn, 0, 0, 0, 0), (75, 1, .iload_n 3, 0, 0, 0, 0), (76, 2, .iload 4, 0, 0, 0, 0), (78, 3, .if_icmp .lt 6, 0, 0, 0, 0)], [(81, 3, .goto 33, 0, 0, 0, 0), (84, 1, .aload_n 0, 0, 0, 0, 0), (85, 1, .aload_n 0, 0, 0, 0, 0), (86, 3, .getfield 86, 9, 37, 0, 1254), (89, 1, .iload_n 2, 0, 0, 0, 0), (90, 1, .iaload, 0, 0, 0, 0), (91, 1, .aload_n 0, 0, 0, 0, 0), (92, 3, .getfield 89, 9, 38, 0, 1255), (95, 1, .iload_n 2, 0, 0, 0, 0)], [(96, 1, .iaload, 0, 0, 0, 0), (97, 3, .invokevirtual 324, 101, 0, 0, 1586), (100, 1, .istore_n 3, 0, 0, 0, 0), (101, 1, .aload_n 0, 0, 0, 0, 0), (102, 3, .getfield 296, 9, 46, 0, 1263), (105, 3, .ifCond .eq 7, 0, 0, 0, 0), (108, 1, .iconst 0, 0, 0, 0, 0), (109, 3, .goto 4, 0, 0, 0, 0)], [(112, 1, .iload_n 3, 0, 0, 0, 0), (113, 1, .ireturn, 0, 0, 0, 0), (114, 3, .iinc 2 1, 0, 0, 0, 0), (117, 3, .goto (-105), 0, 0, 0, 0), (120, 1, .iconst 0, 0, 0, 0, 0), (121, 1, .ireturn, 0, 0, 0, 0)]], 5, 1, 1, 9, 1, 0, 0)
/-- StrawWatchModel.likely.(IIZ)I -/
def mt_58 : List (List mm_I) × Nat × mm_M := ([[(0, 1, .aload_n 0, 0, 0, 0, 0), (1, 1, .iload_n 1, 0, 0, 0, 0), (2, 3, .invokevirtual 377, 52, 0, 0, 1539), (5, 3, .ifCond .eq 12, 0, 0, 0, 0), (8, 1, .iload_n 2, 0, 0, 0, 0), (9, 1, .iconst 0, 0, 0, 0, 0), (10, 1, .iconst 3, 0, 0, 0, 0), (11, 3, .invokestatic 300, 43, 0, 0, 1543), (14, 3, .ifCond .ne 5, 0, 0, 0, 0)], [(17, 1, .iconst (-1), 0, 0, 0, 0), (18, 1, .ireturn, 0, 0, 0, 0), (19, 1, .iload_n 2, 0, 0, 0, 0), (20, 1, .aload_n 0, 0, 0, 0, 0), (21, 3, .getfield 43, 9, 22, 0, 1239), (24, 1, .aload_n 0, 0, 0, 0, 0), (25, 3, .getfield 233, 9, 18, 0, 1235), (28, 1, .iaload, 0, 0, 0, 0), (29, 3, .if_icmp .ge 20, 0, 0, 0, 0)], [(32, 1, .iconst 1, 0, 0, 0, 0), (33, 1, .aload_n 0, 0, 0, 0, 0), (34, 3, .getfield 43, 9, 22, 0, 1239), (37, 1, .aload_n 0, 0, 0, 0, 0), (38, 3, .getfield 233, 9, 18, 0, 1235), (41, 1, .iaload, 0, 0, 0, 0), (42, 1, .iload_n 3, 0, 0, 0, 0), (43, 3, .invokestatic 408, 59, 0, 0, 1662), (46, 3, .goto 12, 0, 0, 0, 0)], [(49, 1, .iload_n 3, 0, 0, 0, 0), (50, 3, .ifCond .eq 7, 0, 0, 0, 0), (53, 1, .iconst 1, 0, 0, 0, 0), (54, 3, .goto 4, 0, 0, 0, 0), (57, 1, .iconst 0, 0, 0, 0, 0), (58, 1, .ireturn, 0, 0, 0, 0)]], 4, 3, 1, 9, 1, 0, 0)
/-- StrawWatchModel.lineOf.(IIZ)I -/
def mt_59 : List (List mm_I) × Nat × mm_M := ([[(0, 1, .iload_n 0, 0, 0, 0, 0), (1, 1, .iload_n 1, 0, 0, 0, 0), (2, 3, .invokestatic 405, 16, 0, 0, 1665), (5, 1, .istore_n 3, 0, 0, 0, 0), (6, 1, .iload_n 2, 0, 0, 0, 0), (7, 3, .ifCond .eq 7, 0, 0, 0, 0), (10, 1, .iload_n 1, 0, 0, 0, 0), (11, 3, .goto 4, 0, 0, 0, 0), (14, 1, .iload_n 0, 0, 0, 0, 0), (15, 1, .iload_n 3, 0, 0, 0, 0)], [(16, 1, .idiv, 0, 0, 0, 0), (17, 1, .ireturn, 0, 0, 0, 0)]], 4, 3, 0, 9, 1, 0, 0)
/-- StrawWatchModel.log.(II)I -/
def mt_60 : List (List mm_I) × Nat × mm_M := ([[(0, 1, .aload_n 0, 0, 0, 0, 0), (1, 3, .getfield 257, 9, 67, 0, 1284), (4, 2, .bipush 20, 0, 0, 0, 0), (6, 3, .if_icmp .eq 24, 0, 0, 0, 0), (9, 1, .iload_n 1, 0, 0, 0, 0), (10, 1, .iconst 0, 0, 0, 0, 0), (11, 2, .bipush 60, 0, 0, 0, 0), (13, 3, .invokestatic 300, 43, 0, 0, 1543)], [(16, 3, .ifCond .eq 14, 0, 0, 0, 0), (19, 1, .iload_n 2, 0, 0, 0, 0), (20, 1, .iconst 0, 0, 0, 0, 0), (21, 3, .sipush 999, 0, 0, 0, 0), (24, 3, .invokestatic 300, 43, 0, 0, 1543), (27, 3, .ifCond .ne 5, 0, 0, 0, 0), (30, 1, .iconst (-1), 0, 0, 0, 0), (31, 1, .ireturn, 0, 0, 0, 0)], [(32, 1, .aload_n 0, 0, 0, 0, 0), (33, 3, .getfield 137, 9, 68, 0, 1285), (36, 1, .aload_n 0, 0, 0, 0, 0), (37, 3, .getfield 257, 9, 67, 0, 1284), (40, 1, .iload_n 1, 0, 0, 0, 0), (41, 1, .iastore, 0, 0, 0, 0), (42, 1, .aload_n 0, 0, 0, 0, 0), (43, 3, .getfield 140, 9, 69, 0, 1286), (46, 1, .aload_n 0, 0, 0, 0, 0), (47, 3, .getfield 257, 9, 67, 0, 1284)], [(50, 1, .iload_n 2, 0, 0, 0, 0), (51, 1, .iastore, 0, 0, 0, 0), (52, 1, .aload_n 0, 0, 0, 0, 0), (53, 1, .dup, 0, 0, 0, 0), (54, 3, .getfield 257, 9, 67, 0, 1284), (57, 1, .iconst 1, 0, 0, 0, 0), (58, 1, .iadd, 0, 0, 0, 0), (59, 3, .putfield 257, 9, 67, 0, 1284), (62, 1, .aload_n 0, 0, 0, 0, 0), (63, 3, .getfield 257, 9, 67, 0, 1284)], [(66, 1, .iconst 1, 0, 0, 0, 0), (67, 1, .isub, 0, 0, 0, 0), (68, 1, .ireturn, 0, 0, 0, 0)]], 3, 2, 1, 9, 1, 0, 0)
/-- StrawWatchModel.looks.()V -/
def mt_61 : List (List mm_I) × Nat × mm_M := ([[(0, 1, .iconst 2, 0, 0, 0, 0), (1, 1, .istore_n 1, 0, 0, 0, 0), (2, 1, .iload_n 1, 0, 0, 0, 0), (3, 2, .bipush 9, 0, 0, 0, 0), (5, 3, .if_icmp .ge 16, 0, 0, 0, 0), (8, 1, .aload_n 0, 0, 0, 0, 0), (9, 3, .getfield 101, 9, 44, 0, 1261), (12, 1, .iload_n 1, 0, 0, 0, 0), (13, 1, .iconst 0, 0, 0, 0, 0), (14, 1, .iastore, 0, 0, 0, 0), (15, 3, .iinc 1 1, 0, 0, 0, 0)], [(18, 3, .goto (-16), 0, 0, 0, 0), (21, 1, .aload_n 0, 0, 0, 0, 0), (22, 3, .getfield 101, 9, 44, 0, 1261), (25, 1, .iconst 0, 0, 0, 0, 0), (26, 1, .aload_n 0, 0, 0, 0, 0), (27, 3, .getfield 110, 9, 48, 0, 1265), (30, 2, .bipush 53, 0, 0, 0, 0)], [(32, 1, .iaload, 0, 0, 0, 0), (33, 1, .iastore, 0, 0, 0, 0), (34, 1, .aload_n 0, 0, 0, 0, 0), (35, 3, .getfield 101, 9, 44, 0, 1261), (38, 1, .iconst 1, 0, 0, 0, 0), (39, 1, .aload_n 0, 0, 0, 0, 0), (40, 3, .getfield 110, 9, 48, 0, 1265), (43, 2, .bipush 46, 0, 0, 0, 0), (45, 1, .iaload, 0, 0, 0, 0), (46, 1, .iastore, 0, 0, 0, 0), (47, 1, .return_, 0, 0, 0, 0)]], 2, 0, 1, 9, 0, 0, 0)
/-- StrawWatchModel.lotOf.(II)I -/
def mt_62 : List (List mm_I) × Nat × mm_M := ([[(0, 1, .aload_n 0, 0, 0, 0, 0), (1, 3, .getfield 308, 9, 49, 0, 1266), (4, 2, .bipush 81, 0, 0, 0, 0), (6, 3, .invokestatic 318, 65, 0, 0, 1650), (9, 1, .iload_n 1, 0, 0, 0, 0), (10, 3, .invokestatic 318, 65, 0, 0, 1650), (13, 1, .iconst 1, 0, 0, 0, 0), (14, 1, .iushr, 0, 0, 0, 0), (15, 1, .iload_n 2, 0, 0, 0, 0)], [(16, 1, .irem, 0, 0, 0, 0), (17, 1, .ireturn, 0, 0, 0, 0)]], 3, 2, 1, 9, 1, 0, 0)
/-- StrawWatchModel.man.(II)I -/
def mt_63 : List (List mm_I) × Nat × mm_M := ([[(0, 1, .aload_n 0, 0, 0, 0, 0), (1, 1, .iload_n 1, 0, 0, 0, 0), (2, 3, .invokevirtual 377, 52, 0, 0, 1539), (5, 3, .ifCond .ne 5, 0, 0, 0, 0), (8, 1, .iconst (-1), 0, 0, 0, 0), (9, 1, .ireturn, 0, 0, 0, 0), (10, 1, .aload_n 0, 0, 0, 0, 0), (11, 3, .invokevirtual 380, 17, 0, 0, 1546), (14, 1, .iload_n 2, 0, 0, 0, 0), (15, 49, .tableswitch 106 0 8 #[49, 49, 49, 49, 56, 63, 73, 79, 89], 0, 0, 0, 0)], [], [], [], [(64, 1, .aload_n 0, 0, 0, 0, 0), (65, 1, .iload_n 1, 0, 0, 0, 0), (66, 1, .iload_n 2, 0, 0, 0, 0), (67, 3, .invokevirtual 346, 90, 0, 0, 1550), (70, 1, .ireturn, 0, 0, 0, 0), (71, 1, .aload_n 0, 0, 0, 0, 0), (72, 3, .getfield 110, 9, 48, 0, 1265), (75, 1, .iload_n 1, 0, 0, 0, 0), (76, 1, .iaload, 0, 0, 0, 0), (77, 1, .ireturn, 0, 0, 0, 0), (78, 1, .aload_n 0, 0, 0, 0, 0), (79, 3, .getfield 110, 9, 48, 0, 1265)], [(82, 2, .bipush 6, 0, 0, 0, 0), (84, 1, .iload_n 1, 0, 0, 0, 0), (85, 1, .iadd, 0, 0, 0, 0), (86, 1, .iaload, 0, 0, 0, 0), (87, 1, .ireturn, 0, 0, 0, 0), (88, 1, .aload_n 0, 0, 0, 0, 0), (89, 1, .iload_n 1, 0, 0, 0, 0), (90, 3, .invokevirtual 383, 74, 0, 0, 1554), (93, 1, .ireturn, 0, 0, 0, 0), (94, 1, .aload_n 0, 0, 0, 0, 0), (95, 3, .getfield 110, 9, 48, 0, 1265)], [(98, 2, .bipush 12, 0, 0, 0, 0), (100, 1, .iload_n 1, 0, 0, 0, 0), (101, 1, .iadd, 0, 0, 0, 0), (102, 1, .iaload, 0, 0, 0, 0), (103, 1, .ireturn, 0, 0, 0, 0), (104, 1, .aload_n 0, 0, 0, 0, 0), (105, 3, .getfield 110, 9, 48, 0, 1265), (108, 2, .bipush 54, 0, 0, 0, 0), (110, 1, .iaload, 0, 0, 0, 0), (111, 1, .iload_n 1, 0, 0, 0, 0)], [(112, 3, .if_icmp .ne 7, 0, 0, 0, 0), (115, 1, .iconst 1, 0, 0, 0, 0), (116, 3, .goto 4, 0, 0, 0, 0), (119, 1, .iconst 0, 0, 0, 0, 0), (120, 1, .ireturn, 0, 0, 0, 0), (121, 1, .iconst (-1), 0, 0, 0, 0), (122, 1, .ireturn, 0, 0, 0, 0)]], 3, 2, 1, 9, 1, 0, 0)
/-- StrawWatchModel.mean.(IIZ)I -/
def mt_64 : List (List mm_I) × Nat × mm_M := ([[(0, 1, .aload_n 0, 0, 0, 0, 0), (1, 1, .iload_n 1, 0, 0, 0, 0), (2, 1, .iload_n 2, 0, 0, 0, 0), (3, 3, .invokevirtual 412, 46, 0, 0, 1676), (6, 3, .ifCond .ne 7, 0, 0, 0, 0), (9, 3, .ldc_w 415, 0, 0, (-100000), 1680), (12, 1, .ireturn, 0, 0, 0, 0), (13, 1, .aload_n 0, 0, 0, 0, 0), (14, 3, .invokevirtual 380, 17, 0, 0, 1546)], [(17, 1, .aload_n 0, 0, 0, 0, 0), (18, 3, .invokevirtual 354, 108, 0, 0, 1617), (21, 1, .iconst 0, 0, 0, 0, 0), (22, 2, .istore 4, 0, 0, 0, 0), (24, 1, .iconst 0, 0, 0, 0, 0), (25, 2, .istore 5, 0, 0, 0, 0), (27, 2, .iload 5, 0, 0, 0, 0), (29, 3, .sipush 2401, 0, 0, 0, 0)], [(32, 3, .if_icmp .ge 39, 0, 0, 0, 0), (35, 1, .aload_n 0, 0, 0, 0, 0), (36, 2, .iload 5, 0, 0, 0, 0), (38, 3, .invokevirtual 416, 49, 0, 0, 1681), (41, 3, .ifCond .ne 6, 0, 0, 0, 0), (44, 3, .goto 21, 0, 0, 0, 0), (47, 1, .aload_n 0, 0, 0, 0, 0)], [(48, 2, .iload 5, 0, 0, 0, 0), (50, 1, .iload_n 2, 0, 0, 0, 0), (51, 3, .invokevirtual 419, 31, 0, 0, 1691), (54, 2, .iload 4, 0, 0, 0, 0), (56, 1, .aload_n 0, 0, 0, 0, 0), (57, 3, .getfield 113, 9, 53, 0, 1270), (60, 1, .iload_n 1, 0, 0, 0, 0), (61, 1, .iaload, 0, 0, 0, 0), (62, 1, .iadd, 0, 0, 0, 0), (63, 2, .istore 4, 0, 0, 0, 0)], [(65, 3, .iinc 5 1, 0, 0, 0, 0), (68, 3, .goto (-41), 0, 0, 0, 0), (71, 2, .iload 4, 0, 0, 0, 0), (73, 1, .aload_n 0, 0, 0, 0, 0), (74, 3, .invokevirtual 422, 22, 0, 0, 1695), (77, 1, .iload_n 3, 0, 0, 0, 0), (78, 3, .invokestatic 408, 59, 0, 0, 1662)], [(81, 1, .ireturn, 0, 0, 0, 0)]], 6, 3, 1, 9, 1, 0, 0)
/-- StrawWatchModel.mixed.(II)I -/
def mt_65 : List (List mm_I) × Nat × mm_M := ([[(0, 1, .iload_n 0, 0, 0, 0, 0), (1, 1, .iload_n 1, 0, 0, 0, 0), (2, 1, .ixor, 0, 0, 0, 0), (3, 3, .ldc_w 317, 0, 0, 1103515245, 1653), (6, 1, .imul, 0, 0, 0, 0), (7, 3, .sipush 12345, 0, 0, 0, 0), (10, 1, .iadd, 0, 0, 0, 0), (11, 1, .istore_n 2, 0, 0, 0, 0), (12, 1, .iload_n 2, 0, 0, 0, 0), (13, 1, .iload_n 2, 0, 0, 0, 0), (14, 2, .bipush 15, 0, 0, 0, 0)], [(16, 1, .iushr, 0, 0, 0, 0), (17, 1, .ixor, 0, 0, 0, 0), (18, 1, .ireturn, 0, 0, 0, 0)]], 3, 2, 0, 9, 1, 0, 0)
/-- StrawWatchModel.most.(IIZ)I -/
def mt_66 : List (List mm_I) × Nat × mm_M := ([[(0, 1, .aload_n 0, 0, 0, 0, 0), (1, 1, .iload_n 1, 0, 0, 0, 0), (2, 1, .iload_n 2, 0, 0, 0, 0), (3, 3, .invokevirtual 412, 46, 0, 0, 1676), (6, 3, .ifCond .ne 7, 0, 0, 0, 0), (9, 3, .ldc_w 415, 0, 0, (-100000), 1680), (12, 1, .ireturn, 0, 0, 0, 0), (13, 1, .aload_n 0, 0, 0, 0, 0), (14, 3, .invokevirtual 380, 17, 0, 0, 1546)], [(17, 1, .aload_n 0, 0, 0, 0, 0), (18, 3, .invokevirtual 354, 108, 0, 0, 1617), (21, 1, .iconst 0, 0, 0, 0, 0), (22, 2, .istore 4, 0, 0, 0, 0), (24, 1, .iconst 0, 0, 0, 0, 0), (25, 2, .istore 5, 0, 0, 0, 0), (27, 1, .iconst 0, 0, 0, 0, 0), (28, 2, .istore 6, 0, 0, 0, 0), (30, 2, .iload 6, 0, 0, 0, 0)], [(32, 3, .sipush 2401, 0, 0, 0, 0), (35, 3, .if_icmp .ge 73, 0, 0, 0, 0), (38, 1, .aload_n 0, 0, 0, 0, 0), (39, 2, .iload 6, 0, 0, 0, 0), (41, 3, .invokevirtual 416, 49, 0, 0, 1681), (44, 3, .ifCond .ne 6, 0, 0, 0, 0), (47, 3, .goto 55, 0, 0, 0, 0)], [(50, 1, .aload_n 0, 0, 0, 0, 0), (51, 2, .iload 6, 0, 0, 0, 0), (53, 1, .iload_n 2, 0, 0, 0, 0), (54, 3, .invokevirtual 419, 31, 0, 0, 1691), (57, 2, .iload 4, 0, 0, 0, 0), (59, 3, .ifCond .eq 32, 0, 0, 0, 0), (62, 1, .iload_n 3, 0, 0, 0, 0), (63, 3, .ifCond .eq 17, 0, 0, 0, 0)], [(66, 1, .aload_n 0, 0, 0, 0, 0), (67, 3, .getfield 113, 9, 53, 0, 1270), (70, 1, .iload_n 1, 0, 0, 0, 0), (71, 1, .iaload, 0, 0, 0, 0), (72, 2, .iload 5, 0, 0, 0, 0), (74, 3, .if_icmp .le 25, 0, 0, 0, 0), (77, 3, .goto 14, 0, 0, 0, 0)], [(80, 1, .aload_n 0, 0, 0, 0, 0), (81, 3, .getfield 113, 9, 53, 0, 1270), (84, 1, .iload_n 1, 0, 0, 0, 0), (85, 1, .iaload, 0, 0, 0, 0), (86, 2, .iload 5, 0, 0, 0, 0), (88, 3, .if_icmp .ge 11, 0, 0, 0, 0), (91, 1, .aload_n 0, 0, 0, 0, 0), (92, 3, .getfield 113, 9, 53, 0, 1270), (95, 1, .iload_n 1, 0, 0, 0, 0)], [(96, 1, .iaload, 0, 0, 0, 0), (97, 2, .istore 5, 0, 0, 0, 0), (99, 1, .iconst 1, 0, 0, 0, 0), (100, 2, .istore 4, 0, 0, 0, 0), (102, 3, .iinc 6 1, 0, 0, 0, 0), (105, 3, .goto (-75), 0, 0, 0, 0), (108, 2, .iload 5, 0, 0, 0, 0), (110, 1, .ireturn, 0, 0, 0, 0)]], 7, 3, 1, 9, 1, 0, 0)
/-- StrawWatchModel.must.(I)V -/
def mt_67 : List (List mm_I) × Nat × mm_M := ([[(0, 1, .aload_n 0, 0, 0, 0, 0), (1, 1, .iload_n 1, 0, 0, 0, 0), (2, 3, .invokevirtual 221, 45, 0, 0, 1475), (5, 3, .ifCond .eq 10, 0, 0, 0, 0), (8, 1, .aload_n 0, 0, 0, 0, 0), (9, 3, .invokevirtual 224, 37, 0, 0, 1491), (12, 3, .goto 8, 0, 0, 0, 0), (15, 1, .aload_n 0, 0, 0, 0, 0)], [(16, 1, .iconst 1, 0, 0, 0, 0), (17, 3, .invokevirtual 218, 27, 0, 0, 1483), (20, 1, .return_, 0, 0, 0, 0)]], 2, 1, 1, 9, 0, 0, 0)
/-- StrawWatchModel.often.(III)I -/
def mt_68 : List (List mm_I) × Nat × mm_M := ([[(0, 1, .aload_n 0, 0, 0, 0, 0), (1, 1, .iload_n 1, 0, 0, 0, 0), (2, 3, .invokevirtual 377, 52, 0, 0, 1539), (5, 3, .ifCond .eq 19, 0, 0, 0, 0), (8, 1, .iload_n 2, 0, 0, 0, 0), (9, 1, .iconst 0, 0, 0, 0, 0), (10, 1, .iconst 3, 0, 0, 0, 0), (11, 3, .invokestatic 300, 43, 0, 0, 1543), (14, 3, .ifCond .eq 10, 0, 0, 0, 0)], [(17, 1, .iload_n 3, 0, 0, 0, 0), (18, 3, .invokestatic 458, 51, 0, 0, 1759), (21, 3, .ifCond .ne 5, 0, 0, 0, 0), (24, 1, .iconst (-1), 0, 0, 0, 0), (25, 1, .ireturn, 0, 0, 0, 0), (26, 1, .aload_n 0, 0, 0, 0, 0), (27, 3, .invokevirtual 380, 17, 0, 0, 1546), (30, 1, .aload_n 0, 0, 0, 0, 0), (31, 1, .iload_n 3, 0, 0, 0, 0)], [(32, 3, .invokevirtual 461, 36, 0, 0, 1762), (35, 1, .aload_n 0, 0, 0, 0, 0), (36, 3, .getfield 110, 9, 48, 0, 1265), (39, 2, .bipush 22, 0, 0, 0, 0), (41, 1, .iconst 4, 0, 0, 0, 0), (42, 1, .iload_n 1, 0, 0, 0, 0), (43, 1, .imul, 0, 0, 0, 0), (44, 1, .iadd, 0, 0, 0, 0), (45, 1, .iload_n 2, 0, 0, 0, 0), (46, 1, .iadd, 0, 0, 0, 0), (47, 1, .iaload, 0, 0, 0, 0)], [(48, 1, .aload_n 0, 0, 0, 0, 0), (49, 3, .getfield 107, 9, 47, 0, 1264), (52, 2, .bipush 22, 0, 0, 0, 0), (54, 1, .iconst 4, 0, 0, 0, 0), (55, 1, .iload_n 1, 0, 0, 0, 0), (56, 1, .imul, 0, 0, 0, 0), (57, 1, .iadd, 0, 0, 0, 0), (58, 1, .iload_n 2, 0, 0, 0, 0), (59, 1, .iadd, 0, 0, 0, 0), (60, 1, .iaload, 0, 0, 0, 0), (61, 1, .isub, 0, 0, 0, 0), (62, 1, .ireturn, 0, 0, 0, 0)]], 4, 3, 1, 9, 1, 0, 0)
/-- StrawWatchModel.orders.(I)I -/
def mt_69 : List (List mm_I) × Nat × mm_M := ([[(0, 1, .aload_n 0, 0, 0, 0, 0), (1, 1, .iload_n 1, 0, 0, 0, 0), (2, 3, .invokevirtual 377, 52, 0, 0, 1539), (5, 3, .ifCond .ne 5, 0, 0, 0, 0), (8, 1, .iconst (-1), 0, 0, 0, 0), (9, 1, .ireturn, 0, 0, 0, 0), (10, 1, .aload_n 0, 0, 0, 0, 0), (11, 3, .invokevirtual 380, 17, 0, 0, 1546), (14, 1, .aload_n 0, 0, 0, 0, 0), (15, 3, .invokevirtual 354, 108, 0, 0, 1617)], [(18, 1, .aload_n 0, 0, 0, 0, 0), (19, 1, .iload_n 1, 0, 0, 0, 0), (20, 3, .invokevirtual 357, 70, 0, 0, 1621), (23, 1, .ireturn, 0, 0, 0, 0)]], 2, 1, 1, 9, 1, 0, 0)
/-- StrawWatchModel.ordersOf.(I)I -/
def mt_70 : List (List mm_I) × Nat × mm_M := ([[(0, 1, .aload_n 0, 0, 0, 0, 0), (1, 3, .invokevirtual 327, 61, 0, 0, 1574), (4, 1, .aload_n 0, 0, 0, 0, 0), (5, 3, .getfield 101, 9, 44, 0, 1261), (8, 1, .iconst 2, 0, 0, 0, 0), (9, 1, .aload_n 0, 0, 0, 0, 0), (10, 1, .iload_n 1, 0, 0, 0, 0), (11, 1, .iconst 0, 0, 0, 0, 0), (12, 3, .invokevirtual 346, 90, 0, 0, 1550), (15, 1, .iastore, 0, 0, 0, 0)], [(16, 1, .aload_n 0, 0, 0, 0, 0), (17, 3, .getfield 101, 9, 44, 0, 1261), (20, 2, .bipush 7, 0, 0, 0, 0), (22, 1, .aload_n 0, 0, 0, 0, 0), (23, 3, .getfield 337, 9, 51, 0, 1268), (26, 1, .iastore, 0, 0, 0, 0), (27, 1, .aload_n 0, 0, 0, 0, 0), (28, 3, .getfield 101, 9, 44, 0, 1261), (31, 2, .bipush 8, 0, 0, 0, 0)], [(33, 1, .aload_n 0, 0, 0, 0, 0), (34, 3, .getfield 343, 9, 52, 0, 1269), (37, 1, .iastore, 0, 0, 0, 0), (38, 1, .aload_n 0, 0, 0, 0, 0), (39, 1, .iconst 2, 0, 0, 0, 0), (40, 1, .iconst 1, 0, 0, 0, 0), (41, 3, .ldc_w 349, 0, 0, (-2147483647), 1625), (44, 3, .ldc_w 350, 0, 0, 2147483647, 1626), (47, 3, .invokevirtual 330, 3, 0, 0, 1578)], [(50, 1, .istore_n 2, 0, 0, 0, 0), (51, 1, .iload_n 2, 0, 0, 0, 0), (52, 3, .ifCond .ge 7, 0, 0, 0, 0), (55, 1, .iconst 0, 0, 0, 0, 0), (56, 3, .goto 6, 0, 0, 0, 0), (59, 1, .iload_n 2, 0, 0, 0, 0), (60, 1, .iconst 4, 0, 0, 0, 0), (61, 1, .irem, 0, 0, 0, 0), (62, 1, .ireturn, 0, 0, 0, 0)]], 3, 1, 1, 9, 1, 0, 0)
/-- StrawWatchModel.place.()I -/
def mt_71 : List (List mm_I) × Nat × mm_M := ([[(0, 1, .aload_n 0, 0, 0, 0, 0), (1, 3, .getfield 37, 9, 17, 0, 1234), (4, 1, .ireturn, 0, 0, 0, 0)]], 1, 0, 1, 9, 1, 0, 0)
/-- StrawWatchModel.plain.(I)V -/
def mt_72 : List (List mm_I) × Nat × mm_M := ([[(0, 1, .aload_n 0, 0, 0, 0, 0), (1, 3, .getfield 43, 9, 22, 0, 1239), (4, 1, .iload_n 1, 0, 0, 0, 0), (5, 1, .iconst 0, 0, 0, 0, 0), (6, 1, .iastore, 0, 0, 0, 0), (7, 1, .aload_n 0, 0, 0, 0, 0), (8, 3, .getfield 52, 9, 25, 0, 1242), (11, 1, .iload_n 1, 0, 0, 0, 0), (12, 2, .bipush 20, 0, 0, 0, 0), (14, 1, .iastore, 0, 0, 0, 0), (15, 1, .aload_n 0, 0, 0, 0, 0)], [(16, 3, .getfield 55, 9, 26, 0, 1243), (19, 1, .iload_n 1, 0, 0, 0, 0), (20, 2, .bipush 99, 0, 0, 0, 0), (22, 1, .iastore, 0, 0, 0, 0), (23, 1, .aload_n 0, 0, 0, 0, 0), (24, 3, .getfield 58, 9, 27, 0, 1244), (27, 1, .iload_n 1, 0, 0, 0, 0), (28, 2, .bipush 50, 0, 0, 0, 0), (30, 1, .iastore, 0, 0, 0, 0), (31, 1, .aload_n 0, 0, 0, 0, 0)], [(32, 3, .getfield 61, 9, 28, 0, 1245), (35, 1, .iload_n 1, 0, 0, 0, 0), (36, 2, .bipush 60, 0, 0, 0, 0), (38, 1, .iastore, 0, 0, 0, 0), (39, 1, .aload_n 0, 0, 0, 0, 0), (40, 3, .getfield 64, 9, 29, 0, 1246), (43, 1, .iload_n 1, 0, 0, 0, 0), (44, 3, .sipush 999, 0, 0, 0, 0), (47, 1, .iastore, 0, 0, 0, 0)], [(48, 1, .aload_n 0, 0, 0, 0, 0), (49, 3, .getfield 67, 9, 30, 0, 1247), (52, 1, .iload_n 1, 0, 0, 0, 0), (53, 1, .iconst 0, 0, 0, 0, 0), (54, 1, .iastore, 0, 0, 0, 0), (55, 1, .iconst 0, 0, 0, 0, 0), (56, 1, .istore_n 2, 0, 0, 0, 0), (57, 1, .iload_n 2, 0, 0, 0, 0), (58, 2, .bipush 7, 0, 0, 0, 0), (60, 3, .if_icmp .ge 33, 0, 0, 0, 0), (63, 1, .aload_n 0, 0, 0, 0, 0)], [(64, 3, .getfield 70, 9, 31, 0, 1248), (67, 2, .bipush 7, 0, 0, 0, 0), (69, 1, .iload_n 1, 0, 0, 0, 0), (70, 1, .imul, 0, 0, 0, 0), (71, 1, .iload_n 2, 0, 0, 0, 0), (72, 1, .iadd, 0, 0, 0, 0), (73, 1, .iconst 0, 0, 0, 0, 0), (74, 1, .iastore, 0, 0, 0, 0), (75, 1, .aload_n 0, 0, 0, 0, 0), (76, 3, .getfield 73, 9, 32, 0, 1249), (79, 2, .bipush 7, 0, 0, 0, 0)], [(81, 1, .iload_n 1, 0, 0, 0, 0), (82, 1, .imul, 0, 0, 0, 0), (83, 1, .iload_n 2, 0, 0, 0, 0), (84, 1, .iadd, 0, 0, 0, 0), (85, 1, .iconst 0, 0, 0, 0, 0), (86, 1, .iastore, 0, 0, 0, 0), (87, 3, .iinc 2 1, 0, 0, 0, 0), (90, 3, .goto (-33), 0, 0, 0, 0), (93, 1, .return_, 0, 0, 0, 0)]], 3, 1, 1, 9, 0, 0, 0)
/-- StrawWatchModel.post.(I)I -/
def mt_73 : List (List mm_I) × Nat × mm_M := ([[(0, 1, .iload_n 1, 0, 0, 0, 0), (1, 1, .iconst 0, 0, 0, 0, 0), (2, 1, .iconst 3, 0, 0, 0, 0), (3, 3, .invokestatic 300, 43, 0, 0, 1543), (6, 3, .ifCond .eq 15, 0, 0, 0, 0), (9, 1, .aload_n 0, 0, 0, 0, 0), (10, 3, .getfield 107, 9, 47, 0, 1264), (13, 2, .bipush 18, 0, 0, 0, 0), (15, 1, .iload_n 1, 0, 0, 0, 0)], [(16, 1, .iadd, 0, 0, 0, 0), (17, 1, .iaload, 0, 0, 0, 0), (18, 3, .goto 4, 0, 0, 0, 0), (21, 1, .iconst (-1), 0, 0, 0, 0), (22, 1, .ireturn, 0, 0, 0, 0)]], 2, 1, 1, 9, 1, 0, 0)
/-- StrawWatchModel.postOf.(I)I -/
def mt_74 : List (List mm_I) × Nat × mm_M := ([[(0, 1, .iconst 0, 0, 0, 0, 0), (1, 1, .istore_n 2, 0, 0, 0, 0), (2, 1, .iload_n 2, 0, 0, 0, 0), (3, 1, .iconst 4, 0, 0, 0, 0), (4, 3, .if_icmp .ge 24, 0, 0, 0, 0), (7, 1, .aload_n 0, 0, 0, 0, 0), (8, 3, .getfield 110, 9, 48, 0, 1265), (11, 2, .bipush 18, 0, 0, 0, 0), (13, 1, .iload_n 2, 0, 0, 0, 0), (14, 1, .iadd, 0, 0, 0, 0), (15, 1, .iaload, 0, 0, 0, 0)], [(16, 1, .iload_n 1, 0, 0, 0, 0), (17, 3, .if_icmp .ne 5, 0, 0, 0, 0), (20, 1, .iload_n 2, 0, 0, 0, 0), (21, 1, .ireturn, 0, 0, 0, 0), (22, 3, .iinc 2 1, 0, 0, 0, 0), (25, 3, .goto (-23), 0, 0, 0, 0), (28, 2, .bipush (-2), 0, 0, 0, 0), (30, 1, .ireturn, 0, 0, 0, 0)]], 3, 1, 1, 9, 1, 0, 0)
/-- StrawWatchModel.powerOf.(II)I -/
def mt_75 : List (List mm_I) × Nat × mm_M := ([[(0, 1, .iconst 1, 0, 0, 0, 0), (1, 1, .istore_n 2, 0, 0, 0, 0), (2, 1, .iconst 0, 0, 0, 0, 0), (3, 1, .istore_n 3, 0, 0, 0, 0), (4, 1, .iload_n 3, 0, 0, 0, 0), (5, 1, .iload_n 1, 0, 0, 0, 0), (6, 3, .if_icmp .ge 13, 0, 0, 0, 0), (9, 1, .iload_n 2, 0, 0, 0, 0), (10, 1, .iload_n 0, 0, 0, 0, 0), (11, 1, .imul, 0, 0, 0, 0), (12, 1, .istore_n 2, 0, 0, 0, 0), (13, 3, .iinc 3 1, 0, 0, 0, 0)], [(16, 3, .goto (-12), 0, 0, 0, 0), (19, 1, .iload_n 2, 0, 0, 0, 0), (20, 1, .ireturn, 0, 0, 0, 0)]], 4, 2, 0, 9, 1, 0, 0)
/-- StrawWatchModel.put.(I)V -/
def mt_76 : List (List mm_I) × Nat × mm_M := ([[(0, 2, .bipush 24, 0, 0, 0, 0), (2, 1, .istore_n 2, 0, 0, 0, 0), (3, 1, .iload_n 2, 0, 0, 0, 0), (4, 3, .ifCond .lt 32, 0, 0, 0, 0), (7, 1, .aload_n 0, 0, 0, 0, 0), (8, 3, .getfield 13, 9, 1, 0, 1218), (11, 1, .aload_n 0, 0, 0, 0, 0), (12, 3, .getfield 166, 9, 2, 0, 1219), (15, 1, .iload_n 1, 0, 0, 0, 0)], [(16, 1, .iload_n 2, 0, 0, 0, 0), (17, 1, .ishr, 0, 0, 0, 0), (18, 1, .i2b, 0, 0, 0, 0), (19, 1, .bastore, 0, 0, 0, 0), (20, 1, .aload_n 0, 0, 0, 0, 0), (21, 1, .dup, 0, 0, 0, 0), (22, 3, .getfield 166, 9, 2, 0, 1219), (25, 1, .iconst 1, 0, 0, 0, 0), (26, 1, .iadd, 0, 0, 0, 0), (27, 3, .putfield 166, 9, 2, 0, 1219), (30, 3, .iinc 2 (-8), 0, 0, 0, 0)], [(33, 3, .goto (-30), 0, 0, 0, 0), (36, 1, .return_, 0, 0, 0, 0)]], 3, 1, 1, 9, 0, 0, 0)
/-- StrawWatchModel.read.()I -/
def mt_77 : List (List mm_I) × Nat × mm_M := ([[(0, 1, .aload_n 0, 0, 0, 0, 0), (1, 1, .aload_n 0, 0, 0, 0, 0), (2, 3, .getfield 166, 9, 2, 0, 1219), (5, 3, .putfield 172, 9, 4, 0, 1221), (8, 1, .iconst 0, 0, 0, 0, 0), (9, 1, .istore_n 1, 0, 0, 0, 0), (10, 1, .iload_n 1, 0, 0, 0, 0), (11, 1, .aload_n 0, 0, 0, 0, 0), (12, 3, .getfield 172, 9, 4, 0, 1221), (15, 3, .if_icmp .ge 21, 0, 0, 0, 0)], [(18, 1, .aload_n 0, 0, 0, 0, 0), (19, 3, .getfield 17, 9, 3, 0, 1220), (22, 1, .iload_n 1, 0, 0, 0, 0), (23, 1, .aload_n 0, 0, 0, 0, 0), (24, 3, .getfield 13, 9, 1, 0, 1218), (27, 1, .iload_n 1, 0, 0, 0, 0), (28, 1, .baload, 0, 0, 0, 0), (29, 1, .bastore, 0, 0, 0, 0), (30, 3, .iinc 1 1, 0, 0, 0, 0)], [(33, 3, .goto (-23), 0, 0, 0, 0), (36, 1, .aload_n 0, 0, 0, 0, 0), (37, 1, .iconst 0, 0, 0, 0, 0), (38, 3, .putfield 166, 9, 2, 0, 1219), (41, 1, .aload_n 0, 0, 0, 0, 0), (42, 3, .invokevirtual 227, 19, 0, 0, 1453), (45, 1, .aload_n 0, 0, 0, 0, 0), (46, 1, .iconst 0, 0, 0, 0, 0), (47, 3, .putfield 206, 9, 11, 0, 1228)], [(50, 1, .aload_n 0, 0, 0, 0, 0), (51, 1, .iconst 0, 0, 0, 0, 0), (52, 3, .putfield 230, 9, 12, 0, 1229), (55, 1, .aload_n 0, 0, 0, 0, 0), (56, 1, .iconst 0, 0, 0, 0, 0), (57, 3, .putfield 203, 9, 13, 0, 1230), (60, 1, .aload_n 0, 0, 0, 0, 0), (61, 1, .iconst 0, 0, 0, 0, 0), (62, 3, .putfield 212, 9, 15, 0, 1232)], [(65, 1, .aload_n 0, 0, 0, 0, 0), (66, 1, .iconst 1, 0, 0, 0, 0), (67, 1, .aload_n 0, 0, 0, 0, 0), (68, 3, .getfield 233, 9, 18, 0, 1235), (71, 1, .isub, 0, 0, 0, 0), (72, 3, .putfield 236, 9, 19, 0, 1236), (75, 1, .aload_n 0, 0, 0, 0, 0), (76, 1, .iconst 0, 0, 0, 0, 0), (77, 3, .putfield 239, 9, 20, 0, 1237)], [(80, 1, .aload_n 0, 0, 0, 0, 0), (81, 1, .aload_n 0, 0, 0, 0, 0), (82, 3, .getfield 236, 9, 19, 0, 1236), (85, 3, .invokevirtual 152, 72, 0, 0, 1191), (88, 1, .aload_n 0, 0, 0, 0, 0), (89, 3, .sipush 130, 0, 0, 0, 0), (92, 1, .aload_n 0, 0, 0, 0, 0), (93, 3, .getfield 236, 9, 19, 0, 1236)], [(96, 1, .imul, 0, 0, 0, 0), (97, 3, .putfield 242, 9, 33, 0, 1250), (100, 1, .aload_n 0, 0, 0, 0, 0), (101, 3, .sipush 420, 0, 0, 0, 0), (104, 1, .aload_n 0, 0, 0, 0, 0), (105, 3, .getfield 236, 9, 19, 0, 1236), (108, 1, .imul, 0, 0, 0, 0), (109, 3, .putfield 245, 9, 39, 0, 1256)], [(112, 1, .aload_n 0, 0, 0, 0, 0), (113, 3, .getfield 203, 9, 13, 0, 1230), (116, 3, .ifCond .ne 18, 0, 0, 0, 0), (119, 1, .aload_n 0, 0, 0, 0, 0), (120, 1, .iconst 0, 0, 0, 0, 0), (121, 3, .invokevirtual 221, 45, 0, 0, 1475), (124, 3, .ifCond .ne 10, 0, 0, 0, 0), (127, 1, .aload_n 0, 0, 0, 0, 0)], [(128, 3, .invokevirtual 248, 99, 0, 0, 1479), (131, 3, .goto (-19), 0, 0, 0, 0), (134, 1, .aload_n 0, 0, 0, 0, 0), (135, 1, .aload_n 0, 0, 0, 0, 0), (136, 3, .getfield 203, 9, 13, 0, 1230), (139, 3, .ifCond .le 10, 0, 0, 0, 0), (142, 1, .aload_n 0, 0, 0, 0, 0), (143, 3, .getfield 209, 9, 14, 0, 1231)], [(146, 3, .goto 18, 0, 0, 0, 0), (149, 1, .aload_n 0, 0, 0, 0, 0), (150, 3, .getfield 212, 9, 15, 0, 1232), (153, 3, .ifCond .le 10, 0, 0, 0, 0), (156, 1, .aload_n 0, 0, 0, 0, 0), (157, 3, .getfield 215, 9, 16, 0, 1233)], [(160, 3, .goto 4, 0, 0, 0, 0), (163, 1, .iconst (-1), 0, 0, 0, 0), (164, 3, .putfield 37, 9, 17, 0, 1234), (167, 1, .aload_n 0, 0, 0, 0, 0), (168, 3, .getfield 203, 9, 13, 0, 1230), (171, 3, .ifCond .le 8, 0, 0, 0, 0), (174, 1, .aload_n 0, 0, 0, 0, 0), (175, 3, .getfield 203, 9, 13, 0, 1230)], [(178, 1, .ireturn, 0, 0, 0, 0), (179, 1, .aload_n 0, 0, 0, 0, 0), (180, 3, .getfield 212, 9, 15, 0, 1232), (183, 3, .ifCond .le 8, 0, 0, 0, 0), (186, 1, .aload_n 0, 0, 0, 0, 0), (187, 3, .getfield 212, 9, 15, 0, 1232), (190, 1, .ireturn, 0, 0, 0, 0), (191, 1, .aload_n 0, 0, 0, 0, 0)], [(192, 1, .aload_n 0, 0, 0, 0, 0), (193, 3, .getfield 236, 9, 19, 0, 1236), (196, 3, .putfield 233, 9, 18, 0, 1235), (199, 1, .aload_n 0, 0, 0, 0, 0), (200, 3, .invokevirtual 160, 7, 0, 0, 1202), (203, 1, .aload_n 0, 0, 0, 0, 0), (204, 3, .invokevirtual 163, 56, 0, 0, 1214), (207, 1, .aload_n 0, 0, 0, 0, 0)], [(208, 1, .iconst 0, 0, 0, 0, 0), (209, 3, .putfield 251, 9, 54, 0, 1271), (212, 1, .aload_n 0, 0, 0, 0, 0), (213, 1, .iconst 0, 0, 0, 0, 0), (214, 3, .putfield 254, 9, 65, 0, 1282), (217, 1, .aload_n 0, 0, 0, 0, 0), (218, 1, .iconst 0, 0, 0, 0, 0), (219, 3, .putfield 257, 9, 67, 0, 1284), (222, 1, .iconst 0, 0, 0, 0, 0), (223, 1, .istore_n 1, 0, 0, 0, 0)], [(224, 1, .iload_n 1, 0, 0, 0, 0), (225, 1, .iconst 3, 0, 0, 0, 0), (226, 3, .if_icmp .ge 16, 0, 0, 0, 0), (229, 1, .aload_n 0, 0, 0, 0, 0), (230, 3, .getfield 146, 9, 71, 0, 1288), (233, 1, .iload_n 1, 0, 0, 0, 0), (234, 1, .iconst 0, 0, 0, 0, 0), (235, 1, .bastore, 0, 0, 0, 0), (236, 3, .iinc 1 1, 0, 0, 0, 0), (239, 3, .goto (-15), 0, 0, 0, 0)], [(242, 1, .iconst 0, 0, 0, 0, 0), (243, 1, .ireturn, 0, 0, 0, 0)]], 2, 0, 1, 9, 1, 0, 0)
/-- StrawWatchModel.restore.(I)Z -/
def mt_78 : List (List mm_I) × Nat × mm_M := ([[(0, 1, .iload_n 1, 0, 0, 0, 0), (1, 1, .iconst 0, 0, 0, 0, 0), (2, 1, .iconst 2, 0, 0, 0, 0), (3, 3, .invokestatic 300, 43, 0, 0, 1543), (6, 3, .ifCond .eq 12, 0, 0, 0, 0), (9, 1, .aload_n 0, 0, 0, 0, 0), (10, 3, .getfield 146, 9, 71, 0, 1288), (13, 1, .iload_n 1, 0, 0, 0, 0), (14, 1, .baload, 0, 0, 0, 0), (15, 3, .ifCond .ne 5, 0, 0, 0, 0)], [(18, 1, .iconst 0, 0, 0, 0, 0), (19, 1, .ireturn, 0, 0, 0, 0), (20, 1, .iconst 0, 0, 0, 0, 0), (21, 1, .istore_n 2, 0, 0, 0, 0), (22, 1, .iload_n 2, 0, 0, 0, 0), (23, 2, .bipush 60, 0, 0, 0, 0), (25, 3, .if_icmp .ge 26, 0, 0, 0, 0), (28, 1, .aload_n 0, 0, 0, 0, 0), (29, 3, .getfield 107, 9, 47, 0, 1264)], [(32, 1, .iload_n 2, 0, 0, 0, 0), (33, 1, .aload_n 0, 0, 0, 0, 0), (34, 3, .getfield 149, 9, 72, 0, 1289), (37, 2, .bipush 60, 0, 0, 0, 0), (39, 1, .iload_n 1, 0, 0, 0, 0), (40, 1, .imul, 0, 0, 0, 0), (41, 1, .iload_n 2, 0, 0, 0, 0), (42, 1, .iadd, 0, 0, 0, 0), (43, 1, .iaload, 0, 0, 0, 0), (44, 1, .iastore, 0, 0, 0, 0), (45, 3, .iinc 2 1, 0, 0, 0, 0)], [(48, 3, .goto (-26), 0, 0, 0, 0), (51, 1, .aload_n 0, 0, 0, 0, 0), (52, 1, .iconst 0, 0, 0, 0, 0), (53, 3, .putfield 251, 9, 54, 0, 1271), (56, 1, .iconst 1, 0, 0, 0, 0), (57, 1, .ireturn, 0, 0, 0, 0)]], 3, 1, 1, 9, 2, 0, 0)
/-- StrawWatchModel.risk.(IIZ)I -/
def mt_79 : List (List mm_I) × Nat × mm_M := ([[(0, 1, .iload_n 1, 0, 0, 0, 0), (1, 1, .iconst 0, 0, 0, 0, 0), (2, 2, .bipush 9, 0, 0, 0, 0), (4, 3, .invokestatic 300, 43, 0, 0, 1543), (7, 3, .ifCond .eq 12, 0, 0, 0, 0), (10, 1, .iload_n 2, 0, 0, 0, 0), (11, 1, .iconst (-1), 0, 0, 0, 0), (12, 1, .iconst 3, 0, 0, 0, 0), (13, 3, .invokestatic 300, 43, 0, 0, 1543)], [(16, 3, .ifCond .ne 5, 0, 0, 0, 0), (19, 1, .iconst (-1), 0, 0, 0, 0), (20, 1, .ireturn, 0, 0, 0, 0), (21, 1, .aload_n 0, 0, 0, 0, 0), (22, 3, .invokevirtual 380, 17, 0, 0, 1546), (25, 1, .aload_n 0, 0, 0, 0, 0), (26, 3, .invokevirtual 354, 108, 0, 0, 1617), (29, 1, .iconst 0, 0, 0, 0, 0), (30, 2, .istore 4, 0, 0, 0, 0)], [(32, 1, .iconst 0, 0, 0, 0, 0), (33, 2, .istore 5, 0, 0, 0, 0), (35, 2, .iload 5, 0, 0, 0, 0), (37, 3, .sipush 2401, 0, 0, 0, 0), (40, 3, .if_icmp .ge 41, 0, 0, 0, 0), (43, 1, .aload_n 0, 0, 0, 0, 0), (44, 2, .iload 5, 0, 0, 0, 0), (46, 3, .invokevirtual 416, 49, 0, 0, 1681)], [(49, 3, .ifCond .ne 6, 0, 0, 0, 0), (52, 3, .goto 23, 0, 0, 0, 0), (55, 1, .aload_n 0, 0, 0, 0, 0), (56, 2, .iload 5, 0, 0, 0, 0), (58, 1, .iload_n 2, 0, 0, 0, 0), (59, 3, .invokevirtual 419, 31, 0, 0, 1691), (62, 1, .aload_n 0, 0, 0, 0, 0), (63, 3, .getfield 113, 9, 53, 0, 1270)], [(66, 1, .iconst 1, 0, 0, 0, 0), (67, 1, .iaload, 0, 0, 0, 0), (68, 1, .iload_n 1, 0, 0, 0, 0), (69, 3, .if_icmp .lt 6, 0, 0, 0, 0), (72, 3, .iinc 4 1, 0, 0, 0, 0), (75, 3, .iinc 5 1, 0, 0, 0, 0), (78, 3, .goto (-43), 0, 0, 0, 0)], [(81, 2, .iload 4, 0, 0, 0, 0), (83, 1, .aload_n 0, 0, 0, 0, 0), (84, 3, .invokevirtual 422, 22, 0, 0, 1695), (87, 1, .iload_n 3, 0, 0, 0, 0), (88, 3, .invokestatic 408, 59, 0, 0, 1662), (91, 1, .ireturn, 0, 0, 0, 0)]], 6, 3, 1, 9, 1, 0, 0)
/-- StrawWatchModel.roster.(I)I -/
def mt_80 : List (List mm_I) × Nat × mm_M := ([[(0, 1, .iload_n 1, 0, 0, 0, 0), (1, 1, .iconst (-1), 0, 0, 0, 0), (2, 1, .iconst 3, 0, 0, 0, 0), (3, 3, .invokestatic 300, 43, 0, 0, 1543), (6, 3, .ifCond .ne 6, 0, 0, 0, 0), (9, 2, .bipush (-100), 0, 0, 0, 0), (11, 1, .ireturn, 0, 0, 0, 0), (12, 1, .aload_n 0, 0, 0, 0, 0), (13, 3, .invokevirtual 455, 33, 0, 0, 1739)], [(16, 1, .iload_n 1, 0, 0, 0, 0), (17, 1, .iconst (-1), 0, 0, 0, 0), (18, 3, .if_icmp .ne 10, 0, 0, 0, 0), (21, 1, .aload_n 0, 0, 0, 0, 0), (22, 3, .getfield 452, 9, 64, 0, 1281), (25, 3, .goto 11, 0, 0, 0, 0), (28, 1, .aload_n 0, 0, 0, 0, 0), (29, 3, .getfield 446, 9, 63, 0, 1280)], [(32, 1, .iload_n 1, 0, 0, 0, 0), (33, 3, .invokestatic 402, 4, 0, 0, 1685), (36, 1, .ireturn, 0, 0, 0, 0)]], 2, 1, 1, 9, 1, 0, 0)
/-- StrawWatchModel.safe.(IZ)I -/
def mt_81 : List (List mm_I) × Nat × mm_M := ([[(0, 1, .iload_n 1, 0, 0, 0, 0), (1, 1, .iconst 1, 0, 0, 0, 0), (2, 1, .iconst 2, 0, 0, 0, 0), (3, 3, .invokestatic 300, 43, 0, 0, 1543), (6, 3, .ifCond .ne 5, 0, 0, 0, 0), (9, 1, .iconst (-1), 0, 0, 0, 0), (10, 1, .ireturn, 0, 0, 0, 0), (11, 1, .aload_n 0, 0, 0, 0, 0), (12, 1, .iload_n 1, 0, 0, 0, 0), (13, 3, .invokevirtual 443, 34, 0, 0, 1711)], [(16, 1, .aload_n 0, 0, 0, 0, 0), (17, 3, .getfield 440, 9, 58, 0, 1275), (20, 1, .iload_n 1, 0, 0, 0, 0), (21, 1, .iconst 1, 0, 0, 0, 0), (22, 3, .if_icmp .ne 10, 0, 0, 0, 0), (25, 1, .aload_n 0, 0, 0, 0, 0), (26, 3, .invokevirtual 422, 22, 0, 0, 1695), (29, 3, .goto 12, 0, 0, 0, 0)], [(32, 1, .aload_n 0, 0, 0, 0, 0), (33, 3, .invokevirtual 422, 22, 0, 0, 1695), (36, 1, .aload_n 0, 0, 0, 0, 0), (37, 3, .invokevirtual 422, 22, 0, 0, 1695), (40, 1, .imul, 0, 0, 0, 0), (41, 1, .iload_n 2, 0, 0, 0, 0), (42, 3, .invokestatic 408, 59, 0, 0, 1662), (45, 1, .ireturn, 0, 0, 0, 0)]], 3, 2, 1, 9, 1, 0, 0)
/-- StrawWatchModel.safeBehind.(III)I -/
def mt_82 : List (List mm_I) × Nat × mm_M := ([[(0, 1, .aload_n 0, 0, 0, 0, 0), (1, 1, .iload_n 1, 0, 0, 0, 0), (2, 3, .invokevirtual 425, 29, 0, 0, 1727), (5, 1, .iconst 0, 0, 0, 0, 0), (6, 2, .istore 4, 0, 0, 0, 0), (8, 1, .iconst 0, 0, 0, 0, 0), (9, 2, .istore 5, 0, 0, 0, 0), (11, 2, .iload 5, 0, 0, 0, 0), (13, 2, .bipush 10, 0, 0, 0, 0), (15, 3, .if_icmp .ge 40, 0, 0, 0, 0)], [(18, 2, .iload 5, 0, 0, 0, 0), (20, 1, .iload_n 3, 0, 0, 0, 0), (21, 3, .if_icmp .ge 34, 0, 0, 0, 0), (24, 2, .iload 4, 0, 0, 0, 0), (26, 1, .aload_n 0, 0, 0, 0, 0), (27, 3, .getfield 119, 9, 56, 0, 1273), (30, 2, .bipush 40, 0, 0, 0, 0)], [(32, 1, .iload_n 1, 0, 0, 0, 0), (33, 2, .bipush 9, 0, 0, 0, 0), (35, 1, .iadd, 0, 0, 0, 0), (36, 1, .imul, 0, 0, 0, 0), (37, 2, .bipush 10, 0, 0, 0, 0), (39, 1, .iload_n 2, 0, 0, 0, 0), (40, 1, .imul, 0, 0, 0, 0), (41, 1, .iadd, 0, 0, 0, 0), (42, 2, .iload 5, 0, 0, 0, 0), (44, 1, .iadd, 0, 0, 0, 0), (45, 1, .iaload, 0, 0, 0, 0), (46, 1, .iadd, 0, 0, 0, 0), (47, 2, .istore 4, 0, 0, 0, 0)], [(49, 3, .iinc 5 1, 0, 0, 0, 0), (52, 3, .goto (-41), 0, 0, 0, 0), (55, 2, .iload 4, 0, 0, 0, 0), (57, 1, .ireturn, 0, 0, 0, 0)]], 6, 3, 1, 9, 1, 0, 0)
/-- StrawWatchModel.safeOf.(III)I -/
def mt_83 : List (List mm_I) × Nat × mm_M := ([[(0, 1, .aload_n 0, 0, 0, 0, 0), (1, 3, .getfield 107, 9, 47, 0, 1264), (4, 2, .bipush 47, 0, 0, 0, 0), (6, 1, .iaload, 0, 0, 0, 0), (7, 1, .aload_n 0, 0, 0, 0, 0), (8, 3, .getfield 128, 9, 61, 0, 1278), (11, 1, .iload_n 1, 0, 0, 0, 0), (12, 1, .iaload, 0, 0, 0, 0), (13, 1, .isub, 0, 0, 0, 0), (14, 2, .istore 4, 0, 0, 0, 0)], [(16, 2, .iload 4, 0, 0, 0, 0), (18, 3, .ifCond .gt 5, 0, 0, 0, 0), (21, 1, .iconst 0, 0, 0, 0, 0), (22, 1, .ireturn, 0, 0, 0, 0), (23, 1, .iload_n 2, 0, 0, 0, 0), (24, 1, .iconst 1, 0, 0, 0, 0), (25, 3, .if_icmp .ne 5, 0, 0, 0, 0), (28, 1, .iconst 1, 0, 0, 0, 0), (29, 1, .ireturn, 0, 0, 0, 0), (30, 1, .aload_n 0, 0, 0, 0, 0), (31, 3, .getfield 107, 9, 47, 0, 1264)], [(34, 2, .bipush 46, 0, 0, 0, 0), (36, 1, .iaload, 0, 0, 0, 0), (37, 1, .aload_n 0, 0, 0, 0, 0), (38, 3, .getfield 125, 9, 60, 0, 1277), (41, 1, .iload_n 1, 0, 0, 0, 0), (42, 1, .iaload, 0, 0, 0, 0), (43, 1, .iadd, 0, 0, 0, 0), (44, 1, .aload_n 0, 0, 0, 0, 0), (45, 3, .getfield 61, 9, 28, 0, 1245)], [(48, 1, .aload_n 0, 0, 0, 0, 0), (49, 3, .getfield 233, 9, 18, 0, 1235), (52, 1, .iaload, 0, 0, 0, 0), (53, 3, .if_icmp .ge 19, 0, 0, 0, 0), (56, 1, .aload_n 0, 0, 0, 0, 0), (57, 3, .getfield 107, 9, 47, 0, 1264), (60, 2, .bipush 48, 0, 0, 0, 0), (62, 1, .iaload, 0, 0, 0, 0), (63, 1, .aload_n 0, 0, 0, 0, 0)], [(64, 3, .getfield 131, 9, 62, 0, 1279), (67, 1, .iload_n 1, 0, 0, 0, 0), (68, 1, .iaload, 0, 0, 0, 0), (69, 3, .if_icmp .gt 7, 0, 0, 0, 0), (72, 1, .iconst 1, 0, 0, 0, 0), (73, 3, .goto 4, 0, 0, 0, 0), (76, 1, .iconst 0, 0, 0, 0, 0), (77, 2, .istore 5, 0, 0, 0, 0), (79, 2, .iload 5, 0, 0, 0, 0)], [(81, 3, .ifCond .eq 10, 0, 0, 0, 0), (84, 1, .aload_n 0, 0, 0, 0, 0), (85, 3, .invokevirtual 422, 22, 0, 0, 1695), (88, 3, .goto 16, 0, 0, 0, 0), (91, 1, .aload_n 0, 0, 0, 0, 0), (92, 1, .aload_n 0, 0, 0, 0, 0), (93, 3, .getfield 125, 9, 60, 0, 1277)], [(96, 1, .iload_n 1, 0, 0, 0, 0), (97, 1, .iaload, 0, 0, 0, 0), (98, 1, .iload_n 3, 0, 0, 0, 0), (99, 2, .iload 4, 0, 0, 0, 0), (101, 3, .invokevirtual 428, 82, 0, 0, 1723), (104, 1, .ireturn, 0, 0, 0, 0)]], 6, 3, 1, 9, 1, 0, 0)
/-- StrawWatchModel.safest.(II)I -/
def mt_84 : List (List mm_I) × Nat × mm_M := ([[(0, 1, .iload_n 1, 0, 0, 0, 0), (1, 1, .iconst 1, 0, 0, 0, 0), (2, 1, .iconst 2, 0, 0, 0, 0), (3, 3, .invokestatic 300, 43, 0, 0, 1543), (6, 3, .ifCond .eq 14, 0, 0, 0, 0), (9, 1, .iload_n 2, 0, 0, 0, 0), (10, 1, .iconst 0, 0, 0, 0, 0), (11, 1, .iload_n 1, 0, 0, 0, 0), (12, 1, .iconst 1, 0, 0, 0, 0), (13, 1, .isub, 0, 0, 0, 0), (14, 3, .invokestatic 300, 43, 0, 0, 1543)], [(17, 3, .ifCond .ne 5, 0, 0, 0, 0), (20, 1, .iconst (-1), 0, 0, 0, 0), (21, 1, .ireturn, 0, 0, 0, 0), (22, 1, .aload_n 0, 0, 0, 0, 0), (23, 1, .iload_n 1, 0, 0, 0, 0), (24, 3, .invokevirtual 443, 34, 0, 0, 1711), (27, 1, .iload_n 1, 0, 0, 0, 0), (28, 1, .iconst 1, 0, 0, 0, 0), (29, 3, .if_icmp .eq 8, 0, 0, 0, 0)], [(32, 1, .iload_n 2, 0, 0, 0, 0), (33, 1, .iconst 1, 0, 0, 0, 0), (34, 3, .if_icmp .ne 12, 0, 0, 0, 0), (37, 1, .aload_n 0, 0, 0, 0, 0), (38, 3, .getfield 431, 9, 59, 0, 1276), (41, 1, .iconst 4, 0, 0, 0, 0), (42, 1, .irem, 0, 0, 0, 0), (43, 3, .goto 9, 0, 0, 0, 0), (46, 1, .aload_n 0, 0, 0, 0, 0), (47, 3, .getfield 431, 9, 59, 0, 1276)], [(50, 1, .iconst 4, 0, 0, 0, 0), (51, 1, .idiv, 0, 0, 0, 0), (52, 1, .ireturn, 0, 0, 0, 0)]], 3, 2, 1, 9, 1, 0, 0)
/-- StrawWatchModel.sails.()I -/
def mt_85 : List (List mm_I) × Nat × mm_M := ([[(0, 1, .aload_n 0, 0, 0, 0, 0), (1, 3, .invokevirtual 354, 108, 0, 0, 1617), (4, 1, .aload_n 0, 0, 0, 0, 0), (5, 3, .getfield 311, 9, 50, 0, 1267), (8, 3, .ifCond .lt 10, 0, 0, 0, 0), (11, 1, .aload_n 0, 0, 0, 0, 0), (12, 3, .getfield 311, 9, 50, 0, 1267), (15, 3, .goto 14, 0, 0, 0, 0)], [(18, 1, .aload_n 0, 0, 0, 0, 0), (19, 1, .aload_n 0, 0, 0, 0, 0), (20, 3, .getfield 110, 9, 48, 0, 1265), (23, 2, .bipush 18, 0, 0, 0, 0), (25, 1, .iaload, 0, 0, 0, 0), (26, 3, .invokevirtual 357, 70, 0, 0, 1621), (29, 1, .istore_n 1, 0, 0, 0, 0), (30, 1, .aload_n 0, 0, 0, 0, 0), (31, 3, .getfield 110, 9, 48, 0, 1265)], [(34, 2, .bipush 50, 0, 0, 0, 0), (36, 1, .iaload, 0, 0, 0, 0), (37, 3, .ifCond .le 5, 0, 0, 0, 0), (40, 1, .iconst 0, 0, 0, 0, 0), (41, 1, .istore_n 1, 0, 0, 0, 0), (42, 1, .aload_n 0, 0, 0, 0, 0), (43, 1, .aload_n 0, 0, 0, 0, 0), (44, 3, .getfield 110, 9, 48, 0, 1265), (47, 2, .bipush 18, 0, 0, 0, 0)], [(49, 1, .iaload, 0, 0, 0, 0), (50, 1, .aload_n 0, 0, 0, 0, 0), (51, 3, .getfield 110, 9, 48, 0, 1265), (54, 2, .bipush 19, 0, 0, 0, 0), (56, 1, .iaload, 0, 0, 0, 0), (57, 1, .aload_n 0, 0, 0, 0, 0), (58, 3, .getfield 110, 9, 48, 0, 1265), (61, 2, .bipush 20, 0, 0, 0, 0), (63, 1, .iaload, 0, 0, 0, 0)], [(64, 1, .aload_n 0, 0, 0, 0, 0), (65, 3, .getfield 110, 9, 48, 0, 1265), (68, 2, .bipush 21, 0, 0, 0, 0), (70, 1, .iaload, 0, 0, 0, 0), (71, 1, .iload_n 1, 0, 0, 0, 0), (72, 3, .invokevirtual 360, 30, 0, 0, 1627), (75, 1, .aload_n 0, 0, 0, 0, 0), (76, 3, .getfield 110, 9, 48, 0, 1265), (79, 2, .bipush 46, 0, 0, 0, 0)], [(81, 1, .aload_n 0, 0, 0, 0, 0), (82, 3, .getfield 110, 9, 48, 0, 1265), (85, 2, .bipush 46, 0, 0, 0, 0), (87, 1, .iaload, 0, 0, 0, 0), (88, 1, .aload_n 0, 0, 0, 0, 0), (89, 3, .getfield 113, 9, 53, 0, 1270), (92, 1, .iconst 0, 0, 0, 0, 0), (93, 1, .iaload, 0, 0, 0, 0), (94, 1, .iadd, 0, 0, 0, 0), (95, 1, .aload_n 0, 0, 0, 0, 0)], [(96, 3, .getfield 61, 9, 28, 0, 1245), (99, 1, .aload_n 0, 0, 0, 0, 0), (100, 3, .getfield 233, 9, 18, 0, 1235), (103, 1, .iaload, 0, 0, 0, 0), (104, 3, .invokestatic 364, 39, 0, 0, 1631), (107, 1, .iastore, 0, 0, 0, 0), (108, 1, .aload_n 0, 0, 0, 0, 0), (109, 3, .getfield 110, 9, 48, 0, 1265)], [(112, 2, .bipush 47, 0, 0, 0, 0), (114, 1, .aload_n 0, 0, 0, 0, 0), (115, 3, .getfield 110, 9, 48, 0, 1265), (118, 2, .bipush 47, 0, 0, 0, 0), (120, 1, .iaload, 0, 0, 0, 0), (121, 1, .aload_n 0, 0, 0, 0, 0), (122, 3, .getfield 113, 9, 53, 0, 1270), (125, 1, .iconst 1, 0, 0, 0, 0), (126, 1, .iaload, 0, 0, 0, 0), (127, 1, .isub, 0, 0, 0, 0)], [(128, 2, .bipush 99, 0, 0, 0, 0), (130, 3, .invokestatic 364, 39, 0, 0, 1631), (133, 1, .iastore, 0, 0, 0, 0), (134, 1, .aload_n 0, 0, 0, 0, 0), (135, 3, .getfield 110, 9, 48, 0, 1265), (138, 2, .bipush 48, 0, 0, 0, 0), (140, 1, .aload_n 0, 0, 0, 0, 0), (141, 3, .getfield 110, 9, 48, 0, 1265)], [(144, 2, .bipush 48, 0, 0, 0, 0), (146, 1, .iaload, 0, 0, 0, 0), (147, 1, .aload_n 0, 0, 0, 0, 0), (148, 3, .getfield 113, 9, 53, 0, 1270), (151, 1, .iconst 2, 0, 0, 0, 0), (152, 1, .iaload, 0, 0, 0, 0), (153, 1, .isub, 0, 0, 0, 0), (154, 3, .sipush 999, 0, 0, 0, 0), (157, 3, .invokestatic 364, 39, 0, 0, 1631)], [(160, 1, .iastore, 0, 0, 0, 0), (161, 1, .aload_n 0, 0, 0, 0, 0), (162, 3, .getfield 110, 9, 48, 0, 1265), (165, 2, .bipush 49, 0, 0, 0, 0), (167, 1, .aload_n 0, 0, 0, 0, 0), (168, 3, .getfield 110, 9, 48, 0, 1265), (171, 2, .bipush 49, 0, 0, 0, 0), (173, 1, .iaload, 0, 0, 0, 0), (174, 1, .aload_n 0, 0, 0, 0, 0), (175, 3, .getfield 113, 9, 53, 0, 1270)], [(178, 1, .iconst 3, 0, 0, 0, 0), (179, 1, .iaload, 0, 0, 0, 0), (180, 1, .iadd, 0, 0, 0, 0), (181, 2, .bipush 99, 0, 0, 0, 0), (183, 3, .invokestatic 364, 39, 0, 0, 1631), (186, 1, .iastore, 0, 0, 0, 0), (187, 1, .aload_n 0, 0, 0, 0, 0), (188, 3, .getfield 110, 9, 48, 0, 1265), (191, 2, .bipush 18, 0, 0, 0, 0)], [(193, 1, .iaload, 0, 0, 0, 0), (194, 3, .ifCond .lt 22, 0, 0, 0, 0), (197, 1, .aload_n 0, 0, 0, 0, 0), (198, 3, .getfield 110, 9, 48, 0, 1265), (201, 2, .bipush 12, 0, 0, 0, 0), (203, 1, .aload_n 0, 0, 0, 0, 0), (204, 3, .getfield 110, 9, 48, 0, 1265), (207, 2, .bipush 18, 0, 0, 0, 0)], [(209, 1, .iaload, 0, 0, 0, 0), (210, 1, .iadd, 0, 0, 0, 0), (211, 1, .dup2, 0, 0, 0, 0), (212, 1, .iaload, 0, 0, 0, 0), (213, 1, .iconst 1, 0, 0, 0, 0), (214, 1, .iadd, 0, 0, 0, 0), (215, 1, .iastore, 0, 0, 0, 0), (216, 1, .iconst 0, 0, 0, 0, 0), (217, 1, .istore_n 2, 0, 0, 0, 0), (218, 1, .iload_n 2, 0, 0, 0, 0), (219, 1, .iconst 4, 0, 0, 0, 0), (220, 3, .if_icmp .ge 46, 0, 0, 0, 0), (223, 1, .aload_n 0, 0, 0, 0, 0)], [(224, 3, .getfield 110, 9, 48, 0, 1265), (227, 2, .bipush 18, 0, 0, 0, 0), (229, 1, .iload_n 2, 0, 0, 0, 0), (230, 1, .iadd, 0, 0, 0, 0), (231, 1, .iaload, 0, 0, 0, 0), (232, 3, .ifCond .lt 28, 0, 0, 0, 0), (235, 1, .aload_n 0, 0, 0, 0, 0), (236, 3, .getfield 110, 9, 48, 0, 1265), (239, 2, .bipush 22, 0, 0, 0, 0)], [(241, 1, .iconst 4, 0, 0, 0, 0), (242, 1, .aload_n 0, 0, 0, 0, 0), (243, 3, .getfield 110, 9, 48, 0, 1265), (246, 2, .bipush 18, 0, 0, 0, 0), (248, 1, .iload_n 2, 0, 0, 0, 0), (249, 1, .iadd, 0, 0, 0, 0), (250, 1, .iaload, 0, 0, 0, 0), (251, 1, .imul, 0, 0, 0, 0), (252, 1, .iadd, 0, 0, 0, 0), (253, 1, .iload_n 2, 0, 0, 0, 0), (254, 1, .iadd, 0, 0, 0, 0), (255, 1, .dup2, 0, 0, 0, 0)], [(256, 1, .iaload, 0, 0, 0, 0), (257, 1, .iconst 1, 0, 0, 0, 0), (258, 1, .iadd, 0, 0, 0, 0), (259, 1, .iastore, 0, 0, 0, 0), (260, 3, .iinc 2 1, 0, 0, 0, 0), (263, 3, .goto (-45), 0, 0, 0, 0), (266, 1, .aload_n 0, 0, 0, 0, 0), (267, 3, .getfield 110, 9, 48, 0, 1265), (270, 2, .bipush 53, 0, 0, 0, 0)], [(272, 1, .dup2, 0, 0, 0, 0), (273, 1, .iaload, 0, 0, 0, 0), (274, 1, .iconst 1, 0, 0, 0, 0), (275, 1, .iadd, 0, 0, 0, 0), (276, 1, .iastore, 0, 0, 0, 0), (277, 1, .aload_n 0, 0, 0, 0, 0), (278, 3, .getfield 110, 9, 48, 0, 1265), (281, 2, .bipush 50, 0, 0, 0, 0), (283, 1, .iaload, 0, 0, 0, 0), (284, 3, .ifCond .le 14, 0, 0, 0, 0), (287, 1, .aload_n 0, 0, 0, 0, 0)], [(288, 3, .getfield 110, 9, 48, 0, 1265), (291, 2, .bipush 50, 0, 0, 0, 0), (293, 1, .dup2, 0, 0, 0, 0), (294, 1, .iaload, 0, 0, 0, 0), (295, 1, .iconst 1, 0, 0, 0, 0), (296, 1, .isub, 0, 0, 0, 0), (297, 1, .iastore, 0, 0, 0, 0), (298, 1, .aload_n 0, 0, 0, 0, 0), (299, 3, .getfield 110, 9, 48, 0, 1265), (302, 2, .bipush 50, 0, 0, 0, 0)], [(304, 1, .iaload, 0, 0, 0, 0), (305, 3, .ifCond .ne 32, 0, 0, 0, 0), (308, 1, .aload_n 0, 0, 0, 0, 0), (309, 3, .getfield 110, 9, 48, 0, 1265), (312, 2, .bipush 49, 0, 0, 0, 0), (314, 1, .iaload, 0, 0, 0, 0), (315, 3, .ifCond .ne 22, 0, 0, 0, 0), (318, 1, .aload_n 0, 0, 0, 0, 0), (319, 3, .getfield 110, 9, 48, 0, 1265)], [(322, 2, .bipush 50, 0, 0, 0, 0), (324, 1, .iconst 4, 0, 0, 0, 0), (325, 1, .iastore, 0, 0, 0, 0), (326, 1, .aload_n 0, 0, 0, 0, 0), (327, 3, .getfield 110, 9, 48, 0, 1265), (330, 2, .bipush 55, 0, 0, 0, 0), (332, 1, .dup2, 0, 0, 0, 0), (333, 1, .iaload, 0, 0, 0, 0), (334, 1, .iconst 1, 0, 0, 0, 0), (335, 1, .iadd, 0, 0, 0, 0)], [(336, 1, .iastore, 0, 0, 0, 0), (337, 1, .aload_n 0, 0, 0, 0, 0), (338, 3, .getfield 110, 9, 48, 0, 1265), (341, 2, .bipush 52, 0, 0, 0, 0), (343, 1, .aload_n 0, 0, 0, 0, 0), (344, 3, .invokevirtual 304, 42, 0, 0, 1210), (347, 1, .iastore, 0, 0, 0, 0), (348, 1, .aload_n 0, 0, 0, 0, 0), (349, 3, .getfield 110, 9, 48, 0, 1265)], [(352, 2, .bipush 52, 0, 0, 0, 0), (354, 1, .iaload, 0, 0, 0, 0), (355, 1, .iconst 1, 0, 0, 0, 0), (356, 3, .if_icmp .ne 17, 0, 0, 0, 0), (359, 1, .aload_n 0, 0, 0, 0, 0), (360, 3, .getfield 110, 9, 48, 0, 1265), (363, 2, .bipush 54, 0, 0, 0, 0), (365, 1, .aload_n 0, 0, 0, 0, 0), (366, 3, .getfield 110, 9, 48, 0, 1265)], [(369, 2, .bipush 18, 0, 0, 0, 0), (371, 1, .iaload, 0, 0, 0, 0), (372, 1, .iastore, 0, 0, 0, 0), (373, 1, .iload_n 1, 0, 0, 0, 0), (374, 1, .ireturn, 0, 0, 0, 0)]], 3, 0, 1, 9, 1, 0, 0)
/-- StrawWatchModel.sevens.(I)I -/
def mt_86 : List (List mm_I) × Nat × mm_M := ([[(0, 1, .iconst 1, 0, 0, 0, 0), (1, 1, .istore_n 1, 0, 0, 0, 0), (2, 1, .iconst 0, 0, 0, 0, 0), (3, 1, .istore_n 2, 0, 0, 0, 0), (4, 1, .iload_n 2, 0, 0, 0, 0), (5, 1, .iload_n 0, 0, 0, 0, 0), (6, 3, .if_icmp .ge 14, 0, 0, 0, 0), (9, 1, .iload_n 1, 0, 0, 0, 0), (10, 2, .bipush 7, 0, 0, 0, 0), (12, 1, .imul, 0, 0, 0, 0), (13, 1, .istore_n 1, 0, 0, 0, 0), (14, 3, .iinc 2 1, 0, 0, 0, 0)], [(17, 3, .goto (-13), 0, 0, 0, 0), (20, 1, .iload_n 1, 0, 0, 0, 0), (21, 1, .ireturn, 0, 0, 0, 0)]], 3, 1, 0, 9, 1, 0, 0)
/-- StrawWatchModel.ship.(I)I -/
def mt_87 : List (List mm_I) × Nat × mm_M := ([[(0, 1, .aload_n 0, 0, 0, 0, 0), (1, 3, .invokevirtual 380, 17, 0, 0, 1546), (4, 1, .aload_n 0, 0, 0, 0, 0), (5, 1, .iload_n 1, 0, 0, 0, 0), (6, 3, .invokevirtual 386, 88, 0, 0, 1566), (9, 1, .ireturn, 0, 0, 0, 0)]], 2, 1, 1, 9, 1, 0, 0)
/-- StrawWatchModel.shipIs.(I)I -/
def mt_88 : List (List mm_I) × Nat × mm_M := ([[(0, 1, .iload_n 1, 0, 0, 0, 0), (1, 55, .tableswitch 75 0 9 #[55, 55, 55, 55, 55, 55, 55, 55, 65, 70], 0, 0, 0, 0)], [], [], [(56, 1, .aload_n 0, 0, 0, 0, 0), (57, 3, .getfield 110, 9, 48, 0, 1265), (60, 2, .bipush 46, 0, 0, 0, 0), (62, 1, .iload_n 1, 0, 0, 0, 0), (63, 1, .iadd, 0, 0, 0, 0)], [(64, 1, .iaload, 0, 0, 0, 0), (65, 1, .ireturn, 0, 0, 0, 0), (66, 1, .aload_n 0, 0, 0, 0, 0), (67, 3, .invokevirtual 334, 110, 0, 0, 1570), (70, 1, .ireturn, 0, 0, 0, 0), (71, 1, .aload_n 0, 0, 0, 0, 0), (72, 3, .invokevirtual 340, 20, 0, 0, 1590), (75, 1, .ireturn, 0, 0, 0, 0), (76, 1, .iconst (-1), 0, 0, 0, 0), (77, 1, .ireturn, 0, 0, 0, 0)]], 2, 1, 1, 9, 1, 0, 0)
/-- StrawWatchModel.sign.(III)I -/
def mt_89 : List (List mm_I) × Nat × mm_M := ([[(0, 1, .iload_n 2, 0, 0, 0, 0), (1, 2, .bipush 59, 0, 0, 0, 0), (3, 3, .if_icmp .ne 7, 0, 0, 0, 0), (6, 1, .iconst 4, 0, 0, 0, 0), (7, 3, .goto 36, 0, 0, 0, 0), (10, 1, .iload_n 2, 0, 0, 0, 0), (11, 2, .bipush 61, 0, 0, 0, 0), (13, 3, .if_icmp .ne 7, 0, 0, 0, 0)], [(16, 1, .iconst 5, 0, 0, 0, 0), (17, 3, .goto 26, 0, 0, 0, 0), (20, 1, .iload_n 2, 0, 0, 0, 0), (21, 2, .bipush 40, 0, 0, 0, 0), (23, 3, .if_icmp .ne 8, 0, 0, 0, 0), (26, 2, .bipush 6, 0, 0, 0, 0), (28, 3, .goto 15, 0, 0, 0, 0), (31, 1, .iload_n 2, 0, 0, 0, 0)], [(32, 2, .bipush 41, 0, 0, 0, 0), (34, 3, .if_icmp .ne 8, 0, 0, 0, 0), (37, 2, .bipush 7, 0, 0, 0, 0), (39, 3, .goto 4, 0, 0, 0, 0), (42, 1, .iconst 3, 0, 0, 0, 0), (43, 2, .istore 4, 0, 0, 0, 0), (45, 1, .iload_n 2, 0, 0, 0, 0), (46, 2, .bipush 43, 0, 0, 0, 0)], [(48, 3, .if_icmp .ne 7, 0, 0, 0, 0), (51, 2, .bipush 8, 0, 0, 0, 0), (53, 2, .istore 4, 0, 0, 0, 0), (55, 1, .iload_n 2, 0, 0, 0, 0), (56, 2, .bipush 45, 0, 0, 0, 0), (58, 3, .if_icmp .ne 7, 0, 0, 0, 0), (61, 2, .bipush 9, 0, 0, 0, 0), (63, 2, .istore 4, 0, 0, 0, 0)], [(65, 1, .iload_n 2, 0, 0, 0, 0), (66, 2, .bipush 42, 0, 0, 0, 0), (68, 3, .if_icmp .ne 7, 0, 0, 0, 0), (71, 2, .bipush 10, 0, 0, 0, 0), (73, 2, .istore 4, 0, 0, 0, 0), (75, 1, .iload_n 2, 0, 0, 0, 0), (76, 2, .bipush 47, 0, 0, 0, 0), (78, 3, .if_icmp .ne 7, 0, 0, 0, 0)], [(81, 2, .bipush 15, 0, 0, 0, 0), (83, 2, .istore 4, 0, 0, 0, 0), (85, 1, .iload_n 2, 0, 0, 0, 0), (86, 2, .bipush 60, 0, 0, 0, 0), (88, 3, .if_icmp .ne 7, 0, 0, 0, 0), (91, 2, .bipush 13, 0, 0, 0, 0), (93, 2, .istore 4, 0, 0, 0, 0), (95, 1, .aload_n 0, 0, 0, 0, 0)], [(96, 2, .iload 4, 0, 0, 0, 0), (98, 1, .iload_n 1, 0, 0, 0, 0), (99, 1, .iconst 0, 0, 0, 0, 0), (100, 1, .lconst 0, 0, 0, 0, 0), (101, 3, .invokevirtual 188, 103, 0, 0, 1461), (104, 1, .iconst 1, 0, 0, 0, 0), (105, 1, .ireturn, 0, 0, 0, 0)]], 5, 3, 1, 9, 1, 0, 0)
/-- StrawWatchModel.skillAt.(II)I -/
def mt_90 : List (List mm_I) × Nat × mm_M := ([[(0, 1, .iload_n 1, 0, 0, 0, 0), (1, 3, .ifCond .ge 7, 0, 0, 0, 0), (4, 1, .iconst 0, 0, 0, 0, 0), (5, 3, .goto 21, 0, 0, 0, 0), (8, 1, .aload_n 0, 0, 0, 0, 0), (9, 3, .getfield 46, 9, 23, 0, 1240), (12, 1, .iconst 4, 0, 0, 0, 0), (13, 2, .bipush 6, 0, 0, 0, 0), (15, 1, .aload_n 0, 0, 0, 0, 0)], [(16, 3, .getfield 233, 9, 18, 0, 1235), (19, 1, .imul, 0, 0, 0, 0), (20, 1, .iload_n 1, 0, 0, 0, 0), (21, 1, .iadd, 0, 0, 0, 0), (22, 1, .imul, 0, 0, 0, 0), (23, 1, .iload_n 2, 0, 0, 0, 0), (24, 1, .iadd, 0, 0, 0, 0), (25, 1, .iaload, 0, 0, 0, 0), (26, 1, .ireturn, 0, 0, 0, 0)]], 3, 2, 1, 9, 1, 0, 0)
/-- StrawWatchModel.skillBy.(I)I -/
def mt_91 : List (List mm_I) × Nat × mm_M := ([[(0, 1, .iconst 0, 0, 0, 0, 0), (1, 1, .istore_n 2, 0, 0, 0, 0), (2, 1, .iconst 0, 0, 0, 0, 0), (3, 1, .istore_n 3, 0, 0, 0, 0), (4, 1, .iload_n 3, 0, 0, 0, 0), (5, 1, .iconst 4, 0, 0, 0, 0), (6, 3, .if_icmp .ge 22, 0, 0, 0, 0), (9, 1, .iload_n 2, 0, 0, 0, 0), (10, 1, .aload_n 0, 0, 0, 0, 0), (11, 1, .iload_n 1, 0, 0, 0, 0), (12, 1, .iload_n 3, 0, 0, 0, 0), (13, 3, .invokestatic 402, 4, 0, 0, 1685)], [(16, 1, .iload_n 3, 0, 0, 0, 0), (17, 3, .invokevirtual 346, 90, 0, 0, 1550), (20, 1, .iadd, 0, 0, 0, 0), (21, 1, .istore_n 2, 0, 0, 0, 0), (22, 3, .iinc 3 1, 0, 0, 0, 0), (25, 3, .goto (-21), 0, 0, 0, 0), (28, 1, .iload_n 2, 0, 0, 0, 0), (29, 1, .ireturn, 0, 0, 0, 0)]], 4, 1, 1, 9, 1, 0, 0)
/-- StrawWatchModel.spared.(II)I -/
def mt_92 : List (List mm_I) × Nat × mm_M := ([[(0, 1, .aload_n 0, 0, 0, 0, 0), (1, 1, .iload_n 1, 0, 0, 0, 0), (2, 3, .invokevirtual 377, 52, 0, 0, 1539), (5, 3, .ifCond .eq 10, 0, 0, 0, 0), (8, 1, .iload_n 2, 0, 0, 0, 0), (9, 3, .invokestatic 458, 51, 0, 0, 1759), (12, 3, .ifCond .ne 7, 0, 0, 0, 0), (15, 3, .ldc_w 415, 0, 0, (-100000), 1680)], [(18, 1, .ireturn, 0, 0, 0, 0), (19, 1, .aload_n 0, 0, 0, 0, 0), (20, 1, .iload_n 1, 0, 0, 0, 0), (21, 1, .iload_n 2, 0, 0, 0, 0), (22, 1, .iconst 0, 0, 0, 0, 0), (23, 3, .invokevirtual 467, 13, 0, 0, 1786), (26, 1, .aload_n 0, 0, 0, 0, 0), (27, 1, .iload_n 1, 0, 0, 0, 0), (28, 1, .iload_n 2, 0, 0, 0, 0), (29, 1, .iconst 1, 0, 0, 0, 0), (30, 3, .invokevirtual 467, 13, 0, 0, 1786)], [(33, 1, .isub, 0, 0, 0, 0), (34, 1, .ireturn, 0, 0, 0, 0)]], 3, 2, 1, 9, 1, 0, 0)
/-- StrawWatchModel.stand.(IIII)I -/
def mt_93 : List (List mm_I) × Nat × mm_M := ([[(0, 1, .aload_n 0, 0, 0, 0, 0), (1, 1, .iload_n 1, 0, 0, 0, 0), (2, 3, .invokevirtual 392, 47, 0, 0, 1606), (5, 3, .ifCond .eq 28, 0, 0, 0, 0), (8, 1, .aload_n 0, 0, 0, 0, 0), (9, 1, .iload_n 2, 0, 0, 0, 0), (10, 3, .invokevirtual 392, 47, 0, 0, 1606), (13, 3, .ifCond .eq 20, 0, 0, 0, 0)], [(16, 1, .aload_n 0, 0, 0, 0, 0), (17, 1, .iload_n 3, 0, 0, 0, 0), (18, 3, .invokevirtual 392, 47, 0, 0, 1606), (21, 3, .ifCond .eq 12, 0, 0, 0, 0), (24, 1, .aload_n 0, 0, 0, 0, 0), (25, 2, .iload 4, 0, 0, 0, 0), (27, 3, .invokevirtual 392, 47, 0, 0, 1606), (30, 3, .ifCond .ne 5, 0, 0, 0, 0)], [(33, 1, .iconst (-1), 0, 0, 0, 0), (34, 1, .ireturn, 0, 0, 0, 0), (35, 1, .iload_n 1, 0, 0, 0, 0), (36, 1, .iload_n 2, 0, 0, 0, 0), (37, 3, .invokestatic 395, 53, 0, 0, 1610), (40, 3, .ifCond .ne 46, 0, 0, 0, 0), (43, 1, .iload_n 1, 0, 0, 0, 0), (44, 1, .iload_n 3, 0, 0, 0, 0), (45, 3, .invokestatic 395, 53, 0, 0, 1610)], [(48, 3, .ifCond .ne 38, 0, 0, 0, 0), (51, 1, .iload_n 1, 0, 0, 0, 0), (52, 2, .iload 4, 0, 0, 0, 0), (54, 3, .invokestatic 395, 53, 0, 0, 1610), (57, 3, .ifCond .ne 29, 0, 0, 0, 0), (60, 1, .iload_n 2, 0, 0, 0, 0), (61, 1, .iload_n 3, 0, 0, 0, 0), (62, 3, .invokestatic 395, 53, 0, 0, 1610)], [(65, 3, .ifCond .ne 21, 0, 0, 0, 0), (68, 1, .iload_n 2, 0, 0, 0, 0), (69, 2, .iload 4, 0, 0, 0, 0), (71, 3, .invokestatic 395, 53, 0, 0, 1610), (74, 3, .ifCond .ne 12, 0, 0, 0, 0), (77, 1, .iload_n 3, 0, 0, 0, 0), (78, 2, .iload 4, 0, 0, 0, 0)], [(80, 3, .invokestatic 395, 53, 0, 0, 1610), (83, 3, .ifCond .eq 5, 0, 0, 0, 0), (86, 1, .iconst (-1), 0, 0, 0, 0), (87, 1, .ireturn, 0, 0, 0, 0), (88, 1, .aload_n 0, 0, 0, 0, 0), (89, 3, .getfield 107, 9, 47, 0, 1264), (92, 2, .bipush 52, 0, 0, 0, 0), (94, 1, .iaload, 0, 0, 0, 0), (95, 3, .ifCond .le 6, 0, 0, 0, 0)], [(98, 2, .bipush (-2), 0, 0, 0, 0), (100, 1, .ireturn, 0, 0, 0, 0), (101, 1, .aload_n 0, 0, 0, 0, 0), (102, 3, .invokevirtual 380, 17, 0, 0, 1546), (105, 1, .aload_n 0, 0, 0, 0, 0), (106, 3, .getfield 110, 9, 48, 0, 1265), (109, 2, .bipush 18, 0, 0, 0, 0), (111, 1, .iload_n 1, 0, 0, 0, 0)], [(112, 3, .ifCond .ge 8, 0, 0, 0, 0), (115, 2, .bipush (-2), 0, 0, 0, 0), (117, 3, .goto 4, 0, 0, 0, 0), (120, 1, .iload_n 1, 0, 0, 0, 0), (121, 1, .iastore, 0, 0, 0, 0), (122, 1, .aload_n 0, 0, 0, 0, 0), (123, 3, .getfield 110, 9, 48, 0, 1265), (126, 2, .bipush 19, 0, 0, 0, 0)], [(128, 1, .iload_n 2, 0, 0, 0, 0), (129, 3, .ifCond .ge 8, 0, 0, 0, 0), (132, 2, .bipush (-2), 0, 0, 0, 0), (134, 3, .goto 4, 0, 0, 0, 0), (137, 1, .iload_n 2, 0, 0, 0, 0), (138, 1, .iastore, 0, 0, 0, 0), (139, 1, .aload_n 0, 0, 0, 0, 0), (140, 3, .getfield 110, 9, 48, 0, 1265), (143, 2, .bipush 20, 0, 0, 0, 0)], [(145, 1, .iload_n 3, 0, 0, 0, 0), (146, 3, .ifCond .ge 8, 0, 0, 0, 0), (149, 2, .bipush (-2), 0, 0, 0, 0), (151, 3, .goto 4, 0, 0, 0, 0), (154, 1, .iload_n 3, 0, 0, 0, 0), (155, 1, .iastore, 0, 0, 0, 0), (156, 1, .aload_n 0, 0, 0, 0, 0), (157, 3, .getfield 110, 9, 48, 0, 1265)], [(160, 2, .bipush 21, 0, 0, 0, 0), (162, 2, .iload 4, 0, 0, 0, 0), (164, 3, .ifCond .ge 8, 0, 0, 0, 0), (167, 2, .bipush (-2), 0, 0, 0, 0), (169, 3, .goto 5, 0, 0, 0, 0), (172, 2, .iload 4, 0, 0, 0, 0), (174, 1, .iastore, 0, 0, 0, 0), (175, 1, .aload_n 0, 0, 0, 0, 0)], [(176, 3, .invokevirtual 370, 85, 0, 0, 1613), (179, 2, .istore 5, 0, 0, 0, 0), (181, 1, .aload_n 0, 0, 0, 0, 0), (182, 3, .invokevirtual 389, 55, 0, 0, 1598), (185, 2, .iload 5, 0, 0, 0, 0), (187, 1, .ireturn, 0, 0, 0, 0)]], 6, 4, 1, 9, 1, 0, 0)
/-- StrawWatchModel.steady.(II)I -/
def mt_94 : List (List mm_I) × Nat × mm_M := ([[(0, 1, .iload_n 1, 0, 0, 0, 0), (1, 1, .iconst 0, 0, 0, 0, 0), (2, 1, .iconst 3, 0, 0, 0, 0), (3, 3, .invokestatic 300, 43, 0, 0, 1543), (6, 3, .ifCond .eq 12, 0, 0, 0, 0), (9, 1, .iload_n 2, 0, 0, 0, 0), (10, 1, .iconst 0, 0, 0, 0, 0), (11, 1, .iconst 1, 0, 0, 0, 0), (12, 3, .invokestatic 300, 43, 0, 0, 1543), (15, 3, .ifCond .ne 5, 0, 0, 0, 0)], [(18, 1, .iconst (-1), 0, 0, 0, 0), (19, 1, .ireturn, 0, 0, 0, 0), (20, 1, .aload_n 0, 0, 0, 0, 0), (21, 3, .invokevirtual 380, 17, 0, 0, 1546), (24, 1, .aload_n 0, 0, 0, 0, 0), (25, 1, .iload_n 1, 0, 0, 0, 0), (26, 3, .putfield 311, 9, 50, 0, 1267), (29, 1, .aload_n 0, 0, 0, 0, 0), (30, 1, .iload_n 2, 0, 0, 0, 0), (31, 3, .invokevirtual 464, 25, 0, 0, 1774)], [(34, 1, .ireturn, 0, 0, 0, 0)]], 3, 2, 1, 9, 1, 0, 0)
/-- StrawWatchModel.surely.(I)I -/
def mt_95 : List (List mm_I) × Nat × mm_M := ([[(0, 1, .iload_n 1, 0, 0, 0, 0), (1, 1, .iconst 0, 0, 0, 0, 0), (2, 2, .bipush 100, 0, 0, 0, 0), (4, 3, .invokestatic 300, 43, 0, 0, 1543), (7, 3, .ifCond .eq 15, 0, 0, 0, 0), (10, 1, .aload_n 0, 0, 0, 0, 0), (11, 3, .getfield 43, 9, 22, 0, 1239), (14, 1, .aload_n 0, 0, 0, 0, 0), (15, 3, .getfield 233, 9, 18, 0, 1235)], [(18, 1, .iaload, 0, 0, 0, 0), (19, 3, .ifCond .ne 5, 0, 0, 0, 0), (22, 1, .iconst (-1), 0, 0, 0, 0), (23, 1, .ireturn, 0, 0, 0, 0), (24, 1, .iconst 0, 0, 0, 0, 0), (25, 1, .istore_n 2, 0, 0, 0, 0), (26, 1, .iload_n 2, 0, 0, 0, 0), (27, 2, .bipush 10, 0, 0, 0, 0), (29, 3, .if_icmp .gt 60, 0, 0, 0, 0)], [(32, 1, .aload_n 0, 0, 0, 0, 0), (33, 3, .getfield 43, 9, 22, 0, 1239), (36, 1, .aload_n 0, 0, 0, 0, 0), (37, 3, .getfield 233, 9, 18, 0, 1235), (40, 1, .iaload, 0, 0, 0, 0), (41, 1, .iload_n 2, 0, 0, 0, 0), (42, 3, .invokestatic 470, 75, 0, 0, 1810), (45, 1, .i2l, 0, 0, 0, 0), (46, 1, .lstore_n 3, 0, 0, 0, 0), (47, 1, .lload_n 3, 0, 0, 0, 0)], [(48, 1, .aload_n 0, 0, 0, 0, 0), (49, 3, .getfield 43, 9, 22, 0, 1239), (52, 1, .aload_n 0, 0, 0, 0, 0), (53, 3, .getfield 233, 9, 18, 0, 1235), (56, 1, .iaload, 0, 0, 0, 0), (57, 1, .iconst 1, 0, 0, 0, 0), (58, 1, .isub, 0, 0, 0, 0), (59, 1, .iload_n 2, 0, 0, 0, 0), (60, 3, .invokestatic 470, 75, 0, 0, 1810), (63, 1, .i2l, 0, 0, 0, 0)], [(64, 1, .ladd, 0, 0, 0, 0), (65, 2, .lstore 5, 0, 0, 0, 0), (67, 1, .lload_n 3, 0, 0, 0, 0), (68, 3, .ldc2_w 473, 0, 0, 100, 1817), (71, 1, .lmul, 0, 0, 0, 0), (72, 2, .lload 5, 0, 0, 0, 0), (74, 1, .iload_n 1, 0, 0, 0, 0), (75, 1, .i2l, 0, 0, 0, 0), (76, 1, .lmul, 0, 0, 0, 0), (77, 1, .lcmp, 0, 0, 0, 0), (78, 3, .ifCond .lt 5, 0, 0, 0, 0)], [(81, 1, .iload_n 2, 0, 0, 0, 0), (82, 1, .ireturn, 0, 0, 0, 0), (83, 3, .iinc 2 1, 0, 0, 0, 0), (86, 3, .goto (-60), 0, 0, 0, 0), (89, 2, .bipush (-2), 0, 0, 0, 0), (91, 1, .ireturn, 0, 0, 0, 0)]], 7, 1, 1, 9, 1, 0, 0)
/-- StrawWatchModel.tell.(I)I -/
def mt_96 : List (List mm_I) × Nat × mm_M := ([[(0, 1, .aload_n 0, 0, 0, 0, 0), (1, 3, .getfield 254, 9, 65, 0, 1282), (4, 2, .bipush 10, 0, 0, 0, 0), (6, 3, .if_icmp .eq 11, 0, 0, 0, 0), (9, 1, .aload_n 0, 0, 0, 0, 0), (10, 1, .iload_n 1, 0, 0, 0, 0), (11, 3, .invokevirtual 377, 52, 0, 0, 1539), (14, 3, .ifCond .ne 5, 0, 0, 0, 0)], [(17, 1, .iconst (-1), 0, 0, 0, 0), (18, 1, .ireturn, 0, 0, 0, 0), (19, 1, .aload_n 0, 0, 0, 0, 0), (20, 3, .getfield 134, 9, 66, 0, 1283), (23, 1, .aload_n 0, 0, 0, 0, 0), (24, 3, .getfield 254, 9, 65, 0, 1282), (27, 1, .iload_n 1, 0, 0, 0, 0), (28, 1, .iastore, 0, 0, 0, 0), (29, 1, .aload_n 0, 0, 0, 0, 0), (30, 1, .dup, 0, 0, 0, 0), (31, 3, .getfield 254, 9, 65, 0, 1282)], [(34, 1, .iconst 1, 0, 0, 0, 0), (35, 1, .iadd, 0, 0, 0, 0), (36, 3, .putfield 254, 9, 65, 0, 1282), (39, 1, .aload_n 0, 0, 0, 0, 0), (40, 3, .getfield 254, 9, 65, 0, 1282), (43, 1, .iconst 1, 0, 0, 0, 0), (44, 1, .isub, 0, 0, 0, 0), (45, 1, .ireturn, 0, 0, 0, 0)]], 2, 1, 1, 9, 1, 0, 0)
/-- StrawWatchModel.tellLaw.(I)V -/
def mt_97 : List (List mm_I) × Nat × mm_M := ([[(0, 1, .aload_n 0, 0, 0, 0, 0), (1, 1, .iconst 5, 0, 0, 0, 0), (2, 3, .invokevirtual 267, 67, 0, 0, 1495), (5, 1, .aload_n 0, 0, 0, 0, 0), (6, 3, .getfield 242, 9, 33, 0, 1250), (9, 1, .istore_n 2, 0, 0, 0, 0), (10, 1, .iconst 0, 0, 0, 0, 0), (11, 1, .istore_n 3, 0, 0, 0, 0), (12, 1, .aload_n 0, 0, 0, 0, 0), (13, 3, .getfield 203, 9, 13, 0, 1230)], [(16, 3, .ifCond .ne 113, 0, 0, 0, 0), (19, 1, .aload_n 0, 0, 0, 0, 0), (20, 2, .bipush 32, 0, 0, 0, 0), (22, 3, .invokevirtual 221, 45, 0, 0, 1475), (25, 3, .ifCond .eq 104, 0, 0, 0, 0), (28, 1, .iload_n 3, 0, 0, 0, 0), (29, 1, .iconst 4, 0, 0, 0, 0), (30, 3, .if_icmp .ne 8, 0, 0, 0, 0)], [(33, 1, .aload_n 0, 0, 0, 0, 0), (34, 1, .iconst 2, 0, 0, 0, 0), (35, 3, .invokevirtual 218, 27, 0, 0, 1483), (38, 1, .aload_n 0, 0, 0, 0, 0), (39, 3, .getfield 203, 9, 13, 0, 1230), (42, 3, .ifCond .le 4, 0, 0, 0, 0), (45, 1, .return_, 0, 0, 0, 0), (46, 3, .iinc 3 1, 0, 0, 0, 0)], [(49, 1, .aload_n 0, 0, 0, 0, 0), (50, 3, .invokevirtual 224, 37, 0, 0, 1491), (53, 1, .aload_n 0, 0, 0, 0, 0), (54, 3, .getfield 76, 9, 34, 0, 1251), (57, 1, .aload_n 0, 0, 0, 0, 0), (58, 3, .getfield 242, 9, 33, 0, 1250), (61, 1, .iconst 1, 0, 0, 0, 0), (62, 1, .bastore, 0, 0, 0, 0), (63, 1, .aload_n 0, 0, 0, 0, 0)], [(64, 3, .getfield 80, 9, 35, 0, 1252), (67, 1, .aload_n 0, 0, 0, 0, 0), (68, 3, .getfield 242, 9, 33, 0, 1250), (71, 1, .aload_n 0, 0, 0, 0, 0), (72, 3, .getfield 245, 9, 39, 0, 1256), (75, 1, .iastore, 0, 0, 0, 0), (76, 1, .aload_n 0, 0, 0, 0, 0), (77, 3, .invokevirtual 277, 26, 0, 0, 1511)], [(80, 1, .aload_n 0, 0, 0, 0, 0), (81, 2, .bipush 13, 0, 0, 0, 0), (83, 3, .invokevirtual 267, 67, 0, 0, 1495), (86, 1, .aload_n 0, 0, 0, 0, 0), (87, 3, .getfield 83, 9, 36, 0, 1253), (90, 1, .aload_n 0, 0, 0, 0, 0), (91, 3, .getfield 242, 9, 33, 0, 1250), (94, 1, .aload_n 0, 0, 0, 0, 0), (95, 3, .getfield 245, 9, 39, 0, 1256)], [(98, 1, .iastore, 0, 0, 0, 0), (99, 1, .aload_n 0, 0, 0, 0, 0), (100, 3, .getfield 203, 9, 13, 0, 1230), (103, 3, .ifCond .ne 7, 0, 0, 0, 0), (106, 1, .aload_n 0, 0, 0, 0, 0), (107, 3, .invokevirtual 277, 26, 0, 0, 1511), (110, 1, .aload_n 0, 0, 0, 0, 0), (111, 2, .bipush 33, 0, 0, 0, 0)], [(113, 3, .invokevirtual 267, 67, 0, 0, 1495), (116, 1, .aload_n 0, 0, 0, 0, 0), (117, 3, .invokevirtual 280, 100, 0, 0, 1527), (120, 1, .aload_n 0, 0, 0, 0, 0), (121, 2, .bipush 34, 0, 0, 0, 0), (123, 3, .invokevirtual 267, 67, 0, 0, 1495), (126, 3, .goto (-114), 0, 0, 0, 0)], [(129, 1, .aload_n 0, 0, 0, 0, 0), (130, 3, .getfield 76, 9, 34, 0, 1251), (133, 1, .aload_n 0, 0, 0, 0, 0), (134, 3, .getfield 242, 9, 33, 0, 1250), (137, 1, .iconst 0, 0, 0, 0, 0), (138, 1, .bastore, 0, 0, 0, 0), (139, 1, .aload_n 0, 0, 0, 0, 0), (140, 3, .invokevirtual 280, 100, 0, 0, 1527), (143, 1, .aload_n 0, 0, 0, 0, 0)], [(144, 1, .iconst 4, 0, 0, 0, 0), (145, 3, .invokevirtual 267, 67, 0, 0, 1495), (148, 1, .aload_n 0, 0, 0, 0, 0), (149, 3, .getfield 203, 9, 13, 0, 1230), (152, 3, .ifCond .le 4, 0, 0, 0, 0), (155, 1, .return_, 0, 0, 0, 0), (156, 1, .aload_n 0, 0, 0, 0, 0), (157, 3, .getfield 70, 9, 31, 0, 1248)], [(160, 2, .bipush 7, 0, 0, 0, 0), (162, 1, .aload_n 0, 0, 0, 0, 0), (163, 3, .getfield 236, 9, 19, 0, 1236), (166, 1, .imul, 0, 0, 0, 0), (167, 1, .iload_n 1, 0, 0, 0, 0), (168, 1, .iadd, 0, 0, 0, 0), (169, 1, .iload_n 2, 0, 0, 0, 0), (170, 1, .iastore, 0, 0, 0, 0), (171, 1, .aload_n 0, 0, 0, 0, 0), (172, 3, .getfield 73, 9, 32, 0, 1249), (175, 2, .bipush 7, 0, 0, 0, 0)], [(177, 1, .aload_n 0, 0, 0, 0, 0), (178, 3, .getfield 236, 9, 19, 0, 1236), (181, 1, .imul, 0, 0, 0, 0), (182, 1, .iload_n 1, 0, 0, 0, 0), (183, 1, .iadd, 0, 0, 0, 0), (184, 1, .aload_n 0, 0, 0, 0, 0), (185, 3, .getfield 242, 9, 33, 0, 1250), (188, 1, .iastore, 0, 0, 0, 0), (189, 1, .return_, 0, 0, 0, 0)]], 4, 1, 1, 9, 0, 0, 0)
/-- StrawWatchModel.tellMan.()V -/
def mt_98 : List (List mm_I) × Nat × mm_M := ([[(0, 1, .aload_n 0, 0, 0, 0, 0), (1, 3, .invokevirtual 224, 37, 0, 0, 1491), (4, 2, .bipush 6, 0, 0, 0, 0), (6, 1, .aload_n 0, 0, 0, 0, 0), (7, 3, .getfield 236, 9, 19, 0, 1236), (10, 1, .imul, 0, 0, 0, 0), (11, 1, .aload_n 0, 0, 0, 0, 0), (12, 3, .getfield 43, 9, 22, 0, 1239), (15, 1, .aload_n 0, 0, 0, 0, 0)], [(16, 3, .getfield 236, 9, 19, 0, 1236), (19, 1, .iaload, 0, 0, 0, 0), (20, 1, .iadd, 0, 0, 0, 0), (21, 1, .istore_n 1, 0, 0, 0, 0), (22, 1, .aload_n 0, 0, 0, 0, 0), (23, 3, .getfield 206, 9, 11, 0, 1228), (26, 1, .istore_n 2, 0, 0, 0, 0), (27, 1, .aload_n 0, 0, 0, 0, 0), (28, 1, .iconst 1, 0, 0, 0, 0), (29, 3, .invokevirtual 267, 67, 0, 0, 1495)], [(32, 1, .iconst 0, 0, 0, 0, 0), (33, 1, .istore_n 3, 0, 0, 0, 0), (34, 1, .iload_n 3, 0, 0, 0, 0), (35, 1, .aload_n 0, 0, 0, 0, 0), (36, 3, .getfield 239, 9, 20, 0, 1237), (39, 3, .if_icmp .ge 38, 0, 0, 0, 0), (42, 1, .aload_n 0, 0, 0, 0, 0), (43, 3, .getfield 203, 9, 13, 0, 1230), (46, 3, .ifCond .ne 31, 0, 0, 0, 0)], [(49, 1, .aload_n 0, 0, 0, 0, 0), (50, 3, .getfield 40, 9, 21, 0, 1238), (53, 1, .iload_n 3, 0, 0, 0, 0), (54, 1, .laload, 0, 0, 0, 0), (55, 1, .aload_n 0, 0, 0, 0, 0), (56, 3, .getfield 30, 9, 8, 0, 1225), (59, 1, .iload_n 2, 0, 0, 0, 0), (60, 1, .laload, 0, 0, 0, 0), (61, 1, .lcmp, 0, 0, 0, 0), (62, 3, .ifCond .ne 9, 0, 0, 0, 0)], [(65, 1, .aload_n 0, 0, 0, 0, 0), (66, 1, .iconst 3, 0, 0, 0, 0), (67, 1, .iload_n 2, 0, 0, 0, 0), (68, 3, .invokevirtual 273, 112, 0, 0, 1499), (71, 3, .iinc 3 1, 0, 0, 0, 0), (74, 3, .goto (-40), 0, 0, 0, 0), (77, 1, .iconst 0, 0, 0, 0, 0), (78, 1, .istore_n 3, 0, 0, 0, 0), (79, 1, .iload_n 3, 0, 0, 0, 0)], [(80, 1, .iconst 4, 0, 0, 0, 0), (81, 3, .if_icmp .ge 26, 0, 0, 0, 0), (84, 1, .aload_n 0, 0, 0, 0, 0), (85, 3, .getfield 46, 9, 23, 0, 1240), (88, 1, .iconst 4, 0, 0, 0, 0), (89, 1, .iload_n 1, 0, 0, 0, 0), (90, 1, .imul, 0, 0, 0, 0), (91, 1, .iload_n 3, 0, 0, 0, 0), (92, 1, .iadd, 0, 0, 0, 0), (93, 1, .aload_n 0, 0, 0, 0, 0), (94, 1, .iconst 0, 0, 0, 0, 0), (95, 2, .bipush 9, 0, 0, 0, 0)], [(97, 3, .invokevirtual 263, 10, 0, 0, 1503), (100, 1, .iastore, 0, 0, 0, 0), (101, 3, .iinc 3 1, 0, 0, 0, 0), (104, 3, .goto (-25), 0, 0, 0, 0), (107, 1, .aload_n 0, 0, 0, 0, 0), (108, 3, .getfield 49, 9, 24, 0, 1241), (111, 1, .iload_n 1, 0, 0, 0, 0)], [(112, 1, .aload_n 0, 0, 0, 0, 0), (113, 1, .iconst 0, 0, 0, 0, 0), (114, 2, .bipush 9, 0, 0, 0, 0), (116, 3, .invokevirtual 263, 10, 0, 0, 1503), (119, 1, .iastore, 0, 0, 0, 0), (120, 1, .aload_n 0, 0, 0, 0, 0), (121, 1, .iconst 4, 0, 0, 0, 0), (122, 3, .invokevirtual 267, 67, 0, 0, 1495), (125, 1, .aload_n 0, 0, 0, 0, 0), (126, 3, .getfield 203, 9, 13, 0, 1230)], [(129, 3, .ifCond .le 4, 0, 0, 0, 0), (132, 1, .return_, 0, 0, 0, 0), (133, 1, .aload_n 0, 0, 0, 0, 0), (134, 3, .getfield 40, 9, 21, 0, 1238), (137, 1, .aload_n 0, 0, 0, 0, 0), (138, 3, .getfield 239, 9, 20, 0, 1237), (141, 1, .aload_n 0, 0, 0, 0, 0), (142, 3, .getfield 30, 9, 8, 0, 1225)], [(145, 1, .iload_n 2, 0, 0, 0, 0), (146, 1, .laload, 0, 0, 0, 0), (147, 1, .lastore, 0, 0, 0, 0), (148, 1, .aload_n 0, 0, 0, 0, 0), (149, 1, .dup, 0, 0, 0, 0), (150, 3, .getfield 239, 9, 20, 0, 1237), (153, 1, .iconst 1, 0, 0, 0, 0), (154, 1, .iadd, 0, 0, 0, 0), (155, 3, .putfield 239, 9, 20, 0, 1237), (158, 1, .aload_n 0, 0, 0, 0, 0), (159, 3, .getfield 43, 9, 22, 0, 1239)], [(162, 1, .aload_n 0, 0, 0, 0, 0), (163, 3, .getfield 236, 9, 19, 0, 1236), (166, 1, .dup2, 0, 0, 0, 0), (167, 1, .iaload, 0, 0, 0, 0), (168, 1, .iconst 1, 0, 0, 0, 0), (169, 1, .iadd, 0, 0, 0, 0), (170, 1, .iastore, 0, 0, 0, 0), (171, 1, .return_, 0, 0, 0, 0)]], 4, 0, 1, 9, 0, 0, 0)
/-- StrawWatchModel.tellOne.()V -/
def mt_99 : List (List mm_I) × Nat × mm_M := ([[(0, 1, .aload_n 0, 0, 0, 0, 0), (1, 3, .getfield 20, 9, 5, 0, 1222), (4, 1, .aload_n 0, 0, 0, 0, 0), (5, 3, .getfield 206, 9, 11, 0, 1228), (8, 1, .iaload, 0, 0, 0, 0), (9, 63, .tableswitch 244 20 31 #[63, 244, 244, 244, 244, 244, 244, 244, 96, 157, 186, 215], 0, 0, 0, 0)], [], [], [], [(72, 1, .aload_n 0, 0, 0, 0, 0), (73, 3, .getfield 43, 9, 22, 0, 1239), (76, 1, .aload_n 0, 0, 0, 0, 0), (77, 3, .getfield 236, 9, 19, 0, 1236)], [(80, 1, .iaload, 0, 0, 0, 0), (81, 2, .bipush 6, 0, 0, 0, 0), (83, 3, .if_icmp .ne 8, 0, 0, 0, 0), (86, 1, .aload_n 0, 0, 0, 0, 0), (87, 1, .iconst 2, 0, 0, 0, 0), (88, 3, .invokevirtual 218, 27, 0, 0, 1483), (91, 1, .aload_n 0, 0, 0, 0, 0), (92, 3, .getfield 203, 9, 13, 0, 1230), (95, 3, .ifCond .ne 211, 0, 0, 0, 0)], [(98, 1, .aload_n 0, 0, 0, 0, 0), (99, 3, .invokevirtual 260, 98, 0, 0, 1487), (102, 3, .goto 204, 0, 0, 0, 0), (105, 1, .aload_n 0, 0, 0, 0, 0), (106, 3, .invokevirtual 224, 37, 0, 0, 1491), (109, 1, .aload_n 0, 0, 0, 0, 0), (110, 3, .getfield 52, 9, 25, 0, 1242)], [(113, 1, .aload_n 0, 0, 0, 0, 0), (114, 3, .getfield 236, 9, 19, 0, 1236), (117, 1, .aload_n 0, 0, 0, 0, 0), (118, 1, .iconst 1, 0, 0, 0, 0), (119, 2, .bipush 99, 0, 0, 0, 0), (121, 3, .invokevirtual 263, 10, 0, 0, 1503), (124, 1, .iastore, 0, 0, 0, 0), (125, 1, .aload_n 0, 0, 0, 0, 0), (126, 3, .getfield 55, 9, 26, 0, 1243)], [(129, 1, .aload_n 0, 0, 0, 0, 0), (130, 3, .getfield 236, 9, 19, 0, 1236), (133, 1, .aload_n 0, 0, 0, 0, 0), (134, 1, .iconst 0, 0, 0, 0, 0), (135, 3, .sipush 999, 0, 0, 0, 0), (138, 3, .invokevirtual 263, 10, 0, 0, 1503), (141, 1, .iastore, 0, 0, 0, 0), (142, 1, .aload_n 0, 0, 0, 0, 0), (143, 3, .getfield 58, 9, 27, 0, 1244)], [(146, 1, .aload_n 0, 0, 0, 0, 0), (147, 3, .getfield 236, 9, 19, 0, 1236), (150, 1, .aload_n 0, 0, 0, 0, 0), (151, 1, .iconst 0, 0, 0, 0, 0), (152, 2, .bipush 99, 0, 0, 0, 0), (154, 3, .invokevirtual 263, 10, 0, 0, 1503), (157, 1, .iastore, 0, 0, 0, 0), (158, 1, .aload_n 0, 0, 0, 0, 0), (159, 1, .iconst 4, 0, 0, 0, 0)], [(160, 3, .invokevirtual 267, 67, 0, 0, 1495), (163, 3, .goto 143, 0, 0, 0, 0), (166, 1, .aload_n 0, 0, 0, 0, 0), (167, 3, .invokevirtual 224, 37, 0, 0, 1491), (170, 1, .aload_n 0, 0, 0, 0, 0), (171, 3, .getfield 61, 9, 28, 0, 1245), (174, 1, .aload_n 0, 0, 0, 0, 0), (175, 3, .getfield 236, 9, 19, 0, 1236)], [(178, 1, .aload_n 0, 0, 0, 0, 0), (179, 1, .iconst 1, 0, 0, 0, 0), (180, 3, .sipush 999, 0, 0, 0, 0), (183, 3, .invokevirtual 263, 10, 0, 0, 1503), (186, 1, .iastore, 0, 0, 0, 0), (187, 1, .aload_n 0, 0, 0, 0, 0), (188, 1, .iconst 4, 0, 0, 0, 0), (189, 3, .invokevirtual 267, 67, 0, 0, 1495)], [(192, 3, .goto 114, 0, 0, 0, 0), (195, 1, .aload_n 0, 0, 0, 0, 0), (196, 3, .invokevirtual 224, 37, 0, 0, 1491), (199, 1, .aload_n 0, 0, 0, 0, 0), (200, 3, .getfield 64, 9, 29, 0, 1246), (203, 1, .aload_n 0, 0, 0, 0, 0), (204, 3, .getfield 236, 9, 19, 0, 1236), (207, 1, .aload_n 0, 0, 0, 0, 0)], [(208, 1, .iconst 0, 0, 0, 0, 0), (209, 3, .sipush 9999, 0, 0, 0, 0), (212, 3, .invokevirtual 263, 10, 0, 0, 1503), (215, 1, .iastore, 0, 0, 0, 0), (216, 1, .aload_n 0, 0, 0, 0, 0), (217, 1, .iconst 4, 0, 0, 0, 0), (218, 3, .invokevirtual 267, 67, 0, 0, 1495), (221, 3, .goto 85, 0, 0, 0, 0)], [(224, 1, .aload_n 0, 0, 0, 0, 0), (225, 3, .invokevirtual 224, 37, 0, 0, 1491), (228, 1, .aload_n 0, 0, 0, 0, 0), (229, 3, .getfield 67, 9, 30, 0, 1247), (232, 1, .aload_n 0, 0, 0, 0, 0), (233, 3, .getfield 236, 9, 19, 0, 1236), (236, 1, .aload_n 0, 0, 0, 0, 0), (237, 1, .iconst 0, 0, 0, 0, 0), (238, 3, .sipush 9999, 0, 0, 0, 0)], [(241, 3, .invokevirtual 263, 10, 0, 0, 1503), (244, 1, .iastore, 0, 0, 0, 0), (245, 1, .aload_n 0, 0, 0, 0, 0), (246, 1, .iconst 4, 0, 0, 0, 0), (247, 3, .invokevirtual 267, 67, 0, 0, 1495), (250, 3, .goto 56, 0, 0, 0, 0), (253, 1, .aload_n 0, 0, 0, 0, 0), (254, 3, .getfield 20, 9, 5, 0, 1222)], [(257, 1, .aload_n 0, 0, 0, 0, 0), (258, 3, .getfield 206, 9, 11, 0, 1228), (261, 1, .iaload, 0, 0, 0, 0), (262, 2, .bipush 21, 0, 0, 0, 0), (264, 1, .isub, 0, 0, 0, 0), (265, 1, .istore_n 1, 0, 0, 0, 0), (266, 1, .iload_n 1, 0, 0, 0, 0), (267, 3, .ifCond .lt 17, 0, 0, 0, 0), (270, 1, .aload_n 0, 0, 0, 0, 0), (271, 3, .getfield 20, 9, 5, 0, 1222)], [(274, 1, .aload_n 0, 0, 0, 0, 0), (275, 3, .getfield 206, 9, 11, 0, 1228), (278, 1, .iaload, 0, 0, 0, 0), (279, 2, .bipush 27, 0, 0, 0, 0), (281, 3, .if_icmp .le 8, 0, 0, 0, 0), (284, 1, .aload_n 0, 0, 0, 0, 0), (285, 1, .iconst 1, 0, 0, 0, 0), (286, 3, .invokevirtual 218, 27, 0, 0, 1483)], [(289, 1, .aload_n 0, 0, 0, 0, 0), (290, 3, .getfield 203, 9, 13, 0, 1230), (293, 3, .ifCond .le 4, 0, 0, 0, 0), (296, 1, .return_, 0, 0, 0, 0), (297, 1, .aload_n 0, 0, 0, 0, 0), (298, 3, .invokevirtual 224, 37, 0, 0, 1491), (301, 1, .aload_n 0, 0, 0, 0, 0), (302, 1, .iload_n 1, 0, 0, 0, 0), (303, 3, .invokevirtual 270, 97, 0, 0, 1507)], [(306, 1, .return_, 0, 0, 0, 0)]], 2, 0, 1, 9, 0, 0, 0)
/-- StrawWatchModel.term.()V -/
def mt_100 : List (List mm_I) × Nat × mm_M := ([[(0, 1, .aload_n 0, 0, 0, 0, 0), (1, 3, .getfield 86, 9, 37, 0, 1254), (4, 1, .aload_n 0, 0, 0, 0, 0), (5, 3, .getfield 242, 9, 33, 0, 1250), (8, 1, .aload_n 0, 0, 0, 0, 0), (9, 3, .getfield 245, 9, 39, 0, 1256), (12, 1, .iastore, 0, 0, 0, 0), (13, 1, .aload_n 0, 0, 0, 0, 0), (14, 3, .getfield 203, 9, 13, 0, 1230)], [(17, 3, .ifCond .ne 7, 0, 0, 0, 0), (20, 1, .aload_n 0, 0, 0, 0, 0), (21, 3, .invokevirtual 277, 26, 0, 0, 1511), (24, 1, .aload_n 0, 0, 0, 0, 0), (25, 3, .getfield 89, 9, 38, 0, 1255), (28, 1, .aload_n 0, 0, 0, 0, 0), (29, 3, .getfield 242, 9, 33, 0, 1250)], [(32, 1, .aload_n 0, 0, 0, 0, 0), (33, 3, .getfield 245, 9, 39, 0, 1256), (36, 1, .iastore, 0, 0, 0, 0), (37, 1, .aload_n 0, 0, 0, 0, 0), (38, 1, .dup, 0, 0, 0, 0), (39, 3, .getfield 242, 9, 33, 0, 1250), (42, 1, .iconst 1, 0, 0, 0, 0), (43, 1, .iadd, 0, 0, 0, 0), (44, 3, .putfield 242, 9, 33, 0, 1250), (47, 1, .return_, 0, 0, 0, 0)]], 1, 0, 1, 9, 0, 0, 0)
/-- StrawWatchModel.termOf.(II)I -/
def mt_101 : List (List mm_I) × Nat × mm_M := ([[(0, 1, .iconst 0, 0, 0, 0, 0), (1, 1, .istore_n 3, 0, 0, 0, 0), (2, 1, .iload_n 1, 0, 0, 0, 0), (3, 2, .istore 4, 0, 0, 0, 0), (5, 2, .iload 4, 0, 0, 0, 0), (7, 1, .iload_n 2, 0, 0, 0, 0), (8, 3, .if_icmp .ge 157, 0, 0, 0, 0), (11, 1, .aload_n 0, 0, 0, 0, 0), (12, 3, .getfield 92, 9, 40, 0, 1257), (15, 2, .iload 4, 0, 0, 0, 0)], [(17, 1, .iaload, 0, 0, 0, 0), (18, 2, .istore 5, 0, 0, 0, 0), (20, 2, .iload 5, 0, 0, 0, 0), (22, 1, .iconst 2, 0, 0, 0, 0), (23, 3, .if_icmp .ge 42, 0, 0, 0, 0), (26, 1, .aload_n 0, 0, 0, 0, 0), (27, 3, .getfield 104, 9, 45, 0, 1262), (30, 1, .iload_n 3, 0, 0, 0, 0), (31, 2, .iload 5, 0, 0, 0, 0)], [(33, 3, .ifCond .ne 13, 0, 0, 0, 0), (36, 1, .aload_n 0, 0, 0, 0, 0), (37, 3, .getfield 95, 9, 41, 0, 1258), (40, 2, .iload 4, 0, 0, 0, 0), (42, 1, .iaload, 0, 0, 0, 0), (43, 3, .goto 15, 0, 0, 0, 0), (46, 1, .aload_n 0, 0, 0, 0, 0), (47, 3, .getfield 101, 9, 44, 0, 1261)], [(50, 1, .aload_n 0, 0, 0, 0, 0), (51, 3, .getfield 95, 9, 41, 0, 1258), (54, 2, .iload 4, 0, 0, 0, 0), (56, 1, .iaload, 0, 0, 0, 0), (57, 1, .iaload, 0, 0, 0, 0), (58, 1, .iastore, 0, 0, 0, 0), (59, 3, .iinc 3 1, 0, 0, 0, 0), (62, 3, .goto 97, 0, 0, 0, 0)], [(65, 3, .iinc 3 (-1), 0, 0, 0, 0), (68, 1, .aload_n 0, 0, 0, 0, 0), (69, 3, .getfield 104, 9, 45, 0, 1262), (72, 1, .iload_n 3, 0, 0, 0, 0), (73, 1, .iconst 1, 0, 0, 0, 0), (74, 1, .isub, 0, 0, 0, 0), (75, 1, .iaload, 0, 0, 0, 0), (76, 2, .istore 6, 0, 0, 0, 0), (78, 1, .aload_n 0, 0, 0, 0, 0), (79, 3, .getfield 104, 9, 45, 0, 1262)], [(82, 1, .iload_n 3, 0, 0, 0, 0), (83, 1, .iaload, 0, 0, 0, 0), (84, 2, .istore 7, 0, 0, 0, 0), (86, 2, .iload 5, 0, 0, 0, 0), (88, 1, .iconst 5, 0, 0, 0, 0), (89, 3, .if_icmp .ne 15, 0, 0, 0, 0), (92, 2, .iload 7, 0, 0, 0, 0), (94, 3, .ifCond .ne 10, 0, 0, 0, 0)], [(97, 1, .aload_n 0, 0, 0, 0, 0), (98, 1, .iconst 1, 0, 0, 0, 0), (99, 3, .putfield 296, 9, 46, 0, 1263), (102, 1, .iconst 0, 0, 0, 0, 0), (103, 1, .ireturn, 0, 0, 0, 0), (104, 1, .aload_n 0, 0, 0, 0, 0), (105, 3, .getfield 104, 9, 45, 0, 1262), (108, 1, .iload_n 3, 0, 0, 0, 0), (109, 1, .iconst 1, 0, 0, 0, 0), (110, 1, .isub, 0, 0, 0, 0), (111, 2, .iload 5, 0, 0, 0, 0)], [(113, 1, .iconst 2, 0, 0, 0, 0), (114, 3, .if_icmp .ne 11, 0, 0, 0, 0), (117, 2, .iload 6, 0, 0, 0, 0), (119, 2, .iload 7, 0, 0, 0, 0), (121, 1, .iadd, 0, 0, 0, 0), (122, 3, .goto 36, 0, 0, 0, 0), (125, 2, .iload 5, 0, 0, 0, 0), (127, 1, .iconst 3, 0, 0, 0, 0)], [(128, 3, .if_icmp .ne 11, 0, 0, 0, 0), (131, 2, .iload 6, 0, 0, 0, 0), (133, 2, .iload 7, 0, 0, 0, 0), (135, 1, .isub, 0, 0, 0, 0), (136, 3, .goto 22, 0, 0, 0, 0), (139, 2, .iload 5, 0, 0, 0, 0), (141, 1, .iconst 4, 0, 0, 0, 0), (142, 3, .if_icmp .ne 11, 0, 0, 0, 0)], [(145, 2, .iload 6, 0, 0, 0, 0), (147, 2, .iload 7, 0, 0, 0, 0), (149, 1, .imul, 0, 0, 0, 0), (150, 3, .goto 8, 0, 0, 0, 0), (153, 2, .iload 6, 0, 0, 0, 0), (155, 2, .iload 7, 0, 0, 0, 0), (157, 1, .idiv, 0, 0, 0, 0), (158, 1, .iastore, 0, 0, 0, 0), (159, 3, .iinc 4 1, 0, 0, 0, 0)], [(162, 3, .goto (-157), 0, 0, 0, 0), (165, 1, .aload_n 0, 0, 0, 0, 0), (166, 3, .getfield 104, 9, 45, 0, 1262), (169, 1, .iconst 0, 0, 0, 0, 0), (170, 1, .iaload, 0, 0, 0, 0), (171, 1, .ireturn, 0, 0, 0, 0)]], 8, 2, 1, 9, 1, 0, 0)
/-- StrawWatchModel.then.(II)I -/
def mt_102 : List (List mm_I) × Nat × mm_M := ([[(0, 1, .iload_n 1, 0, 0, 0, 0), (1, 3, .invokestatic 458, 51, 0, 0, 1759), (4, 3, .ifCond .eq 13, 0, 0, 0, 0), (7, 1, .iload_n 2, 0, 0, 0, 0), (8, 1, .iconst 0, 0, 0, 0, 0), (9, 2, .bipush 9, 0, 0, 0, 0), (11, 3, .invokestatic 300, 43, 0, 0, 1543), (14, 3, .ifCond .ne 5, 0, 0, 0, 0)], [(17, 1, .iconst (-1), 0, 0, 0, 0), (18, 1, .ireturn, 0, 0, 0, 0), (19, 1, .aload_n 0, 0, 0, 0, 0), (20, 3, .invokevirtual 380, 17, 0, 0, 1546), (23, 1, .aload_n 0, 0, 0, 0, 0), (24, 1, .iload_n 1, 0, 0, 0, 0), (25, 3, .invokevirtual 461, 36, 0, 0, 1762), (28, 1, .aload_n 0, 0, 0, 0, 0), (29, 1, .iload_n 2, 0, 0, 0, 0), (30, 3, .invokevirtual 386, 88, 0, 0, 1566)], [(33, 1, .ireturn, 0, 0, 0, 0)]], 3, 2, 1, 9, 1, 0, 0)
/-- StrawWatchModel.token.(IIIJ)V -/
def mt_103 : List (List mm_I) × Nat × mm_M := ([[(0, 1, .aload_n 0, 0, 0, 0, 0), (1, 3, .getfield 20, 9, 5, 0, 1222), (4, 1, .aload_n 0, 0, 0, 0, 0), (5, 3, .getfield 181, 9, 10, 0, 1227), (8, 1, .iload_n 1, 0, 0, 0, 0), (9, 1, .iastore, 0, 0, 0, 0), (10, 1, .aload_n 0, 0, 0, 0, 0), (11, 3, .getfield 24, 9, 6, 0, 1223), (14, 1, .aload_n 0, 0, 0, 0, 0), (15, 3, .getfield 181, 9, 10, 0, 1227)], [(18, 1, .iload_n 2, 0, 0, 0, 0), (19, 1, .iastore, 0, 0, 0, 0), (20, 1, .aload_n 0, 0, 0, 0, 0), (21, 3, .getfield 27, 9, 7, 0, 1224), (24, 1, .aload_n 0, 0, 0, 0, 0), (25, 3, .getfield 181, 9, 10, 0, 1227), (28, 1, .iload_n 3, 0, 0, 0, 0), (29, 1, .iastore, 0, 0, 0, 0), (30, 1, .aload_n 0, 0, 0, 0, 0), (31, 3, .getfield 30, 9, 8, 0, 1225)], [(34, 1, .aload_n 0, 0, 0, 0, 0), (35, 3, .getfield 181, 9, 10, 0, 1227), (38, 2, .lload 4, 0, 0, 0, 0), (40, 1, .lastore, 0, 0, 0, 0), (41, 1, .aload_n 0, 0, 0, 0, 0), (42, 1, .dup, 0, 0, 0, 0), (43, 3, .getfield 181, 9, 10, 0, 1227), (46, 1, .iconst 1, 0, 0, 0, 0), (47, 1, .iadd, 0, 0, 0, 0)], [(48, 3, .putfield 181, 9, 10, 0, 1227), (51, 1, .return_, 0, 0, 0, 0)]], 6, 4, 1, 9, 0, 0, 0)
/-- StrawWatchModel.undo.()Z -/
def mt_104 : List (List mm_I) × Nat × mm_M := ([[(0, 1, .aload_n 0, 0, 0, 0, 0), (1, 3, .getfield 251, 9, 54, 0, 1271), (4, 3, .ifCond .ne 5, 0, 0, 0, 0), (7, 1, .iconst 0, 0, 0, 0, 0), (8, 1, .ireturn, 0, 0, 0, 0), (9, 1, .aload_n 0, 0, 0, 0, 0), (10, 1, .dup, 0, 0, 0, 0), (11, 3, .getfield 251, 9, 54, 0, 1271), (14, 1, .iconst 1, 0, 0, 0, 0), (15, 1, .isub, 0, 0, 0, 0)], [(16, 3, .putfield 251, 9, 54, 0, 1271), (19, 1, .iconst 0, 0, 0, 0, 0), (20, 1, .istore_n 1, 0, 0, 0, 0), (21, 1, .iload_n 1, 0, 0, 0, 0), (22, 2, .bipush 60, 0, 0, 0, 0), (24, 3, .if_icmp .ge 29, 0, 0, 0, 0), (27, 1, .aload_n 0, 0, 0, 0, 0), (28, 3, .getfield 107, 9, 47, 0, 1264), (31, 1, .iload_n 1, 0, 0, 0, 0)], [(32, 1, .aload_n 0, 0, 0, 0, 0), (33, 3, .getfield 116, 9, 55, 0, 1272), (36, 2, .bipush 60, 0, 0, 0, 0), (38, 1, .aload_n 0, 0, 0, 0, 0), (39, 3, .getfield 251, 9, 54, 0, 1271), (42, 1, .imul, 0, 0, 0, 0), (43, 1, .iload_n 1, 0, 0, 0, 0), (44, 1, .iadd, 0, 0, 0, 0), (45, 1, .iaload, 0, 0, 0, 0), (46, 1, .iastore, 0, 0, 0, 0), (47, 3, .iinc 1 1, 0, 0, 0, 0)], [(50, 3, .goto (-29), 0, 0, 0, 0), (53, 1, .iconst 1, 0, 0, 0, 0), (54, 1, .ireturn, 0, 0, 0, 0)]], 2, 0, 1, 9, 2, 0, 0)
/-- StrawWatchModel.unit.()V -/
def mt_105 : List (List mm_I) × Nat × mm_M := ([[(0, 1, .aload_n 0, 0, 0, 0, 0), (1, 1, .iconst 2, 0, 0, 0, 0), (2, 3, .invokevirtual 221, 45, 0, 0, 1475), (5, 3, .ifCond .eq 24, 0, 0, 0, 0), (8, 1, .aload_n 0, 0, 0, 0, 0), (9, 1, .iconst 0, 0, 0, 0, 0), (10, 1, .aload_n 0, 0, 0, 0, 0), (11, 3, .getfield 27, 9, 7, 0, 1224), (14, 1, .aload_n 0, 0, 0, 0, 0), (15, 3, .getfield 206, 9, 11, 0, 1228)], [(18, 1, .iaload, 0, 0, 0, 0), (19, 3, .invokevirtual 286, 23, 0, 0, 1519), (22, 1, .aload_n 0, 0, 0, 0, 0), (23, 3, .invokevirtual 224, 37, 0, 0, 1491), (26, 3, .goto 67, 0, 0, 0, 0), (29, 1, .aload_n 0, 0, 0, 0, 0), (30, 3, .getfield 203, 9, 13, 0, 1230)], [(33, 3, .ifCond .ne 55, 0, 0, 0, 0), (36, 1, .aload_n 0, 0, 0, 0, 0), (37, 3, .getfield 20, 9, 5, 0, 1222), (40, 1, .aload_n 0, 0, 0, 0, 0), (41, 3, .getfield 206, 9, 11, 0, 1228), (44, 1, .iaload, 0, 0, 0, 0), (45, 2, .bipush 35, 0, 0, 0, 0), (47, 3, .if_icmp .lt 41, 0, 0, 0, 0)], [(50, 1, .aload_n 0, 0, 0, 0, 0), (51, 3, .getfield 20, 9, 5, 0, 1222), (54, 1, .aload_n 0, 0, 0, 0, 0), (55, 3, .getfield 206, 9, 11, 0, 1228), (58, 1, .iaload, 0, 0, 0, 0), (59, 2, .bipush 43, 0, 0, 0, 0), (61, 3, .if_icmp .gt 27, 0, 0, 0, 0)], [(64, 1, .aload_n 0, 0, 0, 0, 0), (65, 1, .iconst 1, 0, 0, 0, 0), (66, 1, .aload_n 0, 0, 0, 0, 0), (67, 3, .getfield 20, 9, 5, 0, 1222), (70, 1, .aload_n 0, 0, 0, 0, 0), (71, 3, .getfield 206, 9, 11, 0, 1228), (74, 1, .iaload, 0, 0, 0, 0), (75, 2, .bipush 35, 0, 0, 0, 0), (77, 1, .isub, 0, 0, 0, 0), (78, 3, .invokevirtual 286, 23, 0, 0, 1519)], [(81, 1, .aload_n 0, 0, 0, 0, 0), (82, 3, .invokevirtual 224, 37, 0, 0, 1491), (85, 3, .goto 8, 0, 0, 0, 0), (88, 1, .aload_n 0, 0, 0, 0, 0), (89, 1, .iconst 1, 0, 0, 0, 0), (90, 3, .invokevirtual 218, 27, 0, 0, 1483), (93, 1, .return_, 0, 0, 0, 0)]], 1, 0, 1, 9, 0, 0, 0)
/-- StrawWatchModel.watchGoes.()Z -/
def mt_106 : List (List mm_I) × Nat × mm_M := ([[(0, 1, .aload_n 0, 0, 0, 0, 0), (1, 3, .getfield 110, 9, 48, 0, 1265), (4, 2, .bipush 52, 0, 0, 0, 0), (6, 1, .iaload, 0, 0, 0, 0), (7, 3, .ifCond .le 5, 0, 0, 0, 0), (10, 1, .iconst 0, 0, 0, 0, 0), (11, 1, .ireturn, 0, 0, 0, 0), (12, 1, .aload_n 0, 0, 0, 0, 0), (13, 3, .invokevirtual 367, 21, 0, 0, 1642)], [(16, 1, .aload_n 0, 0, 0, 0, 0), (17, 3, .invokevirtual 370, 85, 0, 0, 1613), (20, 1, .pop, 0, 0, 0, 0), (21, 1, .iconst 1, 0, 0, 0, 0), (22, 1, .ireturn, 0, 0, 0, 0)]], 1, 0, 1, 9, 2, 0, 0)
/-- StrawWatchModel.watches.(I)I -/
def mt_107 : List (List mm_I) × Nat × mm_M := ([[(0, 1, .iload_n 1, 0, 0, 0, 0), (1, 1, .iconst 0, 0, 0, 0, 0), (2, 2, .bipush 60, 0, 0, 0, 0), (4, 3, .invokestatic 300, 43, 0, 0, 1543), (7, 3, .ifCond .ne 5, 0, 0, 0, 0), (10, 1, .iconst (-1), 0, 0, 0, 0), (11, 1, .ireturn, 0, 0, 0, 0), (12, 1, .aload_n 0, 0, 0, 0, 0), (13, 3, .getfield 107, 9, 47, 0, 1264)], [(16, 2, .bipush 52, 0, 0, 0, 0), (18, 1, .iaload, 0, 0, 0, 0), (19, 3, .ifCond .le 6, 0, 0, 0, 0), (22, 2, .bipush (-2), 0, 0, 0, 0), (24, 1, .ireturn, 0, 0, 0, 0), (25, 1, .iload_n 1, 0, 0, 0, 0), (26, 3, .ifCond .ne 5, 0, 0, 0, 0), (29, 1, .iconst 0, 0, 0, 0, 0), (30, 1, .ireturn, 0, 0, 0, 0), (31, 1, .aload_n 0, 0, 0, 0, 0)], [(32, 3, .invokevirtual 380, 17, 0, 0, 1546), (35, 1, .iconst 0, 0, 0, 0, 0), (36, 1, .istore_n 2, 0, 0, 0, 0), (37, 1, .iload_n 2, 0, 0, 0, 0), (38, 1, .iload_n 1, 0, 0, 0, 0), (39, 3, .if_icmp .ge 16, 0, 0, 0, 0), (42, 1, .aload_n 0, 0, 0, 0, 0), (43, 3, .invokevirtual 373, 106, 0, 0, 1638), (46, 3, .ifCond .eq 9, 0, 0, 0, 0)], [(49, 3, .iinc 2 1, 0, 0, 0, 0), (52, 3, .goto (-15), 0, 0, 0, 0), (55, 1, .aload_n 0, 0, 0, 0, 0), (56, 3, .invokevirtual 389, 55, 0, 0, 1598), (59, 1, .iload_n 2, 0, 0, 0, 0), (60, 1, .ireturn, 0, 0, 0, 0)]], 3, 1, 1, 9, 1, 0, 0)
/-- StrawWatchModel.weathers.()V -/
def mt_108 : List (List mm_I) × Nat × mm_M := ([[(0, 1, .aload_n 0, 0, 0, 0, 0), (1, 1, .aload_n 0, 0, 0, 0, 0), (2, 3, .invokevirtual 334, 110, 0, 0, 1570), (5, 3, .putfield 337, 9, 51, 0, 1268), (8, 1, .aload_n 0, 0, 0, 0, 0), (9, 1, .aload_n 0, 0, 0, 0, 0), (10, 3, .invokevirtual 340, 20, 0, 0, 1590), (13, 3, .putfield 343, 9, 52, 0, 1269)], [(16, 1, .return_, 0, 0, 0, 0)]], 1, 0, 1, 9, 0, 0, 0)
/-- StrawWatchModel.weds.(II)I -/
def mt_109 : List (List mm_I) × Nat × mm_M := ([[(0, 1, .aload_n 0, 0, 0, 0, 0), (1, 1, .iload_n 1, 0, 0, 0, 0), (2, 3, .invokevirtual 377, 52, 0, 0, 1539), (5, 3, .ifCond .eq 13, 0, 0, 0, 0), (8, 1, .iload_n 2, 0, 0, 0, 0), (9, 1, .iconst 1, 0, 0, 0, 0), (10, 2, .bipush 20, 0, 0, 0, 0), (12, 3, .invokestatic 300, 43, 0, 0, 1543), (15, 3, .ifCond .ne 5, 0, 0, 0, 0)], [(18, 1, .iconst (-1), 0, 0, 0, 0), (19, 1, .ireturn, 0, 0, 0, 0), (20, 1, .iconst 0, 0, 0, 0, 0), (21, 1, .istore_n 3, 0, 0, 0, 0), (22, 1, .iconst 0, 0, 0, 0, 0), (23, 2, .istore 4, 0, 0, 0, 0), (25, 2, .iload 4, 0, 0, 0, 0), (27, 1, .iload_n 2, 0, 0, 0, 0), (28, 3, .if_icmp .ge 45, 0, 0, 0, 0), (31, 1, .aload_n 0, 0, 0, 0, 0)], [(32, 3, .invokevirtual 380, 17, 0, 0, 1546), (35, 1, .aload_n 0, 0, 0, 0, 0), (36, 1, .dup, 0, 0, 0, 0), (37, 3, .getfield 308, 9, 49, 0, 1266), (40, 2, .iload 4, 0, 0, 0, 0), (42, 1, .iadd, 0, 0, 0, 0), (43, 3, .putfield 308, 9, 49, 0, 1266), (46, 1, .aload_n 0, 0, 0, 0, 0), (47, 3, .sipush 200, 0, 0, 0, 0)], [(50, 3, .invokevirtual 461, 36, 0, 0, 1762), (53, 1, .aload_n 0, 0, 0, 0, 0), (54, 3, .getfield 110, 9, 48, 0, 1265), (57, 2, .bipush 54, 0, 0, 0, 0), (59, 1, .iaload, 0, 0, 0, 0), (60, 1, .iload_n 1, 0, 0, 0, 0), (61, 3, .if_icmp .ne 6, 0, 0, 0, 0)], [(64, 3, .iinc 3 1, 0, 0, 0, 0), (67, 3, .iinc 4 1, 0, 0, 0, 0), (70, 3, .goto (-45), 0, 0, 0, 0), (73, 1, .iload_n 3, 0, 0, 0, 0), (74, 1, .ireturn, 0, 0, 0, 0)]], 5, 2, 1, 9, 1, 0, 0)
/-- StrawWatchModel.windNow.()I -/
def mt_110 : List (List mm_I) × Nat × mm_M := ([[(0, 1, .aload_n 0, 0, 0, 0, 0), (1, 3, .invokevirtual 327, 61, 0, 0, 1574), (4, 1, .aload_n 0, 0, 0, 0, 0), (5, 1, .iconst 0, 0, 0, 0, 0), (6, 1, .iconst 2, 0, 0, 0, 0), (7, 1, .iconst 0, 0, 0, 0, 0), (8, 2, .bipush 9, 0, 0, 0, 0), (10, 3, .invokevirtual 330, 3, 0, 0, 1578), (13, 1, .ireturn, 0, 0, 0, 0)]], 1, 0, 1, 9, 1, 0, 0)
/-- StrawWatchModel.word.(IIIIIII)J -/
def mt_111 : List (List mm_I) × Nat × mm_M := ([[(0, 1, .lconst 0, 0, 0, 0, 0), (1, 1, .iload_n 0, 0, 0, 0, 0), (2, 3, .invokestatic 177, 2, 0, 0, 1198), (5, 1, .iload_n 1, 0, 0, 0, 0), (6, 3, .invokestatic 177, 2, 0, 0, 1198), (9, 1, .iload_n 2, 0, 0, 0, 0), (10, 3, .invokestatic 177, 2, 0, 0, 1198), (13, 1, .iload_n 3, 0, 0, 0, 0), (14, 3, .invokestatic 177, 2, 0, 0, 1198)], [(17, 2, .iload 4, 0, 0, 0, 0), (19, 3, .invokestatic 177, 2, 0, 0, 1198), (22, 2, .iload 5, 0, 0, 0, 0), (24, 3, .invokestatic 177, 2, 0, 0, 1198), (27, 2, .iload 6, 0, 0, 0, 0), (29, 3, .invokestatic 177, 2, 0, 0, 1198)], [(32, 1, .lreturn, 0, 0, 0, 0)]], 7, 7, 0, 9, 3, 0, 0)
/-- StrawWatchModel.wrong.(II)V -/
def mt_112 : List (List mm_I) × Nat × mm_M := ([[(0, 1, .aload_n 0, 0, 0, 0, 0), (1, 3, .getfield 24, 9, 6, 0, 1223), (4, 1, .iload_n 2, 0, 0, 0, 0), (5, 1, .iaload, 0, 0, 0, 0), (6, 1, .istore_n 3, 0, 0, 0, 0), (7, 1, .aload_n 0, 0, 0, 0, 0), (8, 3, .getfield 203, 9, 13, 0, 1230), (11, 3, .ifCond .gt 34, 0, 0, 0, 0), (14, 1, .aload_n 0, 0, 0, 0, 0), (15, 3, .getfield 212, 9, 15, 0, 1232)], [(18, 3, .ifCond .eq 28, 0, 0, 0, 0), (21, 1, .iload_n 3, 0, 0, 0, 0), (22, 1, .aload_n 0, 0, 0, 0, 0), (23, 3, .getfield 215, 9, 16, 0, 1233), (26, 3, .if_icmp .gt 19, 0, 0, 0, 0), (29, 1, .iload_n 3, 0, 0, 0, 0), (30, 1, .aload_n 0, 0, 0, 0, 0), (31, 3, .getfield 215, 9, 16, 0, 1233)], [(34, 3, .if_icmp .ne 12, 0, 0, 0, 0), (37, 1, .iload_n 1, 0, 0, 0, 0), (38, 1, .aload_n 0, 0, 0, 0, 0), (39, 3, .getfield 212, 9, 15, 0, 1232), (42, 3, .if_icmp .lt 4, 0, 0, 0, 0), (45, 1, .return_, 0, 0, 0, 0), (46, 1, .aload_n 0, 0, 0, 0, 0), (47, 1, .iload_n 1, 0, 0, 0, 0)], [(48, 3, .putfield 212, 9, 15, 0, 1232), (51, 1, .aload_n 0, 0, 0, 0, 0), (52, 1, .iload_n 3, 0, 0, 0, 0), (53, 3, .putfield 215, 9, 16, 0, 1233), (56, 1, .return_, 0, 0, 0, 0)]], 4, 2, 1, 9, 0, 0, 0)
/-- StrawWatchModel.year.(II)I -/
def mt_113 : List (List mm_I) × Nat × mm_M := ([[(0, 1, .iload_n 1, 0, 0, 0, 0), (1, 1, .iconst 1, 0, 0, 0, 0), (2, 1, .iconst 3, 0, 0, 0, 0), (3, 3, .invokestatic 300, 43, 0, 0, 1543), (6, 3, .ifCond .eq 13, 0, 0, 0, 0), (9, 1, .iload_n 2, 0, 0, 0, 0), (10, 1, .iconst 1, 0, 0, 0, 0), (11, 2, .bipush 20, 0, 0, 0, 0), (13, 3, .invokestatic 300, 43, 0, 0, 1543)], [(16, 3, .ifCond .ne 5, 0, 0, 0, 0), (19, 1, .iconst (-1), 0, 0, 0, 0), (20, 1, .ireturn, 0, 0, 0, 0), (21, 1, .iconst 0, 0, 0, 0, 0), (22, 1, .istore_n 3, 0, 0, 0, 0), (23, 1, .iconst 0, 0, 0, 0, 0), (24, 2, .istore 4, 0, 0, 0, 0), (26, 2, .iload 4, 0, 0, 0, 0), (28, 1, .iload_n 2, 0, 0, 0, 0), (29, 3, .if_icmp .ge 45, 0, 0, 0, 0)], [(32, 1, .aload_n 0, 0, 0, 0, 0), (33, 3, .invokevirtual 380, 17, 0, 0, 1546), (36, 1, .aload_n 0, 0, 0, 0, 0), (37, 1, .dup, 0, 0, 0, 0), (38, 3, .getfield 308, 9, 49, 0, 1266), (41, 2, .iload 4, 0, 0, 0, 0), (43, 1, .iadd, 0, 0, 0, 0), (44, 3, .putfield 308, 9, 49, 0, 1266), (47, 1, .aload_n 0, 0, 0, 0, 0)], [(48, 3, .sipush 200, 0, 0, 0, 0), (51, 3, .invokevirtual 461, 36, 0, 0, 1762), (54, 1, .aload_n 0, 0, 0, 0, 0), (55, 3, .getfield 110, 9, 48, 0, 1265), (58, 2, .bipush 52, 0, 0, 0, 0), (60, 1, .iaload, 0, 0, 0, 0), (61, 1, .iload_n 1, 0, 0, 0, 0), (62, 3, .if_icmp .ne 6, 0, 0, 0, 0)], [(65, 3, .iinc 3 1, 0, 0, 0, 0), (68, 3, .iinc 4 1, 0, 0, 0, 0), (71, 3, .goto (-45), 0, 0, 0, 0), (74, 1, .iload_n 3, 0, 0, 0, 0), (75, 1, .ireturn, 0, 0, 0, 0)]], 5, 2, 1, 9, 1, 0, 0)
/-- StrawWatch$Draws.addWays.(III)V -/
def mt_114 : List (List mm_I) × Nat × mm_M := ([[(0, 1, .iconst 0, 0, 0, 0, 0), (1, 2, .istore 4, 0, 0, 0, 0), (3, 2, .iload 4, 0, 0, 0, 0), (5, 2, .bipush 10, 0, 0, 0, 0), (7, 3, .if_icmp .ge 73, 0, 0, 0, 0), (10, 1, .aload_n 0, 0, 0, 0, 0), (11, 1, .iload_n 3, 0, 0, 0, 0), (12, 2, .iload 4, 0, 0, 0, 0), (14, 1, .isub, 0, 0, 0, 0), (15, 3, .invokevirtual 117, 119, 0, 0, 988)], [(18, 2, .istore 5, 0, 0, 0, 0), (20, 1, .iconst 0, 0, 0, 0, 0), (21, 2, .istore 6, 0, 0, 0, 0), (23, 2, .iload 6, 0, 0, 0, 0), (25, 1, .iconst 4, 0, 0, 0, 0), (26, 3, .if_icmp .ge 48, 0, 0, 0, 0), (29, 1, .aload_n 0, 0, 0, 0, 0), (30, 3, .getfield 21, 0, 4, 0, 338)], [(33, 2, .iload 6, 0, 0, 0, 0), (35, 2, .bipush 29, 0, 0, 0, 0), (37, 1, .imul, 0, 0, 0, 0), (38, 1, .iload_n 1, 0, 0, 0, 0), (39, 1, .iadd, 0, 0, 0, 0), (40, 2, .bipush 10, 0, 0, 0, 0), (42, 1, .imul, 0, 0, 0, 0), (43, 2, .iload 4, 0, 0, 0, 0), (45, 1, .iadd, 0, 0, 0, 0), (46, 1, .iaload, 0, 0, 0, 0), (47, 2, .istore 7, 0, 0, 0, 0)], [(49, 1, .aload_n 0, 0, 0, 0, 0), (50, 3, .getfield 24, 0, 5, 0, 339), (53, 2, .iload 6, 0, 0, 0, 0), (55, 1, .iconst 4, 0, 0, 0, 0), (56, 1, .imul, 0, 0, 0, 0), (57, 1, .iload_n 2, 0, 0, 0, 0), (58, 1, .iadd, 0, 0, 0, 0), (59, 1, .dup2, 0, 0, 0, 0), (60, 1, .iaload, 0, 0, 0, 0), (61, 2, .iload 7, 0, 0, 0, 0), (63, 2, .iload 5, 0, 0, 0, 0)], [(65, 1, .imul, 0, 0, 0, 0), (66, 1, .iadd, 0, 0, 0, 0), (67, 1, .iastore, 0, 0, 0, 0), (68, 3, .iinc 6 1, 0, 0, 0, 0), (71, 3, .goto (-48), 0, 0, 0, 0), (74, 3, .iinc 4 1, 0, 0, 0, 0), (77, 3, .goto (-74), 0, 0, 0, 0)], [(80, 1, .return_, 0, 0, 0, 0)]], 8, 3, 1, 0, 0, 0, 0)
/-- StrawWatch$Draws.bestRoster.()I -/
def mt_115 : List (List mm_I) × Nat × mm_M := ([[(0, 1, .iconst 0, 0, 0, 0, 0), (1, 1, .istore_n 1, 0, 0, 0, 0), (2, 1, .aload_n 0, 0, 0, 0, 0), (3, 1, .iconst 0, 0, 0, 0, 0), (4, 3, .invokevirtual 64, 124, 0, 0, 1021), (7, 1, .istore_n 2, 0, 0, 0, 0), (8, 1, .iconst 1, 0, 0, 0, 0), (9, 1, .istore_n 3, 0, 0, 0, 0), (10, 1, .iload_n 3, 0, 0, 0, 0), (11, 1, .aload_n 0, 0, 0, 0, 0), (12, 3, .getfield 31, 0, 6, 0, 340), (15, 3, .if_icmp .ge 27, 0, 0, 0, 0)], [(18, 1, .aload_n 0, 0, 0, 0, 0), (19, 1, .iload_n 3, 0, 0, 0, 0), (20, 3, .invokevirtual 64, 124, 0, 0, 1021), (23, 2, .istore 4, 0, 0, 0, 0), (25, 2, .iload 4, 0, 0, 0, 0), (27, 1, .iload_n 2, 0, 0, 0, 0), (28, 3, .if_icmp .le 8, 0, 0, 0, 0), (31, 1, .iload_n 3, 0, 0, 0, 0)], [(32, 1, .istore_n 1, 0, 0, 0, 0), (33, 2, .iload 4, 0, 0, 0, 0), (35, 1, .istore_n 2, 0, 0, 0, 0), (36, 3, .iinc 3 1, 0, 0, 0, 0), (39, 3, .goto (-29), 0, 0, 0, 0), (42, 1, .iload_n 1, 0, 0, 0, 0), (43, 1, .ireturn, 0, 0, 0, 0)]], 5, 0, 1, 0, 1, 0, 0)
/-- StrawWatch$Draws.deal.()V -/
def mt_116 : List (List mm_I) × Nat × mm_M := ([[(0, 1, .aload_n 0, 0, 0, 0, 0), (1, 1, .iconst 1, 0, 0, 0, 0), (2, 3, .putfield 31, 0, 6, 0, 340), (5, 1, .iconst 0, 0, 0, 0, 0), (6, 1, .istore_n 1, 0, 0, 0, 0), (7, 1, .iload_n 1, 0, 0, 0, 0), (8, 1, .iconst 4, 0, 0, 0, 0), (9, 3, .if_icmp .ge 31, 0, 0, 0, 0), (12, 1, .aload_n 0, 0, 0, 0, 0), (13, 1, .dup, 0, 0, 0, 0), (14, 3, .getfield 31, 0, 6, 0, 340)], [(17, 1, .iconst 1, 0, 0, 0, 0), (18, 1, .aload_n 0, 0, 0, 0, 0), (19, 3, .getfield 27, 0, 0, 0, 334), (22, 3, .getfield 35, 6, 4, 0, 187), (25, 1, .iload_n 1, 0, 0, 0, 0), (26, 1, .isub, 0, 0, 0, 0), (27, 3, .invokestatic 40, 277, 0, 0, 422), (30, 1, .imul, 0, 0, 0, 0), (31, 3, .putfield 31, 0, 6, 0, 340)], [(34, 3, .iinc 1 1, 0, 0, 0, 0), (37, 3, .goto (-30), 0, 0, 0, 0), (40, 1, .iconst 0, 0, 0, 0, 0), (41, 1, .istore_n 1, 0, 0, 0, 0), (42, 1, .iload_n 1, 0, 0, 0, 0), (43, 1, .aload_n 0, 0, 0, 0, 0), (44, 3, .getfield 31, 0, 6, 0, 340), (47, 3, .if_icmp .ge 21, 0, 0, 0, 0)], [(50, 1, .iload_n 1, 0, 0, 0, 0), (51, 3, .sipush 360, 0, 0, 0, 0), (54, 3, .if_icmp .ge 14, 0, 0, 0, 0), (57, 1, .aload_n 0, 0, 0, 0, 0), (58, 1, .iload_n 1, 0, 0, 0, 0), (59, 3, .invokevirtual 46, 117, 0, 0, 425), (62, 3, .iinc 1 1, 0, 0, 0, 0)], [(65, 3, .goto (-23), 0, 0, 0, 0), (68, 1, .return_, 0, 0, 0, 0)]], 2, 0, 1, 0, 0, 0, 0)
/-- StrawWatch$Draws.dealOne.(I)V -/
def mt_117 : List (List mm_I) × Nat × mm_M := ([[(0, 1, .iconst 0, 0, 0, 0, 0), (1, 1, .istore_n 2, 0, 0, 0, 0), (2, 1, .iload_n 2, 0, 0, 0, 0), (3, 2, .bipush 6, 0, 0, 0, 0), (5, 3, .if_icmp .ge 16, 0, 0, 0, 0), (8, 1, .aload_n 0, 0, 0, 0, 0), (9, 3, .getfield 15, 0, 2, 0, 336), (12, 1, .iload_n 2, 0, 0, 0, 0), (13, 1, .iload_n 2, 0, 0, 0, 0), (14, 1, .iastore, 0, 0, 0, 0), (15, 3, .iinc 2 1, 0, 0, 0, 0)], [(18, 3, .goto (-16), 0, 0, 0, 0), (21, 1, .aload_n 0, 0, 0, 0, 0), (22, 3, .getfield 31, 0, 6, 0, 340), (25, 1, .istore_n 2, 0, 0, 0, 0), (26, 1, .iload_n 1, 0, 0, 0, 0), (27, 1, .istore_n 3, 0, 0, 0, 0), (28, 1, .iconst 0, 0, 0, 0, 0), (29, 2, .istore 4, 0, 0, 0, 0), (31, 2, .iload 4, 0, 0, 0, 0)], [(33, 1, .iconst 4, 0, 0, 0, 0), (34, 3, .if_icmp .ge 70, 0, 0, 0, 0), (37, 1, .aload_n 0, 0, 0, 0, 0), (38, 3, .getfield 27, 0, 0, 0, 334), (41, 3, .getfield 35, 6, 4, 0, 187), (44, 2, .iload 4, 0, 0, 0, 0), (46, 1, .isub, 0, 0, 0, 0), (47, 2, .istore 5, 0, 0, 0, 0)], [(49, 2, .bipush (-2), 0, 0, 0, 0), (51, 2, .istore 6, 0, 0, 0, 0), (53, 2, .iload 5, 0, 0, 0, 0), (55, 3, .ifCond .le 30, 0, 0, 0, 0), (58, 1, .iconst 1, 0, 0, 0, 0), (59, 1, .iload_n 2, 0, 0, 0, 0), (60, 2, .iload 5, 0, 0, 0, 0), (62, 1, .idiv, 0, 0, 0, 0), (63, 3, .invokestatic 40, 277, 0, 0, 422)], [(66, 1, .istore_n 2, 0, 0, 0, 0), (67, 1, .aload_n 0, 0, 0, 0, 0), (68, 3, .getfield 15, 0, 2, 0, 336), (71, 2, .iload 5, 0, 0, 0, 0), (73, 1, .iload_n 3, 0, 0, 0, 0), (74, 1, .iload_n 2, 0, 0, 0, 0), (75, 1, .idiv, 0, 0, 0, 0), (76, 3, .invokestatic 50, 265, 0, 0, 429), (79, 2, .istore 6, 0, 0, 0, 0)], [(81, 1, .iload_n 3, 0, 0, 0, 0), (82, 1, .iload_n 2, 0, 0, 0, 0), (83, 1, .irem, 0, 0, 0, 0), (84, 1, .istore_n 3, 0, 0, 0, 0), (85, 1, .aload_n 0, 0, 0, 0, 0), (86, 3, .getfield 11, 0, 1, 0, 335), (89, 1, .iload_n 1, 0, 0, 0, 0), (90, 1, .iconst 4, 0, 0, 0, 0), (91, 1, .imul, 0, 0, 0, 0), (92, 2, .iload 4, 0, 0, 0, 0), (94, 1, .iadd, 0, 0, 0, 0), (95, 2, .iload 6, 0, 0, 0, 0)], [(97, 1, .iastore, 0, 0, 0, 0), (98, 3, .iinc 4 1, 0, 0, 0, 0), (101, 3, .goto (-70), 0, 0, 0, 0), (104, 1, .return_, 0, 0, 0, 0)]], 7, 1, 1, 0, 0, 0, 0)
/-- StrawWatch$Draws.extremeOf.(IIZ)I -/
def mt_118 : List (List mm_I) × Nat × mm_M := ([[(0, 1, .aload_n 0, 0, 0, 0, 0), (1, 1, .iconst 0, 0, 0, 0, 0), (2, 1, .iload_n 2, 0, 0, 0, 0), (3, 3, .invokevirtual 84, 122, 0, 0, 945), (6, 1, .aload_n 0, 0, 0, 0, 0), (7, 3, .getfield 27, 0, 0, 0, 334), (10, 3, .getfield 72, 6, 0, 0, 179), (13, 1, .iload_n 1, 0, 0, 0, 0), (14, 3, .invokevirtual 81, 138, 0, 0, 950)], [(17, 2, .istore 4, 0, 0, 0, 0), (19, 1, .iconst 1, 0, 0, 0, 0), (20, 2, .istore 5, 0, 0, 0, 0), (22, 2, .iload 5, 0, 0, 0, 0), (24, 1, .aload_n 0, 0, 0, 0, 0), (25, 3, .getfield 31, 0, 6, 0, 340), (28, 3, .if_icmp .ge 52, 0, 0, 0, 0), (31, 1, .aload_n 0, 0, 0, 0, 0)], [(32, 2, .iload 5, 0, 0, 0, 0), (34, 1, .iload_n 2, 0, 0, 0, 0), (35, 3, .invokevirtual 84, 122, 0, 0, 945), (38, 1, .aload_n 0, 0, 0, 0, 0), (39, 3, .getfield 27, 0, 0, 0, 334), (42, 3, .getfield 72, 6, 0, 0, 179), (45, 1, .iload_n 1, 0, 0, 0, 0), (46, 3, .invokevirtual 81, 138, 0, 0, 950)], [(49, 2, .istore 6, 0, 0, 0, 0), (51, 1, .iload_n 3, 0, 0, 0, 0), (52, 3, .ifCond .eq 13, 0, 0, 0, 0), (55, 2, .iload 4, 0, 0, 0, 0), (57, 2, .iload 6, 0, 0, 0, 0), (59, 3, .invokestatic 40, 277, 0, 0, 422), (62, 3, .goto 10, 0, 0, 0, 0)], [(65, 2, .iload 4, 0, 0, 0, 0), (67, 2, .iload 6, 0, 0, 0, 0), (69, 3, .invokestatic 88, 278, 0, 0, 959), (72, 2, .istore 4, 0, 0, 0, 0), (74, 3, .iinc 5 1, 0, 0, 0, 0), (77, 3, .goto (-55), 0, 0, 0, 0)], [(80, 2, .iload 4, 0, 0, 0, 0), (82, 1, .ireturn, 0, 0, 0, 0)]], 7, 3, 1, 0, 1, 0, 0)
/-- StrawWatch$Draws.fewerThan.(I)I -/
def mt_119 : List (List mm_I) × Nat × mm_M := ([[(0, 1, .iconst 0, 0, 0, 0, 0), (1, 1, .istore_n 2, 0, 0, 0, 0), (2, 1, .iconst 0, 0, 0, 0, 0), (3, 1, .istore_n 3, 0, 0, 0, 0), (4, 1, .iload_n 3, 0, 0, 0, 0), (5, 1, .iload_n 1, 0, 0, 0, 0), (6, 3, .if_icmp .ge 24, 0, 0, 0, 0), (9, 1, .iload_n 3, 0, 0, 0, 0), (10, 2, .bipush 10, 0, 0, 0, 0), (12, 3, .if_icmp .ge 18, 0, 0, 0, 0), (15, 1, .iload_n 2, 0, 0, 0, 0)], [(16, 1, .aload_n 0, 0, 0, 0, 0), (17, 3, .getfield 18, 0, 3, 0, 337), (20, 1, .iload_n 3, 0, 0, 0, 0), (21, 1, .iaload, 0, 0, 0, 0), (22, 1, .iadd, 0, 0, 0, 0), (23, 1, .istore_n 2, 0, 0, 0, 0), (24, 3, .iinc 3 1, 0, 0, 0, 0), (27, 3, .goto (-23), 0, 0, 0, 0), (30, 1, .iload_n 2, 0, 0, 0, 0), (31, 1, .ireturn, 0, 0, 0, 0)]], 4, 1, 1, 0, 1, 0, 0)
/-- StrawWatch$Draws.<init>.(LStrawWatch$Text;)V -/
def mt_120 : List (List mm_I) × Nat × mm_M := ([[(0, 1, .aload_n 0, 0, 0, 0, 0), (1, 3, .invokespecial 3, 0, 0, 0, 333), (4, 1, .aload_n 0, 0, 0, 0, 0), (5, 3, .sipush 1440, 0, 0, 0, 0), (8, 2, .newarray .int, 0, 0, 0, 160), (10, 3, .putfield 11, 0, 1, 0, 335), (13, 1, .aload_n 0, 0, 0, 0, 0), (14, 2, .bipush 6, 0, 0, 0, 0)], [(16, 2, .newarray .int, 0, 0, 0, 160), (18, 3, .putfield 15, 0, 2, 0, 336), (21, 1, .aload_n 0, 0, 0, 0, 0), (22, 2, .bipush 10, 0, 0, 0, 0), (24, 2, .newarray .int, 0, 0, 0, 160), (26, 3, .putfield 18, 0, 3, 0, 337), (29, 1, .aload_n 0, 0, 0, 0, 0), (30, 3, .sipush 1160, 0, 0, 0, 0)], [(33, 2, .newarray .int, 0, 0, 0, 160), (35, 3, .putfield 21, 0, 4, 0, 338), (38, 1, .aload_n 0, 0, 0, 0, 0), (39, 2, .bipush 16, 0, 0, 0, 0), (41, 2, .newarray .int, 0, 0, 0, 160), (43, 3, .putfield 24, 0, 5, 0, 339), (46, 1, .aload_n 0, 0, 0, 0, 0), (47, 1, .aload_n 1, 0, 0, 0, 0)], [(48, 3, .putfield 27, 0, 0, 0, 334), (51, 1, .aload_n 0, 0, 0, 0, 0), (52, 1, .iconst 1, 0, 0, 0, 0), (53, 3, .putfield 31, 0, 6, 0, 340), (56, 1, .return_, 0, 0, 0, 0)]], 2, 1, 2, 0, 0, 5, 2632)
/-- StrawWatch$Draws.isReached.(I)Z -/
def mt_121 : List (List mm_I) × Nat × mm_M := ([[(0, 1, .iconst 0, 0, 0, 0, 0), (1, 1, .istore_n 2, 0, 0, 0, 0), (2, 1, .iload_n 2, 0, 0, 0, 0), (3, 2, .bipush 40, 0, 0, 0, 0), (5, 3, .if_icmp .ge 38, 0, 0, 0, 0), (8, 1, .iload_n 2, 0, 0, 0, 0), (9, 2, .bipush 10, 0, 0, 0, 0), (11, 1, .idiv, 0, 0, 0, 0), (12, 1, .istore_n 3, 0, 0, 0, 0), (13, 1, .aload_n 0, 0, 0, 0, 0), (14, 3, .getfield 21, 0, 4, 0, 338)], [(17, 1, .iload_n 3, 0, 0, 0, 0), (18, 2, .bipush 29, 0, 0, 0, 0), (20, 1, .imul, 0, 0, 0, 0), (21, 1, .iload_n 1, 0, 0, 0, 0), (22, 1, .iadd, 0, 0, 0, 0), (23, 2, .bipush 10, 0, 0, 0, 0), (25, 1, .imul, 0, 0, 0, 0), (26, 1, .iload_n 2, 0, 0, 0, 0), (27, 2, .bipush 10, 0, 0, 0, 0), (29, 1, .irem, 0, 0, 0, 0), (30, 1, .iadd, 0, 0, 0, 0), (31, 1, .iaload, 0, 0, 0, 0)], [(32, 3, .ifCond .le 5, 0, 0, 0, 0), (35, 1, .iconst 1, 0, 0, 0, 0), (36, 1, .ireturn, 0, 0, 0, 0), (37, 3, .iinc 2 1, 0, 0, 0, 0), (40, 3, .goto (-38), 0, 0, 0, 0), (43, 1, .iconst 0, 0, 0, 0, 0), (44, 1, .ireturn, 0, 0, 0, 0)]], 4, 1, 1, 0, 2, 0, 0)
/-- StrawWatch$Draws.noteDraw.(II)V -/
def mt_122 : List (List mm_I) × Nat × mm_M := ([[(0, 1, .aload_n 0, 0, 0, 0, 0), (1, 3, .getfield 27, 0, 0, 0, 334), (4, 1, .aload_n 0, 0, 0, 0, 0), (5, 3, .getfield 11, 0, 1, 0, 335), (8, 1, .iload_n 1, 0, 0, 0, 0), (9, 1, .iconst 4, 0, 0, 0, 0), (10, 1, .imul, 0, 0, 0, 0), (11, 3, .invokevirtual 68, 206, 0, 0, 949), (14, 1, .aload_n 0, 0, 0, 0, 0), (15, 3, .getfield 27, 0, 0, 0, 334)], [(18, 3, .getfield 72, 6, 0, 0, 179), (21, 3, .getfield 76, 1, 0, 0, 141), (24, 2, .bipush 6, 0, 0, 0, 0), (26, 1, .iload_n 2, 0, 0, 0, 0), (27, 1, .iconst (-1), 0, 0, 0, 0), (28, 3, .if_icmp .ne 17, 0, 0, 0, 0), (31, 1, .aload_n 0, 0, 0, 0, 0)], [(32, 3, .getfield 27, 0, 0, 0, 334), (35, 3, .getfield 72, 6, 0, 0, 179), (38, 1, .iconst 2, 0, 0, 0, 0), (39, 3, .invokevirtual 81, 138, 0, 0, 950), (42, 3, .goto 4, 0, 0, 0, 0), (45, 1, .iload_n 2, 0, 0, 0, 0), (46, 1, .iastore, 0, 0, 0, 0), (47, 1, .return_, 0, 0, 0, 0)]], 3, 2, 1, 0, 0, 0, 0)
/-- StrawWatch$Draws.safestOf.(I[I)I -/
def mt_123 : List (List mm_I) × Nat × mm_M := ([[(0, 1, .aload_n 0, 0, 0, 0, 0), (1, 3, .getfield 24, 0, 5, 0, 339), (4, 1, .iconst 0, 0, 0, 0, 0), (5, 3, .invokestatic 91, 275, 0, 0, 968), (8, 1, .aload_n 2, 0, 0, 0, 0), (9, 2, .bipush 6, 0, 0, 0, 0), (11, 1, .iaload, 0, 0, 0, 0), (12, 3, .ifCond .ne 13, 0, 0, 0, 0), (15, 1, .aload_n 2, 0, 0, 0, 0)], [(16, 1, .iconst 1, 0, 0, 0, 0), (17, 1, .iaload, 0, 0, 0, 0), (18, 1, .iload_n 1, 0, 0, 0, 0), (19, 2, .bipush 9, 0, 0, 0, 0), (21, 1, .imul, 0, 0, 0, 0), (22, 3, .if_icmp .le 44, 0, 0, 0, 0), (25, 1, .aload_n 0, 0, 0, 0, 0), (26, 3, .getfield 24, 0, 5, 0, 339), (29, 1, .aload_n 2, 0, 0, 0, 0), (30, 1, .iconst 1, 0, 0, 0, 0), (31, 1, .iaload, 0, 0, 0, 0)], [(32, 3, .ifCond .ne 7, 0, 0, 0, 0), (35, 1, .iconst 0, 0, 0, 0, 0), (36, 3, .goto 24, 0, 0, 0, 0), (39, 1, .iload_n 1, 0, 0, 0, 0), (40, 1, .iconst 1, 0, 0, 0, 0), (41, 3, .if_icmp .ne 10, 0, 0, 0, 0), (44, 1, .aload_n 0, 0, 0, 0, 0), (45, 3, .getfield 31, 0, 6, 0, 340)], [(48, 3, .goto 12, 0, 0, 0, 0), (51, 1, .aload_n 0, 0, 0, 0, 0), (52, 3, .getfield 31, 0, 6, 0, 340), (55, 1, .aload_n 0, 0, 0, 0, 0), (56, 3, .getfield 31, 0, 6, 0, 340), (59, 1, .imul, 0, 0, 0, 0), (60, 3, .invokestatic 91, 275, 0, 0, 968), (63, 3, .goto 48, 0, 0, 0, 0)], [(66, 1, .iload_n 1, 0, 0, 0, 0), (67, 1, .iconst 1, 0, 0, 0, 0), (68, 3, .if_icmp .ne 11, 0, 0, 0, 0), (71, 1, .aload_n 0, 0, 0, 0, 0), (72, 1, .aload_n 2, 0, 0, 0, 0), (73, 3, .invokevirtual 100, 129, 0, 0, 982), (76, 3, .goto 35, 0, 0, 0, 0), (79, 1, .aload_n 0, 0, 0, 0, 0)], [(80, 3, .getfield 21, 0, 4, 0, 338), (83, 1, .iconst 0, 0, 0, 0, 0), (84, 3, .invokestatic 91, 275, 0, 0, 968), (87, 1, .iconst 0, 0, 0, 0, 0), (88, 1, .istore_n 3, 0, 0, 0, 0), (89, 1, .iload_n 3, 0, 0, 0, 0), (90, 1, .iconst 4, 0, 0, 0, 0), (91, 3, .if_icmp .ge 15, 0, 0, 0, 0), (94, 1, .aload_n 0, 0, 0, 0, 0), (95, 1, .iload_n 3, 0, 0, 0, 0)], [(96, 1, .aload_n 2, 0, 0, 0, 0), (97, 3, .invokevirtual 104, 128, 0, 0, 989), (100, 3, .iinc 3 1, 0, 0, 0, 0), (103, 3, .goto (-14), 0, 0, 0, 0), (106, 1, .aload_n 0, 0, 0, 0, 0), (107, 1, .aload_n 2, 0, 0, 0, 0), (108, 3, .invokevirtual 108, 130, 0, 0, 993), (111, 1, .iconst 0, 0, 0, 0, 0)], [(112, 1, .istore_n 3, 0, 0, 0, 0), (113, 1, .iconst 0, 0, 0, 0, 0), (114, 2, .istore 4, 0, 0, 0, 0), (116, 2, .iload 4, 0, 0, 0, 0), (118, 2, .bipush 16, 0, 0, 0, 0), (120, 3, .if_icmp .ge 28, 0, 0, 0, 0), (123, 1, .aload_n 0, 0, 0, 0, 0), (124, 3, .getfield 24, 0, 5, 0, 339), (127, 2, .iload 4, 0, 0, 0, 0)], [(129, 1, .iaload, 0, 0, 0, 0), (130, 1, .aload_n 0, 0, 0, 0, 0), (131, 3, .getfield 24, 0, 5, 0, 339), (134, 1, .iload_n 3, 0, 0, 0, 0), (135, 1, .iaload, 0, 0, 0, 0), (136, 3, .if_icmp .le 6, 0, 0, 0, 0), (139, 2, .iload 4, 0, 0, 0, 0), (141, 1, .istore_n 3, 0, 0, 0, 0), (142, 3, .iinc 4 1, 0, 0, 0, 0)], [(145, 3, .goto (-29), 0, 0, 0, 0), (148, 1, .iload_n 3, 0, 0, 0, 0), (149, 1, .ireturn, 0, 0, 0, 0)]], 5, 2, 1, 0, 1, 0, 0)
/-- StrawWatch$Draws.skillsOf.(I)I -/
def mt_124 : List (List mm_I) × Nat × mm_M := ([[(0, 1, .iconst 0, 0, 0, 0, 0), (1, 1, .istore_n 2, 0, 0, 0, 0), (2, 1, .iconst 0, 0, 0, 0, 0), (3, 1, .istore_n 3, 0, 0, 0, 0), (4, 1, .iload_n 3, 0, 0, 0, 0), (5, 1, .iconst 4, 0, 0, 0, 0), (6, 3, .if_icmp .ge 26, 0, 0, 0, 0), (9, 1, .iload_n 2, 0, 0, 0, 0), (10, 1, .aload_n 0, 0, 0, 0, 0), (11, 3, .getfield 27, 0, 0, 0, 334), (14, 1, .aload_n 0, 0, 0, 0, 0), (15, 1, .iload_n 1, 0, 0, 0, 0)], [(16, 1, .iload_n 3, 0, 0, 0, 0), (17, 3, .invokevirtual 58, 131, 0, 0, 1025), (20, 1, .iload_n 3, 0, 0, 0, 0), (21, 3, .invokevirtual 61, 208, 0, 0, 1030), (24, 1, .iadd, 0, 0, 0, 0), (25, 1, .istore_n 2, 0, 0, 0, 0), (26, 3, .iinc 3 1, 0, 0, 0, 0), (29, 3, .goto (-25), 0, 0, 0, 0)], [(32, 1, .iload_n 2, 0, 0, 0, 0), (33, 1, .ireturn, 0, 0, 0, 0)]], 4, 1, 1, 0, 1, 0, 0)
/-- StrawWatch$Draws.sumOf.(II)I -/
def mt_125 : List (List mm_I) × Nat × mm_M := ([[(0, 1, .iconst 0, 0, 0, 0, 0), (1, 1, .istore_n 3, 0, 0, 0, 0), (2, 1, .iconst 0, 0, 0, 0, 0), (3, 2, .istore 4, 0, 0, 0, 0), (5, 2, .iload 4, 0, 0, 0, 0), (7, 1, .aload_n 0, 0, 0, 0, 0), (8, 3, .getfield 31, 0, 6, 0, 340), (11, 3, .if_icmp .ge 30, 0, 0, 0, 0), (14, 1, .aload_n 0, 0, 0, 0, 0), (15, 2, .iload 4, 0, 0, 0, 0)], [(17, 1, .iload_n 2, 0, 0, 0, 0), (18, 3, .invokevirtual 84, 122, 0, 0, 945), (21, 1, .iload_n 3, 0, 0, 0, 0), (22, 1, .aload_n 0, 0, 0, 0, 0), (23, 3, .getfield 27, 0, 0, 0, 334), (26, 3, .getfield 72, 6, 0, 0, 179), (29, 1, .iload_n 1, 0, 0, 0, 0), (30, 3, .invokevirtual 81, 138, 0, 0, 950)], [(33, 1, .iadd, 0, 0, 0, 0), (34, 1, .istore_n 3, 0, 0, 0, 0), (35, 3, .iinc 4 1, 0, 0, 0, 0), (38, 3, .goto (-33), 0, 0, 0, 0), (41, 1, .iload_n 3, 0, 0, 0, 0), (42, 1, .ireturn, 0, 0, 0, 0)]], 5, 2, 1, 0, 1, 0, 0)
/-- StrawWatch$Draws.tallyStrikes.(I)V -/
def mt_126 : List (List mm_I) × Nat × mm_M := ([[(0, 1, .aload_n 0, 0, 0, 0, 0), (1, 3, .getfield 18, 0, 3, 0, 337), (4, 1, .iconst 0, 0, 0, 0, 0), (5, 3, .invokestatic 91, 275, 0, 0, 968), (8, 1, .iconst 1, 0, 0, 0, 0), (9, 1, .aload_n 0, 0, 0, 0, 0), (10, 3, .getfield 27, 0, 0, 0, 334), (13, 3, .getfield 35, 6, 4, 0, 187)], [(16, 1, .iconst 4, 0, 0, 0, 0), (17, 1, .isub, 0, 0, 0, 0), (18, 1, .iconst 1, 0, 0, 0, 0), (19, 1, .iadd, 0, 0, 0, 0), (20, 3, .invokestatic 40, 277, 0, 0, 422), (23, 1, .istore_n 2, 0, 0, 0, 0), (24, 1, .iconst 0, 0, 0, 0, 0), (25, 1, .istore_n 3, 0, 0, 0, 0), (26, 1, .iload_n 3, 0, 0, 0, 0), (27, 1, .aload_n 0, 0, 0, 0, 0), (28, 3, .getfield 31, 0, 6, 0, 340), (31, 3, .if_icmp .ge 42, 0, 0, 0, 0)], [(34, 1, .aload_n 0, 0, 0, 0, 0), (35, 1, .iload_n 3, 0, 0, 0, 0), (36, 1, .iload_n 1, 0, 0, 0, 0), (37, 3, .invokevirtual 84, 122, 0, 0, 945), (40, 1, .aload_n 0, 0, 0, 0, 0), (41, 3, .getfield 18, 0, 3, 0, 337), (44, 1, .aload_n 0, 0, 0, 0, 0), (45, 3, .getfield 27, 0, 0, 0, 334)], [(48, 3, .getfield 72, 6, 0, 0, 179), (51, 1, .iconst 4, 0, 0, 0, 0), (52, 3, .invokevirtual 81, 138, 0, 0, 950), (55, 1, .iconst 0, 0, 0, 0, 0), (56, 2, .bipush 9, 0, 0, 0, 0), (58, 3, .invokestatic 96, 273, 0, 0, 969), (61, 1, .dup2, 0, 0, 0, 0), (62, 1, .iaload, 0, 0, 0, 0), (63, 1, .iload_n 2, 0, 0, 0, 0)], [(64, 1, .iadd, 0, 0, 0, 0), (65, 1, .iastore, 0, 0, 0, 0), (66, 1, .iload_n 3, 0, 0, 0, 0), (67, 1, .iload_n 2, 0, 0, 0, 0), (68, 1, .iadd, 0, 0, 0, 0), (69, 1, .istore_n 3, 0, 0, 0, 0), (70, 3, .goto (-44), 0, 0, 0, 0), (73, 1, .return_, 0, 0, 0, 0)]], 4, 1, 1, 0, 0, 0, 0)
/-- StrawWatch$Draws.waysOf.(I)I -/
def mt_127 : List (List mm_I) × Nat × mm_M := ([[(0, 1, .iload_n 1, 0, 0, 0, 0), (1, 3, .ifCond .lt 18, 0, 0, 0, 0), (4, 1, .iload_n 1, 0, 0, 0, 0), (5, 2, .bipush 16, 0, 0, 0, 0), (7, 3, .if_icmp .ge 12, 0, 0, 0, 0), (10, 1, .aload_n 0, 0, 0, 0, 0), (11, 3, .getfield 24, 0, 5, 0, 339), (14, 1, .iload_n 1, 0, 0, 0, 0), (15, 1, .iaload, 0, 0, 0, 0)], [(16, 3, .goto 4, 0, 0, 0, 0), (19, 1, .iconst 0, 0, 0, 0, 0), (20, 1, .ireturn, 0, 0, 0, 0)]], 2, 1, 1, 0, 1, 0, 0)
/-- StrawWatch$Draws.weighFirst.(I[I)V -/
def mt_128 : List (List mm_I) × Nat × mm_M := ([[(0, 1, .aload_n 0, 0, 0, 0, 0), (1, 3, .getfield 27, 0, 0, 0, 334), (4, 3, .getfield 72, 6, 0, 0, 179), (7, 1, .astore_n 3, 0, 0, 0, 0), (8, 1, .aload_n 3, 0, 0, 0, 0), (9, 1, .aload_n 2, 0, 0, 0, 0), (10, 2, .bipush 7, 0, 0, 0, 0), (12, 1, .iaload, 0, 0, 0, 0), (13, 1, .aload_n 2, 0, 0, 0, 0), (14, 1, .iconst 0, 0, 0, 0, 0), (15, 1, .iaload, 0, 0, 0, 0)], [(16, 3, .invokevirtual 111, 140, 0, 0, 986), (19, 1, .iconst 0, 0, 0, 0, 0), (20, 2, .istore 4, 0, 0, 0, 0), (22, 2, .iload 4, 0, 0, 0, 0), (24, 1, .aload_n 0, 0, 0, 0, 0), (25, 3, .getfield 31, 0, 6, 0, 340), (28, 3, .if_icmp .ge 142, 0, 0, 0, 0), (31, 1, .aload_n 0, 0, 0, 0, 0)], [(32, 2, .iload 4, 0, 0, 0, 0), (34, 1, .iload_n 1, 0, 0, 0, 0), (35, 3, .invokevirtual 84, 122, 0, 0, 945), (38, 1, .aload_n 3, 0, 0, 0, 0), (39, 1, .iconst 4, 0, 0, 0, 0), (40, 3, .invokevirtual 81, 138, 0, 0, 950), (43, 1, .iconst 0, 0, 0, 0, 0), (44, 2, .bipush 9, 0, 0, 0, 0), (46, 3, .invokestatic 96, 273, 0, 0, 969)], [(49, 2, .istore 5, 0, 0, 0, 0), (51, 2, .iload 5, 0, 0, 0, 0), (53, 1, .aload_n 2, 0, 0, 0, 0), (54, 1, .iconst 1, 0, 0, 0, 0), (55, 1, .iaload, 0, 0, 0, 0), (56, 3, .if_icmp .lt 6, 0, 0, 0, 0), (59, 3, .goto 105, 0, 0, 0, 0), (62, 1, .aload_n 3, 0, 0, 0, 0), (63, 1, .iconst 3, 0, 0, 0, 0)], [(64, 3, .invokevirtual 81, 138, 0, 0, 950), (67, 2, .bipush (-9), 0, 0, 0, 0), (69, 2, .bipush 19, 0, 0, 0, 0), (71, 3, .invokestatic 96, 273, 0, 0, 969), (74, 2, .istore 6, 0, 0, 0, 0), (76, 1, .aload_n 2, 0, 0, 0, 0), (77, 1, .iconst 0, 0, 0, 0, 0), (78, 1, .iaload, 0, 0, 0, 0), (79, 2, .iload 6, 0, 0, 0, 0)], [(81, 1, .iadd, 0, 0, 0, 0), (82, 1, .aload_n 0, 0, 0, 0, 0), (83, 3, .getfield 27, 0, 0, 0, 334), (86, 3, .getfield 120, 6, 8, 0, 202), (89, 3, .if_icmp .ge 14, 0, 0, 0, 0), (92, 1, .aload_n 2, 0, 0, 0, 0), (93, 1, .iconst 2, 0, 0, 0, 0), (94, 1, .iaload, 0, 0, 0, 0), (95, 1, .aload_n 3, 0, 0, 0, 0)], [(96, 1, .iconst 5, 0, 0, 0, 0), (97, 3, .invokevirtual 81, 138, 0, 0, 950), (100, 3, .if_icmp .gt 39, 0, 0, 0, 0), (103, 1, .iconst 0, 0, 0, 0, 0), (104, 2, .istore 7, 0, 0, 0, 0), (106, 2, .iload 7, 0, 0, 0, 0), (108, 1, .iconst 4, 0, 0, 0, 0), (109, 3, .if_icmp .ge 27, 0, 0, 0, 0)], [(112, 1, .aload_n 0, 0, 0, 0, 0), (113, 3, .getfield 24, 0, 5, 0, 339), (116, 1, .iload_n 1, 0, 0, 0, 0), (117, 1, .iconst 4, 0, 0, 0, 0), (118, 1, .imul, 0, 0, 0, 0), (119, 2, .iload 7, 0, 0, 0, 0), (121, 1, .iadd, 0, 0, 0, 0), (122, 1, .dup2, 0, 0, 0, 0), (123, 1, .iaload, 0, 0, 0, 0), (124, 1, .aload_n 0, 0, 0, 0, 0), (125, 3, .getfield 31, 0, 6, 0, 340)], [(128, 1, .iadd, 0, 0, 0, 0), (129, 1, .iastore, 0, 0, 0, 0), (130, 3, .iinc 7 1, 0, 0, 0, 0), (133, 3, .goto (-27), 0, 0, 0, 0), (136, 3, .goto 28, 0, 0, 0, 0), (139, 1, .aload_n 0, 0, 0, 0, 0), (140, 3, .getfield 21, 0, 4, 0, 338), (143, 1, .iload_n 1, 0, 0, 0, 0)], [(144, 2, .bipush 29, 0, 0, 0, 0), (146, 1, .imul, 0, 0, 0, 0), (147, 2, .iload 6, 0, 0, 0, 0), (149, 1, .iadd, 0, 0, 0, 0), (150, 2, .bipush (-9), 0, 0, 0, 0), (152, 1, .isub, 0, 0, 0, 0), (153, 2, .bipush 10, 0, 0, 0, 0), (155, 1, .imul, 0, 0, 0, 0), (156, 2, .iload 5, 0, 0, 0, 0), (158, 1, .iadd, 0, 0, 0, 0), (159, 1, .dup2, 0, 0, 0, 0)], [(160, 1, .iaload, 0, 0, 0, 0), (161, 1, .iconst 1, 0, 0, 0, 0), (162, 1, .iadd, 0, 0, 0, 0), (163, 1, .iastore, 0, 0, 0, 0), (164, 3, .iinc 4 1, 0, 0, 0, 0), (167, 3, .goto (-145), 0, 0, 0, 0), (170, 1, .return_, 0, 0, 0, 0)]], 8, 2, 1, 0, 0, 0, 0)
/-- StrawWatch$Draws.weighOne.([I)V -/
def mt_129 : List (List mm_I) × Nat × mm_M := ([[(0, 1, .aload_n 0, 0, 0, 0, 0), (1, 3, .getfield 27, 0, 0, 0, 334), (4, 3, .getfield 72, 6, 0, 0, 179), (7, 1, .aload_n 1, 0, 0, 0, 0), (8, 2, .bipush 7, 0, 0, 0, 0), (10, 1, .iaload, 0, 0, 0, 0), (11, 1, .aload_n 1, 0, 0, 0, 0), (12, 1, .iconst 0, 0, 0, 0, 0), (13, 1, .iaload, 0, 0, 0, 0), (14, 3, .invokevirtual 111, 140, 0, 0, 986)], [(17, 1, .iconst 0, 0, 0, 0, 0), (18, 1, .istore_n 2, 0, 0, 0, 0), (19, 1, .iload_n 2, 0, 0, 0, 0), (20, 1, .iconst 4, 0, 0, 0, 0), (21, 3, .if_icmp .ge 29, 0, 0, 0, 0), (24, 1, .aload_n 0, 0, 0, 0, 0), (25, 1, .iload_n 2, 0, 0, 0, 0), (26, 3, .invokevirtual 114, 126, 0, 0, 987), (29, 1, .aload_n 0, 0, 0, 0, 0), (30, 3, .getfield 24, 0, 5, 0, 339)], [(33, 1, .iload_n 2, 0, 0, 0, 0), (34, 1, .iconst 4, 0, 0, 0, 0), (35, 1, .imul, 0, 0, 0, 0), (36, 1, .aload_n 0, 0, 0, 0, 0), (37, 1, .aload_n 1, 0, 0, 0, 0), (38, 1, .iconst 1, 0, 0, 0, 0), (39, 1, .iaload, 0, 0, 0, 0), (40, 3, .invokevirtual 117, 119, 0, 0, 988), (43, 1, .iastore, 0, 0, 0, 0), (44, 3, .iinc 2 1, 0, 0, 0, 0), (47, 3, .goto (-28), 0, 0, 0, 0)], [(50, 1, .return_, 0, 0, 0, 0)]], 3, 1, 1, 0, 0, 0, 0)
/-- StrawWatch$Draws.weighSecond.([I)V -/
def mt_130 : List (List mm_I) × Nat × mm_M := ([[(0, 1, .iconst 0, 0, 0, 0, 0), (1, 1, .istore_n 2, 0, 0, 0, 0), (2, 1, .iload_n 2, 0, 0, 0, 0), (3, 2, .bipush 29, 0, 0, 0, 0), (5, 3, .if_icmp .ge 72, 0, 0, 0, 0), (8, 1, .aload_n 0, 0, 0, 0, 0), (9, 1, .iload_n 2, 0, 0, 0, 0), (10, 3, .invokevirtual 123, 121, 0, 0, 997), (13, 3, .ifCond .eq 58, 0, 0, 0, 0)], [(16, 1, .aload_n 0, 0, 0, 0, 0), (17, 3, .getfield 27, 0, 0, 0, 334), (20, 3, .getfield 72, 6, 0, 0, 179), (23, 1, .aload_n 1, 0, 0, 0, 0), (24, 2, .bipush 7, 0, 0, 0, 0), (26, 1, .iaload, 0, 0, 0, 0), (27, 1, .iconst 1, 0, 0, 0, 0), (28, 1, .iadd, 0, 0, 0, 0), (29, 1, .iconst 0, 0, 0, 0, 0), (30, 1, .aload_n 1, 0, 0, 0, 0), (31, 1, .iconst 0, 0, 0, 0, 0)], [(32, 1, .iaload, 0, 0, 0, 0), (33, 1, .iload_n 2, 0, 0, 0, 0), (34, 1, .iadd, 0, 0, 0, 0), (35, 2, .bipush (-9), 0, 0, 0, 0), (37, 1, .iadd, 0, 0, 0, 0), (38, 3, .invokestatic 40, 277, 0, 0, 422), (41, 3, .invokevirtual 111, 140, 0, 0, 986), (44, 1, .iconst 0, 0, 0, 0, 0), (45, 1, .istore_n 3, 0, 0, 0, 0), (46, 1, .iload_n 3, 0, 0, 0, 0), (47, 1, .iconst 4, 0, 0, 0, 0)], [(48, 3, .if_icmp .ge 23, 0, 0, 0, 0), (51, 1, .aload_n 0, 0, 0, 0, 0), (52, 1, .iload_n 3, 0, 0, 0, 0), (53, 3, .invokevirtual 114, 126, 0, 0, 987), (56, 1, .aload_n 0, 0, 0, 0, 0), (57, 1, .iload_n 2, 0, 0, 0, 0), (58, 1, .iload_n 3, 0, 0, 0, 0), (59, 1, .aload_n 1, 0, 0, 0, 0), (60, 1, .iconst 1, 0, 0, 0, 0), (61, 1, .iaload, 0, 0, 0, 0), (62, 3, .invokevirtual 126, 114, 0, 0, 1001)], [(65, 3, .iinc 3 1, 0, 0, 0, 0), (68, 3, .goto (-22), 0, 0, 0, 0), (71, 3, .iinc 2 1, 0, 0, 0, 0), (74, 3, .goto (-72), 0, 0, 0, 0), (77, 1, .return_, 0, 0, 0, 0)]], 4, 1, 1, 0, 0, 0, 0)
/-- StrawWatch$Draws.whoAt.(II)I -/
def mt_131 : List (List mm_I) × Nat × mm_M := ([[(0, 1, .iload_n 1, 0, 0, 0, 0), (1, 3, .ifCond .lt 31, 0, 0, 0, 0), (4, 1, .iload_n 1, 0, 0, 0, 0), (5, 1, .aload_n 0, 0, 0, 0, 0), (6, 3, .getfield 31, 0, 6, 0, 340), (9, 3, .if_icmp .ge 23, 0, 0, 0, 0), (12, 1, .iload_n 2, 0, 0, 0, 0), (13, 3, .invokestatic 54, 239, 0, 0, 1029)], [(16, 3, .ifCond .eq 16, 0, 0, 0, 0), (19, 1, .aload_n 0, 0, 0, 0, 0), (20, 3, .getfield 11, 0, 1, 0, 335), (23, 1, .iload_n 1, 0, 0, 0, 0), (24, 1, .iconst 4, 0, 0, 0, 0), (25, 1, .imul, 0, 0, 0, 0), (26, 1, .iload_n 2, 0, 0, 0, 0), (27, 1, .iadd, 0, 0, 0, 0), (28, 1, .iaload, 0, 0, 0, 0), (29, 3, .goto 5, 0, 0, 0, 0)], [(32, 2, .bipush (-2), 0, 0, 0, 0), (34, 1, .ireturn, 0, 0, 0, 0)]], 3, 2, 1, 0, 1, 0, 0)
/-- StrawWatch$Laws.aimHere.(I)V -/
def mt_132 : List (List mm_I) × Nat × mm_M := ([[(0, 1, .iload_n 1, 0, 0, 0, 0), (1, 3, .ifCond .lt 25, 0, 0, 0, 0), (4, 1, .iload_n 1, 0, 0, 0, 0), (5, 1, .aload_n 0, 0, 0, 0, 0), (6, 3, .getfield 24, 1, 4, 0, 147), (9, 3, .if_icmp .ge 17, 0, 0, 0, 0), (12, 1, .aload_n 0, 0, 0, 0, 0), (13, 3, .getfield 15, 1, 1, 0, 144)], [(16, 1, .iload_n 1, 0, 0, 0, 0), (17, 1, .aload_n 0, 0, 0, 0, 0), (18, 3, .getfield 24, 1, 4, 0, 147), (21, 1, .iconst 4, 0, 0, 0, 0), (22, 1, .ishl, 0, 0, 0, 0), (23, 1, .iconst 3, 0, 0, 0, 0), (24, 1, .ior, 0, 0, 0, 0), (25, 1, .iastore, 0, 0, 0, 0), (26, 1, .return_, 0, 0, 0, 0)]], 2, 1, 1, 1, 0, 0, 0)
/-- StrawWatch$Laws.become.(LStrawWatch$Laws;)V -/
def mt_133 : List (List mm_I) × Nat × mm_M := ([[(0, 1, .aload_n 1, 0, 0, 0, 0), (1, 3, .getfield 15, 1, 1, 0, 144), (4, 1, .iconst 0, 0, 0, 0, 0), (5, 1, .aload_n 0, 0, 0, 0, 0), (6, 3, .getfield 15, 1, 1, 0, 144), (9, 1, .iconst 0, 0, 0, 0, 0), (10, 3, .sipush 432, 0, 0, 0, 0), (13, 3, .invokestatic 35, 1, 0, 0, 738)], [(16, 1, .aload_n 1, 0, 0, 0, 0), (17, 3, .getfield 18, 1, 2, 0, 145), (20, 1, .iconst 0, 0, 0, 0, 0), (21, 1, .aload_n 0, 0, 0, 0, 0), (22, 3, .getfield 18, 1, 2, 0, 145), (25, 1, .iconst 0, 0, 0, 0, 0), (26, 2, .bipush 7, 0, 0, 0, 0), (28, 3, .invokestatic 35, 1, 0, 0, 738), (31, 1, .aload_n 0, 0, 0, 0, 0)], [(32, 1, .aload_n 1, 0, 0, 0, 0), (33, 3, .getfield 24, 1, 4, 0, 147), (36, 3, .putfield 24, 1, 4, 0, 147), (39, 1, .return_, 0, 0, 0, 0)]], 2, 1, 1, 1, 0, 0, 0)
/-- StrawWatch$Laws.clear.()V -/
def mt_134 : List (List mm_I) × Nat × mm_M := ([[(0, 1, .aload_n 0, 0, 0, 0, 0), (1, 1, .iconst 0, 0, 0, 0, 0), (2, 3, .putfield 24, 1, 4, 0, 147), (5, 1, .aload_n 0, 0, 0, 0, 0), (6, 1, .iconst 0, 0, 0, 0, 0), (7, 1, .iconst 2, 0, 0, 0, 0), (8, 3, .invokevirtual 28, 143, 0, 0, 169), (11, 1, .aload_n 0, 0, 0, 0, 0), (12, 1, .iconst 1, 0, 0, 0, 0), (13, 1, .iconst 0, 0, 0, 0, 0), (14, 3, .invokevirtual 28, 143, 0, 0, 169)], [(17, 1, .aload_n 0, 0, 0, 0, 0), (18, 1, .iconst 2, 0, 0, 0, 0), (19, 1, .iconst 1, 0, 0, 0, 0), (20, 3, .invokevirtual 28, 143, 0, 0, 169), (23, 1, .aload_n 0, 0, 0, 0, 0), (24, 3, .getfield 18, 1, 2, 0, 145), (27, 1, .iconst 3, 0, 0, 0, 0), (28, 1, .aload_n 0, 0, 0, 0, 0), (29, 3, .getfield 24, 1, 4, 0, 147)], [(32, 1, .iastore, 0, 0, 0, 0), (33, 1, .aload_n 0, 0, 0, 0, 0), (34, 1, .iconst 1, 0, 0, 0, 0), (35, 2, .bipush 7, 0, 0, 0, 0), (37, 3, .invokevirtual 32, 136, 0, 0, 173), (40, 1, .aload_n 0, 0, 0, 0, 0), (41, 1, .iconst 1, 0, 0, 0, 0), (42, 2, .bipush 6, 0, 0, 0, 0), (44, 3, .invokevirtual 32, 136, 0, 0, 173), (47, 1, .aload_n 0, 0, 0, 0, 0)], [(48, 1, .iconst 4, 0, 0, 0, 0), (49, 1, .iconst 0, 0, 0, 0, 0), (50, 3, .invokevirtual 32, 136, 0, 0, 173), (53, 1, .aload_n 0, 0, 0, 0, 0), (54, 1, .iconst 2, 0, 0, 0, 0), (55, 1, .iconst 0, 0, 0, 0, 0), (56, 3, .invokevirtual 32, 136, 0, 0, 173), (59, 1, .aload_n 0, 0, 0, 0, 0), (60, 1, .iconst 4, 0, 0, 0, 0), (61, 1, .iconst 0, 0, 0, 0, 0), (62, 3, .invokevirtual 28, 143, 0, 0, 169)], [(65, 1, .aload_n 0, 0, 0, 0, 0), (66, 1, .iconst 5, 0, 0, 0, 0), (67, 1, .iconst 1, 0, 0, 0, 0), (68, 3, .invokevirtual 28, 143, 0, 0, 169), (71, 1, .aload_n 0, 0, 0, 0, 0), (72, 2, .bipush 6, 0, 0, 0, 0), (74, 1, .iconst 0, 0, 0, 0, 0), (75, 3, .invokevirtual 28, 143, 0, 0, 169), (78, 1, .return_, 0, 0, 0, 0)]], 1, 0, 1, 1, 0, 0, 0)
/-- StrawWatch$Laws.codes.()I -/
def mt_135 : List (List mm_I) × Nat × mm_M := ([[(0, 1, .aload_n 0, 0, 0, 0, 0), (1, 3, .getfield 24, 1, 4, 0, 147), (4, 1, .ireturn, 0, 0, 0, 0)]], 1, 0, 1, 1, 1, 0, 0)
/-- StrawWatch$Laws.emit.(II)V -/
def mt_136 : List (List mm_I) × Nat × mm_M := ([[(0, 1, .aload_n 0, 0, 0, 0, 0), (1, 3, .getfield 24, 1, 4, 0, 147), (4, 3, .sipush 432, 0, 0, 0, 0), (7, 3, .if_icmp .ge 27, 0, 0, 0, 0), (10, 1, .aload_n 0, 0, 0, 0, 0), (11, 3, .getfield 15, 1, 1, 0, 144), (14, 1, .aload_n 0, 0, 0, 0, 0), (15, 3, .getfield 24, 1, 4, 0, 147)], [(18, 1, .iload_n 2, 0, 0, 0, 0), (19, 1, .iconst 4, 0, 0, 0, 0), (20, 1, .ishl, 0, 0, 0, 0), (21, 1, .iload_n 1, 0, 0, 0, 0), (22, 1, .ior, 0, 0, 0, 0), (23, 1, .iastore, 0, 0, 0, 0), (24, 1, .aload_n 0, 0, 0, 0, 0), (25, 1, .dup, 0, 0, 0, 0), (26, 3, .getfield 24, 1, 4, 0, 147), (29, 1, .iconst 1, 0, 0, 0, 0), (30, 1, .iadd, 0, 0, 0, 0), (31, 3, .putfield 24, 1, 4, 0, 147)], [(34, 1, .return_, 0, 0, 0, 0)]], 3, 2, 1, 1, 0, 0, 0)
/-- StrawWatch$Laws.emitVar.(II)V -/
def mt_137 : List (List mm_I) × Nat × mm_M := ([[(0, 1, .iload_n 1, 0, 0, 0, 0), (1, 3, .ifCond .lt 31, 0, 0, 0, 0), (4, 1, .iload_n 1, 0, 0, 0, 0), (5, 2, .bipush 7, 0, 0, 0, 0), (7, 3, .if_icmp .ge 25, 0, 0, 0, 0), (10, 3, .getstatic 41, 0, 0, 0, 704), (13, 1, .iload_n 1, 0, 0, 0, 0), (14, 1, .iaload, 0, 0, 0, 0), (15, 1, .iload_n 2, 0, 0, 0, 0)], [(16, 1, .ishr, 0, 0, 0, 0), (17, 1, .iconst 1, 0, 0, 0, 0), (18, 1, .iand, 0, 0, 0, 0), (19, 1, .iconst 1, 0, 0, 0, 0), (20, 3, .if_icmp .ne 12, 0, 0, 0, 0), (23, 1, .aload_n 0, 0, 0, 0, 0), (24, 1, .iconst 1, 0, 0, 0, 0), (25, 1, .iload_n 2, 0, 0, 0, 0), (26, 3, .invokevirtual 32, 136, 0, 0, 173), (29, 3, .goto 9, 0, 0, 0, 0)], [(32, 1, .aload_n 0, 0, 0, 0, 0), (33, 1, .iconst 0, 0, 0, 0, 0), (34, 1, .iconst 0, 0, 0, 0, 0), (35, 3, .invokevirtual 32, 136, 0, 0, 173), (38, 1, .return_, 0, 0, 0, 0)]], 3, 2, 1, 1, 0, 0, 0)
/-- StrawWatch$Laws.held.(I)I -/
def mt_138 : List (List mm_I) × Nat × mm_M := ([[(0, 1, .iload_n 1, 0, 0, 0, 0), (1, 3, .ifCond .lt 9, 0, 0, 0, 0), (4, 1, .iload_n 1, 0, 0, 0, 0), (5, 2, .bipush 7, 0, 0, 0, 0), (7, 3, .if_icmp .lt 5, 0, 0, 0, 0), (10, 1, .iconst 0, 0, 0, 0, 0), (11, 1, .ireturn, 0, 0, 0, 0), (12, 1, .aload_n 0, 0, 0, 0, 0), (13, 1, .aload_n 0, 0, 0, 0, 0), (14, 3, .getfield 18, 1, 2, 0, 145)], [(17, 1, .iload_n 1, 0, 0, 0, 0), (18, 1, .iaload, 0, 0, 0, 0), (19, 3, .invokevirtual 48, 141, 0, 0, 807), (22, 1, .istore_n 2, 0, 0, 0, 0), (23, 1, .iload_n 1, 0, 0, 0, 0), (24, 1, .iconst 2, 0, 0, 0, 0), (25, 3, .if_icmp .ne 9, 0, 0, 0, 0), (28, 1, .iload_n 2, 0, 0, 0, 0), (29, 1, .iconst 4, 0, 0, 0, 0), (30, 1, .irem, 0, 0, 0, 0), (31, 3, .goto 4, 0, 0, 0, 0)], [(34, 1, .iload_n 2, 0, 0, 0, 0), (35, 3, .getstatic 51, 1, 0, 0, 811), (38, 1, .iload_n 1, 0, 0, 0, 0), (39, 1, .iaload, 0, 0, 0, 0), (40, 3, .getstatic 54, 2, 0, 0, 813), (43, 1, .iload_n 1, 0, 0, 0, 0), (44, 1, .iaload, 0, 0, 0, 0), (45, 3, .invokestatic 57, 273, 0, 0, 815)], [(48, 1, .ireturn, 0, 0, 0, 0)]], 3, 1, 1, 1, 1, 0, 0)
/-- StrawWatch$Laws.<init>.()V -/
def mt_139 : List (List mm_I) × Nat × mm_M := ([[(0, 1, .aload_n 0, 0, 0, 0, 0), (1, 3, .invokespecial 3, 0, 0, 0, 139), (4, 1, .aload_n 0, 0, 0, 0, 0), (5, 2, .bipush 9, 0, 0, 0, 0), (7, 2, .newarray .int, 0, 0, 0, 160), (9, 3, .putfield 9, 1, 0, 0, 140), (12, 1, .aload_n 0, 0, 0, 0, 0), (13, 3, .sipush 432, 0, 0, 0, 0)], [(16, 2, .newarray .int, 0, 0, 0, 160), (18, 3, .putfield 15, 1, 1, 0, 144), (21, 1, .aload_n 0, 0, 0, 0, 0), (22, 2, .bipush 7, 0, 0, 0, 0), (24, 2, .newarray .int, 0, 0, 0, 160), (26, 3, .putfield 18, 1, 2, 0, 145), (29, 1, .aload_n 0, 0, 0, 0, 0), (30, 2, .bipush 32, 0, 0, 0, 0)], [(32, 2, .newarray .int, 0, 0, 0, 160), (34, 3, .putfield 21, 1, 3, 0, 146), (37, 1, .aload_n 0, 0, 0, 0, 0), (38, 1, .iconst 0, 0, 0, 0, 0), (39, 3, .putfield 24, 1, 4, 0, 147), (42, 1, .return_, 0, 0, 0, 0)]], 1, 0, 2, 1, 0, 4, 480)
/-- StrawWatch$Laws.noteWeather.(II)V -/
def mt_140 : List (List mm_I) × Nat × mm_M := ([[(0, 1, .aload_n 0, 0, 0, 0, 0), (1, 3, .getfield 9, 1, 0, 0, 140), (4, 1, .iconst 0, 0, 0, 0, 0), (5, 1, .iload_n 1, 0, 0, 0, 0), (6, 1, .iastore, 0, 0, 0, 0), (7, 1, .aload_n 0, 0, 0, 0, 0), (8, 3, .getfield 9, 1, 0, 0, 140), (11, 1, .iconst 1, 0, 0, 0, 0), (12, 1, .iload_n 2, 0, 0, 0, 0), (13, 1, .iastore, 0, 0, 0, 0), (14, 1, .aload_n 0, 0, 0, 0, 0), (15, 3, .getfield 9, 1, 0, 0, 140)], [(18, 2, .bipush 7, 0, 0, 0, 0), (20, 1, .aload_n 0, 0, 0, 0, 0), (21, 1, .iconst 0, 0, 0, 0, 0), (22, 3, .invokevirtual 44, 138, 0, 0, 803), (25, 1, .iastore, 0, 0, 0, 0), (26, 1, .aload_n 0, 0, 0, 0, 0), (27, 3, .getfield 9, 1, 0, 0, 140), (30, 2, .bipush 8, 0, 0, 0, 0)], [(32, 1, .aload_n 0, 0, 0, 0, 0), (33, 1, .iconst 1, 0, 0, 0, 0), (34, 3, .invokevirtual 44, 138, 0, 0, 803), (37, 1, .iastore, 0, 0, 0, 0), (38, 1, .return_, 0, 0, 0, 0)]], 3, 2, 1, 1, 0, 0, 0)
/-- StrawWatch$Laws.run.(I)I -/
def mt_141 : List (List mm_I) × Nat × mm_M := ([[(0, 1, .iload_n 1, 0, 0, 0, 0), (1, 1, .istore_n 2, 0, 0, 0, 0), (2, 1, .iconst 0, 0, 0, 0, 0), (3, 1, .istore_n 3, 0, 0, 0, 0), (4, 1, .iconst 0, 0, 0, 0, 0), (5, 2, .istore 4, 0, 0, 0, 0), (7, 2, .iload 4, 0, 0, 0, 0), (9, 3, .sipush 432, 0, 0, 0, 0), (12, 3, .if_icmp .ge 277, 0, 0, 0, 0), (15, 1, .iload_n 2, 0, 0, 0, 0)], [(16, 3, .ifCond .lt 17, 0, 0, 0, 0), (19, 1, .iload_n 2, 0, 0, 0, 0), (20, 1, .aload_n 0, 0, 0, 0, 0), (21, 3, .getfield 24, 1, 4, 0, 147), (24, 3, .if_icmp .ge 9, 0, 0, 0, 0), (27, 1, .iload_n 3, 0, 0, 0, 0), (28, 2, .bipush 32, 0, 0, 0, 0), (30, 3, .if_icmp .lt 5, 0, 0, 0, 0)], [(33, 1, .iconst 0, 0, 0, 0, 0), (34, 1, .ireturn, 0, 0, 0, 0), (35, 1, .aload_n 0, 0, 0, 0, 0), (36, 3, .getfield 15, 1, 1, 0, 144), (39, 1, .iload_n 2, 0, 0, 0, 0), (40, 1, .iaload, 0, 0, 0, 0), (41, 2, .bipush 15, 0, 0, 0, 0), (43, 1, .iand, 0, 0, 0, 0), (44, 2, .istore 5, 0, 0, 0, 0), (46, 1, .aload_n 0, 0, 0, 0, 0), (47, 3, .getfield 15, 1, 1, 0, 144)], [(50, 1, .iload_n 2, 0, 0, 0, 0), (51, 1, .iaload, 0, 0, 0, 0), (52, 1, .iconst 4, 0, 0, 0, 0), (53, 1, .ishr, 0, 0, 0, 0), (54, 2, .istore 6, 0, 0, 0, 0), (56, 3, .iinc 2 1, 0, 0, 0, 0), (59, 2, .iload 5, 0, 0, 0, 0), (61, 3, .ifCond .ne 17, 0, 0, 0, 0)], [(64, 1, .aload_n 0, 0, 0, 0, 0), (65, 3, .getfield 21, 1, 3, 0, 146), (68, 1, .iload_n 3, 0, 0, 0, 0), (69, 2, .iload 6, 0, 0, 0, 0), (71, 1, .iastore, 0, 0, 0, 0), (72, 3, .iinc 3 1, 0, 0, 0, 0), (75, 3, .goto 208, 0, 0, 0, 0), (78, 2, .iload 5, 0, 0, 0, 0)], [(80, 1, .iconst 1, 0, 0, 0, 0), (81, 3, .if_icmp .ne 38, 0, 0, 0, 0), (84, 1, .aload_n 0, 0, 0, 0, 0), (85, 3, .getfield 21, 1, 3, 0, 146), (88, 1, .iload_n 3, 0, 0, 0, 0), (89, 2, .iload 6, 0, 0, 0, 0), (91, 3, .ifCond .lt 20, 0, 0, 0, 0), (94, 2, .iload 6, 0, 0, 0, 0)], [(96, 2, .bipush 9, 0, 0, 0, 0), (98, 3, .if_icmp .ge 13, 0, 0, 0, 0), (101, 1, .aload_n 0, 0, 0, 0, 0), (102, 3, .getfield 9, 1, 0, 0, 140), (105, 2, .iload 6, 0, 0, 0, 0), (107, 1, .iaload, 0, 0, 0, 0), (108, 3, .goto 4, 0, 0, 0, 0), (111, 1, .iconst 0, 0, 0, 0, 0)], [(112, 1, .iastore, 0, 0, 0, 0), (113, 3, .iinc 3 1, 0, 0, 0, 0), (116, 3, .goto 167, 0, 0, 0, 0), (119, 2, .iload 5, 0, 0, 0, 0), (121, 1, .iconst 2, 0, 0, 0, 0), (122, 3, .if_icmp .ne 20, 0, 0, 0, 0), (125, 1, .iload_n 3, 0, 0, 0, 0), (126, 3, .ifCond .le 14, 0, 0, 0, 0)], [(129, 1, .aload_n 0, 0, 0, 0, 0), (130, 3, .getfield 21, 1, 3, 0, 146), (133, 1, .iload_n 3, 0, 0, 0, 0), (134, 1, .iconst 1, 0, 0, 0, 0), (135, 1, .isub, 0, 0, 0, 0), (136, 1, .iaload, 0, 0, 0, 0), (137, 3, .goto 4, 0, 0, 0, 0), (140, 1, .iconst 0, 0, 0, 0, 0), (141, 1, .ireturn, 0, 0, 0, 0), (142, 1, .iload_n 3, 0, 0, 0, 0), (143, 1, .iconst 2, 0, 0, 0, 0)], [(144, 3, .if_icmp .ge 5, 0, 0, 0, 0), (147, 1, .iconst 0, 0, 0, 0, 0), (148, 1, .ireturn, 0, 0, 0, 0), (149, 2, .iload 5, 0, 0, 0, 0), (151, 1, .iconst 3, 0, 0, 0, 0), (152, 3, .if_icmp .ne 33, 0, 0, 0, 0), (155, 3, .iinc 3 (-2), 0, 0, 0, 0), (158, 1, .aload_n 0, 0, 0, 0, 0), (159, 3, .getfield 21, 1, 3, 0, 146)], [(162, 1, .iload_n 3, 0, 0, 0, 0), (163, 1, .iaload, 0, 0, 0, 0), (164, 1, .aload_n 0, 0, 0, 0, 0), (165, 3, .getfield 21, 1, 3, 0, 146), (168, 1, .iload_n 3, 0, 0, 0, 0), (169, 1, .iconst 1, 0, 0, 0, 0), (170, 1, .iadd, 0, 0, 0, 0), (171, 1, .iaload, 0, 0, 0, 0), (172, 3, .if_icmp .ge 7, 0, 0, 0, 0), (175, 1, .iload_n 2, 0, 0, 0, 0)], [(176, 3, .goto 5, 0, 0, 0, 0), (179, 2, .iload 6, 0, 0, 0, 0), (181, 1, .istore_n 2, 0, 0, 0, 0), (182, 3, .goto 101, 0, 0, 0, 0), (185, 3, .iinc 3 (-1), 0, 0, 0, 0), (188, 1, .aload_n 0, 0, 0, 0, 0), (189, 3, .getfield 21, 1, 3, 0, 146)], [(192, 1, .iload_n 3, 0, 0, 0, 0), (193, 1, .iaload, 0, 0, 0, 0), (194, 2, .istore 7, 0, 0, 0, 0), (196, 2, .iload 5, 0, 0, 0, 0), (198, 1, .iconst 4, 0, 0, 0, 0), (199, 3, .if_icmp .ne 19, 0, 0, 0, 0), (202, 1, .aload_n 0, 0, 0, 0, 0), (203, 3, .getfield 21, 1, 3, 0, 146), (206, 1, .iload_n 3, 0, 0, 0, 0), (207, 1, .iconst 1, 0, 0, 0, 0)], [(208, 1, .isub, 0, 0, 0, 0), (209, 1, .dup2, 0, 0, 0, 0), (210, 1, .iaload, 0, 0, 0, 0), (211, 2, .iload 7, 0, 0, 0, 0), (213, 1, .iadd, 0, 0, 0, 0), (214, 1, .iastore, 0, 0, 0, 0), (215, 3, .goto 68, 0, 0, 0, 0), (218, 2, .iload 5, 0, 0, 0, 0), (220, 1, .iconst 5, 0, 0, 0, 0), (221, 3, .if_icmp .ne 19, 0, 0, 0, 0)], [(224, 1, .aload_n 0, 0, 0, 0, 0), (225, 3, .getfield 21, 1, 3, 0, 146), (228, 1, .iload_n 3, 0, 0, 0, 0), (229, 1, .iconst 1, 0, 0, 0, 0), (230, 1, .isub, 0, 0, 0, 0), (231, 1, .dup2, 0, 0, 0, 0), (232, 1, .iaload, 0, 0, 0, 0), (233, 2, .iload 7, 0, 0, 0, 0), (235, 1, .isub, 0, 0, 0, 0), (236, 1, .iastore, 0, 0, 0, 0), (237, 3, .goto 46, 0, 0, 0, 0)], [(240, 2, .iload 5, 0, 0, 0, 0), (242, 2, .bipush 6, 0, 0, 0, 0), (244, 3, .if_icmp .ne 19, 0, 0, 0, 0), (247, 1, .aload_n 0, 0, 0, 0, 0), (248, 3, .getfield 21, 1, 3, 0, 146), (251, 1, .iload_n 3, 0, 0, 0, 0), (252, 1, .iconst 1, 0, 0, 0, 0), (253, 1, .isub, 0, 0, 0, 0), (254, 1, .dup2, 0, 0, 0, 0), (255, 1, .iaload, 0, 0, 0, 0)], [(256, 2, .iload 7, 0, 0, 0, 0), (258, 1, .imul, 0, 0, 0, 0), (259, 1, .iastore, 0, 0, 0, 0), (260, 3, .goto 23, 0, 0, 0, 0), (263, 2, .iload 7, 0, 0, 0, 0), (265, 3, .ifCond .ne 5, 0, 0, 0, 0), (268, 1, .iconst 0, 0, 0, 0, 0), (269, 1, .ireturn, 0, 0, 0, 0), (270, 1, .aload_n 0, 0, 0, 0, 0), (271, 3, .getfield 21, 1, 3, 0, 146)], [(274, 1, .iload_n 3, 0, 0, 0, 0), (275, 1, .iconst 1, 0, 0, 0, 0), (276, 1, .isub, 0, 0, 0, 0), (277, 1, .dup2, 0, 0, 0, 0), (278, 1, .iaload, 0, 0, 0, 0), (279, 2, .iload 7, 0, 0, 0, 0), (281, 1, .idiv, 0, 0, 0, 0), (282, 1, .iastore, 0, 0, 0, 0), (283, 3, .iinc 4 1, 0, 0, 0, 0), (286, 3, .goto (-279), 0, 0, 0, 0)], [(289, 1, .iconst 0, 0, 0, 0, 0), (290, 1, .ireturn, 0, 0, 0, 0)]], 8, 1, 1, 1, 1, 0, 0)
/-- StrawWatch$Laws.sailBy.(I)I -/
def mt_142 : List (List mm_I) × Nat × mm_M := ([[(0, 1, .aload_n 0, 0, 0, 0, 0), (1, 3, .getfield 9, 1, 0, 0, 140), (4, 1, .iconst 2, 0, 0, 0, 0), (5, 1, .iload_n 1, 0, 0, 0, 0), (6, 1, .iastore, 0, 0, 0, 0), (7, 1, .aload_n 0, 0, 0, 0, 0), (8, 1, .iconst 2, 0, 0, 0, 0), (9, 3, .invokevirtual 44, 138, 0, 0, 803), (12, 1, .ireturn, 0, 0, 0, 0)]], 2, 1, 1, 1, 1, 0, 0)
/-- StrawWatch$Laws.setNumber.(II)V -/
def mt_143 : List (List mm_I) × Nat × mm_M := ([[(0, 1, .aload_n 0, 0, 0, 0, 0), (1, 3, .getfield 18, 1, 2, 0, 145), (4, 1, .iload_n 1, 0, 0, 0, 0), (5, 1, .aload_n 0, 0, 0, 0, 0), (6, 3, .getfield 24, 1, 4, 0, 147), (9, 1, .iastore, 0, 0, 0, 0), (10, 1, .aload_n 0, 0, 0, 0, 0), (11, 1, .iconst 0, 0, 0, 0, 0), (12, 1, .iload_n 2, 0, 0, 0, 0), (13, 3, .invokevirtual 32, 136, 0, 0, 173)], [(16, 1, .aload_n 0, 0, 0, 0, 0), (17, 1, .iconst 2, 0, 0, 0, 0), (18, 1, .iconst 0, 0, 0, 0, 0), (19, 3, .invokevirtual 32, 136, 0, 0, 173), (22, 1, .return_, 0, 0, 0, 0)]], 3, 2, 1, 1, 0, 0, 0)
/-- StrawWatch$Laws.setStart.(II)V -/
def mt_144 : List (List mm_I) × Nat × mm_M := ([[(0, 1, .iload_n 1, 0, 0, 0, 0), (1, 3, .ifCond .lt 16, 0, 0, 0, 0), (4, 1, .iload_n 1, 0, 0, 0, 0), (5, 2, .bipush 7, 0, 0, 0, 0), (7, 3, .if_icmp .ge 10, 0, 0, 0, 0), (10, 1, .aload_n 0, 0, 0, 0, 0), (11, 3, .getfield 18, 1, 2, 0, 145), (14, 1, .iload_n 1, 0, 0, 0, 0), (15, 1, .iload_n 2, 0, 0, 0, 0)], [(16, 1, .iastore, 0, 0, 0, 0), (17, 1, .return_, 0, 0, 0, 0)]], 3, 2, 1, 1, 0, 0, 0)
/-- StrawWatch$Notes.addLogged.(II)I -/
def mt_145 : List (List mm_I) × Nat × mm_M := ([[(0, 1, .aload_n 0, 0, 0, 0, 0), (1, 3, .getfield 25, 2, 4, 0, 394), (4, 2, .bipush 20, 0, 0, 0, 0), (6, 3, .if_icmp .lt 5, 0, 0, 0, 0), (9, 1, .iconst (-1), 0, 0, 0, 0), (10, 1, .ireturn, 0, 0, 0, 0), (11, 1, .aload_n 0, 0, 0, 0, 0), (12, 3, .getfield 15, 2, 1, 0, 390), (15, 1, .aload_n 0, 0, 0, 0, 0)], [(16, 3, .getfield 25, 2, 4, 0, 394), (19, 1, .iload_n 1, 0, 0, 0, 0), (20, 1, .iastore, 0, 0, 0, 0), (21, 1, .aload_n 0, 0, 0, 0, 0), (22, 3, .getfield 18, 2, 2, 0, 391), (25, 1, .aload_n 0, 0, 0, 0, 0), (26, 3, .getfield 25, 2, 4, 0, 394), (29, 1, .iload_n 2, 0, 0, 0, 0), (30, 1, .iastore, 0, 0, 0, 0), (31, 1, .aload_n 0, 0, 0, 0, 0)], [(32, 1, .dup, 0, 0, 0, 0), (33, 3, .getfield 25, 2, 4, 0, 394), (36, 1, .iconst 1, 0, 0, 0, 0), (37, 1, .iadd, 0, 0, 0, 0), (38, 3, .putfield 25, 2, 4, 0, 394), (41, 1, .aload_n 0, 0, 0, 0, 0), (42, 3, .getfield 25, 2, 4, 0, 394), (45, 1, .iconst 1, 0, 0, 0, 0), (46, 1, .isub, 0, 0, 0, 0), (47, 1, .ireturn, 0, 0, 0, 0)]], 3, 2, 1, 2, 1, 0, 0)
/-- StrawWatch$Notes.addTold.(I)I -/
def mt_146 : List (List mm_I) × Nat × mm_M := ([[(0, 1, .aload_n 0, 0, 0, 0, 0), (1, 3, .getfield 21, 2, 3, 0, 392), (4, 2, .bipush 10, 0, 0, 0, 0), (6, 3, .if_icmp .lt 5, 0, 0, 0, 0), (9, 1, .iconst (-1), 0, 0, 0, 0), (10, 1, .ireturn, 0, 0, 0, 0), (11, 1, .aload_n 0, 0, 0, 0, 0), (12, 3, .getfield 11, 2, 0, 0, 389), (15, 1, .aload_n 0, 0, 0, 0, 0)], [(16, 3, .getfield 21, 2, 3, 0, 392), (19, 1, .iload_n 1, 0, 0, 0, 0), (20, 1, .iastore, 0, 0, 0, 0), (21, 1, .aload_n 0, 0, 0, 0, 0), (22, 1, .dup, 0, 0, 0, 0), (23, 3, .getfield 21, 2, 3, 0, 392), (26, 1, .iconst 1, 0, 0, 0, 0), (27, 1, .iadd, 0, 0, 0, 0), (28, 3, .putfield 21, 2, 3, 0, 392), (31, 1, .aload_n 0, 0, 0, 0, 0)], [(32, 3, .getfield 21, 2, 3, 0, 392), (35, 1, .iconst 1, 0, 0, 0, 0), (36, 1, .isub, 0, 0, 0, 0), (37, 1, .ireturn, 0, 0, 0, 0)]], 2, 1, 1, 2, 1, 0, 0)
/-- StrawWatch$Notes.agrees.(III)Z -/
def mt_147 : List (List mm_I) × Nat × mm_M := ([[(0, 1, .iconst 0, 0, 0, 0, 0), (1, 2, .istore 4, 0, 0, 0, 0), (3, 2, .iload 4, 0, 0, 0, 0), (5, 1, .iload_n 1, 0, 0, 0, 0), (6, 3, .if_icmp .ge 47, 0, 0, 0, 0), (9, 2, .iload 4, 0, 0, 0, 0), (11, 1, .aload_n 0, 0, 0, 0, 0), (12, 3, .getfield 25, 2, 4, 0, 394), (15, 3, .if_icmp .ge 38, 0, 0, 0, 0)], [(18, 1, .aload_n 0, 0, 0, 0, 0), (19, 3, .getfield 15, 2, 1, 0, 390), (22, 2, .iload 4, 0, 0, 0, 0), (24, 1, .iaload, 0, 0, 0, 0), (25, 1, .iload_n 2, 0, 0, 0, 0), (26, 3, .if_icmp .ne 21, 0, 0, 0, 0), (29, 1, .aload_n 0, 0, 0, 0, 0), (30, 3, .getfield 18, 2, 2, 0, 391)], [(33, 2, .iload 4, 0, 0, 0, 0), (35, 1, .iaload, 0, 0, 0, 0), (36, 1, .iload_n 3, 0, 0, 0, 0), (37, 1, .isub, 0, 0, 0, 0), (38, 3, .invokestatic 34, 276, 0, 0, 1147), (41, 1, .iconst 2, 0, 0, 0, 0), (42, 3, .if_icmp .le 5, 0, 0, 0, 0), (45, 1, .iconst 0, 0, 0, 0, 0), (46, 1, .ireturn, 0, 0, 0, 0), (47, 3, .iinc 4 1, 0, 0, 0, 0)], [(50, 3, .goto (-47), 0, 0, 0, 0), (53, 1, .iconst 1, 0, 0, 0, 0), (54, 1, .ireturn, 0, 0, 0, 0)]], 5, 3, 1, 2, 2, 0, 0)
/-- StrawWatch$Notes.forgetLogged.()V -/
def mt_148 : List (List mm_I) × Nat × mm_M := ([[(0, 1, .aload_n 0, 0, 0, 0, 0), (1, 1, .iconst 0, 0, 0, 0, 0), (2, 3, .putfield 25, 2, 4, 0, 394), (5, 1, .return_, 0, 0, 0, 0)]], 1, 0, 1, 2, 0, 0, 0)
/-- StrawWatch$Notes.forgetTold.()V -/
def mt_149 : List (List mm_I) × Nat × mm_M := ([[(0, 1, .aload_n 0, 0, 0, 0, 0), (1, 1, .iconst 0, 0, 0, 0, 0), (2, 3, .putfield 21, 2, 3, 0, 392), (5, 1, .return_, 0, 0, 0, 0)]], 1, 0, 1, 2, 0, 0, 0)
/-- StrawWatch$Notes.<init>.()V -/
def mt_150 : List (List mm_I) × Nat × mm_M := ([[(0, 1, .aload_n 0, 0, 0, 0, 0), (1, 3, .invokespecial 3, 0, 0, 0, 388), (4, 1, .aload_n 0, 0, 0, 0, 0), (5, 2, .bipush 10, 0, 0, 0, 0), (7, 2, .newarray .int, 0, 0, 0, 160), (9, 3, .putfield 11, 2, 0, 0, 389), (12, 1, .aload_n 0, 0, 0, 0, 0), (13, 2, .bipush 20, 0, 0, 0, 0), (15, 2, .newarray .int, 0, 0, 0, 160)], [(17, 3, .putfield 15, 2, 1, 0, 390), (20, 1, .aload_n 0, 0, 0, 0, 0), (21, 2, .bipush 20, 0, 0, 0, 0), (23, 2, .newarray .int, 0, 0, 0, 160), (25, 3, .putfield 18, 2, 2, 0, 391), (28, 1, .aload_n 0, 0, 0, 0, 0), (29, 1, .iconst 0, 0, 0, 0, 0), (30, 3, .putfield 21, 2, 3, 0, 392)], [(33, 1, .aload_n 0, 0, 0, 0, 0), (34, 1, .iconst 0, 0, 0, 0, 0), (35, 3, .putfield 25, 2, 4, 0, 394), (38, 1, .return_, 0, 0, 0, 0)]], 1, 0, 2, 2, 0, 3, 50)
/-- StrawWatch$Notes.lastWatch.(I)I -/
def mt_151 : List (List mm_I) × Nat × mm_M := ([[(0, 1, .iconst (-1), 0, 0, 0, 0), (1, 1, .istore_n 2, 0, 0, 0, 0), (2, 1, .iconst 0, 0, 0, 0, 0), (3, 1, .istore_n 3, 0, 0, 0, 0), (4, 1, .iload_n 3, 0, 0, 0, 0), (5, 1, .iload_n 1, 0, 0, 0, 0), (6, 3, .if_icmp .ge 28, 0, 0, 0, 0), (9, 1, .iload_n 3, 0, 0, 0, 0), (10, 1, .aload_n 0, 0, 0, 0, 0), (11, 3, .getfield 25, 2, 4, 0, 394), (14, 3, .if_icmp .ge 20, 0, 0, 0, 0)], [(17, 1, .iload_n 2, 0, 0, 0, 0), (18, 1, .aload_n 0, 0, 0, 0, 0), (19, 3, .getfield 15, 2, 1, 0, 390), (22, 1, .iload_n 3, 0, 0, 0, 0), (23, 1, .iaload, 0, 0, 0, 0), (24, 3, .invokestatic 28, 277, 0, 0, 1142), (27, 1, .istore_n 2, 0, 0, 0, 0), (28, 3, .iinc 3 1, 0, 0, 0, 0), (31, 3, .goto (-27), 0, 0, 0, 0)], [(34, 1, .iload_n 2, 0, 0, 0, 0), (35, 1, .ireturn, 0, 0, 0, 0)]], 4, 1, 1, 2, 1, 0, 0)
/-- StrawWatch$Notes.wasTold.(II)Z -/
def mt_152 : List (List mm_I) × Nat × mm_M := ([[(0, 1, .iconst 0, 0, 0, 0, 0), (1, 1, .istore_n 3, 0, 0, 0, 0), (2, 1, .iload_n 3, 0, 0, 0, 0), (3, 1, .iload_n 2, 0, 0, 0, 0), (4, 3, .if_icmp .ge 29, 0, 0, 0, 0), (7, 1, .iload_n 3, 0, 0, 0, 0), (8, 1, .aload_n 0, 0, 0, 0, 0), (9, 3, .getfield 21, 2, 3, 0, 392), (12, 3, .if_icmp .ge 21, 0, 0, 0, 0), (15, 1, .aload_n 0, 0, 0, 0, 0)], [(16, 3, .getfield 11, 2, 0, 0, 389), (19, 1, .iload_n 3, 0, 0, 0, 0), (20, 1, .iaload, 0, 0, 0, 0), (21, 1, .iload_n 1, 0, 0, 0, 0), (22, 3, .if_icmp .ne 5, 0, 0, 0, 0), (25, 1, .iconst 1, 0, 0, 0, 0), (26, 1, .ireturn, 0, 0, 0, 0), (27, 3, .iinc 3 1, 0, 0, 0, 0), (30, 3, .goto (-28), 0, 0, 0, 0)], [(33, 1, .iconst 0, 0, 0, 0, 0), (34, 1, .ireturn, 0, 0, 0, 0)]], 4, 2, 1, 2, 2, 0, 0)
/-- StrawWatch$Past.forgetSlots.()V -/
def mt_153 : List (List mm_I) × Nat × mm_M := ([[(0, 1, .iconst 0, 0, 0, 0, 0), (1, 1, .istore_n 1, 0, 0, 0, 0), (2, 1, .iload_n 1, 0, 0, 0, 0), (3, 1, .iconst 3, 0, 0, 0, 0), (4, 3, .if_icmp .ge 16, 0, 0, 0, 0), (7, 1, .aload_n 0, 0, 0, 0, 0), (8, 3, .getfield 19, 3, 2, 0, 367), (11, 1, .iload_n 1, 0, 0, 0, 0), (12, 1, .iconst 0, 0, 0, 0, 0), (13, 1, .bastore, 0, 0, 0, 0), (14, 3, .iinc 1 1, 0, 0, 0, 0)], [(17, 3, .goto (-15), 0, 0, 0, 0), (20, 1, .return_, 0, 0, 0, 0)]], 2, 0, 1, 3, 0, 0, 0)
/-- StrawWatch$Past.forgetUndo.()V -/
def mt_154 : List (List mm_I) × Nat × mm_M := ([[(0, 1, .aload_n 0, 0, 0, 0, 0), (1, 1, .iconst 0, 0, 0, 0, 0), (2, 3, .putfield 27, 3, 4, 0, 369), (5, 1, .return_, 0, 0, 0, 0)]], 1, 0, 1, 3, 0, 0, 0)
/-- StrawWatch$Past.goBackTo.(I[I)Z -/
def mt_155 : List (List mm_I) × Nat × mm_M := ([[(0, 1, .iload_n 1, 0, 0, 0, 0), (1, 3, .ifCond .lt 24, 0, 0, 0, 0), (4, 1, .iload_n 1, 0, 0, 0, 0), (5, 1, .iconst 3, 0, 0, 0, 0), (6, 3, .if_icmp .ge 19, 0, 0, 0, 0), (9, 1, .aload_n 0, 0, 0, 0, 0), (10, 3, .getfield 19, 3, 2, 0, 367), (13, 1, .iload_n 1, 0, 0, 0, 0), (14, 1, .baload, 0, 0, 0, 0), (15, 3, .ifCond .eq 10, 0, 0, 0, 0)], [(18, 1, .aload_n 2, 0, 0, 0, 0), (19, 1, .arraylength, 0, 0, 0, 0), (20, 2, .bipush 27, 0, 0, 0, 0), (22, 3, .if_icmp .ge 5, 0, 0, 0, 0), (25, 1, .iconst 0, 0, 0, 0, 0), (26, 1, .ireturn, 0, 0, 0, 0), (27, 1, .aload_n 0, 0, 0, 0, 0), (28, 3, .getfield 16, 3, 1, 0, 366), (31, 1, .iload_n 1, 0, 0, 0, 0)], [(32, 1, .aaload, 0, 0, 0, 0), (33, 1, .iconst 0, 0, 0, 0, 0), (34, 1, .aload_n 2, 0, 0, 0, 0), (35, 1, .iconst 0, 0, 0, 0, 0), (36, 2, .bipush 27, 0, 0, 0, 0), (38, 3, .invokestatic 30, 1, 0, 0, 827), (41, 1, .aload_n 0, 0, 0, 0, 0), (42, 3, .invokevirtual 42, 154, 0, 0, 1172), (45, 1, .iconst 1, 0, 0, 0, 0), (46, 1, .ireturn, 0, 0, 0, 0)]], 3, 2, 1, 3, 2, 0, 0)
/-- StrawWatch$Past.<init>.()V -/
def mt_156 : List (List mm_I) × Nat × mm_M := ([[(0, 1, .aload_n 0, 0, 0, 0, 0), (1, 3, .invokespecial 3, 0, 0, 0, 362), (4, 1, .aload_n 0, 0, 0, 0, 0), (5, 2, .bipush 40, 0, 0, 0, 0), (7, 2, .bipush 27, 0, 0, 0, 0), (9, 4, .multianewarray 11 2, 0, 0, 0, 363), (13, 3, .putfield 13, 3, 0, 0, 365)], [(16, 1, .aload_n 0, 0, 0, 0, 0), (17, 1, .iconst 3, 0, 0, 0, 0), (18, 2, .bipush 27, 0, 0, 0, 0), (20, 4, .multianewarray 11 2, 0, 0, 0, 363), (24, 3, .putfield 16, 3, 1, 0, 366), (27, 1, .aload_n 0, 0, 0, 0, 0), (28, 1, .iconst 3, 0, 0, 0, 0), (29, 2, .newarray .boolean, 0, 0, 0, 382), (31, 3, .putfield 19, 3, 2, 0, 367)], [(34, 1, .aload_n 0, 0, 0, 0, 0), (35, 1, .iconst 0, 0, 0, 0, 0), (36, 3, .putfield 23, 3, 3, 0, 368), (39, 1, .aload_n 0, 0, 0, 0, 0), (40, 1, .iconst 0, 0, 0, 0, 0), (41, 3, .putfield 27, 3, 4, 0, 369), (44, 1, .return_, 0, 0, 0, 0)]], 1, 0, 2, 3, 0, 46, 1207)
/-- StrawWatch$Past.keep.(I[I)Z -/
def mt_157 : List (List mm_I) × Nat × mm_M := ([[(0, 1, .iload_n 1, 0, 0, 0, 0), (1, 3, .ifCond .lt 15, 0, 0, 0, 0), (4, 1, .iload_n 1, 0, 0, 0, 0), (5, 1, .iconst 3, 0, 0, 0, 0), (6, 3, .if_icmp .ge 10, 0, 0, 0, 0), (9, 1, .aload_n 2, 0, 0, 0, 0), (10, 1, .arraylength, 0, 0, 0, 0), (11, 2, .bipush 27, 0, 0, 0, 0), (13, 3, .if_icmp .ge 5, 0, 0, 0, 0)], [(16, 1, .iconst 0, 0, 0, 0, 0), (17, 1, .ireturn, 0, 0, 0, 0), (18, 1, .aload_n 2, 0, 0, 0, 0), (19, 1, .iconst 0, 0, 0, 0, 0), (20, 1, .aload_n 0, 0, 0, 0, 0), (21, 3, .getfield 16, 3, 1, 0, 366), (24, 1, .iload_n 1, 0, 0, 0, 0), (25, 1, .aaload, 0, 0, 0, 0), (26, 1, .iconst 0, 0, 0, 0, 0), (27, 2, .bipush 27, 0, 0, 0, 0), (29, 3, .invokestatic 30, 1, 0, 0, 827)], [(32, 1, .aload_n 0, 0, 0, 0, 0), (33, 3, .getfield 19, 3, 2, 0, 367), (36, 1, .iload_n 1, 0, 0, 0, 0), (37, 1, .iconst 1, 0, 0, 0, 0), (38, 1, .bastore, 0, 0, 0, 0), (39, 1, .iconst 1, 0, 0, 0, 0), (40, 1, .ireturn, 0, 0, 0, 0)]], 3, 2, 1, 3, 2, 0, 0)
/-- StrawWatch$Past.save.([I)V -/
def mt_158 : List (List mm_I) × Nat × mm_M := ([[(0, 1, .aload_n 0, 0, 0, 0, 0), (1, 3, .getfield 23, 3, 3, 0, 368), (4, 3, .ifCond .lt 19, 0, 0, 0, 0), (7, 1, .aload_n 0, 0, 0, 0, 0), (8, 3, .getfield 23, 3, 3, 0, 368), (11, 2, .bipush 40, 0, 0, 0, 0), (13, 3, .if_icmp .ge 10, 0, 0, 0, 0)], [(16, 1, .aload_n 1, 0, 0, 0, 0), (17, 1, .arraylength, 0, 0, 0, 0), (18, 2, .bipush 27, 0, 0, 0, 0), (20, 3, .if_icmp .ge 4, 0, 0, 0, 0), (23, 1, .return_, 0, 0, 0, 0), (24, 1, .aload_n 1, 0, 0, 0, 0), (25, 1, .iconst 0, 0, 0, 0, 0), (26, 1, .aload_n 0, 0, 0, 0, 0), (27, 3, .getfield 13, 3, 0, 0, 365), (30, 1, .aload_n 0, 0, 0, 0, 0), (31, 3, .getfield 23, 3, 3, 0, 368)], [(34, 1, .aaload, 0, 0, 0, 0), (35, 1, .iconst 0, 0, 0, 0, 0), (36, 2, .bipush 27, 0, 0, 0, 0), (38, 3, .invokestatic 30, 1, 0, 0, 827), (41, 1, .aload_n 0, 0, 0, 0, 0), (42, 1, .aload_n 0, 0, 0, 0, 0), (43, 3, .getfield 23, 3, 3, 0, 368), (46, 1, .iconst 1, 0, 0, 0, 0), (47, 1, .iadd, 0, 0, 0, 0)], [(48, 2, .bipush 40, 0, 0, 0, 0), (50, 1, .irem, 0, 0, 0, 0), (51, 3, .putfield 23, 3, 3, 0, 368), (54, 1, .aload_n 0, 0, 0, 0, 0), (55, 1, .aload_n 0, 0, 0, 0, 0), (56, 3, .getfield 27, 3, 4, 0, 369), (59, 1, .iconst 1, 0, 0, 0, 0), (60, 1, .iadd, 0, 0, 0, 0), (61, 2, .bipush 40, 0, 0, 0, 0), (63, 3, .invokestatic 36, 278, 0, 0, 828)], [(66, 3, .putfield 27, 3, 4, 0, 369), (69, 1, .return_, 0, 0, 0, 0)]], 2, 1, 1, 3, 0, 0, 0)
/-- StrawWatch$Past.slotsHeld.()I -/
def mt_159 : List (List mm_I) × Nat × mm_M := ([[(0, 1, .iconst 0, 0, 0, 0, 0), (1, 1, .istore_n 1, 0, 0, 0, 0), (2, 1, .iconst 0, 0, 0, 0, 0), (3, 1, .istore_n 2, 0, 0, 0, 0), (4, 1, .iload_n 2, 0, 0, 0, 0), (5, 1, .iconst 3, 0, 0, 0, 0), (6, 3, .if_icmp .ge 26, 0, 0, 0, 0), (9, 1, .iload_n 1, 0, 0, 0, 0), (10, 1, .aload_n 0, 0, 0, 0, 0), (11, 3, .getfield 19, 3, 2, 0, 367), (14, 1, .iload_n 2, 0, 0, 0, 0), (15, 1, .baload, 0, 0, 0, 0)], [(16, 3, .ifCond .eq 7, 0, 0, 0, 0), (19, 1, .iconst 1, 0, 0, 0, 0), (20, 3, .goto 4, 0, 0, 0, 0), (23, 1, .iconst 0, 0, 0, 0, 0), (24, 1, .iadd, 0, 0, 0, 0), (25, 1, .istore_n 1, 0, 0, 0, 0), (26, 3, .iinc 2 1, 0, 0, 0, 0), (29, 3, .goto (-25), 0, 0, 0, 0)], [(32, 1, .iload_n 1, 0, 0, 0, 0), (33, 1, .ireturn, 0, 0, 0, 0)]], 3, 0, 1, 3, 1, 0, 0)
/-- StrawWatch$Past.takeBack.([I)Z -/
def mt_160 : List (List mm_I) × Nat × mm_M := ([[(0, 1, .aload_n 0, 0, 0, 0, 0), (1, 3, .getfield 27, 3, 4, 0, 369), (4, 3, .ifCond .eq 10, 0, 0, 0, 0), (7, 1, .aload_n 1, 0, 0, 0, 0), (8, 1, .arraylength, 0, 0, 0, 0), (9, 2, .bipush 27, 0, 0, 0, 0), (11, 3, .if_icmp .ge 5, 0, 0, 0, 0), (14, 1, .iconst 0, 0, 0, 0, 0), (15, 1, .ireturn, 0, 0, 0, 0)], [(16, 1, .aload_n 0, 0, 0, 0, 0), (17, 1, .aload_n 0, 0, 0, 0, 0), (18, 3, .getfield 23, 3, 3, 0, 368), (21, 3, .ifCond .le 12, 0, 0, 0, 0), (24, 1, .aload_n 0, 0, 0, 0, 0), (25, 3, .getfield 23, 3, 3, 0, 368), (28, 1, .iconst 1, 0, 0, 0, 0), (29, 1, .isub, 0, 0, 0, 0), (30, 3, .goto 5, 0, 0, 0, 0)], [(33, 2, .bipush 39, 0, 0, 0, 0), (35, 3, .putfield 23, 3, 3, 0, 368), (38, 1, .aload_n 0, 0, 0, 0, 0), (39, 1, .dup, 0, 0, 0, 0), (40, 3, .getfield 27, 3, 4, 0, 369), (43, 1, .iconst 1, 0, 0, 0, 0), (44, 1, .isub, 0, 0, 0, 0), (45, 3, .putfield 27, 3, 4, 0, 369)], [(48, 1, .aload_n 0, 0, 0, 0, 0), (49, 3, .getfield 13, 3, 0, 0, 365), (52, 1, .aload_n 0, 0, 0, 0, 0), (53, 3, .getfield 23, 3, 3, 0, 368), (56, 1, .aaload, 0, 0, 0, 0), (57, 1, .iconst 0, 0, 0, 0, 0), (58, 1, .aload_n 1, 0, 0, 0, 0), (59, 1, .iconst 0, 0, 0, 0, 0), (60, 2, .bipush 27, 0, 0, 0, 0), (62, 3, .invokestatic 30, 1, 0, 0, 827)], [(65, 1, .iconst 1, 0, 0, 0, 0), (66, 1, .ireturn, 0, 0, 0, 0)]], 2, 1, 1, 3, 2, 0, 0)
/-- StrawWatch$Reader.accept.()V -/
def mt_161 : List (List mm_I) × Nat × mm_M := ([[(0, 1, .aload_n 0, 0, 0, 0, 0), (1, 3, .getfield 46, 4, 2, 0, 276), (4, 3, .sipush 400, 0, 0, 0, 0), (7, 3, .if_icmp .lt 22, 0, 0, 0, 0), (10, 1, .aload_n 0, 0, 0, 0, 0), (11, 1, .iconst 2, 0, 0, 0, 0), (12, 3, .putfield 37, 4, 6, 0, 280), (15, 1, .aload_n 0, 0, 0, 0, 0)], [(16, 1, .aload_n 0, 0, 0, 0, 0), (17, 3, .getfield 164, 4, 5, 0, 279), (20, 3, .putfield 24, 4, 7, 0, 281), (23, 1, .aload_n 0, 0, 0, 0, 0), (24, 1, .iconst 1, 0, 0, 0, 0), (25, 3, .putfield 52, 4, 3, 0, 277), (28, 1, .return_, 0, 0, 0, 0), (29, 1, .aload_n 0, 0, 0, 0, 0), (30, 1, .dup, 0, 0, 0, 0), (31, 3, .getfield 46, 4, 2, 0, 276)], [(34, 1, .iconst 1, 0, 0, 0, 0), (35, 1, .iadd, 0, 0, 0, 0), (36, 3, .putfield 46, 4, 2, 0, 276), (39, 1, .aload_n 0, 0, 0, 0, 0), (40, 3, .getfield 46, 4, 2, 0, 276), (43, 3, .ifCond .lt 65, 0, 0, 0, 0), (46, 1, .aload_n 0, 0, 0, 0, 0), (47, 3, .getfield 46, 4, 2, 0, 276)], [(50, 1, .aload_n 0, 0, 0, 0, 0), (51, 3, .getfield 20, 4, 0, 0, 274), (54, 3, .getfield 167, 7, 3, 0, 255), (57, 3, .if_icmp .ge 51, 0, 0, 0, 0), (60, 1, .aload_n 0, 0, 0, 0, 0), (61, 1, .aload_n 0, 0, 0, 0, 0), (62, 3, .getfield 20, 4, 0, 0, 274)], [(65, 3, .getfield 170, 7, 0, 0, 249), (68, 1, .aload_n 0, 0, 0, 0, 0), (69, 3, .getfield 46, 4, 2, 0, 276), (72, 1, .iaload, 0, 0, 0, 0), (73, 3, .putfield 52, 4, 3, 0, 277), (76, 1, .aload_n 0, 0, 0, 0, 0), (77, 1, .aload_n 0, 0, 0, 0, 0), (78, 3, .getfield 20, 4, 0, 0, 274)], [(81, 3, .getfield 174, 7, 2, 0, 253), (84, 1, .aload_n 0, 0, 0, 0, 0), (85, 3, .getfield 46, 4, 2, 0, 276), (88, 1, .laload, 0, 0, 0, 0), (89, 3, .putfield 58, 4, 4, 0, 278), (92, 1, .aload_n 0, 0, 0, 0, 0), (93, 1, .aload_n 0, 0, 0, 0, 0), (94, 3, .getfield 20, 4, 0, 0, 274)], [(97, 3, .getfield 178, 7, 1, 0, 251), (100, 1, .aload_n 0, 0, 0, 0, 0), (101, 3, .getfield 46, 4, 2, 0, 276), (104, 1, .iaload, 0, 0, 0, 0), (105, 3, .putfield 164, 4, 5, 0, 279), (108, 1, .return_, 0, 0, 0, 0)]], 1, 0, 1, 4, 0, 0, 0)
/-- StrawWatch$Reader.<init>.(LStrawWatch$Text;[B)V -/
def mt_162 : List (List mm_I) × Nat × mm_M := ([[(0, 1, .aload_n 0, 0, 0, 0, 0), (1, 3, .invokespecial 3, 0, 0, 0, 241), (4, 1, .aload_n 0, 0, 0, 0, 0), (5, 1, .aload_n 1, 0, 0, 0, 0), (6, 3, .putfield 9, 4, 1, 0, 275), (9, 1, .aload_n 0, 0, 0, 0, 0), (10, 3, .new 15, 7, 0, 0, 242), (13, 1, .dup, 0, 0, 0, 0), (14, 1, .aload_n 2, 0, 0, 0, 0), (15, 3, .invokespecial 17, 209, 0, 0, 244)], [(18, 3, .putfield 20, 4, 0, 0, 274), (21, 1, .aload_n 0, 0, 0, 0, 0), (22, 1, .iconst (-1), 0, 0, 0, 0), (23, 3, .putfield 24, 4, 7, 0, 281), (26, 1, .return_, 0, 0, 0, 0)]], 3, 2, 2, 4, 0, 4, 1210)
/-- StrawWatch$Reader.isSign.(C)Z -/
def mt_163 : List (List mm_I) × Nat × mm_M := ([[(0, 1, .aload_n 0, 0, 0, 0, 0), (1, 3, .getfield 52, 4, 3, 0, 277), (4, 1, .iconst 4, 0, 0, 0, 0), (5, 3, .if_icmp .ne 17, 0, 0, 0, 0), (8, 1, .aload_n 0, 0, 0, 0, 0), (9, 3, .getfield 58, 4, 4, 0, 278), (12, 1, .iload_n 1, 0, 0, 0, 0), (13, 1, .i2l, 0, 0, 0, 0), (14, 1, .lcmp, 0, 0, 0, 0), (15, 3, .ifCond .ne 7, 0, 0, 0, 0)], [(18, 1, .iconst 1, 0, 0, 0, 0), (19, 3, .goto 4, 0, 0, 0, 0), (22, 1, .iconst 0, 0, 0, 0, 0), (23, 1, .ireturn, 0, 0, 0, 0)]], 2, 1, 1, 4, 2, 0, 0)
/-- StrawWatch$Reader.isWord.(I)Z -/
def mt_164 : List (List mm_I) × Nat × mm_M := ([[(0, 1, .aload_n 0, 0, 0, 0, 0), (1, 3, .getfield 52, 4, 3, 0, 277), (4, 1, .iconst 5, 0, 0, 0, 0), (5, 3, .if_icmp .ne 17, 0, 0, 0, 0), (8, 1, .aload_n 0, 0, 0, 0, 0), (9, 3, .getfield 58, 4, 4, 0, 278), (12, 1, .iload_n 1, 0, 0, 0, 0), (13, 1, .i2l, 0, 0, 0, 0), (14, 1, .lcmp, 0, 0, 0, 0), (15, 3, .ifCond .ne 7, 0, 0, 0, 0)], [(18, 1, .iconst 1, 0, 0, 0, 0), (19, 3, .goto 4, 0, 0, 0, 0), (22, 1, .iconst 0, 0, 0, 0, 0), (23, 1, .ireturn, 0, 0, 0, 0)]], 2, 1, 1, 4, 2, 0, 0)
/-- StrawWatch$Reader.noteLater.(I)V -/
def mt_165 : List (List mm_I) × Nat × mm_M := ([[(0, 1, .aload_n 0, 0, 0, 0, 0), (1, 3, .getfield 40, 4, 8, 0, 282), (4, 3, .ifCond .ne 16, 0, 0, 0, 0), (7, 1, .aload_n 0, 0, 0, 0, 0), (8, 1, .iload_n 1, 0, 0, 0, 0), (9, 3, .putfield 40, 4, 8, 0, 282), (12, 1, .aload_n 0, 0, 0, 0, 0), (13, 1, .aload_n 0, 0, 0, 0, 0), (14, 3, .getfield 164, 4, 5, 0, 279)], [(17, 3, .putfield 43, 4, 9, 0, 283), (20, 1, .return_, 0, 0, 0, 0)]], 2, 1, 1, 4, 0, 0, 0)
/-- StrawWatch$Reader.number.(II)I -/
def mt_166 : List (List mm_I) × Nat × mm_M := ([[(0, 1, .aload_n 0, 0, 0, 0, 0), (1, 3, .getfield 52, 4, 3, 0, 277), (4, 1, .iconst 3, 0, 0, 0, 0), (5, 3, .if_icmp .eq 10, 0, 0, 0, 0), (8, 1, .aload_n 0, 0, 0, 0, 0), (9, 1, .iconst 1, 0, 0, 0, 0), (10, 3, .invokevirtual 71, 176, 0, 0, 645), (13, 1, .iconst 0, 0, 0, 0, 0), (14, 1, .ireturn, 0, 0, 0, 0), (15, 1, .aload_n 0, 0, 0, 0, 0)], [(16, 3, .getfield 58, 4, 4, 0, 278), (19, 1, .l2i, 0, 0, 0, 0), (20, 1, .istore_n 3, 0, 0, 0, 0), (21, 1, .iload_n 3, 0, 0, 0, 0), (22, 1, .iload_n 1, 0, 0, 0, 0), (23, 3, .if_icmp .lt 8, 0, 0, 0, 0), (26, 1, .iload_n 3, 0, 0, 0, 0), (27, 1, .iload_n 2, 0, 0, 0, 0), (28, 3, .if_icmp .le 8, 0, 0, 0, 0), (31, 1, .aload_n 0, 0, 0, 0, 0)], [(32, 1, .iconst 5, 0, 0, 0, 0), (33, 3, .invokevirtual 107, 165, 0, 0, 653), (36, 1, .aload_n 0, 0, 0, 0, 0), (37, 3, .invokevirtual 49, 161, 0, 0, 633), (40, 1, .iload_n 3, 0, 0, 0, 0), (41, 1, .ireturn, 0, 0, 0, 0)]], 4, 2, 1, 4, 1, 0, 0)
/-- StrawWatch$Reader.operator.()I -/
def mt_167 : List (List mm_I) × Nat × mm_M := ([[(0, 1, .aload_n 0, 0, 0, 0, 0), (1, 2, .bipush 43, 0, 0, 0, 0), (3, 3, .invokevirtual 160, 163, 0, 0, 673), (6, 3, .ifCond .eq 5, 0, 0, 0, 0), (9, 1, .iconst 4, 0, 0, 0, 0), (10, 1, .ireturn, 0, 0, 0, 0), (11, 1, .aload_n 0, 0, 0, 0, 0), (12, 2, .bipush 45, 0, 0, 0, 0), (14, 3, .invokevirtual 160, 163, 0, 0, 673)], [(17, 3, .ifCond .eq 5, 0, 0, 0, 0), (20, 1, .iconst 5, 0, 0, 0, 0), (21, 1, .ireturn, 0, 0, 0, 0), (22, 1, .aload_n 0, 0, 0, 0, 0), (23, 2, .bipush 42, 0, 0, 0, 0), (25, 3, .invokevirtual 160, 163, 0, 0, 673), (28, 3, .ifCond .eq 6, 0, 0, 0, 0), (31, 2, .bipush 6, 0, 0, 0, 0)], [(33, 1, .ireturn, 0, 0, 0, 0), (34, 1, .aload_n 0, 0, 0, 0, 0), (35, 2, .bipush 47, 0, 0, 0, 0), (37, 3, .invokevirtual 160, 163, 0, 0, 673), (40, 3, .ifCond .eq 8, 0, 0, 0, 0), (43, 2, .bipush 7, 0, 0, 0, 0), (45, 3, .goto 4, 0, 0, 0, 0)], [(48, 1, .iconst (-1), 0, 0, 0, 0), (49, 1, .ireturn, 0, 0, 0, 0)]], 1, 0, 1, 4, 1, 0, 0)
/-- StrawWatch$Reader.placeOfFault.()I -/
def mt_168 : List (List mm_I) × Nat × mm_M := ([[(0, 1, .aload_n 0, 0, 0, 0, 0), (1, 3, .getfield 24, 4, 7, 0, 281), (4, 1, .ireturn, 0, 0, 0, 0)]], 1, 0, 1, 4, 1, 0, 0)
/-- StrawWatch$Reader.readLaw.(I)V -/
def mt_169 : List (List mm_I) × Nat × mm_M := ([[(0, 1, .aload_n 0, 0, 0, 0, 0), (1, 3, .getfield 9, 4, 1, 0, 275), (4, 3, .getfield 118, 6, 0, 0, 178), (7, 1, .astore_n 2, 0, 0, 0, 0), (8, 1, .aload_n 2, 0, 0, 0, 0), (9, 3, .invokevirtual 122, 135, 0, 0, 681), (12, 1, .istore_n 3, 0, 0, 0, 0), (13, 1, .aload_n 0, 0, 0, 0, 0), (14, 3, .invokevirtual 49, 161, 0, 0, 633)], [(17, 1, .aload_n 0, 0, 0, 0, 0), (18, 2, .bipush 61, 0, 0, 0, 0), (20, 3, .invokevirtual 96, 177, 0, 0, 669), (23, 1, .iconst 0, 0, 0, 0, 0), (24, 2, .istore 4, 0, 0, 0, 0), (26, 2, .iload 4, 0, 0, 0, 0), (28, 1, .iconst 4, 0, 0, 0, 0), (29, 3, .if_icmp .ge 82, 0, 0, 0, 0)], [(32, 1, .aload_n 0, 0, 0, 0, 0), (33, 2, .bipush 12, 0, 0, 0, 0), (35, 3, .invokevirtual 128, 164, 0, 0, 685), (38, 3, .ifCond .eq 73, 0, 0, 0, 0), (41, 1, .aload_n 0, 0, 0, 0, 0), (42, 3, .invokevirtual 49, 161, 0, 0, 633), (45, 1, .aload_n 0, 0, 0, 0, 0), (46, 1, .iload_n 1, 0, 0, 0, 0), (47, 1, .iconst 0, 0, 0, 0, 0)], [(48, 3, .invokevirtual 132, 172, 0, 0, 689), (51, 1, .aload_n 0, 0, 0, 0, 0), (52, 2, .bipush 60, 0, 0, 0, 0), (54, 3, .invokevirtual 96, 177, 0, 0, 669), (57, 1, .aload_n 0, 0, 0, 0, 0), (58, 1, .iload_n 1, 0, 0, 0, 0), (59, 1, .iconst 0, 0, 0, 0, 0), (60, 3, .invokevirtual 132, 172, 0, 0, 689), (63, 1, .aload_n 2, 0, 0, 0, 0)], [(64, 3, .invokevirtual 122, 135, 0, 0, 681), (67, 2, .istore 5, 0, 0, 0, 0), (69, 1, .aload_n 2, 0, 0, 0, 0), (70, 1, .iconst 3, 0, 0, 0, 0), (71, 1, .iconst 0, 0, 0, 0, 0), (72, 3, .invokevirtual 135, 136, 0, 0, 697), (75, 1, .aload_n 0, 0, 0, 0, 0), (76, 2, .bipush 13, 0, 0, 0, 0), (78, 3, .invokevirtual 138, 178, 0, 0, 710)], [(81, 1, .aload_n 0, 0, 0, 0, 0), (82, 1, .iload_n 1, 0, 0, 0, 0), (83, 1, .iconst 0, 0, 0, 0, 0), (84, 3, .invokevirtual 132, 172, 0, 0, 689), (87, 1, .aload_n 2, 0, 0, 0, 0), (88, 1, .iconst 2, 0, 0, 0, 0), (89, 1, .iconst 0, 0, 0, 0, 0), (90, 3, .invokevirtual 135, 136, 0, 0, 697), (93, 1, .aload_n 2, 0, 0, 0, 0), (94, 2, .iload 5, 0, 0, 0, 0)], [(96, 3, .invokevirtual 141, 132, 0, 0, 714), (99, 1, .aload_n 0, 0, 0, 0, 0), (100, 2, .bipush 14, 0, 0, 0, 0), (102, 3, .invokevirtual 138, 178, 0, 0, 710), (105, 3, .iinc 4 1, 0, 0, 0, 0), (108, 3, .goto (-82), 0, 0, 0, 0), (111, 1, .aload_n 0, 0, 0, 0, 0)], [(112, 2, .bipush 12, 0, 0, 0, 0), (114, 3, .invokevirtual 128, 164, 0, 0, 685), (117, 3, .ifCond .eq 8, 0, 0, 0, 0), (120, 1, .aload_n 0, 0, 0, 0, 0), (121, 1, .iconst 2, 0, 0, 0, 0), (122, 3, .invokevirtual 71, 176, 0, 0, 645), (125, 1, .aload_n 0, 0, 0, 0, 0), (126, 1, .iload_n 1, 0, 0, 0, 0), (127, 1, .iconst 0, 0, 0, 0, 0)], [(128, 3, .invokevirtual 132, 172, 0, 0, 689), (131, 1, .aload_n 2, 0, 0, 0, 0), (132, 1, .iconst 2, 0, 0, 0, 0), (133, 1, .iconst 0, 0, 0, 0, 0), (134, 3, .invokevirtual 135, 136, 0, 0, 697), (137, 1, .aload_n 2, 0, 0, 0, 0), (138, 1, .iload_n 1, 0, 0, 0, 0), (139, 1, .iload_n 3, 0, 0, 0, 0), (140, 3, .invokevirtual 144, 144, 0, 0, 718), (143, 1, .aload_n 0, 0, 0, 0, 0)], [(144, 2, .bipush 59, 0, 0, 0, 0), (146, 3, .invokevirtual 96, 177, 0, 0, 669), (149, 1, .return_, 0, 0, 0, 0)]], 6, 1, 1, 4, 0, 0, 0)
/-- StrawWatch$Reader.readMan.()V -/
def mt_170 : List (List mm_I) × Nat × mm_M := ([[(0, 1, .aload_n 0, 0, 0, 0, 0), (1, 3, .getfield 9, 4, 1, 0, 275), (4, 3, .getfield 100, 6, 4, 0, 189), (7, 2, .bipush 6, 0, 0, 0, 0), (9, 3, .if_icmp .lt 9, 0, 0, 0, 0), (12, 1, .aload_n 0, 0, 0, 0, 0), (13, 1, .iconst 2, 0, 0, 0, 0), (14, 3, .invokevirtual 71, 176, 0, 0, 645)], [(17, 1, .return_, 0, 0, 0, 0), (18, 1, .aload_n 0, 0, 0, 0, 0), (19, 3, .invokevirtual 49, 161, 0, 0, 633), (22, 1, .aload_n 0, 0, 0, 0, 0), (23, 3, .getfield 52, 4, 3, 0, 277), (26, 1, .iconst 2, 0, 0, 0, 0), (27, 3, .if_icmp .eq 9, 0, 0, 0, 0), (30, 1, .aload_n 0, 0, 0, 0, 0), (31, 1, .iconst 1, 0, 0, 0, 0)], [(32, 3, .invokevirtual 71, 176, 0, 0, 645), (35, 1, .return_, 0, 0, 0, 0), (36, 1, .aload_n 0, 0, 0, 0, 0), (37, 3, .getfield 9, 4, 1, 0, 275), (40, 1, .aload_n 0, 0, 0, 0, 0), (41, 3, .getfield 58, 4, 4, 0, 278), (44, 3, .invokevirtual 103, 205, 0, 0, 649), (47, 3, .ifCond .eq 8, 0, 0, 0, 0)], [(50, 1, .aload_n 0, 0, 0, 0, 0), (51, 1, .iconst 3, 0, 0, 0, 0), (52, 3, .invokevirtual 107, 165, 0, 0, 653), (55, 1, .aload_n 0, 0, 0, 0, 0), (56, 3, .getfield 9, 4, 1, 0, 275), (59, 1, .aload_n 0, 0, 0, 0, 0), (60, 3, .getfield 58, 4, 4, 0, 278), (63, 3, .invokevirtual 110, 200, 0, 0, 657)], [(66, 1, .aload_n 0, 0, 0, 0, 0), (67, 3, .invokevirtual 49, 161, 0, 0, 633), (70, 1, .iconst 0, 0, 0, 0, 0), (71, 1, .istore_n 1, 0, 0, 0, 0), (72, 1, .iload_n 1, 0, 0, 0, 0), (73, 1, .iconst 4, 0, 0, 0, 0), (74, 3, .if_icmp .gt 24, 0, 0, 0, 0), (77, 1, .aload_n 0, 0, 0, 0, 0), (78, 3, .getfield 9, 4, 1, 0, 275)], [(81, 1, .iload_n 1, 0, 0, 0, 0), (82, 1, .aload_n 0, 0, 0, 0, 0), (83, 1, .iconst 0, 0, 0, 0, 0), (84, 2, .bipush 9, 0, 0, 0, 0), (86, 3, .invokevirtual 74, 166, 0, 0, 661), (89, 3, .invokevirtual 114, 207, 0, 0, 665), (92, 3, .iinc 1 1, 0, 0, 0, 0), (95, 3, .goto (-23), 0, 0, 0, 0)], [(98, 1, .aload_n 0, 0, 0, 0, 0), (99, 2, .bipush 59, 0, 0, 0, 0), (101, 3, .invokevirtual 96, 177, 0, 0, 669), (104, 1, .return_, 0, 0, 0, 0)]], 2, 0, 1, 4, 0, 0, 0)
/-- StrawWatch$Reader.readNumbers.(I)V -/
def mt_171 : List (List mm_I) × Nat × mm_M := ([[(0, 1, .aload_n 0, 0, 0, 0, 0), (1, 3, .invokevirtual 49, 161, 0, 0, 633), (4, 1, .iload_n 1, 0, 0, 0, 0), (5, 2, .bipush 8, 0, 0, 0, 0), (7, 3, .if_icmp .ne 49, 0, 0, 0, 0), (10, 1, .aload_n 0, 0, 0, 0, 0), (11, 3, .getfield 9, 4, 1, 0, 275), (14, 1, .aload_n 0, 0, 0, 0, 0), (15, 1, .iconst 1, 0, 0, 0, 0)], [(16, 2, .bipush 99, 0, 0, 0, 0), (18, 3, .invokevirtual 74, 166, 0, 0, 661), (21, 3, .putfield 78, 6, 5, 0, 193), (24, 1, .aload_n 0, 0, 0, 0, 0), (25, 3, .getfield 9, 4, 1, 0, 275), (28, 1, .aload_n 0, 0, 0, 0, 0), (29, 1, .iconst 0, 0, 0, 0, 0), (30, 3, .sipush 999, 0, 0, 0, 0)], [(33, 3, .invokevirtual 74, 166, 0, 0, 661), (36, 3, .putfield 81, 6, 6, 0, 196), (39, 1, .aload_n 0, 0, 0, 0, 0), (40, 3, .getfield 9, 4, 1, 0, 275), (43, 1, .aload_n 0, 0, 0, 0, 0), (44, 1, .iconst 0, 0, 0, 0, 0), (45, 2, .bipush 99, 0, 0, 0, 0), (47, 3, .invokevirtual 74, 166, 0, 0, 661)], [(50, 3, .putfield 84, 6, 7, 0, 199), (53, 3, .goto 66, 0, 0, 0, 0), (56, 1, .iload_n 1, 0, 0, 0, 0), (57, 2, .bipush 9, 0, 0, 0, 0), (59, 3, .if_icmp .ne 21, 0, 0, 0, 0), (62, 1, .aload_n 0, 0, 0, 0, 0), (63, 3, .getfield 9, 4, 1, 0, 275)], [(66, 1, .aload_n 0, 0, 0, 0, 0), (67, 1, .iconst 1, 0, 0, 0, 0), (68, 3, .sipush 999, 0, 0, 0, 0), (71, 3, .invokevirtual 74, 166, 0, 0, 661), (74, 3, .putfield 87, 6, 8, 0, 201), (77, 3, .goto 42, 0, 0, 0, 0)], [(80, 1, .iload_n 1, 0, 0, 0, 0), (81, 2, .bipush 10, 0, 0, 0, 0), (83, 3, .if_icmp .ne 21, 0, 0, 0, 0), (86, 1, .aload_n 0, 0, 0, 0, 0), (87, 3, .getfield 9, 4, 1, 0, 275), (90, 1, .aload_n 0, 0, 0, 0, 0), (91, 1, .iconst 0, 0, 0, 0, 0), (92, 3, .sipush 9999, 0, 0, 0, 0), (95, 3, .invokevirtual 74, 166, 0, 0, 661)], [(98, 3, .putfield 90, 6, 9, 0, 207), (101, 3, .goto 18, 0, 0, 0, 0), (104, 1, .aload_n 0, 0, 0, 0, 0), (105, 3, .getfield 9, 4, 1, 0, 275), (108, 1, .aload_n 0, 0, 0, 0, 0), (109, 1, .iconst 0, 0, 0, 0, 0), (110, 3, .sipush 9999, 0, 0, 0, 0)], [(113, 3, .invokevirtual 74, 166, 0, 0, 661), (116, 3, .putfield 93, 6, 10, 0, 210), (119, 1, .aload_n 0, 0, 0, 0, 0), (120, 2, .bipush 59, 0, 0, 0, 0), (122, 3, .invokevirtual 96, 177, 0, 0, 669), (125, 1, .return_, 0, 0, 0, 0)]], 2, 1, 1, 4, 0, 0, 0)
/-- StrawWatch$Reader.readSum.(II)V -/
def mt_172 : List (List mm_I) × Nat × mm_M := ([[(0, 1, .aload_n 0, 0, 0, 0, 0), (1, 3, .getfield 9, 4, 1, 0, 275), (4, 3, .getfield 118, 6, 0, 0, 178), (7, 1, .astore_n 3, 0, 0, 0, 0), (8, 1, .iconst (-1), 0, 0, 0, 0), (9, 2, .istore 4, 0, 0, 0, 0), (11, 1, .aload_n 0, 0, 0, 0, 0), (12, 1, .iload_n 1, 0, 0, 0, 0), (13, 1, .iload_n 2, 0, 0, 0, 0), (14, 3, .invokevirtual 147, 175, 0, 0, 693)], [(17, 1, .aload_n 0, 0, 0, 0, 0), (18, 3, .invokevirtual 150, 167, 0, 0, 706), (21, 2, .istore 5, 0, 0, 0, 0), (23, 1, .iconst 0, 0, 0, 0, 0), (24, 2, .istore 6, 0, 0, 0, 0), (26, 2, .iload 6, 0, 0, 0, 0), (28, 3, .sipush 400, 0, 0, 0, 0), (31, 3, .if_icmp .ge 87, 0, 0, 0, 0)], [(34, 2, .iload 5, 0, 0, 0, 0), (36, 1, .iconst (-1), 0, 0, 0, 0), (37, 3, .if_icmp .eq 81, 0, 0, 0, 0), (40, 2, .iload 5, 0, 0, 0, 0), (42, 1, .iconst 4, 0, 0, 0, 0), (43, 3, .if_icmp .eq 9, 0, 0, 0, 0), (46, 2, .iload 5, 0, 0, 0, 0)], [(48, 1, .iconst 5, 0, 0, 0, 0), (49, 3, .if_icmp .ne 7, 0, 0, 0, 0), (52, 1, .iconst 1, 0, 0, 0, 0), (53, 3, .goto 4, 0, 0, 0, 0), (56, 1, .iconst 0, 0, 0, 0, 0), (57, 2, .istore 7, 0, 0, 0, 0), (59, 2, .iload 7, 0, 0, 0, 0), (61, 3, .ifCond .eq 16, 0, 0, 0, 0)], [(64, 2, .iload 4, 0, 0, 0, 0), (66, 1, .iconst (-1), 0, 0, 0, 0), (67, 3, .if_icmp .eq 10, 0, 0, 0, 0), (70, 1, .aload_n 3, 0, 0, 0, 0), (71, 2, .iload 4, 0, 0, 0, 0), (73, 1, .iconst 0, 0, 0, 0, 0), (74, 3, .invokevirtual 135, 136, 0, 0, 697), (77, 1, .aload_n 0, 0, 0, 0, 0), (78, 3, .invokevirtual 49, 161, 0, 0, 633)], [(81, 1, .aload_n 0, 0, 0, 0, 0), (82, 1, .iload_n 1, 0, 0, 0, 0), (83, 1, .iload_n 2, 0, 0, 0, 0), (84, 3, .invokevirtual 147, 175, 0, 0, 693), (87, 2, .iload 7, 0, 0, 0, 0), (89, 3, .ifCond .eq 10, 0, 0, 0, 0), (92, 2, .iload 5, 0, 0, 0, 0), (94, 2, .istore 4, 0, 0, 0, 0)], [(96, 3, .goto 10, 0, 0, 0, 0), (99, 1, .aload_n 3, 0, 0, 0, 0), (100, 2, .iload 5, 0, 0, 0, 0), (102, 1, .iconst 0, 0, 0, 0, 0), (103, 3, .invokevirtual 135, 136, 0, 0, 697), (106, 1, .aload_n 0, 0, 0, 0, 0), (107, 3, .invokevirtual 150, 167, 0, 0, 706), (110, 2, .istore 5, 0, 0, 0, 0)], [(112, 3, .iinc 6 1, 0, 0, 0, 0), (115, 3, .goto (-89), 0, 0, 0, 0), (118, 2, .iload 4, 0, 0, 0, 0), (120, 1, .iconst (-1), 0, 0, 0, 0), (121, 3, .if_icmp .eq 10, 0, 0, 0, 0), (124, 1, .aload_n 3, 0, 0, 0, 0), (125, 2, .iload 4, 0, 0, 0, 0), (127, 1, .iconst 0, 0, 0, 0, 0)], [(128, 3, .invokevirtual 135, 136, 0, 0, 697), (131, 1, .return_, 0, 0, 0, 0)]], 8, 2, 1, 4, 0, 0, 0)
/-- StrawWatch$Reader.readTape.(I)I -/
def mt_173 : List (List mm_I) × Nat × mm_M := ([[(0, 1, .aload_n 0, 0, 0, 0, 0), (1, 3, .getfield 9, 4, 1, 0, 275), (4, 3, .invokevirtual 28, 202, 0, 0, 486), (7, 1, .aload_n 0, 0, 0, 0, 0), (8, 3, .getfield 20, 4, 0, 0, 274), (11, 1, .iload_n 1, 0, 0, 0, 0), (12, 3, .invokevirtual 33, 218, 0, 0, 487), (15, 1, .aload_n 0, 0, 0, 0, 0)], [(16, 1, .iconst 0, 0, 0, 0, 0), (17, 3, .putfield 37, 4, 6, 0, 280), (20, 1, .aload_n 0, 0, 0, 0, 0), (21, 1, .iconst (-1), 0, 0, 0, 0), (22, 3, .putfield 24, 4, 7, 0, 281), (25, 1, .aload_n 0, 0, 0, 0, 0), (26, 1, .iconst 0, 0, 0, 0, 0), (27, 3, .putfield 40, 4, 8, 0, 282), (30, 1, .aload_n 0, 0, 0, 0, 0), (31, 1, .iconst (-1), 0, 0, 0, 0)], [(32, 3, .putfield 43, 4, 9, 0, 283), (35, 1, .aload_n 0, 0, 0, 0, 0), (36, 1, .iconst (-1), 0, 0, 0, 0), (37, 3, .putfield 46, 4, 2, 0, 276), (40, 1, .aload_n 0, 0, 0, 0, 0), (41, 3, .invokevirtual 49, 161, 0, 0, 633), (44, 1, .iconst 0, 0, 0, 0, 0), (45, 1, .istore_n 2, 0, 0, 0, 0), (46, 1, .iload_n 2, 0, 0, 0, 0), (47, 3, .sipush 400, 0, 0, 0, 0)], [(50, 3, .if_icmp .gt 27, 0, 0, 0, 0), (53, 1, .aload_n 0, 0, 0, 0, 0), (54, 3, .getfield 37, 4, 6, 0, 280), (57, 3, .ifCond .ne 20, 0, 0, 0, 0), (60, 1, .aload_n 0, 0, 0, 0, 0), (61, 3, .getfield 52, 4, 3, 0, 277)], [(64, 3, .ifCond .eq 13, 0, 0, 0, 0), (67, 1, .aload_n 0, 0, 0, 0, 0), (68, 3, .invokevirtual 55, 174, 0, 0, 637), (71, 3, .iinc 2 1, 0, 0, 0, 0), (74, 3, .goto (-28), 0, 0, 0, 0), (77, 1, .aload_n 0, 0, 0, 0, 0), (78, 3, .getfield 37, 4, 6, 0, 280)], [(81, 3, .ifCond .ne 19, 0, 0, 0, 0), (84, 1, .aload_n 0, 0, 0, 0, 0), (85, 1, .aload_n 0, 0, 0, 0, 0), (86, 3, .getfield 40, 4, 8, 0, 282), (89, 3, .putfield 37, 4, 6, 0, 280), (92, 1, .aload_n 0, 0, 0, 0, 0), (93, 1, .aload_n 0, 0, 0, 0, 0), (94, 3, .getfield 43, 4, 9, 0, 283)], [(97, 3, .putfield 24, 4, 7, 0, 281), (100, 1, .aload_n 0, 0, 0, 0, 0), (101, 3, .getfield 37, 4, 6, 0, 280), (104, 1, .ireturn, 0, 0, 0, 0)]], 3, 1, 1, 4, 1, 0, 0)
/-- StrawWatch$Reader.readTell.()V -/
def mt_174 : List (List mm_I) × Nat × mm_M := ([[(0, 1, .aload_n 0, 0, 0, 0, 0), (1, 3, .getfield 52, 4, 3, 0, 277), (4, 1, .iconst 5, 0, 0, 0, 0), (5, 3, .if_icmp .ne 11, 0, 0, 0, 0), (8, 1, .aload_n 0, 0, 0, 0, 0), (9, 3, .getfield 58, 4, 4, 0, 278), (12, 1, .l2i, 0, 0, 0, 0), (13, 3, .goto 4, 0, 0, 0, 0)], [(16, 1, .iconst (-1), 0, 0, 0, 0), (17, 1, .istore_n 1, 0, 0, 0, 0), (18, 1, .iload_n 1, 0, 0, 0, 0), (19, 3, .ifCond .ne 10, 0, 0, 0, 0), (22, 1, .aload_n 0, 0, 0, 0, 0), (23, 3, .invokevirtual 62, 170, 0, 0, 641), (26, 3, .goto 49, 0, 0, 0, 0), (29, 1, .iload_n 1, 0, 0, 0, 0), (30, 1, .iconst 1, 0, 0, 0, 0), (31, 3, .if_icmp .lt 19, 0, 0, 0, 0)], [(34, 1, .iload_n 1, 0, 0, 0, 0), (35, 2, .bipush 7, 0, 0, 0, 0), (37, 3, .if_icmp .gt 13, 0, 0, 0, 0), (40, 1, .aload_n 0, 0, 0, 0, 0), (41, 1, .iload_n 1, 0, 0, 0, 0), (42, 1, .iconst 1, 0, 0, 0, 0), (43, 1, .isub, 0, 0, 0, 0), (44, 3, .invokevirtual 65, 169, 0, 0, 677), (47, 3, .goto 28, 0, 0, 0, 0)], [(50, 1, .iload_n 1, 0, 0, 0, 0), (51, 2, .bipush 8, 0, 0, 0, 0), (53, 3, .if_icmp .lt 17, 0, 0, 0, 0), (56, 1, .iload_n 1, 0, 0, 0, 0), (57, 2, .bipush 11, 0, 0, 0, 0), (59, 3, .if_icmp .gt 11, 0, 0, 0, 0), (62, 1, .aload_n 0, 0, 0, 0, 0), (63, 1, .iload_n 1, 0, 0, 0, 0)], [(64, 3, .invokevirtual 68, 171, 0, 0, 722), (67, 3, .goto 8, 0, 0, 0, 0), (70, 1, .aload_n 0, 0, 0, 0, 0), (71, 1, .iconst 1, 0, 0, 0, 0), (72, 3, .invokevirtual 71, 176, 0, 0, 645), (75, 1, .return_, 0, 0, 0, 0)]], 2, 0, 1, 4, 0, 0, 0)
/-- StrawWatch$Reader.readUnit.(II)V -/
def mt_175 : List (List mm_I) × Nat × mm_M := ([[(0, 1, .aload_n 0, 0, 0, 0, 0), (1, 3, .getfield 52, 4, 3, 0, 277), (4, 1, .iconst 3, 0, 0, 0, 0), (5, 3, .if_icmp .ne 26, 0, 0, 0, 0), (8, 1, .aload_n 0, 0, 0, 0, 0), (9, 3, .getfield 9, 4, 1, 0, 275), (12, 3, .getfield 118, 6, 0, 0, 178), (15, 1, .iconst 0, 0, 0, 0, 0)], [(16, 1, .aload_n 0, 0, 0, 0, 0), (17, 3, .getfield 58, 4, 4, 0, 278), (20, 1, .l2i, 0, 0, 0, 0), (21, 3, .invokevirtual 135, 136, 0, 0, 697), (24, 1, .aload_n 0, 0, 0, 0, 0), (25, 3, .invokevirtual 49, 161, 0, 0, 633), (28, 3, .goto 108, 0, 0, 0, 0), (31, 1, .aload_n 0, 0, 0, 0, 0)], [(32, 3, .getfield 52, 4, 3, 0, 277), (35, 1, .iconst 5, 0, 0, 0, 0), (36, 3, .if_icmp .ne 51, 0, 0, 0, 0), (39, 1, .aload_n 0, 0, 0, 0, 0), (40, 3, .getfield 58, 4, 4, 0, 278), (43, 3, .ldc2_w 153, 0, 0, 15, 698), (46, 1, .lcmp, 0, 0, 0, 0), (47, 3, .ifCond .lt 40, 0, 0, 0, 0)], [(50, 1, .aload_n 0, 0, 0, 0, 0), (51, 3, .getfield 58, 4, 4, 0, 278), (54, 3, .ldc2_w 155, 0, 0, 23, 699), (57, 1, .lcmp, 0, 0, 0, 0), (58, 3, .ifCond .gt 29, 0, 0, 0, 0), (61, 1, .aload_n 0, 0, 0, 0, 0), (62, 3, .getfield 9, 4, 1, 0, 275)], [(65, 3, .getfield 118, 6, 0, 0, 178), (68, 1, .iload_n 1, 0, 0, 0, 0), (69, 1, .aload_n 0, 0, 0, 0, 0), (70, 3, .getfield 58, 4, 4, 0, 278), (73, 1, .l2i, 0, 0, 0, 0), (74, 2, .bipush 15, 0, 0, 0, 0), (76, 1, .isub, 0, 0, 0, 0), (77, 3, .invokevirtual 157, 137, 0, 0, 700)], [(80, 1, .aload_n 0, 0, 0, 0, 0), (81, 3, .invokevirtual 49, 161, 0, 0, 633), (84, 3, .goto 52, 0, 0, 0, 0), (87, 1, .aload_n 0, 0, 0, 0, 0), (88, 2, .bipush 40, 0, 0, 0, 0), (90, 3, .invokevirtual 160, 163, 0, 0, 673), (93, 3, .ifCond .ne 11, 0, 0, 0, 0)], [(96, 1, .aload_n 0, 0, 0, 0, 0), (97, 1, .iconst 1, 0, 0, 0, 0), (98, 3, .invokevirtual 71, 176, 0, 0, 645), (101, 3, .goto 35, 0, 0, 0, 0), (104, 1, .iload_n 2, 0, 0, 0, 0), (105, 2, .bipush 6, 0, 0, 0, 0), (107, 3, .if_icmp .lt 11, 0, 0, 0, 0), (110, 1, .aload_n 0, 0, 0, 0, 0), (111, 1, .iconst 2, 0, 0, 0, 0)], [(112, 3, .invokevirtual 71, 176, 0, 0, 645), (115, 3, .goto 21, 0, 0, 0, 0), (118, 1, .aload_n 0, 0, 0, 0, 0), (119, 3, .invokevirtual 49, 161, 0, 0, 633), (122, 1, .aload_n 0, 0, 0, 0, 0), (123, 1, .iload_n 1, 0, 0, 0, 0), (124, 1, .iload_n 2, 0, 0, 0, 0), (125, 1, .iconst 1, 0, 0, 0, 0), (126, 1, .iadd, 0, 0, 0, 0), (127, 3, .invokevirtual 132, 172, 0, 0, 689)], [(130, 1, .aload_n 0, 0, 0, 0, 0), (131, 2, .bipush 41, 0, 0, 0, 0), (133, 3, .invokevirtual 96, 177, 0, 0, 669), (136, 1, .return_, 0, 0, 0, 0)]], 3, 2, 1, 4, 0, 0, 0)
/-- StrawWatch$Reader.refuse.(I)V -/
def mt_176 : List (List mm_I) × Nat × mm_M := ([[(0, 1, .aload_n 0, 0, 0, 0, 0), (1, 3, .getfield 37, 4, 6, 0, 280), (4, 3, .ifCond .ne 16, 0, 0, 0, 0), (7, 1, .aload_n 0, 0, 0, 0, 0), (8, 1, .iload_n 1, 0, 0, 0, 0), (9, 3, .putfield 37, 4, 6, 0, 280), (12, 1, .aload_n 0, 0, 0, 0, 0), (13, 1, .aload_n 0, 0, 0, 0, 0), (14, 3, .getfield 164, 4, 5, 0, 279)], [(17, 3, .putfield 24, 4, 7, 0, 281), (20, 1, .aload_n 0, 0, 0, 0, 0), (21, 1, .iconst 1, 0, 0, 0, 0), (22, 3, .putfield 52, 4, 3, 0, 277), (25, 1, .return_, 0, 0, 0, 0)]], 2, 1, 1, 4, 0, 0, 0)
/-- StrawWatch$Reader.sign.(C)V -/
def mt_177 : List (List mm_I) × Nat × mm_M := ([[(0, 1, .aload_n 0, 0, 0, 0, 0), (1, 1, .iload_n 1, 0, 0, 0, 0), (2, 3, .invokevirtual 160, 163, 0, 0, 673), (5, 3, .ifCond .eq 10, 0, 0, 0, 0), (8, 1, .aload_n 0, 0, 0, 0, 0), (9, 3, .invokevirtual 49, 161, 0, 0, 633), (12, 3, .goto 8, 0, 0, 0, 0), (15, 1, .aload_n 0, 0, 0, 0, 0)], [(16, 1, .iconst 1, 0, 0, 0, 0), (17, 3, .invokevirtual 71, 176, 0, 0, 645), (20, 1, .return_, 0, 0, 0, 0)]], 2, 1, 1, 4, 0, 0, 0)
/-- StrawWatch$Reader.word.(I)V -/
def mt_178 : List (List mm_I) × Nat × mm_M := ([[(0, 1, .aload_n 0, 0, 0, 0, 0), (1, 1, .iload_n 1, 0, 0, 0, 0), (2, 3, .invokevirtual 128, 164, 0, 0, 685), (5, 3, .ifCond .eq 10, 0, 0, 0, 0), (8, 1, .aload_n 0, 0, 0, 0, 0), (9, 3, .invokevirtual 49, 161, 0, 0, 633), (12, 3, .goto 8, 0, 0, 0, 0), (15, 1, .aload_n 0, 0, 0, 0, 0)], [(16, 1, .iconst 1, 0, 0, 0, 0), (17, 3, .invokevirtual 71, 176, 0, 0, 645), (20, 1, .return_, 0, 0, 0, 0)]], 2, 1, 1, 4, 0, 0, 0)
/-- StrawWatch$Ship.drawStraws.()V -/
def mt_179 : List (List mm_I) × Nat × mm_M := ([[(0, 1, .aload_n 0, 0, 0, 0, 0), (1, 3, .getfield 18, 5, 2, 0, 314), (4, 3, .getfield 49, 6, 4, 0, 188), (7, 1, .istore_n 1, 0, 0, 0, 0), (8, 1, .aload_n 0, 0, 0, 0, 0), (9, 3, .getfield 9, 5, 0, 0, 311), (12, 1, .iconst 5, 0, 0, 0, 0), (13, 1, .iaload, 0, 0, 0, 0), (14, 1, .iload_n 1, 0, 0, 0, 0), (15, 3, .if_icmp .ge 4, 0, 0, 0, 0)], [(18, 1, .return_, 0, 0, 0, 0), (19, 1, .aload_n 0, 0, 0, 0, 0), (20, 3, .getfield 9, 5, 0, 0, 311), (23, 1, .iconst 5, 0, 0, 0, 0), (24, 1, .dup2, 0, 0, 0, 0), (25, 1, .iaload, 0, 0, 0, 0), (26, 1, .iload_n 1, 0, 0, 0, 0), (27, 1, .isub, 0, 0, 0, 0), (28, 1, .iastore, 0, 0, 0, 0), (29, 1, .iconst 0, 0, 0, 0, 0), (30, 1, .istore_n 2, 0, 0, 0, 0), (31, 1, .iload_n 2, 0, 0, 0, 0)], [(32, 1, .iload_n 1, 0, 0, 0, 0), (33, 3, .if_icmp .ge 22, 0, 0, 0, 0), (36, 1, .iload_n 2, 0, 0, 0, 0), (37, 2, .bipush 6, 0, 0, 0, 0), (39, 3, .if_icmp .ge 16, 0, 0, 0, 0), (42, 1, .aload_n 0, 0, 0, 0, 0), (43, 3, .getfield 15, 5, 1, 0, 313), (46, 1, .iload_n 2, 0, 0, 0, 0), (47, 1, .iload_n 2, 0, 0, 0, 0)], [(48, 1, .iastore, 0, 0, 0, 0), (49, 3, .iinc 2 1, 0, 0, 0, 0), (52, 3, .goto (-21), 0, 0, 0, 0), (55, 1, .iconst 0, 0, 0, 0, 0), (56, 1, .istore_n 2, 0, 0, 0, 0), (57, 1, .iload_n 2, 0, 0, 0, 0), (58, 1, .iconst 4, 0, 0, 0, 0), (59, 3, .if_icmp .ge 56, 0, 0, 0, 0), (62, 1, .iload_n 1, 0, 0, 0, 0), (63, 1, .iload_n 2, 0, 0, 0, 0)], [(64, 1, .isub, 0, 0, 0, 0), (65, 1, .istore_n 3, 0, 0, 0, 0), (66, 1, .aload_n 0, 0, 0, 0, 0), (67, 3, .getfield 9, 5, 0, 0, 311), (70, 2, .bipush 11, 0, 0, 0, 0), (72, 1, .iload_n 2, 0, 0, 0, 0), (73, 1, .iadd, 0, 0, 0, 0), (74, 1, .iload_n 3, 0, 0, 0, 0), (75, 3, .ifCond .le 31, 0, 0, 0, 0), (78, 1, .aload_n 0, 0, 0, 0, 0), (79, 3, .getfield 15, 5, 1, 0, 313)], [(82, 1, .iload_n 3, 0, 0, 0, 0), (83, 1, .aload_n 0, 0, 0, 0, 0), (84, 1, .iload_n 3, 0, 0, 0, 0), (85, 2, .bipush 64, 0, 0, 0, 0), (87, 1, .aload_n 0, 0, 0, 0, 0), (88, 3, .getfield 9, 5, 0, 0, 311), (91, 2, .bipush 7, 0, 0, 0, 0), (93, 1, .iaload, 0, 0, 0, 0), (94, 1, .imul, 0, 0, 0, 0), (95, 1, .iload_n 2, 0, 0, 0, 0)], [(96, 1, .iadd, 0, 0, 0, 0), (97, 3, .invokevirtual 91, 186, 0, 0, 882), (100, 3, .invokestatic 95, 265, 0, 0, 890), (103, 3, .goto 5, 0, 0, 0, 0), (106, 2, .bipush (-2), 0, 0, 0, 0), (108, 1, .iastore, 0, 0, 0, 0), (109, 3, .iinc 2 1, 0, 0, 0, 0)], [(112, 3, .goto (-55), 0, 0, 0, 0), (115, 1, .aload_n 0, 0, 0, 0, 0), (116, 3, .invokevirtual 99, 182, 0, 0, 891), (119, 1, .return_, 0, 0, 0, 0)]], 4, 0, 1, 5, 0, 0, 0)
/-- StrawWatch$Ship.findEnd.()V -/
def mt_180 : List (List mm_I) × Nat × mm_M := ([[(0, 1, .aload_n 0, 0, 0, 0, 0), (1, 3, .getfield 9, 5, 0, 0, 311), (4, 1, .iconst 0, 0, 0, 0, 0), (5, 1, .iaload, 0, 0, 0, 0), (6, 1, .aload_n 0, 0, 0, 0, 0), (7, 3, .getfield 18, 5, 2, 0, 314), (10, 3, .getfield 122, 6, 8, 0, 203), (13, 3, .if_icmp .lt 28, 0, 0, 0, 0)], [(16, 1, .aload_n 0, 0, 0, 0, 0), (17, 3, .getfield 9, 5, 0, 0, 311), (20, 2, .bipush 6, 0, 0, 0, 0), (22, 1, .iconst 1, 0, 0, 0, 0), (23, 1, .iastore, 0, 0, 0, 0), (24, 1, .aload_n 0, 0, 0, 0, 0), (25, 3, .getfield 9, 5, 0, 0, 311), (28, 2, .bipush 9, 0, 0, 0, 0), (30, 1, .aload_n 0, 0, 0, 0, 0), (31, 3, .getfield 9, 5, 0, 0, 311)], [(34, 2, .bipush 11, 0, 0, 0, 0), (36, 1, .iaload, 0, 0, 0, 0), (37, 1, .iastore, 0, 0, 0, 0), (38, 3, .goto 40, 0, 0, 0, 0), (41, 1, .aload_n 0, 0, 0, 0, 0), (42, 3, .getfield 9, 5, 0, 0, 311), (45, 1, .iconst 1, 0, 0, 0, 0), (46, 1, .iaload, 0, 0, 0, 0), (47, 3, .ifCond .ne 14, 0, 0, 0, 0)], [(50, 1, .aload_n 0, 0, 0, 0, 0), (51, 3, .getfield 9, 5, 0, 0, 311), (54, 2, .bipush 6, 0, 0, 0, 0), (56, 1, .iconst 2, 0, 0, 0, 0), (57, 1, .iastore, 0, 0, 0, 0), (58, 3, .goto 20, 0, 0, 0, 0), (61, 1, .aload_n 0, 0, 0, 0, 0), (62, 3, .getfield 9, 5, 0, 0, 311)], [(65, 1, .iconst 2, 0, 0, 0, 0), (66, 1, .iaload, 0, 0, 0, 0), (67, 3, .ifCond .ne 11, 0, 0, 0, 0), (70, 1, .aload_n 0, 0, 0, 0, 0), (71, 3, .getfield 9, 5, 0, 0, 311), (74, 2, .bipush 6, 0, 0, 0, 0), (76, 1, .iconst 3, 0, 0, 0, 0), (77, 1, .iastore, 0, 0, 0, 0), (78, 1, .return_, 0, 0, 0, 0)]], 1, 0, 1, 5, 0, 0, 0)
/-- StrawWatch$Ship.follow.(LStrawWatch$Ship;)V -/
def mt_181 : List (List mm_I) × Nat × mm_M := ([[(0, 1, .aload_n 1, 0, 0, 0, 0), (1, 3, .getfield 9, 5, 0, 0, 311), (4, 1, .iconst 0, 0, 0, 0, 0), (5, 1, .aload_n 0, 0, 0, 0, 0), (6, 3, .getfield 9, 5, 0, 0, 311), (9, 1, .iconst 0, 0, 0, 0, 0), (10, 2, .bipush 27, 0, 0, 0, 0), (12, 3, .invokestatic 59, 1, 0, 0, 1049), (15, 1, .aload_n 0, 0, 0, 0, 0)], [(16, 1, .aload_n 0, 0, 0, 0, 0), (17, 3, .getfield 18, 5, 2, 0, 314), (20, 3, .getfield 55, 6, 10, 0, 209), (23, 3, .putfield 22, 5, 3, 0, 315), (26, 1, .aload_n 0, 0, 0, 0, 0), (27, 1, .iconst (-1), 0, 0, 0, 0), (28, 3, .putfield 26, 5, 4, 0, 316), (31, 1, .return_, 0, 0, 0, 0)]], 2, 1, 1, 5, 0, 0, 0)
/-- StrawWatch$Ship.hideCaptain.()V -/
def mt_182 : List (List mm_I) × Nat × mm_M := ([[(0, 1, .aload_n 0, 0, 0, 0, 0), (1, 3, .getfield 9, 5, 0, 0, 311), (4, 2, .bipush 11, 0, 0, 0, 0), (6, 1, .iaload, 0, 0, 0, 0), (7, 1, .istore_n 1, 0, 0, 0, 0), (8, 1, .aload_n 0, 0, 0, 0, 0), (9, 3, .getfield 9, 5, 0, 0, 311), (12, 2, .bipush 12, 0, 0, 0, 0), (14, 1, .iaload, 0, 0, 0, 0), (15, 1, .istore_n 2, 0, 0, 0, 0)], [(16, 1, .aload_n 0, 0, 0, 0, 0), (17, 3, .getfield 18, 5, 2, 0, 314), (20, 1, .iload_n 1, 0, 0, 0, 0), (21, 3, .invokevirtual 102, 203, 0, 0, 865), (24, 3, .ifCond .eq 34, 0, 0, 0, 0), (27, 1, .aload_n 0, 0, 0, 0, 0), (28, 3, .getfield 18, 5, 2, 0, 314), (31, 1, .iload_n 2, 0, 0, 0, 0)], [(32, 3, .invokevirtual 102, 203, 0, 0, 865), (35, 3, .ifCond .eq 23, 0, 0, 0, 0), (38, 1, .aload_n 0, 0, 0, 0, 0), (39, 1, .iload_n 1, 0, 0, 0, 0), (40, 3, .invokevirtual 105, 183, 0, 0, 895), (43, 3, .ifCond .eq 15, 0, 0, 0, 0), (46, 1, .aload_n 0, 0, 0, 0, 0), (47, 3, .getfield 9, 5, 0, 0, 311)], [(50, 2, .bipush 15, 0, 0, 0, 0), (52, 1, .iload_n 1, 0, 0, 0, 0), (53, 1, .iadd, 0, 0, 0, 0), (54, 1, .iaload, 0, 0, 0, 0), (55, 3, .ifCond .ne 4, 0, 0, 0, 0), (58, 1, .return_, 0, 0, 0, 0), (59, 1, .aload_n 0, 0, 0, 0, 0), (60, 3, .getfield 9, 5, 0, 0, 311), (63, 2, .bipush 15, 0, 0, 0, 0)], [(65, 1, .iload_n 1, 0, 0, 0, 0), (66, 1, .iadd, 0, 0, 0, 0), (67, 1, .dup2, 0, 0, 0, 0), (68, 1, .iaload, 0, 0, 0, 0), (69, 1, .iconst 1, 0, 0, 0, 0), (70, 1, .isub, 0, 0, 0, 0), (71, 1, .iastore, 0, 0, 0, 0), (72, 1, .aload_n 0, 0, 0, 0, 0), (73, 3, .getfield 9, 5, 0, 0, 311), (76, 2, .bipush 11, 0, 0, 0, 0), (78, 1, .iload_n 2, 0, 0, 0, 0), (79, 1, .iastore, 0, 0, 0, 0)], [(80, 1, .aload_n 0, 0, 0, 0, 0), (81, 3, .getfield 9, 5, 0, 0, 311), (84, 2, .bipush 12, 0, 0, 0, 0), (86, 1, .iload_n 1, 0, 0, 0, 0), (87, 1, .iastore, 0, 0, 0, 0), (88, 1, .return_, 0, 0, 0, 0)]], 3, 0, 1, 5, 0, 0, 0)
/-- StrawWatch$Ship.hides.(I)Z -/
def mt_183 : List (List mm_I) × Nat × mm_M := ([[(0, 1, .aload_n 0, 0, 0, 0, 0), (1, 3, .getfield 9, 5, 0, 0, 311), (4, 2, .bipush 8, 0, 0, 0, 0), (6, 1, .iaload, 0, 0, 0, 0), (7, 1, .iload_n 1, 0, 0, 0, 0), (8, 1, .ishr, 0, 0, 0, 0), (9, 1, .iconst 1, 0, 0, 0, 0), (10, 1, .iand, 0, 0, 0, 0), (11, 1, .iconst 1, 0, 0, 0, 0), (12, 3, .if_icmp .ne 7, 0, 0, 0, 0), (15, 1, .iconst 1, 0, 0, 0, 0)], [(16, 3, .goto 4, 0, 0, 0, 0), (19, 1, .iconst 0, 0, 0, 0, 0), (20, 1, .ireturn, 0, 0, 0, 0)]], 2, 1, 1, 5, 2, 0, 0)
/-- StrawWatch$Ship.<init>.(LStrawWatch$Text;)V -/
def mt_184 : List (List mm_I) × Nat × mm_M := ([[(0, 1, .aload_n 0, 0, 0, 0, 0), (1, 3, .invokespecial 3, 0, 0, 0, 310), (4, 1, .aload_n 0, 0, 0, 0, 0), (5, 2, .bipush 27, 0, 0, 0, 0), (7, 2, .newarray .int, 0, 0, 0, 160), (9, 3, .putfield 9, 5, 0, 0, 311), (12, 1, .aload_n 0, 0, 0, 0, 0), (13, 2, .bipush 6, 0, 0, 0, 0), (15, 2, .newarray .int, 0, 0, 0, 160)], [(17, 3, .putfield 15, 5, 1, 0, 313), (20, 1, .aload_n 0, 0, 0, 0, 0), (21, 1, .aload_n 1, 0, 0, 0, 0), (22, 3, .putfield 18, 5, 2, 0, 314), (25, 1, .aload_n 0, 0, 0, 0, 0), (26, 1, .iconst 0, 0, 0, 0, 0), (27, 3, .putfield 22, 5, 3, 0, 315), (30, 1, .aload_n 0, 0, 0, 0, 0), (31, 1, .iconst (-1), 0, 0, 0, 0)], [(32, 3, .putfield 26, 5, 4, 0, 316), (35, 1, .return_, 0, 0, 0, 0)]], 2, 1, 2, 5, 0, 2, 33)
/-- StrawWatch$Ship.keepWatch.()I -/
def mt_185 : List (List mm_I) × Nat × mm_M := ([[(0, 1, .aload_n 0, 0, 0, 0, 0), (1, 3, .getfield 18, 5, 2, 0, 314), (4, 3, .getfield 72, 6, 0, 0, 180), (7, 1, .astore_n 1, 0, 0, 0, 0), (8, 1, .aload_n 1, 0, 0, 0, 0), (9, 1, .aload_n 0, 0, 0, 0, 0), (10, 3, .getfield 9, 5, 0, 0, 311), (13, 2, .bipush 7, 0, 0, 0, 0), (15, 1, .iaload, 0, 0, 0, 0)], [(16, 1, .aload_n 0, 0, 0, 0, 0), (17, 3, .getfield 9, 5, 0, 0, 311), (20, 1, .iconst 0, 0, 0, 0, 0), (21, 1, .iaload, 0, 0, 0, 0), (22, 3, .invokevirtual 81, 140, 0, 0, 799), (25, 1, .aload_n 0, 0, 0, 0, 0), (26, 3, .getfield 18, 5, 2, 0, 314), (29, 1, .aload_n 0, 0, 0, 0, 0), (30, 3, .getfield 9, 5, 0, 0, 311)], [(33, 2, .bipush 11, 0, 0, 0, 0), (35, 3, .invokevirtual 112, 206, 0, 0, 853), (38, 1, .aload_n 0, 0, 0, 0, 0), (39, 3, .invokevirtual 115, 191, 0, 0, 858), (42, 1, .istore_n 2, 0, 0, 0, 0), (43, 1, .aload_n 1, 0, 0, 0, 0), (44, 3, .getfield 76, 1, 0, 0, 143), (47, 2, .bipush 6, 0, 0, 0, 0)], [(49, 1, .iload_n 2, 0, 0, 0, 0), (50, 1, .iastore, 0, 0, 0, 0), (51, 1, .aload_n 0, 0, 0, 0, 0), (52, 3, .getfield 9, 5, 0, 0, 311), (55, 1, .iconst 0, 0, 0, 0, 0), (56, 1, .aload_n 0, 0, 0, 0, 0), (57, 3, .getfield 9, 5, 0, 0, 311), (60, 1, .iconst 0, 0, 0, 0, 0), (61, 1, .iaload, 0, 0, 0, 0), (62, 1, .aload_n 1, 0, 0, 0, 0), (63, 1, .iconst 3, 0, 0, 0, 0)], [(64, 3, .invokevirtual 118, 138, 0, 0, 862), (67, 1, .iadd, 0, 0, 0, 0), (68, 1, .iconst 0, 0, 0, 0, 0), (69, 1, .aload_n 0, 0, 0, 0, 0), (70, 3, .getfield 18, 5, 2, 0, 314), (73, 3, .getfield 122, 6, 8, 0, 203), (76, 3, .invokestatic 125, 273, 0, 0, 863), (79, 1, .iastore, 0, 0, 0, 0)], [(80, 1, .aload_n 0, 0, 0, 0, 0), (81, 3, .getfield 9, 5, 0, 0, 311), (84, 1, .iconst 1, 0, 0, 0, 0), (85, 1, .iconst 0, 0, 0, 0, 0), (86, 1, .aload_n 0, 0, 0, 0, 0), (87, 3, .getfield 9, 5, 0, 0, 311), (90, 1, .iconst 1, 0, 0, 0, 0), (91, 1, .iaload, 0, 0, 0, 0), (92, 1, .aload_n 1, 0, 0, 0, 0), (93, 1, .iconst 4, 0, 0, 0, 0), (94, 3, .invokevirtual 118, 138, 0, 0, 862)], [(97, 1, .isub, 0, 0, 0, 0), (98, 3, .invokestatic 129, 277, 0, 0, 864), (101, 1, .iastore, 0, 0, 0, 0), (102, 1, .aload_n 0, 0, 0, 0, 0), (103, 3, .getfield 9, 5, 0, 0, 311), (106, 1, .iconst 2, 0, 0, 0, 0), (107, 1, .iconst 0, 0, 0, 0, 0), (108, 1, .aload_n 0, 0, 0, 0, 0), (109, 3, .getfield 9, 5, 0, 0, 311)], [(112, 1, .iconst 2, 0, 0, 0, 0), (113, 1, .iaload, 0, 0, 0, 0), (114, 1, .aload_n 1, 0, 0, 0, 0), (115, 1, .iconst 5, 0, 0, 0, 0), (116, 3, .invokevirtual 118, 138, 0, 0, 862), (119, 1, .isub, 0, 0, 0, 0), (120, 3, .invokestatic 129, 277, 0, 0, 864), (123, 1, .iastore, 0, 0, 0, 0), (124, 1, .aload_n 0, 0, 0, 0, 0), (125, 3, .getfield 9, 5, 0, 0, 311)], [(128, 1, .iconst 3, 0, 0, 0, 0), (129, 1, .aload_n 0, 0, 0, 0, 0), (130, 3, .getfield 9, 5, 0, 0, 311), (133, 1, .iconst 3, 0, 0, 0, 0), (134, 1, .iaload, 0, 0, 0, 0), (135, 1, .aload_n 1, 0, 0, 0, 0), (136, 2, .bipush 6, 0, 0, 0, 0), (138, 3, .invokevirtual 118, 138, 0, 0, 862), (141, 1, .iadd, 0, 0, 0, 0), (142, 1, .iconst 0, 0, 0, 0, 0), (143, 2, .bipush 99, 0, 0, 0, 0)], [(145, 3, .invokestatic 125, 273, 0, 0, 863), (148, 1, .iastore, 0, 0, 0, 0), (149, 1, .aload_n 0, 0, 0, 0, 0), (150, 3, .getfield 9, 5, 0, 0, 311), (153, 2, .bipush 7, 0, 0, 0, 0), (155, 1, .dup2, 0, 0, 0, 0), (156, 1, .iaload, 0, 0, 0, 0), (157, 1, .iconst 1, 0, 0, 0, 0), (158, 1, .iadd, 0, 0, 0, 0), (159, 1, .iastore, 0, 0, 0, 0)], [(160, 1, .aload_n 0, 0, 0, 0, 0), (161, 3, .getfield 18, 5, 2, 0, 314), (164, 1, .aload_n 0, 0, 0, 0, 0), (165, 3, .getfield 9, 5, 0, 0, 311), (168, 2, .bipush 11, 0, 0, 0, 0), (170, 1, .iaload, 0, 0, 0, 0), (171, 3, .invokevirtual 102, 203, 0, 0, 865), (174, 3, .ifCond .eq 22, 0, 0, 0, 0)], [(177, 1, .aload_n 0, 0, 0, 0, 0), (178, 3, .getfield 9, 5, 0, 0, 311), (181, 2, .bipush 21, 0, 0, 0, 0), (183, 1, .aload_n 0, 0, 0, 0, 0), (184, 3, .getfield 9, 5, 0, 0, 311), (187, 2, .bipush 11, 0, 0, 0, 0), (189, 1, .iaload, 0, 0, 0, 0), (190, 1, .iadd, 0, 0, 0, 0), (191, 1, .dup2, 0, 0, 0, 0)], [(192, 1, .iaload, 0, 0, 0, 0), (193, 1, .iconst 1, 0, 0, 0, 0), (194, 1, .iadd, 0, 0, 0, 0), (195, 1, .iastore, 0, 0, 0, 0), (196, 1, .aload_n 0, 0, 0, 0, 0), (197, 3, .invokevirtual 134, 189, 0, 0, 866), (200, 1, .aload_n 0, 0, 0, 0, 0), (201, 3, .invokevirtual 56, 180, 0, 0, 414), (204, 1, .iload_n 2, 0, 0, 0, 0), (205, 1, .ireturn, 0, 0, 0, 0)]], 3, 0, 1, 5, 1, 0, 0)
/-- StrawWatch$Ship.lot.(II)I -/
def mt_186 : List (List mm_I) × Nat × mm_M := ([[(0, 1, .aload_n 0, 0, 0, 0, 0), (1, 3, .getfield 22, 5, 3, 0, 315), (4, 2, .bipush 81, 0, 0, 0, 0), (6, 3, .invokestatic 108, 198, 0, 0, 886), (9, 1, .iload_n 2, 0, 0, 0, 0), (10, 3, .invokestatic 108, 198, 0, 0, 886), (13, 1, .istore_n 3, 0, 0, 0, 0), (14, 1, .iload_n 1, 0, 0, 0, 0), (15, 3, .ifCond .le 11, 0, 0, 0, 0)], [(18, 1, .iload_n 3, 0, 0, 0, 0), (19, 1, .iconst 1, 0, 0, 0, 0), (20, 1, .iushr, 0, 0, 0, 0), (21, 1, .iload_n 1, 0, 0, 0, 0), (22, 1, .irem, 0, 0, 0, 0), (23, 3, .goto 4, 0, 0, 0, 0), (26, 1, .iconst 0, 0, 0, 0, 0), (27, 1, .ireturn, 0, 0, 0, 0)]], 4, 2, 1, 5, 1, 0, 0)
/-- StrawWatch$Ship.measure.(I)I -/
def mt_187 : List (List mm_I) × Nat × mm_M := ([[(0, 1, .iload_n 1, 0, 0, 0, 0), (1, 3, .ifCond .lt 16, 0, 0, 0, 0), (4, 1, .iload_n 1, 0, 0, 0, 0), (5, 2, .bipush 7, 0, 0, 0, 0), (7, 3, .if_icmp .gt 10, 0, 0, 0, 0), (10, 1, .aload_n 0, 0, 0, 0, 0), (11, 3, .getfield 9, 5, 0, 0, 311), (14, 1, .iload_n 1, 0, 0, 0, 0), (15, 1, .iaload, 0, 0, 0, 0)], [(16, 1, .ireturn, 0, 0, 0, 0), (17, 1, .iload_n 1, 0, 0, 0, 0), (18, 2, .bipush 8, 0, 0, 0, 0), (20, 3, .if_icmp .lt 9, 0, 0, 0, 0), (23, 1, .iload_n 1, 0, 0, 0, 0), (24, 2, .bipush 9, 0, 0, 0, 0), (26, 3, .if_icmp .le 5, 0, 0, 0, 0), (29, 1, .iconst (-1), 0, 0, 0, 0), (30, 1, .ireturn, 0, 0, 0, 0), (31, 1, .aload_n 0, 0, 0, 0, 0)], [(32, 3, .invokevirtual 69, 188, 0, 0, 795), (35, 1, .aload_n 0, 0, 0, 0, 0), (36, 3, .getfield 18, 5, 2, 0, 314), (39, 3, .getfield 72, 6, 0, 0, 180), (42, 3, .getfield 76, 1, 0, 0, 143), (45, 1, .iload_n 1, 0, 0, 0, 0), (46, 2, .bipush 8, 0, 0, 0, 0)], [(48, 3, .if_icmp .ne 8, 0, 0, 0, 0), (51, 2, .bipush 7, 0, 0, 0, 0), (53, 3, .goto 5, 0, 0, 0, 0), (56, 2, .bipush 8, 0, 0, 0, 0), (58, 1, .iaload, 0, 0, 0, 0), (59, 1, .ireturn, 0, 0, 0, 0)]], 2, 1, 1, 5, 1, 0, 0)
/-- StrawWatch$Ship.noteWeather.()V -/
def mt_188 : List (List mm_I) × Nat × mm_M := ([[(0, 1, .aload_n 0, 0, 0, 0, 0), (1, 3, .getfield 18, 5, 2, 0, 314), (4, 3, .getfield 72, 6, 0, 0, 180), (7, 1, .aload_n 0, 0, 0, 0, 0), (8, 3, .getfield 9, 5, 0, 0, 311), (11, 2, .bipush 7, 0, 0, 0, 0), (13, 1, .iaload, 0, 0, 0, 0), (14, 1, .aload_n 0, 0, 0, 0, 0), (15, 3, .getfield 9, 5, 0, 0, 311)], [(18, 1, .iconst 0, 0, 0, 0, 0), (19, 1, .iaload, 0, 0, 0, 0), (20, 3, .invokevirtual 81, 140, 0, 0, 799), (23, 1, .return_, 0, 0, 0, 0)]], 1, 0, 1, 5, 0, 0, 0)
/-- StrawWatch$Ship.passMutiny.()V -/
def mt_189 : List (List mm_I) × Nat × mm_M := ([[(0, 1, .aload_n 0, 0, 0, 0, 0), (1, 3, .getfield 9, 5, 0, 0, 311), (4, 1, .iconst 4, 0, 0, 0, 0), (5, 1, .iaload, 0, 0, 0, 0), (6, 3, .ifCond .le 13, 0, 0, 0, 0), (9, 1, .aload_n 0, 0, 0, 0, 0), (10, 3, .getfield 9, 5, 0, 0, 311), (13, 1, .iconst 4, 0, 0, 0, 0), (14, 1, .dup2, 0, 0, 0, 0), (15, 1, .iaload, 0, 0, 0, 0)], [(16, 1, .iconst 1, 0, 0, 0, 0), (17, 1, .isub, 0, 0, 0, 0), (18, 1, .iastore, 0, 0, 0, 0), (19, 1, .aload_n 0, 0, 0, 0, 0), (20, 3, .getfield 9, 5, 0, 0, 311), (23, 1, .iconst 4, 0, 0, 0, 0), (24, 1, .iaload, 0, 0, 0, 0), (25, 3, .ifCond .ne 30, 0, 0, 0, 0), (28, 1, .aload_n 0, 0, 0, 0, 0), (29, 3, .getfield 9, 5, 0, 0, 311)], [(32, 1, .iconst 3, 0, 0, 0, 0), (33, 1, .iaload, 0, 0, 0, 0), (34, 3, .ifCond .ne 21, 0, 0, 0, 0), (37, 1, .aload_n 0, 0, 0, 0, 0), (38, 3, .getfield 9, 5, 0, 0, 311), (41, 1, .iconst 4, 0, 0, 0, 0), (42, 1, .iconst 4, 0, 0, 0, 0), (43, 1, .iastore, 0, 0, 0, 0), (44, 1, .aload_n 0, 0, 0, 0, 0), (45, 3, .getfield 9, 5, 0, 0, 311)], [(48, 2, .bipush 10, 0, 0, 0, 0), (50, 1, .dup2, 0, 0, 0, 0), (51, 1, .iaload, 0, 0, 0, 0), (52, 1, .iconst 1, 0, 0, 0, 0), (53, 1, .iadd, 0, 0, 0, 0), (54, 1, .iastore, 0, 0, 0, 0), (55, 1, .return_, 0, 0, 0, 0)]], 1, 0, 1, 5, 0, 0, 0)
/-- StrawWatch$Ship.postOf.(I)I -/
def mt_190 : List (List mm_I) × Nat × mm_M := ([[(0, 1, .iconst 0, 0, 0, 0, 0), (1, 1, .istore_n 2, 0, 0, 0, 0), (2, 1, .iload_n 2, 0, 0, 0, 0), (3, 1, .iconst 4, 0, 0, 0, 0), (4, 3, .if_icmp .ge 24, 0, 0, 0, 0), (7, 1, .aload_n 0, 0, 0, 0, 0), (8, 3, .getfield 9, 5, 0, 0, 311), (11, 2, .bipush 11, 0, 0, 0, 0), (13, 1, .iload_n 2, 0, 0, 0, 0), (14, 1, .iadd, 0, 0, 0, 0), (15, 1, .iaload, 0, 0, 0, 0)], [(16, 1, .iload_n 1, 0, 0, 0, 0), (17, 3, .if_icmp .ne 5, 0, 0, 0, 0), (20, 1, .iload_n 2, 0, 0, 0, 0), (21, 1, .ireturn, 0, 0, 0, 0), (22, 3, .iinc 2 1, 0, 0, 0, 0), (25, 3, .goto (-23), 0, 0, 0, 0), (28, 2, .bipush (-2), 0, 0, 0, 0), (30, 1, .ireturn, 0, 0, 0, 0)]], 3, 1, 1, 5, 1, 0, 0)
/-- StrawWatch$Ship.sailNow.()I -/
def mt_191 : List (List mm_I) × Nat × mm_M := ([[(0, 1, .aload_n 0, 0, 0, 0, 0), (1, 3, .getfield 9, 5, 0, 0, 311), (4, 1, .iconst 4, 0, 0, 0, 0), (5, 1, .iaload, 0, 0, 0, 0), (6, 3, .ifCond .le 5, 0, 0, 0, 0), (9, 1, .iconst 0, 0, 0, 0, 0), (10, 1, .ireturn, 0, 0, 0, 0), (11, 1, .aload_n 0, 0, 0, 0, 0), (12, 3, .getfield 26, 5, 4, 0, 316), (15, 1, .iconst (-1), 0, 0, 0, 0)], [(16, 3, .if_icmp .ne 17, 0, 0, 0, 0), (19, 1, .aload_n 0, 0, 0, 0, 0), (20, 3, .getfield 18, 5, 2, 0, 314), (23, 3, .getfield 72, 6, 0, 0, 180), (26, 1, .iconst 2, 0, 0, 0, 0), (27, 3, .invokevirtual 118, 138, 0, 0, 862), (30, 3, .goto 7, 0, 0, 0, 0)], [(33, 1, .aload_n 0, 0, 0, 0, 0), (34, 3, .getfield 26, 5, 4, 0, 316), (37, 1, .ireturn, 0, 0, 0, 0)]], 1, 0, 1, 5, 1, 0, 0)
/-- StrawWatch$Ship.sailOn.(I)I -/
def mt_192 : List (List mm_I) × Nat × mm_M := ([[(0, 1, .iconst 0, 0, 0, 0, 0), (1, 1, .istore_n 2, 0, 0, 0, 0), (2, 1, .iload_n 2, 0, 0, 0, 0), (3, 1, .iload_n 1, 0, 0, 0, 0), (4, 3, .if_icmp .ge 28, 0, 0, 0, 0), (7, 1, .aload_n 0, 0, 0, 0, 0), (8, 3, .getfield 9, 5, 0, 0, 311), (11, 2, .bipush 6, 0, 0, 0, 0), (13, 1, .iaload, 0, 0, 0, 0), (14, 3, .ifCond .ne 18, 0, 0, 0, 0)], [(17, 1, .aload_n 0, 0, 0, 0, 0), (18, 3, .invokevirtual 84, 179, 0, 0, 878), (21, 1, .aload_n 0, 0, 0, 0, 0), (22, 3, .invokevirtual 87, 185, 0, 0, 896), (25, 1, .pop, 0, 0, 0, 0), (26, 3, .iinc 2 1, 0, 0, 0, 0), (29, 3, .goto (-27), 0, 0, 0, 0)], [(32, 1, .iload_n 2, 0, 0, 0, 0), (33, 1, .ireturn, 0, 0, 0, 0)]], 3, 1, 1, 5, 1, 0, 0)
/-- StrawWatch$Ship.setHides.(IZ)V -/
def mt_193 : List (List mm_I) × Nat × mm_M := ([[(0, 1, .iconst 1, 0, 0, 0, 0), (1, 1, .iload_n 1, 0, 0, 0, 0), (2, 1, .ishl, 0, 0, 0, 0), (3, 1, .istore_n 3, 0, 0, 0, 0), (4, 1, .aload_n 0, 0, 0, 0, 0), (5, 3, .getfield 9, 5, 0, 0, 311), (8, 2, .bipush 8, 0, 0, 0, 0), (10, 1, .iload_n 2, 0, 0, 0, 0), (11, 3, .ifCond .eq 15, 0, 0, 0, 0), (14, 1, .aload_n 0, 0, 0, 0, 0), (15, 3, .getfield 9, 5, 0, 0, 311)], [(18, 2, .bipush 8, 0, 0, 0, 0), (20, 1, .iaload, 0, 0, 0, 0), (21, 1, .iload_n 3, 0, 0, 0, 0), (22, 1, .ior, 0, 0, 0, 0), (23, 3, .goto 14, 0, 0, 0, 0), (26, 1, .aload_n 0, 0, 0, 0, 0), (27, 3, .getfield 9, 5, 0, 0, 311), (30, 2, .bipush 8, 0, 0, 0, 0)], [(32, 1, .iaload, 0, 0, 0, 0), (33, 1, .iload_n 3, 0, 0, 0, 0), (34, 1, .iconst (-1), 0, 0, 0, 0), (35, 1, .ixor, 0, 0, 0, 0), (36, 1, .iand, 0, 0, 0, 0), (37, 1, .iastore, 0, 0, 0, 0), (38, 1, .return_, 0, 0, 0, 0)]], 4, 2, 1, 5, 0, 0, 0)
/-- StrawWatch$Ship.setOut.(I)V -/
def mt_194 : List (List mm_I) × Nat × mm_M := ([[(0, 1, .aload_n 0, 0, 0, 0, 0), (1, 3, .getfield 9, 5, 0, 0, 311), (4, 1, .iconst 0, 0, 0, 0, 0), (5, 3, .invokestatic 29, 275, 0, 0, 411), (8, 1, .aload_n 0, 0, 0, 0, 0), (9, 3, .getfield 9, 5, 0, 0, 311), (12, 1, .iconst 0, 0, 0, 0, 0), (13, 1, .iload_n 1, 0, 0, 0, 0), (14, 1, .iastore, 0, 0, 0, 0), (15, 1, .aload_n 0, 0, 0, 0, 0)], [(16, 3, .getfield 9, 5, 0, 0, 311), (19, 1, .iconst 1, 0, 0, 0, 0), (20, 1, .aload_n 0, 0, 0, 0, 0), (21, 3, .getfield 18, 5, 2, 0, 314), (24, 3, .getfield 35, 6, 5, 0, 192), (27, 1, .iastore, 0, 0, 0, 0), (28, 1, .aload_n 0, 0, 0, 0, 0), (29, 3, .getfield 9, 5, 0, 0, 311)], [(32, 1, .iconst 2, 0, 0, 0, 0), (33, 1, .aload_n 0, 0, 0, 0, 0), (34, 3, .getfield 18, 5, 2, 0, 314), (37, 3, .getfield 40, 6, 6, 0, 195), (40, 1, .iastore, 0, 0, 0, 0), (41, 1, .aload_n 0, 0, 0, 0, 0), (42, 3, .getfield 9, 5, 0, 0, 311), (45, 1, .iconst 3, 0, 0, 0, 0), (46, 1, .aload_n 0, 0, 0, 0, 0), (47, 3, .getfield 18, 5, 2, 0, 314)], [(50, 3, .getfield 43, 6, 7, 0, 198), (53, 1, .iastore, 0, 0, 0, 0), (54, 1, .aload_n 0, 0, 0, 0, 0), (55, 3, .getfield 9, 5, 0, 0, 311), (58, 1, .iconst 5, 0, 0, 0, 0), (59, 1, .aload_n 0, 0, 0, 0, 0), (60, 3, .getfield 18, 5, 2, 0, 314), (63, 3, .getfield 46, 6, 9, 0, 206)], [(66, 1, .iastore, 0, 0, 0, 0), (67, 1, .aload_n 0, 0, 0, 0, 0), (68, 3, .getfield 9, 5, 0, 0, 311), (71, 2, .bipush 9, 0, 0, 0, 0), (73, 2, .bipush (-2), 0, 0, 0, 0), (75, 1, .iastore, 0, 0, 0, 0), (76, 1, .iconst 0, 0, 0, 0, 0), (77, 1, .istore_n 2, 0, 0, 0, 0), (78, 1, .iload_n 2, 0, 0, 0, 0), (79, 1, .iconst 4, 0, 0, 0, 0)], [(80, 3, .if_icmp .ge 20, 0, 0, 0, 0), (83, 1, .aload_n 0, 0, 0, 0, 0), (84, 3, .getfield 9, 5, 0, 0, 311), (87, 2, .bipush 11, 0, 0, 0, 0), (89, 1, .iload_n 2, 0, 0, 0, 0), (90, 1, .iadd, 0, 0, 0, 0), (91, 2, .bipush (-2), 0, 0, 0, 0), (93, 1, .iastore, 0, 0, 0, 0), (94, 3, .iinc 2 1, 0, 0, 0, 0)], [(97, 3, .goto (-19), 0, 0, 0, 0), (100, 1, .iconst 0, 0, 0, 0, 0), (101, 1, .istore_n 2, 0, 0, 0, 0), (102, 1, .iload_n 2, 0, 0, 0, 0), (103, 1, .aload_n 0, 0, 0, 0, 0), (104, 3, .getfield 18, 5, 2, 0, 314), (107, 3, .getfield 49, 6, 4, 0, 188), (110, 3, .if_icmp .ge 33, 0, 0, 0, 0)], [(113, 1, .iload_n 2, 0, 0, 0, 0), (114, 2, .bipush 6, 0, 0, 0, 0), (116, 3, .if_icmp .ge 27, 0, 0, 0, 0), (119, 1, .aload_n 0, 0, 0, 0, 0), (120, 3, .getfield 9, 5, 0, 0, 311), (123, 2, .bipush 15, 0, 0, 0, 0), (125, 1, .iload_n 2, 0, 0, 0, 0), (126, 1, .iadd, 0, 0, 0, 0), (127, 1, .aload_n 0, 0, 0, 0, 0)], [(128, 3, .getfield 18, 5, 2, 0, 314), (131, 3, .getfield 52, 6, 2, 0, 184), (134, 1, .iload_n 2, 0, 0, 0, 0), (135, 1, .iaload, 0, 0, 0, 0), (136, 1, .iastore, 0, 0, 0, 0), (137, 3, .iinc 2 1, 0, 0, 0, 0), (140, 3, .goto (-38), 0, 0, 0, 0), (143, 1, .aload_n 0, 0, 0, 0, 0)], [(144, 1, .aload_n 0, 0, 0, 0, 0), (145, 3, .getfield 18, 5, 2, 0, 314), (148, 3, .getfield 55, 6, 10, 0, 209), (151, 3, .putfield 22, 5, 3, 0, 315), (154, 1, .aload_n 0, 0, 0, 0, 0), (155, 1, .iconst (-1), 0, 0, 0, 0), (156, 3, .putfield 26, 5, 4, 0, 316), (159, 1, .aload_n 0, 0, 0, 0, 0)], [(160, 3, .invokevirtual 56, 180, 0, 0, 414), (163, 1, .return_, 0, 0, 0, 0)]], 3, 1, 1, 5, 0, 0, 0)
/-- StrawWatch$Ship.setPost.(II)V -/
def mt_195 : List (List mm_I) × Nat × mm_M := ([[(0, 1, .iload_n 1, 0, 0, 0, 0), (1, 3, .invokestatic 65, 239, 0, 0, 848), (4, 3, .ifCond .eq 23, 0, 0, 0, 0), (7, 1, .aload_n 0, 0, 0, 0, 0), (8, 3, .getfield 9, 5, 0, 0, 311), (11, 2, .bipush 11, 0, 0, 0, 0), (13, 1, .iload_n 1, 0, 0, 0, 0), (14, 1, .iadd, 0, 0, 0, 0), (15, 1, .iload_n 2, 0, 0, 0, 0)], [(16, 1, .iconst (-1), 0, 0, 0, 0), (17, 3, .if_icmp .ne 8, 0, 0, 0, 0), (20, 2, .bipush (-2), 0, 0, 0, 0), (22, 3, .goto 4, 0, 0, 0, 0), (25, 1, .iload_n 2, 0, 0, 0, 0), (26, 1, .iastore, 0, 0, 0, 0), (27, 1, .return_, 0, 0, 0, 0)]], 3, 2, 1, 5, 0, 0, 0)
/-- StrawWatch$Ship.setSail.(I)V -/
def mt_196 : List (List mm_I) × Nat × mm_M := ([[(0, 1, .aload_n 0, 0, 0, 0, 0), (1, 1, .iload_n 1, 0, 0, 0, 0), (2, 3, .putfield 26, 5, 4, 0, 316), (5, 1, .return_, 0, 0, 0, 0)]], 2, 1, 1, 5, 0, 0, 0)
/-- StrawWatch$Ship.setSeed.(I)V -/
def mt_197 : List (List mm_I) × Nat × mm_M := ([[(0, 1, .aload_n 0, 0, 0, 0, 0), (1, 1, .iload_n 1, 0, 0, 0, 0), (2, 3, .putfield 22, 5, 3, 0, 315), (5, 1, .return_, 0, 0, 0, 0)]], 2, 1, 1, 5, 0, 0, 0)
/-- StrawWatch$Ship.stirred.(II)I -/
def mt_198 : List (List mm_I) × Nat × mm_M := ([[(0, 1, .iload_n 0, 0, 0, 0, 0), (1, 1, .iload_n 1, 0, 0, 0, 0), (2, 1, .ixor, 0, 0, 0, 0), (3, 2, .ldc 111, 0, 0, 1103515245, 889), (5, 1, .imul, 0, 0, 0, 0), (6, 3, .sipush 12345, 0, 0, 0, 0), (9, 1, .iadd, 0, 0, 0, 0), (10, 1, .istore_n 2, 0, 0, 0, 0), (11, 1, .iload_n 2, 0, 0, 0, 0), (12, 1, .iload_n 2, 0, 0, 0, 0), (13, 2, .bipush 15, 0, 0, 0, 0), (15, 1, .iushr, 0, 0, 0, 0)], [(16, 1, .ixor, 0, 0, 0, 0), (17, 1, .ireturn, 0, 0, 0, 0)]], 3, 2, 0, 5, 1, 0, 0)
/-- StrawWatch$Ship.strawsUpSleeves.()I -/
def mt_199 : List (List mm_I) × Nat × mm_M := ([[(0, 1, .iconst 0, 0, 0, 0, 0), (1, 1, .istore_n 1, 0, 0, 0, 0), (2, 1, .iconst 0, 0, 0, 0, 0), (3, 1, .istore_n 2, 0, 0, 0, 0), (4, 1, .iload_n 2, 0, 0, 0, 0), (5, 2, .bipush 6, 0, 0, 0, 0), (7, 3, .if_icmp .ge 21, 0, 0, 0, 0), (10, 1, .iload_n 1, 0, 0, 0, 0), (11, 1, .aload_n 0, 0, 0, 0, 0), (12, 3, .getfield 9, 5, 0, 0, 311), (15, 2, .bipush 15, 0, 0, 0, 0)], [(17, 1, .iload_n 2, 0, 0, 0, 0), (18, 1, .iadd, 0, 0, 0, 0), (19, 1, .iaload, 0, 0, 0, 0), (20, 1, .iadd, 0, 0, 0, 0), (21, 1, .istore_n 1, 0, 0, 0, 0), (22, 3, .iinc 2 1, 0, 0, 0, 0), (25, 3, .goto (-21), 0, 0, 0, 0), (28, 1, .iload_n 1, 0, 0, 0, 0), (29, 1, .ireturn, 0, 0, 0, 0)]], 3, 0, 1, 5, 1, 0, 0)
/-- StrawWatch$Text.addMan.(J)V -/
def mt_200 : List (List mm_I) × Nat × mm_M := ([[(0, 1, .aload_n 0, 0, 0, 0, 0), (1, 3, .getfield 32, 6, 4, 0, 186), (4, 2, .bipush 6, 0, 0, 0, 0), (6, 3, .if_icmp .ge 23, 0, 0, 0, 0), (9, 1, .aload_n 0, 0, 0, 0, 0), (10, 3, .getfield 25, 6, 3, 0, 185), (13, 1, .aload_n 0, 0, 0, 0, 0), (14, 3, .getfield 32, 6, 4, 0, 186)], [(17, 1, .lload_n 1, 0, 0, 0, 0), (18, 1, .lastore, 0, 0, 0, 0), (19, 1, .aload_n 0, 0, 0, 0, 0), (20, 1, .dup, 0, 0, 0, 0), (21, 3, .getfield 32, 6, 4, 0, 186), (24, 1, .iconst 1, 0, 0, 0, 0), (25, 1, .iadd, 0, 0, 0, 0), (26, 3, .putfield 32, 6, 4, 0, 186), (29, 1, .return_, 0, 0, 0, 0)]], 3, 1, 1, 6, 0, 0, 0)
/-- StrawWatch$Text.become.(LStrawWatch$Text;)V -/
def mt_201 : List (List mm_I) × Nat × mm_M := ([[(0, 1, .aload_n 0, 0, 0, 0, 0), (1, 3, .getfield 12, 6, 0, 0, 177), (4, 1, .aload_n 1, 0, 0, 0, 0), (5, 3, .getfield 12, 6, 0, 0, 177), (8, 3, .invokevirtual 55, 133, 0, 0, 734), (11, 1, .aload_n 1, 0, 0, 0, 0), (12, 3, .getfield 18, 6, 1, 0, 182), (15, 1, .iconst 0, 0, 0, 0, 0)], [(16, 1, .aload_n 0, 0, 0, 0, 0), (17, 3, .getfield 18, 6, 1, 0, 182), (20, 1, .iconst 0, 0, 0, 0, 0), (21, 2, .bipush 24, 0, 0, 0, 0), (23, 3, .invokestatic 59, 1, 0, 0, 741), (26, 1, .aload_n 1, 0, 0, 0, 0), (27, 3, .getfield 22, 6, 2, 0, 183), (30, 1, .iconst 0, 0, 0, 0, 0), (31, 1, .aload_n 0, 0, 0, 0, 0)], [(32, 3, .getfield 22, 6, 2, 0, 183), (35, 1, .iconst 0, 0, 0, 0, 0), (36, 2, .bipush 6, 0, 0, 0, 0), (38, 3, .invokestatic 59, 1, 0, 0, 741), (41, 1, .aload_n 0, 0, 0, 0, 0), (42, 1, .aload_n 1, 0, 0, 0, 0), (43, 3, .getfield 32, 6, 4, 0, 186), (46, 3, .putfield 32, 6, 4, 0, 186)], [(49, 1, .aload_n 0, 0, 0, 0, 0), (50, 1, .aload_n 1, 0, 0, 0, 0), (51, 3, .getfield 36, 6, 5, 0, 191), (54, 3, .putfield 36, 6, 5, 0, 191), (57, 1, .aload_n 0, 0, 0, 0, 0), (58, 1, .aload_n 1, 0, 0, 0, 0), (59, 3, .getfield 39, 6, 6, 0, 194), (62, 3, .putfield 39, 6, 6, 0, 194)], [(65, 1, .aload_n 0, 0, 0, 0, 0), (66, 1, .aload_n 1, 0, 0, 0, 0), (67, 3, .getfield 42, 6, 7, 0, 197), (70, 3, .putfield 42, 6, 7, 0, 197), (73, 1, .aload_n 0, 0, 0, 0, 0), (74, 1, .aload_n 1, 0, 0, 0, 0), (75, 3, .getfield 45, 6, 8, 0, 200), (78, 3, .putfield 45, 6, 8, 0, 200)], [(81, 1, .aload_n 0, 0, 0, 0, 0), (82, 1, .aload_n 1, 0, 0, 0, 0), (83, 3, .getfield 48, 6, 9, 0, 205), (86, 3, .putfield 48, 6, 9, 0, 205), (89, 1, .aload_n 0, 0, 0, 0, 0), (90, 1, .aload_n 1, 0, 0, 0, 0), (91, 3, .getfield 51, 6, 10, 0, 208), (94, 3, .putfield 51, 6, 10, 0, 208)], [(97, 1, .return_, 0, 0, 0, 0)]], 2, 1, 1, 6, 0, 0, 0)
/-- StrawWatch$Text.clear.()V -/
def mt_202 : List (List mm_I) × Nat × mm_M := ([[(0, 1, .aload_n 0, 0, 0, 0, 0), (1, 1, .iconst 0, 0, 0, 0, 0), (2, 3, .putfield 32, 6, 4, 0, 186), (5, 1, .aload_n 0, 0, 0, 0, 0), (6, 2, .bipush 20, 0, 0, 0, 0), (8, 3, .putfield 36, 6, 5, 0, 191), (11, 1, .aload_n 0, 0, 0, 0, 0), (12, 2, .bipush 99, 0, 0, 0, 0), (14, 3, .putfield 39, 6, 6, 0, 194)], [(17, 1, .aload_n 0, 0, 0, 0, 0), (18, 2, .bipush 50, 0, 0, 0, 0), (20, 3, .putfield 42, 6, 7, 0, 197), (23, 1, .aload_n 0, 0, 0, 0, 0), (24, 2, .bipush 60, 0, 0, 0, 0), (26, 3, .putfield 45, 6, 8, 0, 200), (29, 1, .aload_n 0, 0, 0, 0, 0), (30, 3, .sipush 999, 0, 0, 0, 0)], [(33, 3, .putfield 48, 6, 9, 0, 205), (36, 1, .aload_n 0, 0, 0, 0, 0), (37, 1, .iconst 0, 0, 0, 0, 0), (38, 3, .putfield 51, 6, 10, 0, 208), (41, 1, .aload_n 0, 0, 0, 0, 0), (42, 3, .getfield 12, 6, 0, 0, 177), (45, 3, .invokevirtual 54, 134, 0, 0, 165)], [(48, 1, .return_, 0, 0, 0, 0)]], 1, 0, 1, 6, 0, 0, 0)
/-- StrawWatch$Text.has.(I)Z -/
def mt_203 : List (List mm_I) × Nat × mm_M := ([[(0, 1, .iload_n 1, 0, 0, 0, 0), (1, 3, .ifCond .lt 15, 0, 0, 0, 0), (4, 1, .iload_n 1, 0, 0, 0, 0), (5, 1, .aload_n 0, 0, 0, 0, 0), (6, 3, .getfield 32, 6, 4, 0, 186), (9, 3, .if_icmp .ge 7, 0, 0, 0, 0), (12, 1, .iconst 1, 0, 0, 0, 0), (13, 3, .goto 4, 0, 0, 0, 0)], [(16, 1, .iconst 0, 0, 0, 0, 0), (17, 1, .ireturn, 0, 0, 0, 0)]], 2, 1, 1, 6, 2, 0, 0)
/-- StrawWatch$Text.<init>.()V -/
def mt_204 : List (List mm_I) × Nat × mm_M := ([[(0, 1, .aload_n 0, 0, 0, 0, 0), (1, 3, .invokespecial 3, 0, 0, 0, 133), (4, 1, .aload_n 0, 0, 0, 0, 0), (5, 3, .new 9, 1, 0, 0, 134), (8, 1, .dup, 0, 0, 0, 0), (9, 3, .invokespecial 11, 139, 0, 0, 136), (12, 3, .putfield 12, 6, 0, 0, 177), (15, 1, .aload_n 0, 0, 0, 0, 0)], [(16, 2, .bipush 24, 0, 0, 0, 0), (18, 2, .newarray .int, 0, 0, 0, 160), (20, 3, .putfield 18, 6, 1, 0, 182), (23, 1, .aload_n 0, 0, 0, 0, 0), (24, 2, .bipush 6, 0, 0, 0, 0), (26, 2, .newarray .int, 0, 0, 0, 160), (28, 3, .putfield 22, 6, 2, 0, 183), (31, 1, .aload_n 0, 0, 0, 0, 0)], [(32, 2, .bipush 6, 0, 0, 0, 0), (34, 2, .newarray .long, 0, 0, 0, 235), (36, 3, .putfield 25, 6, 3, 0, 185), (39, 1, .aload_n 0, 0, 0, 0, 0), (40, 3, .invokevirtual 29, 202, 0, 0, 161), (43, 1, .return_, 0, 0, 0, 0)]], 1, 0, 2, 6, 0, 8, 521)
/-- StrawWatch$Text.knows.(J)Z -/
def mt_205 : List (List mm_I) × Nat × mm_M := ([[(0, 1, .iconst 0, 0, 0, 0, 0), (1, 1, .istore_n 3, 0, 0, 0, 0), (2, 1, .iload_n 3, 0, 0, 0, 0), (3, 1, .aload_n 0, 0, 0, 0, 0), (4, 3, .getfield 32, 6, 4, 0, 186), (7, 3, .if_icmp .ge 28, 0, 0, 0, 0), (10, 1, .iload_n 3, 0, 0, 0, 0), (11, 2, .bipush 6, 0, 0, 0, 0), (13, 3, .if_icmp .ge 22, 0, 0, 0, 0)], [(16, 1, .aload_n 0, 0, 0, 0, 0), (17, 3, .getfield 25, 6, 3, 0, 185), (20, 1, .iload_n 3, 0, 0, 0, 0), (21, 1, .laload, 0, 0, 0, 0), (22, 1, .lload_n 1, 0, 0, 0, 0), (23, 1, .lcmp, 0, 0, 0, 0), (24, 3, .ifCond .ne 5, 0, 0, 0, 0), (27, 1, .iconst 1, 0, 0, 0, 0), (28, 1, .ireturn, 0, 0, 0, 0), (29, 3, .iinc 3 1, 0, 0, 0, 0)], [(32, 3, .goto (-30), 0, 0, 0, 0), (35, 1, .iconst 0, 0, 0, 0, 0), (36, 1, .ireturn, 0, 0, 0, 0)]], 4, 1, 1, 6, 2, 0, 0)
/-- StrawWatch$Text.notePosts.([II)V -/
def mt_206 : List (List mm_I) × Nat × mm_M := ([[(0, 1, .iload_n 2, 0, 0, 0, 0), (1, 3, .ifCond .lt 11, 0, 0, 0, 0), (4, 1, .iload_n 2, 0, 0, 0, 0), (5, 1, .iconst 4, 0, 0, 0, 0), (6, 1, .iadd, 0, 0, 0, 0), (7, 1, .aload_n 1, 0, 0, 0, 0), (8, 1, .arraylength, 0, 0, 0, 0), (9, 3, .if_icmp .le 4, 0, 0, 0, 0), (12, 1, .return_, 0, 0, 0, 0), (13, 1, .aload_n 0, 0, 0, 0, 0), (14, 3, .getfield 12, 6, 0, 0, 177)], [(17, 3, .getfield 72, 1, 0, 0, 142), (20, 1, .iconst 2, 0, 0, 0, 0), (21, 1, .aload_n 0, 0, 0, 0, 0), (22, 1, .aload_n 1, 0, 0, 0, 0), (23, 1, .iload_n 2, 0, 0, 0, 0), (24, 1, .iaload, 0, 0, 0, 0), (25, 1, .iconst 0, 0, 0, 0, 0), (26, 3, .invokevirtual 75, 208, 0, 0, 857), (29, 1, .iastore, 0, 0, 0, 0), (30, 1, .aload_n 0, 0, 0, 0, 0), (31, 3, .getfield 12, 6, 0, 0, 177)], [(34, 3, .getfield 72, 1, 0, 0, 142), (37, 1, .iconst 3, 0, 0, 0, 0), (38, 1, .aload_n 0, 0, 0, 0, 0), (39, 1, .aload_n 1, 0, 0, 0, 0), (40, 1, .iload_n 2, 0, 0, 0, 0), (41, 1, .iconst 1, 0, 0, 0, 0), (42, 1, .iadd, 0, 0, 0, 0), (43, 1, .iaload, 0, 0, 0, 0), (44, 1, .iconst 1, 0, 0, 0, 0), (45, 3, .invokevirtual 75, 208, 0, 0, 857)], [(48, 1, .iastore, 0, 0, 0, 0), (49, 1, .aload_n 0, 0, 0, 0, 0), (50, 3, .getfield 12, 6, 0, 0, 177), (53, 3, .getfield 72, 1, 0, 0, 142), (56, 1, .iconst 4, 0, 0, 0, 0), (57, 1, .aload_n 0, 0, 0, 0, 0), (58, 1, .aload_n 1, 0, 0, 0, 0), (59, 1, .iload_n 2, 0, 0, 0, 0), (60, 1, .iconst 2, 0, 0, 0, 0), (61, 1, .iadd, 0, 0, 0, 0), (62, 1, .iaload, 0, 0, 0, 0), (63, 1, .iconst 2, 0, 0, 0, 0)], [(64, 3, .invokevirtual 75, 208, 0, 0, 857), (67, 1, .iastore, 0, 0, 0, 0), (68, 1, .aload_n 0, 0, 0, 0, 0), (69, 3, .getfield 12, 6, 0, 0, 177), (72, 3, .getfield 72, 1, 0, 0, 142), (75, 1, .iconst 5, 0, 0, 0, 0), (76, 1, .aload_n 0, 0, 0, 0, 0), (77, 1, .aload_n 1, 0, 0, 0, 0), (78, 1, .iload_n 2, 0, 0, 0, 0), (79, 1, .iconst 3, 0, 0, 0, 0)], [(80, 1, .iadd, 0, 0, 0, 0), (81, 1, .iaload, 0, 0, 0, 0), (82, 1, .iconst 3, 0, 0, 0, 0), (83, 3, .invokevirtual 75, 208, 0, 0, 857), (86, 1, .iastore, 0, 0, 0, 0), (87, 1, .return_, 0, 0, 0, 0)]], 3, 2, 1, 6, 0, 0, 0)
/-- StrawWatch$Text.setLastMan.(II)V -/
def mt_207 : List (List mm_I) × Nat × mm_M := ([[(0, 1, .aload_n 0, 0, 0, 0, 0), (1, 3, .getfield 32, 6, 4, 0, 186), (4, 1, .iconst 1, 0, 0, 0, 0), (5, 1, .isub, 0, 0, 0, 0), (6, 1, .istore_n 3, 0, 0, 0, 0), (7, 1, .iload_n 3, 0, 0, 0, 0), (8, 3, .ifCond .lt 12, 0, 0, 0, 0), (11, 1, .iload_n 1, 0, 0, 0, 0), (12, 3, .ifCond .lt 8, 0, 0, 0, 0), (15, 1, .iload_n 1, 0, 0, 0, 0)], [(16, 1, .iconst 4, 0, 0, 0, 0), (17, 3, .if_icmp .le 4, 0, 0, 0, 0), (20, 1, .return_, 0, 0, 0, 0), (21, 1, .iload_n 1, 0, 0, 0, 0), (22, 1, .iconst 4, 0, 0, 0, 0), (23, 3, .if_icmp .ge 17, 0, 0, 0, 0), (26, 1, .aload_n 0, 0, 0, 0, 0), (27, 3, .getfield 18, 6, 1, 0, 182), (30, 1, .iload_n 3, 0, 0, 0, 0), (31, 1, .iconst 4, 0, 0, 0, 0)], [(32, 1, .imul, 0, 0, 0, 0), (33, 1, .iload_n 1, 0, 0, 0, 0), (34, 1, .iadd, 0, 0, 0, 0), (35, 1, .iload_n 2, 0, 0, 0, 0), (36, 1, .iastore, 0, 0, 0, 0), (37, 3, .goto 10, 0, 0, 0, 0), (40, 1, .aload_n 0, 0, 0, 0, 0), (41, 3, .getfield 22, 6, 2, 0, 183), (44, 1, .iload_n 3, 0, 0, 0, 0), (45, 1, .iload_n 2, 0, 0, 0, 0), (46, 1, .iastore, 0, 0, 0, 0), (47, 1, .return_, 0, 0, 0, 0)]], 4, 2, 1, 6, 0, 0, 0)
/-- StrawWatch$Text.skillOf.(II)I -/
def mt_208 : List (List mm_I) × Nat × mm_M := ([[(0, 1, .aload_n 0, 0, 0, 0, 0), (1, 1, .iload_n 1, 0, 0, 0, 0), (2, 3, .invokevirtual 65, 203, 0, 0, 770), (5, 3, .ifCond .eq 23, 0, 0, 0, 0), (8, 1, .iload_n 2, 0, 0, 0, 0), (9, 3, .invokestatic 69, 239, 0, 0, 771), (12, 3, .ifCond .eq 16, 0, 0, 0, 0), (15, 1, .aload_n 0, 0, 0, 0, 0)], [(16, 3, .getfield 18, 6, 1, 0, 182), (19, 1, .iload_n 1, 0, 0, 0, 0), (20, 1, .iconst 4, 0, 0, 0, 0), (21, 1, .imul, 0, 0, 0, 0), (22, 1, .iload_n 2, 0, 0, 0, 0), (23, 1, .iadd, 0, 0, 0, 0), (24, 1, .iaload, 0, 0, 0, 0), (25, 3, .goto 4, 0, 0, 0, 0), (28, 1, .iconst 0, 0, 0, 0, 0), (29, 1, .ireturn, 0, 0, 0, 0)]], 3, 2, 1, 6, 1, 0, 0)
/-- StrawWatch$Tokens.<init>.([B)V -/
def mt_209 : List (List mm_I) × Nat × mm_M := ([[(0, 1, .aload_n 0, 0, 0, 0, 0), (1, 3, .invokespecial 3, 0, 0, 0, 247), (4, 1, .aload_n 0, 0, 0, 0, 0), (5, 3, .sipush 401, 0, 0, 0, 0), (8, 2, .newarray .int, 0, 0, 0, 160), (10, 3, .putfield 9, 7, 0, 0, 248), (13, 1, .aload_n 0, 0, 0, 0, 0), (14, 3, .sipush 401, 0, 0, 0, 0)], [(17, 2, .newarray .int, 0, 0, 0, 160), (19, 3, .putfield 15, 7, 1, 0, 250), (22, 1, .aload_n 0, 0, 0, 0, 0), (23, 3, .sipush 401, 0, 0, 0, 0), (26, 2, .newarray .long, 0, 0, 0, 235), (28, 3, .putfield 18, 7, 2, 0, 252), (31, 1, .aload_n 0, 0, 0, 0, 0)], [(32, 1, .aload_n 1, 0, 0, 0, 0), (33, 3, .putfield 22, 7, 4, 0, 256), (36, 1, .aload_n 0, 0, 0, 0, 0), (37, 1, .iconst 0, 0, 0, 0, 0), (38, 3, .putfield 26, 7, 5, 0, 257), (41, 1, .return_, 0, 0, 0, 0)]], 2, 1, 2, 7, 0, 3, 1203)
/-- StrawWatch$Tokens.isBlank.(I)Z -/
def mt_210 : List (List mm_I) × Nat × mm_M := ([[(0, 1, .iload_n 0, 0, 0, 0, 0), (1, 2, .bipush 32, 0, 0, 0, 0), (3, 3, .if_icmp .eq 21, 0, 0, 0, 0), (6, 1, .iload_n 0, 0, 0, 0, 0), (7, 2, .bipush 9, 0, 0, 0, 0), (9, 3, .if_icmp .eq 15, 0, 0, 0, 0), (12, 1, .iload_n 0, 0, 0, 0, 0), (13, 2, .bipush 10, 0, 0, 0, 0), (15, 3, .if_icmp .eq 9, 0, 0, 0, 0)], [(18, 1, .iload_n 0, 0, 0, 0, 0), (19, 2, .bipush 13, 0, 0, 0, 0), (21, 3, .if_icmp .ne 7, 0, 0, 0, 0), (24, 1, .iconst 1, 0, 0, 0, 0), (25, 3, .goto 4, 0, 0, 0, 0), (28, 1, .iconst 0, 0, 0, 0, 0), (29, 1, .ireturn, 0, 0, 0, 0)]], 1, 1, 0, 7, 2, 0, 0)
/-- StrawWatch$Tokens.isDigit.(I)Z -/
def mt_211 : List (List mm_I) × Nat × mm_M := ([[(0, 1, .iload_n 0, 0, 0, 0, 0), (1, 2, .bipush 48, 0, 0, 0, 0), (3, 3, .if_icmp .lt 13, 0, 0, 0, 0), (6, 1, .iload_n 0, 0, 0, 0, 0), (7, 2, .bipush 57, 0, 0, 0, 0), (9, 3, .if_icmp .gt 7, 0, 0, 0, 0), (12, 1, .iconst 1, 0, 0, 0, 0), (13, 3, .goto 4, 0, 0, 0, 0)], [(16, 1, .iconst 0, 0, 0, 0, 0), (17, 1, .ireturn, 0, 0, 0, 0)]], 1, 1, 0, 7, 2, 0, 0)
/-- StrawWatch$Tokens.isLetter.(I)Z -/
def mt_212 : List (List mm_I) × Nat × mm_M := ([[(0, 1, .iload_n 0, 0, 0, 0, 0), (1, 2, .bipush 97, 0, 0, 0, 0), (3, 3, .if_icmp .lt 13, 0, 0, 0, 0), (6, 1, .iload_n 0, 0, 0, 0, 0), (7, 2, .bipush 122, 0, 0, 0, 0), (9, 3, .if_icmp .gt 7, 0, 0, 0, 0), (12, 1, .iconst 1, 0, 0, 0, 0), (13, 3, .goto 4, 0, 0, 0, 0)], [(16, 1, .iconst 0, 0, 0, 0, 0), (17, 1, .ireturn, 0, 0, 0, 0)]], 1, 1, 0, 7, 2, 0, 0)
/-- StrawWatch$Tokens.isWord.(III)Z -/
def mt_213 : List (List mm_I) × Nat × mm_M := ([[(0, 1, .iload_n 1, 0, 0, 0, 0), (1, 2, .bipush 8, 0, 0, 0, 0), (3, 1, .imul, 0, 0, 0, 0), (4, 2, .istore 4, 0, 0, 0, 0), (6, 1, .iconst 0, 0, 0, 0, 0), (7, 2, .istore 5, 0, 0, 0, 0), (9, 2, .iload 5, 0, 0, 0, 0), (11, 2, .bipush 8, 0, 0, 0, 0), (13, 3, .if_icmp .ge 72, 0, 0, 0, 0)], [(16, 2, .iload 5, 0, 0, 0, 0), (18, 1, .iload_n 3, 0, 0, 0, 0), (19, 3, .if_icmp .ge 26, 0, 0, 0, 0), (22, 1, .iload_n 2, 0, 0, 0, 0), (23, 2, .iload 5, 0, 0, 0, 0), (25, 1, .iadd, 0, 0, 0, 0), (26, 1, .aload_n 0, 0, 0, 0, 0), (27, 3, .getfield 26, 7, 5, 0, 257), (30, 3, .if_icmp .ge 15, 0, 0, 0, 0)], [(33, 1, .aload_n 0, 0, 0, 0, 0), (34, 3, .getfield 22, 7, 4, 0, 256), (37, 1, .iload_n 2, 0, 0, 0, 0), (38, 2, .iload 5, 0, 0, 0, 0), (40, 1, .iadd, 0, 0, 0, 0), (41, 1, .baload, 0, 0, 0, 0), (42, 3, .goto 5, 0, 0, 0, 0), (45, 2, .bipush 32, 0, 0, 0, 0), (47, 2, .istore 6, 0, 0, 0, 0)], [(49, 2, .iload 4, 0, 0, 0, 0), (51, 2, .iload 5, 0, 0, 0, 0), (53, 1, .iadd, 0, 0, 0, 0), (59, 3, .if_icmp .ge 18, 0, 0, 0, 0)], [(64, 2, .iload 4, 0, 0, 0, 0), (66, 2, .iload 5, 0, 0, 0, 0), (68, 1, .iadd, 0, 0, 0, 0), (72, 2, .iload 6, 0, 0, 0, 0), (74, 3, .if_icmp .eq 5, 0, 0, 0, 0), (77, 1, .iconst 0, 0, 0, 0, 0), (78, 1, .ireturn, 0, 0, 0, 0), (79, 3, .iinc 5 1, 0, 0, 0, 0)], [(82, 3, .goto (-73), 0, 0, 0, 0), (85, 1, .iconst 1, 0, 0, 0, 0), (86, 1, .ireturn, 0, 0, 0, 0)]], 7, 3, 1, 7, 2, 0, 0)
/-- StrawWatch$Tokens.put.(IJI)V -/
def mt_214 : List (List mm_I) × Nat × mm_M := ([[(0, 1, .aload_n 0, 0, 0, 0, 0), (1, 3, .getfield 39, 7, 3, 0, 254), (4, 3, .sipush 400, 0, 0, 0, 0), (7, 3, .if_icmp .gt 44, 0, 0, 0, 0), (10, 1, .aload_n 0, 0, 0, 0, 0), (11, 3, .getfield 9, 7, 0, 0, 248), (14, 1, .aload_n 0, 0, 0, 0, 0), (15, 3, .getfield 39, 7, 3, 0, 254)], [(18, 1, .iload_n 1, 0, 0, 0, 0), (19, 1, .iastore, 0, 0, 0, 0), (20, 1, .aload_n 0, 0, 0, 0, 0), (21, 3, .getfield 18, 7, 2, 0, 252), (24, 1, .aload_n 0, 0, 0, 0, 0), (25, 3, .getfield 39, 7, 3, 0, 254), (28, 1, .lload_n 2, 0, 0, 0, 0), (29, 1, .lastore, 0, 0, 0, 0), (30, 1, .aload_n 0, 0, 0, 0, 0), (31, 3, .getfield 15, 7, 1, 0, 250)], [(34, 1, .aload_n 0, 0, 0, 0, 0), (35, 3, .getfield 39, 7, 3, 0, 254), (38, 2, .iload 4, 0, 0, 0, 0), (40, 1, .iastore, 0, 0, 0, 0), (41, 1, .aload_n 0, 0, 0, 0, 0), (42, 1, .dup, 0, 0, 0, 0), (43, 3, .getfield 39, 7, 3, 0, 254), (46, 1, .iconst 1, 0, 0, 0, 0), (47, 1, .iadd, 0, 0, 0, 0)], [(48, 3, .putfield 39, 7, 3, 0, 254), (51, 1, .return_, 0, 0, 0, 0)]], 5, 3, 1, 7, 0, 0, 0)
/-- StrawWatch$Tokens.scan.()Z -/
def mt_215 : List (List mm_I) × Nat × mm_M := ([[(0, 1, .aload_n 0, 0, 0, 0, 0), (1, 3, .getfield 36, 7, 6, 0, 258), (4, 1, .aload_n 0, 0, 0, 0, 0), (5, 3, .getfield 26, 7, 5, 0, 257), (8, 3, .if_icmp .ge 31, 0, 0, 0, 0), (11, 1, .aload_n 0, 0, 0, 0, 0), (12, 3, .getfield 22, 7, 4, 0, 256), (15, 1, .aload_n 0, 0, 0, 0, 0)], [(16, 3, .getfield 36, 7, 6, 0, 258), (19, 1, .baload, 0, 0, 0, 0), (20, 3, .invokestatic 46, 210, 0, 0, 498), (23, 3, .ifCond .eq 16, 0, 0, 0, 0), (26, 1, .aload_n 0, 0, 0, 0, 0), (27, 1, .dup, 0, 0, 0, 0), (28, 3, .getfield 36, 7, 6, 0, 258), (31, 1, .iconst 1, 0, 0, 0, 0)], [(32, 1, .iadd, 0, 0, 0, 0), (33, 3, .putfield 36, 7, 6, 0, 258), (36, 3, .goto (-36), 0, 0, 0, 0), (39, 1, .aload_n 0, 0, 0, 0, 0), (40, 3, .getfield 36, 7, 6, 0, 258), (43, 1, .aload_n 0, 0, 0, 0, 0), (44, 3, .getfield 26, 7, 5, 0, 257), (47, 3, .if_icmp .lt 15, 0, 0, 0, 0)], [(50, 1, .aload_n 0, 0, 0, 0, 0), (51, 1, .iconst 0, 0, 0, 0, 0), (52, 1, .lconst 0, 0, 0, 0, 0), (53, 1, .aload_n 0, 0, 0, 0, 0), (54, 3, .getfield 36, 7, 6, 0, 258), (57, 3, .invokevirtual 50, 214, 0, 0, 501), (60, 1, .iconst 0, 0, 0, 0, 0), (61, 1, .ireturn, 0, 0, 0, 0), (62, 1, .aload_n 0, 0, 0, 0, 0), (63, 3, .getfield 22, 7, 4, 0, 256)], [(66, 1, .aload_n 0, 0, 0, 0, 0), (67, 3, .getfield 36, 7, 6, 0, 258), (70, 1, .baload, 0, 0, 0, 0), (71, 3, .invokestatic 54, 212, 0, 0, 505), (74, 3, .ifCond .eq 8, 0, 0, 0, 0), (77, 1, .aload_n 0, 0, 0, 0, 0), (78, 3, .invokevirtual 57, 217, 0, 0, 508)], [(81, 1, .ireturn, 0, 0, 0, 0), (82, 1, .aload_n 0, 0, 0, 0, 0), (83, 3, .getfield 22, 7, 4, 0, 256), (86, 1, .aload_n 0, 0, 0, 0, 0), (87, 3, .getfield 36, 7, 6, 0, 258), (90, 1, .baload, 0, 0, 0, 0), (91, 3, .invokestatic 60, 211, 0, 0, 570), (94, 3, .ifCond .eq 8, 0, 0, 0, 0)], [(97, 1, .aload_n 0, 0, 0, 0, 0), (98, 3, .invokevirtual 63, 216, 0, 0, 573), (101, 1, .ireturn, 0, 0, 0, 0), (102, 1, .aload_n 0, 0, 0, 0, 0), (103, 3, .getfield 36, 7, 6, 0, 258), (106, 1, .istore_n 1, 0, 0, 0, 0), (107, 1, .aload_n 0, 0, 0, 0, 0), (108, 1, .dup, 0, 0, 0, 0), (109, 3, .getfield 36, 7, 6, 0, 258)], [(112, 1, .iconst 1, 0, 0, 0, 0), (113, 1, .iadd, 0, 0, 0, 0), (114, 3, .putfield 36, 7, 6, 0, 258), (117, 1, .aload_n 0, 0, 0, 0, 0), (118, 3, .getfield 22, 7, 4, 0, 256), (121, 1, .iload_n 1, 0, 0, 0, 0), (122, 1, .baload, 0, 0, 0, 0), (123, 3, .ifCond .le 22, 0, 0, 0, 0)], [(128, 1, .aload_n 0, 0, 0, 0, 0), (129, 3, .getfield 22, 7, 4, 0, 256), (132, 1, .iload_n 1, 0, 0, 0, 0), (133, 1, .baload, 0, 0, 0, 0), (134, 1, .i2c, 0, 0, 0, 0), (138, 3, .ifCond .lt 7, 0, 0, 0, 0), (141, 1, .iconst 1, 0, 0, 0, 0), (142, 3, .goto 4, 0, 0, 0, 0)], [(145, 1, .iconst 0, 0, 0, 0, 0), (146, 1, .istore_n 2, 0, 0, 0, 0), (147, 1, .aload_n 0, 0, 0, 0, 0), (148, 1, .iload_n 2, 0, 0, 0, 0), (149, 3, .ifCond .eq 7, 0, 0, 0, 0), (152, 1, .iconst 4, 0, 0, 0, 0), (153, 3, .goto 4, 0, 0, 0, 0), (156, 1, .iconst 1, 0, 0, 0, 0), (157, 1, .aload_n 0, 0, 0, 0, 0), (158, 3, .getfield 22, 7, 4, 0, 256)], [(161, 1, .iload_n 1, 0, 0, 0, 0), (162, 1, .baload, 0, 0, 0, 0), (163, 1, .i2l, 0, 0, 0, 0), (164, 1, .iload_n 1, 0, 0, 0, 0), (165, 3, .invokevirtual 50, 214, 0, 0, 501), (168, 1, .iload_n 2, 0, 0, 0, 0), (169, 1, .ireturn, 0, 0, 0, 0)]], 3, 0, 1, 7, 2, 0, 0)
/-- StrawWatch$Tokens.scanDigits.()Z -/
def mt_216 : List (List mm_I) × Nat × mm_M := ([[(0, 1, .aload_n 0, 0, 0, 0, 0), (1, 3, .getfield 36, 7, 6, 0, 258), (4, 1, .istore_n 1, 0, 0, 0, 0), (5, 1, .iconst 0, 0, 0, 0, 0), (6, 1, .istore_n 2, 0, 0, 0, 0), (7, 1, .aload_n 0, 0, 0, 0, 0), (8, 3, .getfield 36, 7, 6, 0, 258), (11, 1, .aload_n 0, 0, 0, 0, 0), (12, 3, .getfield 26, 7, 5, 0, 257), (15, 3, .if_icmp .ge 49, 0, 0, 0, 0)], [(18, 1, .aload_n 0, 0, 0, 0, 0), (19, 3, .getfield 22, 7, 4, 0, 256), (22, 1, .aload_n 0, 0, 0, 0, 0), (23, 3, .getfield 36, 7, 6, 0, 258), (26, 1, .baload, 0, 0, 0, 0), (27, 3, .invokestatic 60, 211, 0, 0, 570), (30, 3, .ifCond .eq 34, 0, 0, 0, 0)], [(33, 1, .iload_n 2, 0, 0, 0, 0), (34, 2, .bipush 10, 0, 0, 0, 0), (36, 1, .imul, 0, 0, 0, 0), (37, 1, .aload_n 0, 0, 0, 0, 0), (38, 3, .getfield 22, 7, 4, 0, 256), (41, 1, .aload_n 0, 0, 0, 0, 0), (42, 3, .getfield 36, 7, 6, 0, 258), (45, 1, .baload, 0, 0, 0, 0), (46, 2, .bipush 48, 0, 0, 0, 0)], [(48, 1, .isub, 0, 0, 0, 0), (49, 1, .iadd, 0, 0, 0, 0), (50, 1, .istore_n 2, 0, 0, 0, 0), (51, 1, .aload_n 0, 0, 0, 0, 0), (52, 1, .dup, 0, 0, 0, 0), (53, 3, .getfield 36, 7, 6, 0, 258), (56, 1, .iconst 1, 0, 0, 0, 0), (57, 1, .iadd, 0, 0, 0, 0), (58, 3, .putfield 36, 7, 6, 0, 258), (61, 3, .goto (-54), 0, 0, 0, 0)], [(64, 1, .aload_n 0, 0, 0, 0, 0), (65, 3, .getfield 36, 7, 6, 0, 258), (68, 1, .iload_n 1, 0, 0, 0, 0), (69, 1, .isub, 0, 0, 0, 0), (70, 1, .iconst 4, 0, 0, 0, 0), (71, 3, .if_icmp .gt 7, 0, 0, 0, 0), (74, 1, .iconst 1, 0, 0, 0, 0), (75, 3, .goto 4, 0, 0, 0, 0), (78, 1, .iconst 0, 0, 0, 0, 0), (79, 1, .istore_n 3, 0, 0, 0, 0)], [(80, 1, .aload_n 0, 0, 0, 0, 0), (81, 1, .iload_n 3, 0, 0, 0, 0), (82, 3, .ifCond .eq 7, 0, 0, 0, 0), (85, 1, .iconst 3, 0, 0, 0, 0), (86, 3, .goto 4, 0, 0, 0, 0), (89, 1, .iconst 1, 0, 0, 0, 0), (90, 1, .iload_n 2, 0, 0, 0, 0), (91, 1, .i2l, 0, 0, 0, 0), (92, 1, .iload_n 1, 0, 0, 0, 0), (93, 3, .invokevirtual 50, 214, 0, 0, 501)], [(96, 1, .iload_n 3, 0, 0, 0, 0), (97, 1, .ireturn, 0, 0, 0, 0)]], 4, 0, 1, 7, 2, 0, 0)
/-- StrawWatch$Tokens.scanLetters.()Z -/
def mt_217 : List (List mm_I) × Nat × mm_M := ([[(0, 1, .aload_n 0, 0, 0, 0, 0), (1, 3, .getfield 36, 7, 6, 0, 258), (4, 1, .istore_n 1, 0, 0, 0, 0), (5, 1, .lconst 0, 0, 0, 0, 0), (6, 1, .lstore_n 2, 0, 0, 0, 0), (7, 1, .aload_n 0, 0, 0, 0, 0), (8, 3, .getfield 36, 7, 6, 0, 258), (11, 1, .aload_n 0, 0, 0, 0, 0), (12, 3, .getfield 26, 7, 5, 0, 257), (15, 3, .if_icmp .ge 53, 0, 0, 0, 0)], [(18, 1, .aload_n 0, 0, 0, 0, 0), (19, 3, .getfield 22, 7, 4, 0, 256), (22, 1, .aload_n 0, 0, 0, 0, 0), (23, 3, .getfield 36, 7, 6, 0, 258), (26, 1, .baload, 0, 0, 0, 0), (27, 3, .invokestatic 54, 212, 0, 0, 505), (30, 3, .ifCond .eq 38, 0, 0, 0, 0)], [(33, 1, .lload_n 2, 0, 0, 0, 0), (34, 3, .ldc2_w 74, 0, 0, 32, 512), (37, 1, .lmul, 0, 0, 0, 0), (38, 1, .aload_n 0, 0, 0, 0, 0), (39, 3, .getfield 22, 7, 4, 0, 256), (42, 1, .aload_n 0, 0, 0, 0, 0), (43, 3, .getfield 36, 7, 6, 0, 258), (46, 1, .baload, 0, 0, 0, 0), (47, 2, .bipush 97, 0, 0, 0, 0)], [(49, 1, .isub, 0, 0, 0, 0), (50, 1, .iconst 1, 0, 0, 0, 0), (51, 1, .iadd, 0, 0, 0, 0), (52, 1, .i2l, 0, 0, 0, 0), (53, 1, .ladd, 0, 0, 0, 0), (54, 1, .lstore_n 2, 0, 0, 0, 0), (55, 1, .aload_n 0, 0, 0, 0, 0), (56, 1, .dup, 0, 0, 0, 0), (57, 3, .getfield 36, 7, 6, 0, 258), (60, 1, .iconst 1, 0, 0, 0, 0), (61, 1, .iadd, 0, 0, 0, 0), (62, 3, .putfield 36, 7, 6, 0, 258)], [(65, 3, .goto (-58), 0, 0, 0, 0), (68, 1, .aload_n 0, 0, 0, 0, 0), (69, 3, .getfield 36, 7, 6, 0, 258), (72, 1, .iload_n 1, 0, 0, 0, 0), (73, 1, .isub, 0, 0, 0, 0), (74, 2, .bipush 8, 0, 0, 0, 0), (76, 3, .if_icmp .le 12, 0, 0, 0, 0), (79, 1, .aload_n 0, 0, 0, 0, 0)], [(80, 1, .iconst 1, 0, 0, 0, 0), (81, 1, .lconst 0, 0, 0, 0, 0), (82, 1, .iload_n 1, 0, 0, 0, 0), (83, 3, .invokevirtual 50, 214, 0, 0, 501), (86, 1, .iconst 0, 0, 0, 0, 0), (87, 1, .ireturn, 0, 0, 0, 0), (88, 1, .aload_n 0, 0, 0, 0, 0), (89, 1, .iload_n 1, 0, 0, 0, 0), (90, 1, .aload_n 0, 0, 0, 0, 0), (91, 3, .getfield 36, 7, 6, 0, 258), (94, 1, .iload_n 1, 0, 0, 0, 0), (95, 1, .isub, 0, 0, 0, 0)], [(96, 3, .invokevirtual 76, 219, 0, 0, 513), (99, 2, .istore 4, 0, 0, 0, 0), (101, 2, .iload 4, 0, 0, 0, 0), (103, 1, .iconst (-1), 0, 0, 0, 0), (104, 3, .if_icmp .ne 13, 0, 0, 0, 0), (107, 1, .aload_n 0, 0, 0, 0, 0), (108, 1, .iconst 2, 0, 0, 0, 0), (109, 1, .lload_n 2, 0, 0, 0, 0), (110, 1, .iload_n 1, 0, 0, 0, 0), (111, 3, .invokevirtual 50, 214, 0, 0, 501)], [(114, 3, .goto 12, 0, 0, 0, 0), (117, 1, .aload_n 0, 0, 0, 0, 0), (118, 1, .iconst 5, 0, 0, 0, 0), (119, 2, .iload 4, 0, 0, 0, 0), (121, 1, .i2l, 0, 0, 0, 0), (122, 1, .iload_n 1, 0, 0, 0, 0), (123, 3, .invokevirtual 50, 214, 0, 0, 501), (126, 1, .iconst 1, 0, 0, 0, 0), (127, 1, .ireturn, 0, 0, 0, 0)]], 5, 0, 1, 7, 2, 0, 0)
/-- StrawWatch$Tokens.split.(I)V -/
def mt_218 : List (List mm_I) × Nat × mm_M := ([[(0, 1, .aload_n 0, 0, 0, 0, 0), (1, 1, .iload_n 1, 0, 0, 0, 0), (2, 1, .aload_n 0, 0, 0, 0, 0), (3, 3, .getfield 22, 7, 4, 0, 256), (6, 1, .arraylength, 0, 0, 0, 0), (7, 3, .invokestatic 30, 278, 0, 0, 491), (10, 3, .putfield 26, 7, 5, 0, 257), (13, 1, .aload_n 0, 0, 0, 0, 0), (14, 1, .iconst 0, 0, 0, 0, 0), (15, 3, .putfield 36, 7, 6, 0, 258)], [(18, 1, .aload_n 0, 0, 0, 0, 0), (19, 1, .iconst 0, 0, 0, 0, 0), (20, 3, .putfield 39, 7, 3, 0, 254), (23, 1, .iconst 1, 0, 0, 0, 0), (24, 1, .istore_n 2, 0, 0, 0, 0), (25, 1, .iconst 0, 0, 0, 0, 0), (26, 1, .istore_n 3, 0, 0, 0, 0), (27, 1, .iload_n 3, 0, 0, 0, 0), (28, 3, .sipush 400, 0, 0, 0, 0), (31, 3, .if_icmp .gt 18, 0, 0, 0, 0)], [(34, 1, .iload_n 2, 0, 0, 0, 0), (35, 3, .ifCond .eq 14, 0, 0, 0, 0), (38, 1, .aload_n 0, 0, 0, 0, 0), (39, 3, .invokevirtual 42, 215, 0, 0, 494), (42, 1, .istore_n 2, 0, 0, 0, 0), (43, 3, .iinc 3 1, 0, 0, 0, 0), (46, 3, .goto (-19), 0, 0, 0, 0)], [(49, 1, .return_, 0, 0, 0, 0)]], 4, 1, 1, 7, 0, 0, 0)
/-- StrawWatch$Tokens.wordAt.(II)I -/
def mt_219 : List (List mm_I) × Nat × mm_M := ([[(0, 1, .iconst 0, 0, 0, 0, 0), (1, 1, .istore_n 3, 0, 0, 0, 0), (2, 1, .iload_n 3, 0, 0, 0, 0), (3, 2, .bipush 24, 0, 0, 0, 0), (5, 3, .if_icmp .ge 21, 0, 0, 0, 0), (8, 1, .aload_n 0, 0, 0, 0, 0), (9, 1, .iload_n 3, 0, 0, 0, 0), (10, 1, .iload_n 1, 0, 0, 0, 0), (11, 1, .iload_n 2, 0, 0, 0, 0), (12, 3, .invokevirtual 79, 213, 0, 0, 517), (15, 3, .ifCond .eq 5, 0, 0, 0, 0)], [(18, 1, .iload_n 3, 0, 0, 0, 0), (19, 1, .ireturn, 0, 0, 0, 0), (20, 3, .iinc 3 1, 0, 0, 0, 0), (23, 3, .goto (-21), 0, 0, 0, 0), (26, 1, .iconst (-1), 0, 0, 0, 0), (27, 1, .ireturn, 0, 0, 0, 0)]], 4, 2, 1, 7, 1, 0, 0)
/-- StrawWatch.append.(I)V -/
def mt_220 : List (List mm_I) × Nat × mm_M := ([[(0, 2, .bipush 24, 0, 0, 0, 0), (2, 1, .istore_n 2, 0, 0, 0, 0), (3, 1, .iload_n 2, 0, 0, 0, 0), (4, 3, .ifCond .lt 42, 0, 0, 0, 0), (7, 1, .aload_n 0, 0, 0, 0, 0), (8, 3, .getfield 13, 8, 1, 0, 433), (11, 3, .sipush 2000, 0, 0, 0, 0), (14, 3, .if_icmp .ge 32, 0, 0, 0, 0)], [(17, 1, .aload_n 0, 0, 0, 0, 0), (18, 3, .getfield 9, 8, 0, 0, 432), (21, 1, .aload_n 0, 0, 0, 0, 0), (22, 3, .getfield 13, 8, 1, 0, 433), (25, 1, .iload_n 1, 0, 0, 0, 0), (26, 1, .iload_n 2, 0, 0, 0, 0), (27, 1, .iushr, 0, 0, 0, 0), (28, 1, .i2b, 0, 0, 0, 0), (29, 1, .bastore, 0, 0, 0, 0), (30, 1, .aload_n 0, 0, 0, 0, 0), (31, 1, .dup, 0, 0, 0, 0)], [(32, 3, .getfield 13, 8, 1, 0, 433), (35, 1, .iconst 1, 0, 0, 0, 0), (36, 1, .iadd, 0, 0, 0, 0), (37, 3, .putfield 13, 8, 1, 0, 433), (40, 3, .iinc 2 (-8), 0, 0, 0, 0), (43, 3, .goto (-40), 0, 0, 0, 0), (46, 1, .return_, 0, 0, 0, 0)]], 3, 1, 1, 8, 0, 0, 0)
/-- StrawWatch.back.(I)I -/
def mt_221 : List (List mm_I) × Nat × mm_M := ([[(0, 1, .iload_n 1, 0, 0, 0, 0), (1, 3, .ifCond .lt 11, 0, 0, 0, 0), (4, 1, .iload_n 1, 0, 0, 0, 0), (5, 1, .aload_n 0, 0, 0, 0, 0), (6, 3, .getfield 13, 8, 1, 0, 433), (9, 3, .if_icmp .le 5, 0, 0, 0, 0), (12, 1, .iconst (-1), 0, 0, 0, 0), (13, 1, .ireturn, 0, 0, 0, 0), (14, 1, .aload_n 0, 0, 0, 0, 0), (15, 1, .dup, 0, 0, 0, 0)], [(16, 3, .getfield 13, 8, 1, 0, 433), (19, 1, .iload_n 1, 0, 0, 0, 0), (20, 1, .isub, 0, 0, 0, 0), (21, 3, .putfield 13, 8, 1, 0, 433), (24, 1, .aload_n 0, 0, 0, 0, 0), (25, 3, .getfield 13, 8, 1, 0, 433), (28, 1, .ireturn, 0, 0, 0, 0)]], 2, 1, 1, 8, 1, 0, 0)
/-- StrawWatch.began.(II)I -/
def mt_222 : List (List mm_I) × Nat × mm_M := ([[(0, 1, .iload_n 1, 0, 0, 0, 0), (1, 3, .ifCond .lt 19, 0, 0, 0, 0), (4, 1, .iload_n 1, 0, 0, 0, 0), (5, 1, .aload_n 0, 0, 0, 0, 0), (6, 3, .getfield 68, 8, 10, 0, 442), (9, 3, .getfield 249, 2, 4, 0, 395), (12, 3, .if_icmp .gt 8, 0, 0, 0, 0), (15, 1, .iload_n 2, 0, 0, 0, 0)], [(16, 1, .iconst (-1), 0, 0, 0, 0), (17, 3, .if_icmp .ge 5, 0, 0, 0, 0), (20, 1, .iconst (-1), 0, 0, 0, 0), (21, 1, .ireturn, 0, 0, 0, 0), (22, 1, .iconst 0, 0, 0, 0, 0), (23, 1, .istore_n 3, 0, 0, 0, 0), (24, 2, .bipush 99, 0, 0, 0, 0), (26, 1, .aload_n 0, 0, 0, 0, 0), (27, 3, .getfield 23, 8, 3, 0, 435), (30, 3, .getfield 252, 6, 8, 0, 204)], [(33, 3, .invokestatic 255, 278, 0, 0, 818), (36, 2, .istore 4, 0, 0, 0, 0), (38, 1, .iconst 0, 0, 0, 0, 0), (39, 2, .istore 5, 0, 0, 0, 0), (41, 2, .iload 5, 0, 0, 0, 0), (43, 2, .iload 4, 0, 0, 0, 0), (45, 3, .if_icmp .gt 30, 0, 0, 0, 0)], [(48, 1, .aload_n 0, 0, 0, 0, 0), (49, 2, .iload 5, 0, 0, 0, 0), (51, 1, .iload_n 1, 0, 0, 0, 0), (52, 3, .invokevirtual 260, 231, 0, 0, 1134), (55, 3, .ifCond .eq 14, 0, 0, 0, 0), (58, 1, .iload_n 3, 0, 0, 0, 0), (59, 1, .iload_n 2, 0, 0, 0, 0), (60, 3, .if_icmp .ne 6, 0, 0, 0, 0), (63, 2, .iload 5, 0, 0, 0, 0)], [(65, 1, .ireturn, 0, 0, 0, 0), (66, 3, .iinc 3 1, 0, 0, 0, 0), (69, 3, .iinc 5 1, 0, 0, 0, 0), (72, 3, .goto (-31), 0, 0, 0, 0), (75, 1, .iload_n 2, 0, 0, 0, 0), (76, 1, .iconst (-1), 0, 0, 0, 0), (77, 3, .if_icmp .ne 7, 0, 0, 0, 0)], [(80, 1, .iload_n 3, 0, 0, 0, 0), (81, 3, .goto 4, 0, 0, 0, 0), (84, 1, .iconst (-1), 0, 0, 0, 0), (85, 1, .ireturn, 0, 0, 0, 0)]], 6, 2, 1, 8, 1, 0, 0)
/-- StrawWatch.better.(Z)I -/
def mt_223 : List (List mm_I) × Nat × mm_M := ([[(0, 1, .iconst 0, 0, 0, 0, 0), (1, 1, .istore_n 2, 0, 0, 0, 0), (2, 1, .iconst 0, 0, 0, 0, 0), (3, 1, .istore_n 3, 0, 0, 0, 0), (4, 1, .iload_n 3, 0, 0, 0, 0), (5, 1, .aload_n 0, 0, 0, 0, 0), (6, 3, .getfield 54, 8, 8, 0, 440), (9, 3, .getfield 184, 0, 6, 0, 341), (12, 3, .if_icmp .ge 20, 0, 0, 0, 0), (15, 1, .iload_n 2, 0, 0, 0, 0)], [(16, 1, .aload_n 0, 0, 0, 0, 0), (17, 3, .getfield 54, 8, 8, 0, 440), (20, 1, .iload_n 3, 0, 0, 0, 0), (21, 3, .invokevirtual 206, 124, 0, 0, 1031), (24, 1, .iadd, 0, 0, 0, 0), (25, 1, .istore_n 2, 0, 0, 0, 0), (26, 3, .iinc 3 1, 0, 0, 0, 0), (29, 3, .goto (-25), 0, 0, 0, 0)], [(32, 1, .aload_n 0, 0, 0, 0, 0), (33, 3, .getfield 54, 8, 8, 0, 440), (36, 1, .aload_n 0, 0, 0, 0, 0), (37, 3, .getfield 54, 8, 8, 0, 440), (40, 3, .invokevirtual 203, 115, 0, 0, 1017), (43, 3, .invokevirtual 206, 124, 0, 0, 1031), (46, 1, .istore_n 3, 0, 0, 0, 0), (47, 1, .iload_n 3, 0, 0, 0, 0)], [(48, 1, .aload_n 0, 0, 0, 0, 0), (49, 3, .getfield 54, 8, 8, 0, 440), (52, 3, .getfield 184, 0, 6, 0, 341), (55, 1, .imul, 0, 0, 0, 0), (56, 1, .iload_n 2, 0, 0, 0, 0), (57, 1, .isub, 0, 0, 0, 0), (58, 1, .aload_n 0, 0, 0, 0, 0), (59, 3, .getfield 54, 8, 8, 0, 440), (62, 3, .getfield 184, 0, 6, 0, 341)], [(65, 1, .iload_n 1, 0, 0, 0, 0), (66, 3, .invokestatic 158, 233, 0, 0, 909), (69, 1, .ireturn, 0, 0, 0, 0)]], 4, 1, 1, 8, 1, 0, 0)
/-- StrawWatch.broom.()I -/
def mt_224 : List (List mm_I) × Nat × mm_M := ([[(0, 1, .aload_n 0, 0, 0, 0, 0), (1, 3, .getfield 23, 8, 3, 0, 435), (4, 3, .getfield 155, 6, 4, 0, 190), (7, 3, .ifCond .le 23, 0, 0, 0, 0), (10, 1, .aload_n 0, 0, 0, 0, 0), (11, 3, .getfield 44, 8, 6, 0, 438), (14, 3, .getfield 110, 5, 0, 0, 312)], [(17, 1, .iconst 5, 0, 0, 0, 0), (18, 1, .iaload, 0, 0, 0, 0), (19, 1, .aload_n 0, 0, 0, 0, 0), (20, 3, .getfield 23, 8, 3, 0, 435), (23, 3, .getfield 155, 6, 4, 0, 190), (26, 1, .idiv, 0, 0, 0, 0), (27, 3, .goto 6, 0, 0, 0, 0), (30, 3, .sipush 9999, 0, 0, 0, 0)], [(33, 1, .ireturn, 0, 0, 0, 0)]], 1, 0, 1, 8, 1, 0, 0)
/-- StrawWatch.cheats.(IIZ)I -/
def mt_225 : List (List mm_I) × Nat × mm_M := ([[(0, 1, .aload_n 0, 0, 0, 0, 0), (1, 3, .getfield 23, 8, 3, 0, 435), (4, 1, .iload_n 1, 0, 0, 0, 0), (5, 3, .invokevirtual 102, 203, 0, 0, 762), (8, 3, .ifCond .eq 18, 0, 0, 0, 0), (11, 1, .iload_n 2, 0, 0, 0, 0), (12, 3, .ifCond .lt 14, 0, 0, 0, 0), (15, 1, .iload_n 2, 0, 0, 0, 0)], [(16, 1, .aload_n 0, 0, 0, 0, 0), (17, 3, .getfield 68, 8, 10, 0, 442), (20, 3, .getfield 235, 2, 3, 0, 393), (23, 3, .if_icmp .le 5, 0, 0, 0, 0), (26, 1, .iconst (-1), 0, 0, 0, 0), (27, 1, .ireturn, 0, 0, 0, 0), (28, 1, .aload_n 0, 0, 0, 0, 0), (29, 3, .getfield 68, 8, 10, 0, 442)], [(32, 1, .iload_n 1, 0, 0, 0, 0), (33, 1, .iload_n 2, 0, 0, 0, 0), (34, 3, .invokevirtual 238, 152, 0, 0, 1110), (37, 3, .ifCond .eq 13, 0, 0, 0, 0), (40, 1, .iload_n 3, 0, 0, 0, 0), (41, 3, .ifCond .eq 7, 0, 0, 0, 0), (44, 1, .iconst 1, 0, 0, 0, 0), (45, 3, .goto 4, 0, 0, 0, 0)], [(48, 1, .iconst 0, 0, 0, 0, 0), (49, 1, .ireturn, 0, 0, 0, 0), (50, 1, .aload_n 0, 0, 0, 0, 0), (51, 3, .getfield 23, 8, 3, 0, 435), (54, 3, .getfield 155, 6, 4, 0, 190), (57, 1, .iload_n 2, 0, 0, 0, 0), (58, 3, .invokestatic 241, 252, 0, 0, 1114), (61, 2, .istore 4, 0, 0, 0, 0), (63, 2, .iload 4, 0, 0, 0, 0)], [(65, 2, .iload 4, 0, 0, 0, 0), (67, 1, .aload_n 0, 0, 0, 0, 0), (68, 3, .getfield 23, 8, 3, 0, 435), (71, 3, .getfield 155, 6, 4, 0, 190), (74, 1, .iconst 1, 0, 0, 0, 0), (75, 1, .isub, 0, 0, 0, 0), (76, 1, .iload_n 2, 0, 0, 0, 0), (77, 3, .invokestatic 241, 252, 0, 0, 1114)], [(80, 1, .iadd, 0, 0, 0, 0), (81, 1, .iload_n 3, 0, 0, 0, 0), (82, 3, .invokestatic 158, 233, 0, 0, 909), (85, 1, .ireturn, 0, 0, 0, 0)]], 5, 3, 1, 8, 1, 0, 0)
/-- StrawWatch.commonDivisor.(II)I -/
def mt_226 : List (List mm_I) × Nat × mm_M := ([[(0, 1, .iload_n 0, 0, 0, 0, 0), (1, 1, .istore_n 2, 0, 0, 0, 0), (2, 1, .iload_n 1, 0, 0, 0, 0), (3, 1, .istore_n 3, 0, 0, 0, 0), (4, 1, .iconst 0, 0, 0, 0, 0), (5, 2, .istore 4, 0, 0, 0, 0), (7, 2, .iload 4, 0, 0, 0, 0), (9, 2, .bipush 100, 0, 0, 0, 0), (11, 3, .if_icmp .ge 23, 0, 0, 0, 0), (14, 1, .iload_n 3, 0, 0, 0, 0), (15, 3, .ifCond .eq 19, 0, 0, 0, 0)], [(18, 1, .iload_n 2, 0, 0, 0, 0), (19, 1, .iload_n 3, 0, 0, 0, 0), (20, 1, .irem, 0, 0, 0, 0), (21, 2, .istore 5, 0, 0, 0, 0), (23, 1, .iload_n 3, 0, 0, 0, 0), (24, 1, .istore_n 2, 0, 0, 0, 0), (25, 2, .iload 5, 0, 0, 0, 0), (27, 1, .istore_n 3, 0, 0, 0, 0), (28, 3, .iinc 4 1, 0, 0, 0, 0), (31, 3, .goto (-24), 0, 0, 0, 0)], [(34, 1, .iload_n 2, 0, 0, 0, 0), (35, 1, .ireturn, 0, 0, 0, 0)]], 6, 2, 0, 8, 1, 0, 0)
/-- StrawWatch.count.(I)I -/
def mt_227 : List (List mm_I) × Nat × mm_M := ([[(0, 1, .iload_n 1, 0, 0, 0, 0), (1, 63, .tableswitch 165 0 11 #[63, 71, 79, 84, 92, 100, 108, 116, 127, 135, 146, 157], 0, 0, 0, 0)], [], [], [], [(64, 1, .aload_n 0, 0, 0, 0, 0), (65, 3, .getfield 23, 8, 3, 0, 435), (68, 3, .getfield 155, 6, 4, 0, 190), (71, 1, .ireturn, 0, 0, 0, 0), (72, 1, .aload_n 0, 0, 0, 0, 0), (73, 3, .getfield 23, 8, 3, 0, 435), (76, 3, .getfield 252, 6, 8, 0, 204), (79, 1, .ireturn, 0, 0, 0, 0)], [(80, 1, .aload_n 0, 0, 0, 0, 0), (81, 3, .getfield 13, 8, 1, 0, 433), (84, 1, .ireturn, 0, 0, 0, 0), (85, 1, .aload_n 0, 0, 0, 0, 0), (86, 3, .getfield 61, 8, 9, 0, 441), (89, 3, .getfield 273, 3, 4, 0, 370), (92, 1, .ireturn, 0, 0, 0, 0), (93, 1, .aload_n 0, 0, 0, 0, 0), (94, 3, .getfield 68, 8, 10, 0, 442)], [(97, 3, .getfield 235, 2, 3, 0, 393), (100, 1, .ireturn, 0, 0, 0, 0), (101, 1, .aload_n 0, 0, 0, 0, 0), (102, 3, .getfield 68, 8, 10, 0, 442), (105, 3, .getfield 249, 2, 4, 0, 395), (108, 1, .ireturn, 0, 0, 0, 0), (109, 1, .aload_n 0, 0, 0, 0, 0), (110, 3, .getfield 61, 8, 9, 0, 441)], [(113, 3, .invokevirtual 276, 159, 0, 0, 1177), (116, 1, .ireturn, 0, 0, 0, 0), (117, 1, .aload_n 0, 0, 0, 0, 0), (118, 3, .getfield 44, 8, 6, 0, 438), (121, 3, .getfield 110, 5, 0, 0, 312), (124, 2, .bipush 8, 0, 0, 0, 0), (126, 1, .iaload, 0, 0, 0, 0), (127, 1, .ireturn, 0, 0, 0, 0)], [(128, 1, .aload_n 0, 0, 0, 0, 0), (129, 3, .getfield 44, 8, 6, 0, 438), (132, 3, .invokevirtual 279, 199, 0, 0, 1181), (135, 1, .ireturn, 0, 0, 0, 0), (136, 1, .aload_n 0, 0, 0, 0, 0), (137, 3, .getfield 44, 8, 6, 0, 438), (140, 3, .getfield 110, 5, 0, 0, 312), (143, 2, .bipush 10, 0, 0, 0, 0)], [(145, 1, .iaload, 0, 0, 0, 0), (146, 1, .ireturn, 0, 0, 0, 0), (147, 1, .aload_n 0, 0, 0, 0, 0), (148, 3, .getfield 44, 8, 6, 0, 438), (151, 3, .getfield 110, 5, 0, 0, 312), (154, 2, .bipush 9, 0, 0, 0, 0), (156, 1, .iaload, 0, 0, 0, 0), (157, 1, .ireturn, 0, 0, 0, 0), (158, 1, .aload_n 0, 0, 0, 0, 0), (159, 3, .getfield 54, 8, 8, 0, 440)], [(162, 3, .getfield 184, 0, 6, 0, 341), (165, 1, .ireturn, 0, 0, 0, 0), (166, 1, .iconst (-1), 0, 0, 0, 0), (167, 1, .ireturn, 0, 0, 0, 0)]], 2, 1, 1, 8, 1, 0, 0)
/-- StrawWatch.endOfTrial.(I)I -/
def mt_228 : List (List mm_I) × Nat × mm_M := ([[(0, 1, .iload_n 1, 0, 0, 0, 0), (1, 3, .ifCond .lt 8, 0, 0, 0, 0), (4, 1, .iload_n 1, 0, 0, 0, 0), (5, 1, .iconst 1, 0, 0, 0, 0), (6, 3, .if_icmp .le 5, 0, 0, 0, 0), (9, 1, .iconst (-1), 0, 0, 0, 0), (10, 1, .ireturn, 0, 0, 0, 0), (11, 1, .aload_n 0, 0, 0, 0, 0), (12, 3, .getfield 48, 8, 7, 0, 439), (15, 3, .sipush 200, 0, 0, 0, 0)], [(18, 3, .invokevirtual 148, 192, 0, 0, 874), (21, 1, .istore_n 2, 0, 0, 0, 0), (22, 1, .aload_n 0, 0, 0, 0, 0), (23, 3, .getfield 48, 8, 7, 0, 439), (26, 3, .getfield 110, 5, 0, 0, 312), (29, 2, .bipush 6, 0, 0, 0, 0), (31, 1, .iaload, 0, 0, 0, 0)], [(32, 1, .istore_n 3, 0, 0, 0, 0), (33, 1, .iload_n 3, 0, 0, 0, 0), (34, 3, .ifCond .ne 6, 0, 0, 0, 0), (37, 2, .bipush (-2), 0, 0, 0, 0), (39, 1, .ireturn, 0, 0, 0, 0), (40, 1, .iload_n 1, 0, 0, 0, 0), (41, 3, .ifCond .ne 7, 0, 0, 0, 0), (44, 1, .iload_n 2, 0, 0, 0, 0), (45, 3, .goto 4, 0, 0, 0, 0)], [(48, 1, .iload_n 3, 0, 0, 0, 0), (49, 1, .ireturn, 0, 0, 0, 0)]], 4, 1, 1, 8, 1, 0, 0)
/-- StrawWatch.ends.(I)I -/
def mt_229 : List (List mm_I) × Nat × mm_M := ([[(0, 1, .aload_n 0, 0, 0, 0, 0), (1, 3, .getfield 48, 8, 7, 0, 439), (4, 1, .aload_n 0, 0, 0, 0, 0), (5, 3, .getfield 44, 8, 6, 0, 438), (8, 3, .invokevirtual 212, 181, 0, 0, 1045), (11, 1, .aload_n 0, 0, 0, 0, 0), (12, 1, .iload_n 1, 0, 0, 0, 0), (13, 3, .invokevirtual 216, 228, 0, 0, 1058)], [(16, 1, .ireturn, 0, 0, 0, 0)]], 2, 1, 1, 8, 1, 0, 0)
/-- StrawWatch.feed.(IIIII)I -/
def mt_230 : List (List mm_I) × Nat × mm_M := ([[(0, 1, .aload_n 0, 0, 0, 0, 0), (1, 3, .getfield 13, 8, 1, 0, 433), (4, 2, .bipush 20, 0, 0, 0, 0), (6, 1, .iadd, 0, 0, 0, 0), (7, 3, .sipush 2000, 0, 0, 0, 0), (10, 3, .if_icmp .le 5, 0, 0, 0, 0), (13, 1, .iconst (-1), 0, 0, 0, 0), (14, 1, .ireturn, 0, 0, 0, 0), (15, 1, .aload_n 0, 0, 0, 0, 0)], [(16, 1, .iload_n 1, 0, 0, 0, 0), (17, 3, .invokevirtual 79, 220, 0, 0, 470), (20, 1, .aload_n 0, 0, 0, 0, 0), (21, 1, .iload_n 2, 0, 0, 0, 0), (22, 3, .invokevirtual 79, 220, 0, 0, 470), (25, 1, .aload_n 0, 0, 0, 0, 0), (26, 1, .iload_n 3, 0, 0, 0, 0), (27, 3, .invokevirtual 79, 220, 0, 0, 470), (30, 1, .aload_n 0, 0, 0, 0, 0), (31, 2, .iload 4, 0, 0, 0, 0)], [(33, 3, .invokevirtual 79, 220, 0, 0, 470), (36, 1, .aload_n 0, 0, 0, 0, 0), (37, 2, .iload 5, 0, 0, 0, 0), (39, 3, .invokevirtual 79, 220, 0, 0, 470), (42, 1, .aload_n 0, 0, 0, 0, 0), (43, 3, .getfield 13, 8, 1, 0, 433), (46, 1, .ireturn, 0, 0, 0, 0)]], 6, 5, 1, 8, 1, 0, 0)
/-- StrawWatch.fitsLog.(II)Z -/
def mt_231 : List (List mm_I) × Nat × mm_M := ([[(0, 1, .aload_n 0, 0, 0, 0, 0), (1, 3, .getfield 48, 8, 7, 0, 439), (4, 1, .iload_n 1, 0, 0, 0, 0), (5, 3, .invokevirtual 72, 194, 0, 0, 407), (8, 1, .aload_n 0, 0, 0, 0, 0), (9, 3, .getfield 68, 8, 10, 0, 442), (12, 1, .iload_n 2, 0, 0, 0, 0), (13, 3, .invokevirtual 288, 151, 0, 0, 1138)], [(16, 1, .istore_n 3, 0, 0, 0, 0), (17, 1, .iconst 0, 0, 0, 0, 0), (18, 2, .istore 4, 0, 0, 0, 0), (20, 2, .iload 4, 0, 0, 0, 0), (22, 1, .iload_n 3, 0, 0, 0, 0), (23, 3, .if_icmp .gt 62, 0, 0, 0, 0), (26, 2, .iload 4, 0, 0, 0, 0), (28, 2, .bipush 60, 0, 0, 0, 0), (30, 3, .if_icmp .gt 55, 0, 0, 0, 0)], [(33, 1, .aload_n 0, 0, 0, 0, 0), (34, 3, .getfield 48, 8, 7, 0, 439), (37, 3, .getfield 110, 5, 0, 0, 312), (40, 2, .bipush 6, 0, 0, 0, 0), (42, 1, .iaload, 0, 0, 0, 0), (43, 3, .ifCond .ne 25, 0, 0, 0, 0), (46, 1, .aload_n 0, 0, 0, 0, 0), (47, 3, .getfield 68, 8, 10, 0, 442)], [(50, 1, .iload_n 2, 0, 0, 0, 0), (51, 2, .iload 4, 0, 0, 0, 0), (53, 1, .aload_n 0, 0, 0, 0, 0), (54, 3, .getfield 48, 8, 7, 0, 439), (57, 3, .getfield 110, 5, 0, 0, 312), (60, 1, .iconst 0, 0, 0, 0, 0), (61, 1, .iaload, 0, 0, 0, 0), (62, 3, .invokevirtual 291, 147, 0, 0, 1143)], [(65, 3, .ifCond .ne 5, 0, 0, 0, 0), (68, 1, .iconst 0, 0, 0, 0, 0), (69, 1, .ireturn, 0, 0, 0, 0), (70, 1, .aload_n 0, 0, 0, 0, 0), (71, 3, .getfield 48, 8, 7, 0, 439), (74, 1, .iconst 1, 0, 0, 0, 0), (75, 3, .invokevirtual 148, 192, 0, 0, 874), (78, 1, .pop, 0, 0, 0, 0), (79, 3, .iinc 4 1, 0, 0, 0, 0)], [(82, 3, .goto (-62), 0, 0, 0, 0), (85, 1, .iconst 1, 0, 0, 0, 0), (86, 1, .ireturn, 0, 0, 0, 0)]], 5, 2, 1, 8, 2, 0, 0)
/-- StrawWatch.forget.()I -/
def mt_232 : List (List mm_I) × Nat × mm_M := ([[(0, 1, .aload_n 0, 0, 0, 0, 0), (1, 3, .getfield 68, 8, 10, 0, 442), (4, 3, .getfield 235, 2, 3, 0, 393), (7, 1, .aload_n 0, 0, 0, 0, 0), (8, 3, .getfield 68, 8, 10, 0, 442), (11, 3, .getfield 249, 2, 4, 0, 395), (14, 1, .iadd, 0, 0, 0, 0), (15, 1, .istore_n 1, 0, 0, 0, 0)], [(16, 1, .aload_n 0, 0, 0, 0, 0), (17, 3, .getfield 68, 8, 10, 0, 442), (20, 3, .invokevirtual 99, 149, 0, 0, 750), (23, 1, .aload_n 0, 0, 0, 0, 0), (24, 3, .getfield 68, 8, 10, 0, 442), (27, 3, .invokevirtual 263, 148, 0, 0, 1152), (30, 1, .iload_n 1, 0, 0, 0, 0), (31, 1, .ireturn, 0, 0, 0, 0)]], 2, 0, 1, 8, 1, 0, 0)
/-- StrawWatch.fraction.(IIZ)I -/
def mt_233 : List (List mm_I) × Nat × mm_M := ([[(0, 1, .iload_n 0, 0, 0, 0, 0), (1, 3, .invokestatic 295, 276, 0, 0, 912), (4, 1, .iload_n 1, 0, 0, 0, 0), (5, 3, .invokestatic 298, 226, 0, 0, 915), (8, 1, .istore_n 3, 0, 0, 0, 0), (9, 1, .iload_n 3, 0, 0, 0, 0), (10, 1, .iconst 1, 0, 0, 0, 0), (11, 3, .if_icmp .ge 13, 0, 0, 0, 0), (14, 1, .iload_n 2, 0, 0, 0, 0), (15, 3, .ifCond .eq 7, 0, 0, 0, 0)], [(18, 1, .iconst 1, 0, 0, 0, 0), (19, 3, .goto 4, 0, 0, 0, 0), (22, 1, .iconst 0, 0, 0, 0, 0), (23, 1, .ireturn, 0, 0, 0, 0), (24, 1, .iload_n 2, 0, 0, 0, 0), (25, 3, .ifCond .eq 7, 0, 0, 0, 0), (28, 1, .iload_n 1, 0, 0, 0, 0), (29, 3, .goto 4, 0, 0, 0, 0)], [(32, 1, .iload_n 0, 0, 0, 0, 0), (33, 1, .iload_n 3, 0, 0, 0, 0), (34, 1, .idiv, 0, 0, 0, 0), (35, 1, .ireturn, 0, 0, 0, 0)]], 4, 3, 0, 8, 1, 0, 0)
/-- StrawWatch.handy.(I)I -/
def mt_234 : List (List mm_I) × Nat × mm_M := ([[(0, 1, .iload_n 1, 0, 0, 0, 0), (1, 3, .invokestatic 120, 239, 0, 0, 786), (4, 3, .ifCond .ne 5, 0, 0, 0, 0), (7, 1, .iconst (-1), 0, 0, 0, 0), (8, 1, .ireturn, 0, 0, 0, 0), (9, 2, .bipush (-2), 0, 0, 0, 0), (11, 1, .istore_n 2, 0, 0, 0, 0), (12, 1, .iconst (-1), 0, 0, 0, 0), (13, 1, .istore_n 3, 0, 0, 0, 0), (14, 1, .iconst 0, 0, 0, 0, 0), (15, 2, .istore 4, 0, 0, 0, 0)], [(17, 2, .iload 4, 0, 0, 0, 0), (19, 1, .aload_n 0, 0, 0, 0, 0), (20, 3, .getfield 23, 8, 3, 0, 435), (23, 3, .getfield 155, 6, 4, 0, 190), (26, 3, .if_icmp .ge 33, 0, 0, 0, 0), (29, 1, .aload_n 0, 0, 0, 0, 0), (30, 3, .getfield 23, 8, 3, 0, 435)], [(33, 2, .iload 4, 0, 0, 0, 0), (35, 1, .iload_n 1, 0, 0, 0, 0), (36, 3, .invokevirtual 106, 208, 0, 0, 766), (39, 2, .istore 5, 0, 0, 0, 0), (41, 2, .iload 5, 0, 0, 0, 0), (43, 1, .iload_n 3, 0, 0, 0, 0), (44, 3, .if_icmp .le 9, 0, 0, 0, 0), (47, 2, .iload 4, 0, 0, 0, 0)], [(49, 1, .istore_n 2, 0, 0, 0, 0), (50, 2, .iload 5, 0, 0, 0, 0), (52, 1, .istore_n 3, 0, 0, 0, 0), (53, 3, .iinc 4 1, 0, 0, 0, 0), (56, 3, .goto (-39), 0, 0, 0, 0), (59, 1, .iload_n 2, 0, 0, 0, 0), (60, 1, .ireturn, 0, 0, 0, 0)]], 6, 1, 1, 8, 1, 0, 0)
/-- StrawWatch.hide.(IZ)Z -/
def mt_235 : List (List mm_I) × Nat × mm_M := ([[(0, 1, .aload_n 0, 0, 0, 0, 0), (1, 3, .getfield 23, 8, 3, 0, 435), (4, 1, .iload_n 1, 0, 0, 0, 0), (5, 3, .invokevirtual 102, 203, 0, 0, 762), (8, 3, .ifCond .eq 15, 0, 0, 0, 0), (11, 1, .aload_n 0, 0, 0, 0, 0), (12, 3, .getfield 44, 8, 6, 0, 438), (15, 1, .iload_n 1, 0, 0, 0, 0)], [(16, 3, .invokevirtual 114, 183, 0, 0, 774), (19, 1, .iload_n 2, 0, 0, 0, 0), (20, 3, .if_icmp .ne 5, 0, 0, 0, 0), (23, 1, .iconst 0, 0, 0, 0, 0), (24, 1, .ireturn, 0, 0, 0, 0), (25, 1, .aload_n 0, 0, 0, 0, 0), (26, 3, .getfield 61, 8, 9, 0, 441), (29, 1, .aload_n 0, 0, 0, 0, 0), (30, 3, .getfield 44, 8, 6, 0, 438)], [(33, 3, .getfield 110, 5, 0, 0, 312), (36, 3, .invokevirtual 126, 158, 0, 0, 823), (39, 1, .aload_n 0, 0, 0, 0, 0), (40, 3, .getfield 44, 8, 6, 0, 438), (43, 1, .iload_n 1, 0, 0, 0, 0), (44, 1, .iload_n 2, 0, 0, 0, 0), (45, 3, .invokevirtual 130, 193, 0, 0, 829)], [(48, 1, .iconst 1, 0, 0, 0, 0), (49, 1, .ireturn, 0, 0, 0, 0)]], 3, 2, 1, 8, 2, 0, 0)
/-- StrawWatch.hold.(I)Z -/
def mt_236 : List (List mm_I) × Nat × mm_M := ([[(0, 1, .aload_n 0, 0, 0, 0, 0), (1, 3, .getfield 61, 8, 9, 0, 441), (4, 1, .iload_n 1, 0, 0, 0, 0), (5, 1, .aload_n 0, 0, 0, 0, 0), (6, 3, .getfield 44, 8, 6, 0, 438), (9, 3, .getfield 110, 5, 0, 0, 312), (12, 3, .invokevirtual 266, 157, 0, 0, 1160), (15, 1, .ireturn, 0, 0, 0, 0)]], 2, 1, 1, 8, 2, 0, 0)
/-- StrawWatch.<init>.()V -/
def mt_237 : List (List mm_I) × Nat × mm_M := ([[(0, 1, .aload_n 0, 0, 0, 0, 0), (1, 3, .invokespecial 1, 0, 0, 0, 125), (4, 1, .aload_n 0, 0, 0, 0, 0), (5, 3, .sipush 2000, 0, 0, 0, 0), (8, 2, .newarray .byte, 0, 0, 0, 159), (10, 3, .putfield 9, 8, 0, 0, 432), (13, 1, .aload_n 0, 0, 0, 0, 0), (14, 1, .iconst 0, 0, 0, 0, 0), (15, 3, .putfield 13, 8, 1, 0, 433)], [(18, 1, .aload_n 0, 0, 0, 0, 0), (19, 1, .iconst (-1), 0, 0, 0, 0), (20, 3, .putfield 17, 8, 2, 0, 434), (23, 1, .aload_n 0, 0, 0, 0, 0), (24, 3, .new 20, 6, 0, 0, 128), (27, 1, .dup, 0, 0, 0, 0), (28, 3, .invokespecial 22, 204, 0, 0, 130), (31, 3, .putfield 23, 8, 3, 0, 435)], [(34, 1, .aload_n 0, 0, 0, 0, 0), (35, 3, .new 20, 6, 0, 0, 128), (38, 1, .dup, 0, 0, 0, 0), (39, 3, .invokespecial 22, 204, 0, 0, 130), (42, 3, .putfield 27, 8, 4, 0, 436), (45, 1, .aload_n 0, 0, 0, 0, 0), (46, 3, .new 30, 4, 0, 0, 236)], [(49, 1, .dup, 0, 0, 0, 0), (50, 1, .aload_n 0, 0, 0, 0, 0), (51, 3, .getfield 27, 8, 4, 0, 436), (54, 1, .aload_n 0, 0, 0, 0, 0), (55, 3, .getfield 9, 8, 0, 0, 432), (58, 3, .invokespecial 32, 162, 0, 0, 238), (61, 3, .putfield 35, 8, 5, 0, 437)], [(64, 1, .aload_n 0, 0, 0, 0, 0), (65, 3, .new 39, 5, 0, 0, 305), (68, 1, .dup, 0, 0, 0, 0), (69, 1, .aload_n 0, 0, 0, 0, 0), (70, 3, .getfield 23, 8, 3, 0, 435), (73, 3, .invokespecial 41, 184, 0, 0, 307), (76, 3, .putfield 44, 8, 6, 0, 438), (79, 1, .aload_n 0, 0, 0, 0, 0)], [(80, 3, .new 39, 5, 0, 0, 305), (83, 1, .dup, 0, 0, 0, 0), (84, 1, .aload_n 0, 0, 0, 0, 0), (85, 3, .getfield 23, 8, 3, 0, 435), (88, 3, .invokespecial 41, 184, 0, 0, 307), (91, 3, .putfield 48, 8, 7, 0, 439), (94, 1, .aload_n 0, 0, 0, 0, 0), (95, 3, .new 51, 0, 0, 0, 328)], [(98, 1, .dup, 0, 0, 0, 0), (99, 1, .aload_n 0, 0, 0, 0, 0), (100, 3, .getfield 23, 8, 3, 0, 435), (103, 3, .invokespecial 53, 120, 0, 0, 330), (106, 3, .putfield 54, 8, 8, 0, 440), (109, 1, .aload_n 0, 0, 0, 0, 0), (110, 3, .new 58, 3, 0, 0, 357)], [(113, 1, .dup, 0, 0, 0, 0), (114, 3, .invokespecial 60, 156, 0, 0, 359), (117, 3, .putfield 61, 8, 9, 0, 441), (120, 1, .aload_n 0, 0, 0, 0, 0), (121, 3, .new 65, 2, 0, 0, 383), (124, 1, .dup, 0, 0, 0, 0), (125, 3, .invokespecial 67, 150, 0, 0, 385)], [(128, 3, .putfield 68, 8, 10, 0, 442), (131, 1, .aload_n 0, 0, 0, 0, 0), (132, 3, .getfield 44, 8, 6, 0, 438), (135, 1, .iconst 0, 0, 0, 0, 0), (136, 3, .invokevirtual 72, 194, 0, 0, 407), (139, 1, .aload_n 0, 0, 0, 0, 0), (140, 3, .getfield 54, 8, 8, 0, 440), (143, 3, .invokevirtual 76, 116, 0, 0, 418)], [(146, 1, .return_, 0, 0, 0, 0)]], 1, 0, 2, 8, 0, 87, 8266)
/-- StrawWatch.isMeasure.(I)Z -/
def mt_238 : List (List mm_I) × Nat × mm_M := ([[(0, 1, .iload_n 0, 0, 0, 0, 0), (1, 3, .ifCond .lt 12, 0, 0, 0, 0), (4, 1, .iload_n 0, 0, 0, 0, 0), (5, 1, .iconst 3, 0, 0, 0, 0), (6, 3, .if_icmp .gt 7, 0, 0, 0, 0), (9, 1, .iconst 1, 0, 0, 0, 0), (10, 3, .goto 4, 0, 0, 0, 0), (13, 1, .iconst 0, 0, 0, 0, 0), (14, 1, .ireturn, 0, 0, 0, 0)]], 1, 1, 0, 8, 2, 0, 0)
/-- StrawWatch.isPost.(I)Z -/
def mt_239 : List (List mm_I) × Nat × mm_M := ([[(0, 1, .iload_n 0, 0, 0, 0, 0), (1, 3, .ifCond .lt 12, 0, 0, 0, 0), (4, 1, .iload_n 0, 0, 0, 0, 0), (5, 1, .iconst 4, 0, 0, 0, 0), (6, 3, .if_icmp .ge 7, 0, 0, 0, 0), (9, 1, .iconst 1, 0, 0, 0, 0), (10, 3, .goto 4, 0, 0, 0, 0), (13, 1, .iconst 0, 0, 0, 0, 0), (14, 1, .ireturn, 0, 0, 0, 0)]], 1, 1, 0, 8, 2, 0, 0)
/-- StrawWatch.isSail.(I)Z -/
def mt_240 : List (List mm_I) × Nat × mm_M := ([[(0, 1, .iload_n 0, 0, 0, 0, 0), (1, 3, .ifCond .lt 12, 0, 0, 0, 0), (4, 1, .iload_n 0, 0, 0, 0, 0), (5, 1, .iconst 4, 0, 0, 0, 0), (6, 3, .if_icmp .ge 7, 0, 0, 0, 0), (9, 1, .iconst 1, 0, 0, 0, 0), (10, 3, .goto 4, 0, 0, 0, 0), (13, 1, .iconst 0, 0, 0, 0, 0), (14, 1, .ireturn, 0, 0, 0, 0)]], 1, 1, 0, 8, 2, 0, 0)
/-- StrawWatch.isSailOrOrders.(I)Z -/
def mt_241 : List (List mm_I) × Nat × mm_M := ([[(0, 1, .iload_n 0, 0, 0, 0, 0), (1, 1, .iconst (-1), 0, 0, 0, 0), (2, 3, .if_icmp .eq 10, 0, 0, 0, 0), (5, 1, .iload_n 0, 0, 0, 0, 0), (6, 3, .invokestatic 219, 240, 0, 0, 937), (9, 3, .ifCond .eq 7, 0, 0, 0, 0), (12, 1, .iconst 1, 0, 0, 0, 0), (13, 3, .goto 4, 0, 0, 0, 0)], [(16, 1, .iconst 0, 0, 0, 0, 0), (17, 1, .ireturn, 0, 0, 0, 0)]], 1, 1, 0, 8, 2, 0, 0)
/-- StrawWatch.likely.(IIZ)I -/
def mt_242 : List (List mm_I) × Nat × mm_M := ([[(0, 1, .aload_n 0, 0, 0, 0, 0), (1, 3, .getfield 23, 8, 3, 0, 435), (4, 1, .iload_n 1, 0, 0, 0, 0), (5, 3, .invokevirtual 102, 203, 0, 0, 762), (8, 3, .ifCond .eq 10, 0, 0, 0, 0), (11, 1, .iload_n 2, 0, 0, 0, 0), (12, 3, .invokestatic 120, 239, 0, 0, 786), (15, 3, .ifCond .ne 5, 0, 0, 0, 0)], [(18, 1, .iconst (-1), 0, 0, 0, 0), (19, 1, .ireturn, 0, 0, 0, 0), (20, 1, .iload_n 2, 0, 0, 0, 0), (21, 1, .aload_n 0, 0, 0, 0, 0), (22, 3, .getfield 23, 8, 3, 0, 435), (25, 3, .getfield 155, 6, 4, 0, 190), (28, 3, .if_icmp .ge 7, 0, 0, 0, 0), (31, 1, .iconst 1, 0, 0, 0, 0)], [(32, 3, .goto 4, 0, 0, 0, 0), (35, 1, .iconst 0, 0, 0, 0, 0), (36, 1, .aload_n 0, 0, 0, 0, 0), (37, 3, .getfield 23, 8, 3, 0, 435), (40, 3, .getfield 155, 6, 4, 0, 190), (43, 1, .iload_n 3, 0, 0, 0, 0), (44, 3, .invokestatic 158, 233, 0, 0, 909), (47, 1, .ireturn, 0, 0, 0, 0)]], 4, 3, 1, 8, 1, 0, 0)
/-- StrawWatch.log.(II)I -/
def mt_243 : List (List mm_I) × Nat × mm_M := ([[(0, 1, .iload_n 1, 0, 0, 0, 0), (1, 3, .ifCond .lt 20, 0, 0, 0, 0), (4, 1, .iload_n 1, 0, 0, 0, 0), (5, 2, .bipush 60, 0, 0, 0, 0), (7, 3, .if_icmp .gt 14, 0, 0, 0, 0), (10, 1, .iload_n 2, 0, 0, 0, 0), (11, 3, .ifCond .lt 10, 0, 0, 0, 0), (14, 1, .iload_n 2, 0, 0, 0, 0), (15, 3, .sipush 999, 0, 0, 0, 0)], [(18, 3, .if_icmp .le 5, 0, 0, 0, 0), (21, 1, .iconst (-1), 0, 0, 0, 0), (22, 1, .ireturn, 0, 0, 0, 0), (23, 1, .aload_n 0, 0, 0, 0, 0), (24, 3, .getfield 68, 8, 10, 0, 442), (27, 1, .iload_n 1, 0, 0, 0, 0), (28, 1, .iload_n 2, 0, 0, 0, 0), (29, 3, .invokevirtual 246, 145, 0, 0, 1126)], [(32, 1, .ireturn, 0, 0, 0, 0)]], 3, 2, 1, 8, 1, 0, 0)
/-- StrawWatch.man.(II)I -/
def mt_244 : List (List mm_I) × Nat × mm_M := ([[(0, 1, .aload_n 0, 0, 0, 0, 0), (1, 3, .getfield 23, 8, 3, 0, 435), (4, 1, .iload_n 1, 0, 0, 0, 0), (5, 3, .invokevirtual 102, 203, 0, 0, 762), (8, 3, .ifCond .ne 5, 0, 0, 0, 0), (11, 1, .iconst (-1), 0, 0, 0, 0), (12, 1, .ireturn, 0, 0, 0, 0), (13, 1, .iload_n 2, 0, 0, 0, 0), (14, 50, .tableswitch 132 0 8 #[50, 50, 50, 50, 60, 73, 90, 99, 112], 0, 0, 0, 0)], [], [], [], [(64, 1, .aload_n 0, 0, 0, 0, 0), (65, 3, .getfield 23, 8, 3, 0, 435), (68, 1, .iload_n 1, 0, 0, 0, 0), (69, 1, .iload_n 2, 0, 0, 0, 0), (70, 3, .invokevirtual 106, 208, 0, 0, 766), (73, 1, .ireturn, 0, 0, 0, 0), (74, 1, .aload_n 0, 0, 0, 0, 0), (75, 3, .getfield 44, 8, 6, 0, 438), (78, 3, .getfield 110, 5, 0, 0, 312)], [(81, 2, .bipush 15, 0, 0, 0, 0), (83, 1, .iload_n 1, 0, 0, 0, 0), (84, 1, .iadd, 0, 0, 0, 0), (85, 1, .iaload, 0, 0, 0, 0), (86, 1, .ireturn, 0, 0, 0, 0), (87, 1, .aload_n 0, 0, 0, 0, 0), (88, 3, .getfield 44, 8, 6, 0, 438), (91, 1, .iload_n 1, 0, 0, 0, 0), (92, 3, .invokevirtual 114, 183, 0, 0, 774), (95, 3, .ifCond .eq 7, 0, 0, 0, 0)], [(98, 1, .iconst 1, 0, 0, 0, 0), (99, 3, .goto 4, 0, 0, 0, 0), (102, 1, .iconst 0, 0, 0, 0, 0), (103, 1, .ireturn, 0, 0, 0, 0), (104, 1, .aload_n 0, 0, 0, 0, 0), (105, 3, .getfield 44, 8, 6, 0, 438), (108, 1, .iload_n 1, 0, 0, 0, 0), (109, 3, .invokevirtual 117, 190, 0, 0, 778)], [(112, 1, .ireturn, 0, 0, 0, 0), (113, 1, .aload_n 0, 0, 0, 0, 0), (114, 3, .getfield 44, 8, 6, 0, 438), (117, 3, .getfield 110, 5, 0, 0, 312), (120, 2, .bipush 21, 0, 0, 0, 0), (122, 1, .iload_n 1, 0, 0, 0, 0), (123, 1, .iadd, 0, 0, 0, 0), (124, 1, .iaload, 0, 0, 0, 0), (125, 1, .ireturn, 0, 0, 0, 0), (126, 1, .aload_n 0, 0, 0, 0, 0), (127, 3, .getfield 44, 8, 6, 0, 438)], [(130, 3, .getfield 110, 5, 0, 0, 312), (133, 2, .bipush 9, 0, 0, 0, 0), (135, 1, .iaload, 0, 0, 0, 0), (136, 1, .iload_n 1, 0, 0, 0, 0), (137, 3, .if_icmp .ne 7, 0, 0, 0, 0), (140, 1, .iconst 1, 0, 0, 0, 0), (141, 3, .goto 4, 0, 0, 0, 0)], [(144, 1, .iconst 0, 0, 0, 0, 0), (145, 1, .ireturn, 0, 0, 0, 0), (146, 1, .iconst (-1), 0, 0, 0, 0), (147, 1, .ireturn, 0, 0, 0, 0)]], 3, 2, 1, 8, 1, 0, 0)
/-- StrawWatch.mayStand.(I)Z -/
def mt_245 : List (List mm_I) × Nat × mm_M := ([[(0, 1, .iload_n 1, 0, 0, 0, 0), (1, 1, .iconst (-1), 0, 0, 0, 0), (2, 3, .if_icmp .eq 14, 0, 0, 0, 0), (5, 1, .aload_n 0, 0, 0, 0, 0), (6, 3, .getfield 23, 8, 3, 0, 435), (9, 1, .iload_n 1, 0, 0, 0, 0), (10, 3, .invokevirtual 102, 203, 0, 0, 762), (13, 3, .ifCond .eq 7, 0, 0, 0, 0)], [(16, 1, .iconst 1, 0, 0, 0, 0), (17, 3, .goto 4, 0, 0, 0, 0), (20, 1, .iconst 0, 0, 0, 0, 0), (21, 1, .ireturn, 0, 0, 0, 0)]], 2, 1, 1, 8, 2, 0, 0)
/-- StrawWatch.mean.(IIZ)I -/
def mt_246 : List (List mm_I) × Nat × mm_M := ([[(0, 1, .iload_n 1, 0, 0, 0, 0), (1, 3, .invokestatic 174, 238, 0, 0, 931), (4, 3, .ifCond .eq 10, 0, 0, 0, 0), (7, 1, .iload_n 2, 0, 0, 0, 0), (8, 3, .invokestatic 177, 241, 0, 0, 934), (11, 3, .ifCond .ne 6, 0, 0, 0, 0), (14, 2, .ldc 180, 0, 0, (-100000), 940)], [(16, 1, .ireturn, 0, 0, 0, 0), (17, 1, .aload_n 0, 0, 0, 0, 0), (18, 3, .getfield 44, 8, 6, 0, 438), (21, 3, .invokevirtual 162, 188, 0, 0, 922), (24, 1, .aload_n 0, 0, 0, 0, 0), (25, 3, .getfield 54, 8, 8, 0, 440), (28, 1, .iconst 3, 0, 0, 0, 0), (29, 1, .iload_n 1, 0, 0, 0, 0), (30, 1, .iadd, 0, 0, 0, 0), (31, 1, .iload_n 2, 0, 0, 0, 0)], [(32, 3, .invokevirtual 181, 125, 0, 0, 941), (35, 1, .aload_n 0, 0, 0, 0, 0), (36, 3, .getfield 54, 8, 8, 0, 440), (39, 3, .getfield 184, 0, 6, 0, 341), (42, 1, .iload_n 3, 0, 0, 0, 0), (43, 3, .invokestatic 158, 233, 0, 0, 909), (46, 1, .ireturn, 0, 0, 0, 0)]], 4, 3, 1, 8, 1, 0, 0)
/-- StrawWatch.most.(IIZ)I -/
def mt_247 : List (List mm_I) × Nat × mm_M := ([[(0, 1, .iload_n 1, 0, 0, 0, 0), (1, 3, .invokestatic 174, 238, 0, 0, 931), (4, 3, .ifCond .eq 10, 0, 0, 0, 0), (7, 1, .iload_n 2, 0, 0, 0, 0), (8, 3, .invokestatic 177, 241, 0, 0, 934), (11, 3, .ifCond .ne 6, 0, 0, 0, 0), (14, 2, .ldc 180, 0, 0, (-100000), 940)], [(16, 1, .ireturn, 0, 0, 0, 0), (17, 1, .aload_n 0, 0, 0, 0, 0), (18, 3, .getfield 44, 8, 6, 0, 438), (21, 3, .invokevirtual 162, 188, 0, 0, 922), (24, 1, .aload_n 0, 0, 0, 0, 0), (25, 3, .getfield 54, 8, 8, 0, 440), (28, 1, .iconst 3, 0, 0, 0, 0), (29, 1, .iload_n 1, 0, 0, 0, 0), (30, 1, .iadd, 0, 0, 0, 0), (31, 1, .iload_n 2, 0, 0, 0, 0)], [(32, 1, .iload_n 3, 0, 0, 0, 0), (33, 3, .invokevirtual 187, 118, 0, 0, 955), (36, 1, .ireturn, 0, 0, 0, 0)]], 4, 3, 1, 8, 1, 0, 0)
/-- StrawWatch.often.(III)I -/
def mt_248 : List (List mm_I) × Nat × mm_M := ([[(0, 1, .aload_n 0, 0, 0, 0, 0), (1, 3, .getfield 23, 8, 3, 0, 435), (4, 1, .iload_n 1, 0, 0, 0, 0), (5, 3, .invokevirtual 102, 203, 0, 0, 762), (8, 3, .ifCond .eq 21, 0, 0, 0, 0), (11, 1, .iload_n 2, 0, 0, 0, 0), (12, 3, .invokestatic 120, 239, 0, 0, 786), (15, 3, .ifCond .eq 14, 0, 0, 0, 0)], [(18, 1, .iload_n 3, 0, 0, 0, 0), (19, 3, .ifCond .lt 10, 0, 0, 0, 0), (22, 1, .iload_n 3, 0, 0, 0, 0), (23, 3, .sipush 200, 0, 0, 0, 0), (26, 3, .if_icmp .le 5, 0, 0, 0, 0), (29, 1, .iconst (-1), 0, 0, 0, 0), (30, 1, .ireturn, 0, 0, 0, 0), (31, 1, .aload_n 0, 0, 0, 0, 0)], [(32, 3, .getfield 48, 8, 7, 0, 439), (35, 1, .aload_n 0, 0, 0, 0, 0), (36, 3, .getfield 44, 8, 6, 0, 438), (39, 3, .invokevirtual 212, 181, 0, 0, 1045), (42, 1, .iconst 0, 0, 0, 0, 0), (43, 2, .istore 4, 0, 0, 0, 0), (45, 1, .iconst 0, 0, 0, 0, 0), (46, 2, .istore 5, 0, 0, 0, 0)], [(48, 2, .iload 5, 0, 0, 0, 0), (50, 1, .iload_n 3, 0, 0, 0, 0), (51, 3, .if_icmp .ge 40, 0, 0, 0, 0), (54, 1, .aload_n 0, 0, 0, 0, 0), (55, 3, .getfield 48, 8, 7, 0, 439), (58, 1, .iconst 1, 0, 0, 0, 0), (59, 3, .invokevirtual 148, 192, 0, 0, 874), (62, 1, .iconst 1, 0, 0, 0, 0), (63, 3, .if_icmp .ne 28, 0, 0, 0, 0)], [(66, 1, .aload_n 0, 0, 0, 0, 0), (67, 3, .getfield 48, 8, 7, 0, 439), (70, 3, .getfield 110, 5, 0, 0, 312), (73, 2, .bipush 11, 0, 0, 0, 0), (75, 1, .iload_n 2, 0, 0, 0, 0), (76, 1, .iadd, 0, 0, 0, 0), (77, 1, .iaload, 0, 0, 0, 0), (78, 1, .iload_n 1, 0, 0, 0, 0), (79, 3, .if_icmp .ne 6, 0, 0, 0, 0)], [(82, 3, .iinc 4 1, 0, 0, 0, 0), (85, 3, .iinc 5 1, 0, 0, 0, 0), (88, 3, .goto (-40), 0, 0, 0, 0), (91, 2, .iload 4, 0, 0, 0, 0), (93, 1, .ireturn, 0, 0, 0, 0)]], 6, 3, 1, 8, 1, 0, 0)
/-- StrawWatch.orders.(I)I -/
def mt_249 : List (List mm_I) × Nat × mm_M := ([[(0, 1, .aload_n 0, 0, 0, 0, 0), (1, 3, .getfield 23, 8, 3, 0, 435), (4, 1, .iload_n 1, 0, 0, 0, 0), (5, 3, .invokevirtual 102, 203, 0, 0, 762), (8, 3, .ifCond .ne 5, 0, 0, 0, 0), (11, 1, .iconst (-1), 0, 0, 0, 0), (12, 1, .ireturn, 0, 0, 0, 0), (13, 1, .aload_n 0, 0, 0, 0, 0), (14, 3, .getfield 44, 8, 6, 0, 438)], [(17, 3, .invokevirtual 162, 188, 0, 0, 922), (20, 1, .aload_n 0, 0, 0, 0, 0), (21, 3, .getfield 23, 8, 3, 0, 435), (24, 3, .getfield 165, 6, 0, 0, 181), (27, 1, .aload_n 0, 0, 0, 0, 0), (28, 3, .getfield 23, 8, 3, 0, 435), (31, 1, .iload_n 1, 0, 0, 0, 0)], [(32, 1, .iconst 0, 0, 0, 0, 0), (33, 3, .invokevirtual 106, 208, 0, 0, 766), (36, 3, .invokevirtual 169, 142, 0, 0, 923), (39, 1, .ireturn, 0, 0, 0, 0)]], 2, 1, 1, 8, 1, 0, 0)
/-- StrawWatch.place.()I -/
def mt_250 : List (List mm_I) × Nat × mm_M := ([[(0, 1, .aload_n 0, 0, 0, 0, 0), (1, 3, .getfield 17, 8, 2, 0, 434), (4, 1, .ireturn, 0, 0, 0, 0)]], 1, 0, 1, 8, 1, 0, 0)
/-- StrawWatch.post.(I)I -/
def mt_251 : List (List mm_I) × Nat × mm_M := ([[(0, 1, .iload_n 1, 0, 0, 0, 0), (1, 3, .invokestatic 120, 239, 0, 0, 786), (4, 3, .ifCond .eq 18, 0, 0, 0, 0), (7, 1, .aload_n 0, 0, 0, 0, 0), (8, 3, .getfield 44, 8, 6, 0, 438), (11, 3, .getfield 110, 5, 0, 0, 312), (14, 2, .bipush 11, 0, 0, 0, 0)], [(16, 1, .iload_n 1, 0, 0, 0, 0), (17, 1, .iadd, 0, 0, 0, 0), (18, 1, .iaload, 0, 0, 0, 0), (19, 3, .goto 4, 0, 0, 0, 0), (22, 1, .iconst (-1), 0, 0, 0, 0), (23, 1, .ireturn, 0, 0, 0, 0)]], 2, 1, 1, 8, 1, 0, 0)
/-- StrawWatch.power.(II)I -/
def mt_252 : List (List mm_I) × Nat × mm_M := ([[(0, 1, .iconst 1, 0, 0, 0, 0), (1, 1, .istore_n 2, 0, 0, 0, 0), (2, 1, .iconst 0, 0, 0, 0, 0), (3, 1, .istore_n 3, 0, 0, 0, 0), (4, 1, .iload_n 3, 0, 0, 0, 0), (5, 1, .iload_n 1, 0, 0, 0, 0), (6, 3, .if_icmp .ge 13, 0, 0, 0, 0), (9, 1, .iload_n 2, 0, 0, 0, 0), (10, 1, .iload_n 0, 0, 0, 0, 0), (11, 1, .imul, 0, 0, 0, 0), (12, 1, .istore_n 2, 0, 0, 0, 0), (13, 3, .iinc 3 1, 0, 0, 0, 0)], [(16, 3, .goto (-12), 0, 0, 0, 0), (19, 1, .iload_n 2, 0, 0, 0, 0), (20, 1, .ireturn, 0, 0, 0, 0)]], 4, 2, 0, 8, 1, 0, 0)
/-- StrawWatch.read.()I -/
def mt_253 : List (List mm_I) × Nat × mm_M := ([[(0, 1, .aload_n 0, 0, 0, 0, 0), (1, 3, .getfield 35, 8, 5, 0, 437), (4, 1, .aload_n 0, 0, 0, 0, 0), (5, 3, .getfield 13, 8, 1, 0, 433), (8, 3, .invokevirtual 82, 173, 0, 0, 482), (11, 1, .istore_n 1, 0, 0, 0, 0), (12, 1, .aload_n 0, 0, 0, 0, 0), (13, 1, .iconst 0, 0, 0, 0, 0), (14, 3, .putfield 13, 8, 1, 0, 433)], [(17, 1, .aload_n 0, 0, 0, 0, 0), (18, 1, .aload_n 0, 0, 0, 0, 0), (19, 3, .getfield 35, 8, 5, 0, 437), (22, 3, .invokevirtual 86, 168, 0, 0, 726), (25, 3, .putfield 17, 8, 2, 0, 434), (28, 1, .iload_n 1, 0, 0, 0, 0), (29, 3, .ifCond .ne 50, 0, 0, 0, 0)], [(32, 1, .aload_n 0, 0, 0, 0, 0), (33, 3, .getfield 23, 8, 3, 0, 435), (36, 1, .aload_n 0, 0, 0, 0, 0), (37, 3, .getfield 27, 8, 4, 0, 436), (40, 3, .invokevirtual 90, 201, 0, 0, 730), (43, 1, .aload_n 0, 0, 0, 0, 0), (44, 3, .getfield 44, 8, 6, 0, 438), (47, 1, .iconst 0, 0, 0, 0, 0)], [(48, 3, .invokevirtual 72, 194, 0, 0, 407), (51, 1, .aload_n 0, 0, 0, 0, 0), (52, 3, .getfield 54, 8, 8, 0, 440), (55, 3, .invokevirtual 76, 116, 0, 0, 418), (58, 1, .aload_n 0, 0, 0, 0, 0), (59, 3, .getfield 61, 8, 9, 0, 441), (62, 3, .invokevirtual 93, 154, 0, 0, 742)], [(65, 1, .aload_n 0, 0, 0, 0, 0), (66, 3, .getfield 61, 8, 9, 0, 441), (69, 3, .invokevirtual 96, 153, 0, 0, 746), (72, 1, .aload_n 0, 0, 0, 0, 0), (73, 3, .getfield 68, 8, 10, 0, 442), (76, 3, .invokevirtual 99, 149, 0, 0, 750), (79, 1, .iload_n 1, 0, 0, 0, 0)], [(80, 1, .ireturn, 0, 0, 0, 0)]], 2, 0, 1, 8, 1, 0, 0)
/-- StrawWatch.restore.(I)Z -/
def mt_254 : List (List mm_I) × Nat × mm_M := ([[(0, 1, .aload_n 0, 0, 0, 0, 0), (1, 3, .getfield 61, 8, 9, 0, 441), (4, 1, .iload_n 1, 0, 0, 0, 0), (5, 1, .aload_n 0, 0, 0, 0, 0), (6, 3, .getfield 44, 8, 6, 0, 438), (9, 3, .getfield 110, 5, 0, 0, 312), (12, 3, .invokevirtual 270, 155, 0, 0, 1168), (15, 1, .ireturn, 0, 0, 0, 0)]], 2, 1, 1, 8, 2, 0, 0)
/-- StrawWatch.risk.(IIZ)I -/
def mt_255 : List (List mm_I) × Nat × mm_M := ([[(0, 1, .iload_n 1, 0, 0, 0, 0), (1, 3, .ifCond .lt 16, 0, 0, 0, 0), (4, 1, .iload_n 1, 0, 0, 0, 0), (5, 2, .bipush 10, 0, 0, 0, 0), (7, 3, .if_icmp .ge 10, 0, 0, 0, 0), (10, 1, .iload_n 2, 0, 0, 0, 0), (11, 3, .invokestatic 177, 241, 0, 0, 934), (14, 3, .ifCond .ne 5, 0, 0, 0, 0)], [(17, 1, .iconst (-1), 0, 0, 0, 0), (18, 1, .ireturn, 0, 0, 0, 0), (19, 1, .aload_n 0, 0, 0, 0, 0), (20, 3, .getfield 44, 8, 6, 0, 438), (23, 3, .invokevirtual 162, 188, 0, 0, 922), (26, 1, .aload_n 0, 0, 0, 0, 0), (27, 3, .getfield 54, 8, 8, 0, 440), (30, 1, .iload_n 2, 0, 0, 0, 0), (31, 3, .invokevirtual 190, 126, 0, 0, 964)], [(34, 1, .aload_n 0, 0, 0, 0, 0), (35, 3, .getfield 54, 8, 8, 0, 440), (38, 3, .getfield 184, 0, 6, 0, 341), (41, 1, .aload_n 0, 0, 0, 0, 0), (42, 3, .getfield 54, 8, 8, 0, 440), (45, 1, .iload_n 1, 0, 0, 0, 0), (46, 3, .invokevirtual 193, 119, 0, 0, 970)], [(49, 1, .isub, 0, 0, 0, 0), (50, 1, .aload_n 0, 0, 0, 0, 0), (51, 3, .getfield 54, 8, 8, 0, 440), (54, 3, .getfield 184, 0, 6, 0, 341), (57, 1, .iload_n 3, 0, 0, 0, 0), (58, 3, .invokestatic 158, 233, 0, 0, 909), (61, 1, .ireturn, 0, 0, 0, 0)]], 4, 3, 1, 8, 1, 0, 0)
/-- StrawWatch.roster.(I)I -/
def mt_256 : List (List mm_I) × Nat × mm_M := ([[(0, 1, .iload_n 1, 0, 0, 0, 0), (1, 1, .iconst (-1), 0, 0, 0, 0), (2, 3, .if_icmp .ne 18, 0, 0, 0, 0), (5, 1, .aload_n 0, 0, 0, 0, 0), (6, 3, .getfield 54, 8, 8, 0, 440), (9, 1, .aload_n 0, 0, 0, 0, 0), (10, 3, .getfield 54, 8, 8, 0, 440), (13, 3, .invokevirtual 203, 115, 0, 0, 1017)], [(16, 3, .invokevirtual 206, 124, 0, 0, 1031), (19, 1, .ireturn, 0, 0, 0, 0), (20, 1, .iload_n 1, 0, 0, 0, 0), (21, 3, .invokestatic 120, 239, 0, 0, 786), (24, 3, .ifCond .eq 21, 0, 0, 0, 0), (27, 1, .aload_n 0, 0, 0, 0, 0), (28, 3, .getfield 54, 8, 8, 0, 440), (31, 1, .aload_n 0, 0, 0, 0, 0)], [(32, 3, .getfield 54, 8, 8, 0, 440), (35, 3, .invokevirtual 203, 115, 0, 0, 1017), (38, 1, .iload_n 1, 0, 0, 0, 0), (39, 3, .invokevirtual 209, 131, 0, 0, 1032), (42, 3, .goto 5, 0, 0, 0, 0), (45, 2, .bipush (-100), 0, 0, 0, 0), (47, 1, .ireturn, 0, 0, 0, 0)]], 2, 1, 1, 8, 1, 0, 0)
/-- StrawWatch.safe.(IZ)I -/
def mt_257 : List (List mm_I) × Nat × mm_M := ([[(0, 1, .iload_n 1, 0, 0, 0, 0), (1, 1, .iconst 1, 0, 0, 0, 0), (2, 3, .if_icmp .lt 8, 0, 0, 0, 0), (5, 1, .iload_n 1, 0, 0, 0, 0), (6, 1, .iconst 2, 0, 0, 0, 0), (7, 3, .if_icmp .le 5, 0, 0, 0, 0), (10, 1, .iconst (-1), 0, 0, 0, 0), (11, 1, .ireturn, 0, 0, 0, 0), (12, 1, .aload_n 0, 0, 0, 0, 0), (13, 3, .getfield 54, 8, 8, 0, 440)], [(16, 1, .iload_n 1, 0, 0, 0, 0), (17, 1, .aload_n 0, 0, 0, 0, 0), (18, 3, .getfield 44, 8, 6, 0, 438), (21, 3, .getfield 110, 5, 0, 0, 312), (24, 3, .invokevirtual 196, 123, 0, 0, 978), (27, 1, .istore_n 3, 0, 0, 0, 0), (28, 1, .aload_n 0, 0, 0, 0, 0), (29, 3, .getfield 54, 8, 8, 0, 440)], [(32, 1, .iload_n 3, 0, 0, 0, 0), (33, 3, .invokevirtual 200, 127, 0, 0, 1009), (36, 1, .iload_n 1, 0, 0, 0, 0), (37, 1, .iconst 1, 0, 0, 0, 0), (38, 3, .if_icmp .ne 13, 0, 0, 0, 0), (41, 1, .aload_n 0, 0, 0, 0, 0), (42, 3, .getfield 54, 8, 8, 0, 440), (45, 3, .getfield 184, 0, 6, 0, 341)], [(48, 3, .goto 18, 0, 0, 0, 0), (51, 1, .aload_n 0, 0, 0, 0, 0), (52, 3, .getfield 54, 8, 8, 0, 440), (55, 3, .getfield 184, 0, 6, 0, 341), (58, 1, .aload_n 0, 0, 0, 0, 0), (59, 3, .getfield 54, 8, 8, 0, 440), (62, 3, .getfield 184, 0, 6, 0, 341)], [(65, 1, .imul, 0, 0, 0, 0), (66, 1, .iload_n 2, 0, 0, 0, 0), (67, 3, .invokestatic 158, 233, 0, 0, 909), (70, 1, .ireturn, 0, 0, 0, 0)]], 4, 2, 1, 8, 1, 0, 0)
/-- StrawWatch.safest.(II)I -/
def mt_258 : List (List mm_I) × Nat × mm_M := ([[(0, 1, .iload_n 1, 0, 0, 0, 0), (1, 1, .iconst 1, 0, 0, 0, 0), (2, 3, .if_icmp .lt 17, 0, 0, 0, 0), (5, 1, .iload_n 1, 0, 0, 0, 0), (6, 1, .iconst 2, 0, 0, 0, 0), (7, 3, .if_icmp .gt 12, 0, 0, 0, 0), (10, 1, .iload_n 2, 0, 0, 0, 0), (11, 3, .ifCond .lt 8, 0, 0, 0, 0), (14, 1, .iload_n 2, 0, 0, 0, 0), (15, 1, .iload_n 1, 0, 0, 0, 0)], [(16, 3, .if_icmp .lt 5, 0, 0, 0, 0), (19, 1, .iconst (-1), 0, 0, 0, 0), (20, 1, .ireturn, 0, 0, 0, 0), (21, 1, .aload_n 0, 0, 0, 0, 0), (22, 3, .getfield 54, 8, 8, 0, 440), (25, 1, .iload_n 1, 0, 0, 0, 0), (26, 1, .aload_n 0, 0, 0, 0, 0), (27, 3, .getfield 44, 8, 6, 0, 438), (30, 3, .getfield 110, 5, 0, 0, 312)], [(33, 3, .invokevirtual 196, 123, 0, 0, 978), (36, 1, .istore_n 3, 0, 0, 0, 0), (37, 1, .iload_n 2, 0, 0, 0, 0), (38, 3, .ifCond .ne 9, 0, 0, 0, 0), (41, 1, .iload_n 3, 0, 0, 0, 0), (42, 1, .iconst 4, 0, 0, 0, 0), (43, 1, .idiv, 0, 0, 0, 0), (44, 3, .goto 6, 0, 0, 0, 0), (47, 1, .iload_n 3, 0, 0, 0, 0)], [(48, 1, .iconst 4, 0, 0, 0, 0), (49, 1, .irem, 0, 0, 0, 0), (50, 1, .ireturn, 0, 0, 0, 0)]], 4, 2, 1, 8, 1, 0, 0)
/-- StrawWatch.same.(II)Z -/
def mt_259 : List (List mm_I) × Nat × mm_M := ([[(0, 1, .iload_n 0, 0, 0, 0, 0), (1, 1, .iload_n 1, 0, 0, 0, 0), (2, 3, .if_icmp .ne 12, 0, 0, 0, 0), (5, 1, .iload_n 0, 0, 0, 0, 0), (6, 1, .iconst (-1), 0, 0, 0, 0), (7, 3, .if_icmp .eq 7, 0, 0, 0, 0), (10, 1, .iconst 1, 0, 0, 0, 0), (11, 3, .goto 4, 0, 0, 0, 0), (14, 1, .iconst 0, 0, 0, 0, 0), (15, 1, .ireturn, 0, 0, 0, 0)]], 2, 2, 0, 8, 2, 0, 0)
/-- StrawWatch.ship.(I)I -/
def mt_260 : List (List mm_I) × Nat × mm_M := ([[(0, 1, .aload_n 0, 0, 0, 0, 0), (1, 3, .getfield 44, 8, 6, 0, 438), (4, 1, .iload_n 1, 0, 0, 0, 0), (5, 3, .invokevirtual 123, 187, 0, 0, 791), (8, 1, .ireturn, 0, 0, 0, 0)]], 2, 1, 1, 8, 1, 0, 0)
/-- StrawWatch.spared.(II)I -/
def mt_261 : List (List mm_I) × Nat × mm_M := ([[(0, 1, .aload_n 0, 0, 0, 0, 0), (1, 3, .getfield 23, 8, 3, 0, 435), (4, 1, .iload_n 1, 0, 0, 0, 0), (5, 3, .invokevirtual 102, 203, 0, 0, 762), (8, 3, .ifCond .eq 14, 0, 0, 0, 0), (11, 1, .iload_n 2, 0, 0, 0, 0), (12, 3, .ifCond .lt 10, 0, 0, 0, 0), (15, 1, .iload_n 2, 0, 0, 0, 0)], [(16, 3, .sipush 200, 0, 0, 0, 0), (19, 3, .if_icmp .le 6, 0, 0, 0, 0), (22, 2, .ldc 180, 0, 0, (-100000), 940), (24, 1, .ireturn, 0, 0, 0, 0), (25, 1, .aload_n 0, 0, 0, 0, 0), (26, 1, .iload_n 1, 0, 0, 0, 0), (27, 1, .iload_n 2, 0, 0, 0, 0), (28, 1, .iconst 0, 0, 0, 0, 0), (29, 3, .invokevirtual 225, 268, 0, 0, 1074)], [(32, 1, .aload_n 0, 0, 0, 0, 0), (33, 1, .iload_n 1, 0, 0, 0, 0), (34, 1, .iload_n 2, 0, 0, 0, 0), (35, 1, .iconst 1, 0, 0, 0, 0), (36, 3, .invokevirtual 225, 268, 0, 0, 1074), (39, 1, .isub, 0, 0, 0, 0), (40, 1, .ireturn, 0, 0, 0, 0)]], 3, 2, 1, 8, 1, 0, 0)
/-- StrawWatch.stand.(IIII)I -/
def mt_262 : List (List mm_I) × Nat × mm_M := ([[(0, 1, .aload_n 0, 0, 0, 0, 0), (1, 1, .iload_n 1, 0, 0, 0, 0), (2, 3, .invokevirtual 134, 245, 0, 0, 837), (5, 3, .ifCond .eq 28, 0, 0, 0, 0), (8, 1, .aload_n 0, 0, 0, 0, 0), (9, 1, .iload_n 2, 0, 0, 0, 0), (10, 3, .invokevirtual 134, 245, 0, 0, 837), (13, 3, .ifCond .eq 20, 0, 0, 0, 0)], [(16, 1, .aload_n 0, 0, 0, 0, 0), (17, 1, .iload_n 3, 0, 0, 0, 0), (18, 3, .invokevirtual 134, 245, 0, 0, 837), (21, 3, .ifCond .eq 12, 0, 0, 0, 0), (24, 1, .aload_n 0, 0, 0, 0, 0), (25, 2, .iload 4, 0, 0, 0, 0), (27, 3, .invokevirtual 134, 245, 0, 0, 837), (30, 3, .ifCond .ne 5, 0, 0, 0, 0)], [(33, 1, .iconst (-1), 0, 0, 0, 0), (34, 1, .ireturn, 0, 0, 0, 0), (35, 1, .iload_n 1, 0, 0, 0, 0), (36, 1, .iload_n 2, 0, 0, 0, 0), (37, 3, .invokestatic 137, 259, 0, 0, 841), (40, 3, .ifCond .ne 46, 0, 0, 0, 0), (43, 1, .iload_n 1, 0, 0, 0, 0), (44, 1, .iload_n 3, 0, 0, 0, 0), (45, 3, .invokestatic 137, 259, 0, 0, 841)], [(48, 3, .ifCond .ne 38, 0, 0, 0, 0), (51, 1, .iload_n 1, 0, 0, 0, 0), (52, 2, .iload 4, 0, 0, 0, 0), (54, 3, .invokestatic 137, 259, 0, 0, 841), (57, 3, .ifCond .ne 29, 0, 0, 0, 0), (60, 1, .iload_n 2, 0, 0, 0, 0), (61, 1, .iload_n 3, 0, 0, 0, 0), (62, 3, .invokestatic 137, 259, 0, 0, 841)], [(65, 3, .ifCond .ne 21, 0, 0, 0, 0), (68, 1, .iload_n 2, 0, 0, 0, 0), (69, 2, .iload 4, 0, 0, 0, 0), (71, 3, .invokestatic 137, 259, 0, 0, 841), (74, 3, .ifCond .ne 12, 0, 0, 0, 0), (77, 1, .iload_n 3, 0, 0, 0, 0), (78, 2, .iload 4, 0, 0, 0, 0)], [(80, 3, .invokestatic 137, 259, 0, 0, 841), (83, 3, .ifCond .eq 5, 0, 0, 0, 0), (86, 1, .iconst (-1), 0, 0, 0, 0), (87, 1, .ireturn, 0, 0, 0, 0), (88, 1, .aload_n 0, 0, 0, 0, 0), (89, 3, .getfield 44, 8, 6, 0, 438), (92, 3, .getfield 110, 5, 0, 0, 312), (95, 2, .bipush 6, 0, 0, 0, 0)], [(97, 1, .iaload, 0, 0, 0, 0), (98, 3, .ifCond .eq 6, 0, 0, 0, 0), (101, 2, .bipush (-2), 0, 0, 0, 0), (103, 1, .ireturn, 0, 0, 0, 0), (104, 1, .aload_n 0, 0, 0, 0, 0), (105, 3, .getfield 61, 8, 9, 0, 441), (108, 1, .aload_n 0, 0, 0, 0, 0), (109, 3, .getfield 44, 8, 6, 0, 438)], [(112, 3, .getfield 110, 5, 0, 0, 312), (115, 3, .invokevirtual 126, 158, 0, 0, 823), (118, 1, .aload_n 0, 0, 0, 0, 0), (119, 3, .getfield 44, 8, 6, 0, 438), (122, 1, .iconst 0, 0, 0, 0, 0), (123, 1, .iload_n 1, 0, 0, 0, 0), (124, 3, .invokevirtual 141, 195, 0, 0, 844), (127, 1, .aload_n 0, 0, 0, 0, 0)], [(128, 3, .getfield 44, 8, 6, 0, 438), (131, 1, .iconst 1, 0, 0, 0, 0), (132, 1, .iload_n 2, 0, 0, 0, 0), (133, 3, .invokevirtual 141, 195, 0, 0, 844), (136, 1, .aload_n 0, 0, 0, 0, 0), (137, 3, .getfield 44, 8, 6, 0, 438), (140, 1, .iconst 2, 0, 0, 0, 0), (141, 1, .iload_n 3, 0, 0, 0, 0), (142, 3, .invokevirtual 141, 195, 0, 0, 844)], [(145, 1, .aload_n 0, 0, 0, 0, 0), (146, 3, .getfield 44, 8, 6, 0, 438), (149, 1, .iconst 3, 0, 0, 0, 0), (150, 2, .iload 4, 0, 0, 0, 0), (152, 3, .invokevirtual 141, 195, 0, 0, 844), (155, 1, .aload_n 0, 0, 0, 0, 0), (156, 3, .getfield 44, 8, 6, 0, 438), (159, 3, .invokevirtual 145, 185, 0, 0, 849)], [(162, 1, .ireturn, 0, 0, 0, 0)]], 5, 4, 1, 8, 1, 0, 0)
/-- StrawWatch.steady.(II)I -/
def mt_263 : List (List mm_I) × Nat × mm_M := ([[(0, 1, .iload_n 1, 0, 0, 0, 0), (1, 3, .invokestatic 219, 240, 0, 0, 937), (4, 3, .ifCond .ne 5, 0, 0, 0, 0), (7, 1, .iconst (-1), 0, 0, 0, 0), (8, 1, .ireturn, 0, 0, 0, 0), (9, 1, .aload_n 0, 0, 0, 0, 0), (10, 3, .getfield 48, 8, 7, 0, 439), (13, 1, .aload_n 0, 0, 0, 0, 0), (14, 3, .getfield 44, 8, 6, 0, 438)], [(17, 3, .invokevirtual 212, 181, 0, 0, 1045), (20, 1, .aload_n 0, 0, 0, 0, 0), (21, 3, .getfield 48, 8, 7, 0, 439), (24, 1, .iload_n 1, 0, 0, 0, 0), (25, 3, .invokevirtual 222, 196, 0, 0, 1066), (28, 1, .aload_n 0, 0, 0, 0, 0), (29, 1, .iload_n 2, 0, 0, 0, 0), (30, 3, .invokevirtual 216, 228, 0, 0, 1058)], [(33, 1, .ireturn, 0, 0, 0, 0)]], 3, 2, 1, 8, 1, 0, 0)
/-- StrawWatch.surely.(I)I -/
def mt_264 : List (List mm_I) × Nat × mm_M := ([[(0, 1, .iload_n 1, 0, 0, 0, 0), (1, 3, .ifCond .lt 19, 0, 0, 0, 0), (4, 1, .iload_n 1, 0, 0, 0, 0), (5, 2, .bipush 100, 0, 0, 0, 0), (7, 3, .if_icmp .gt 13, 0, 0, 0, 0), (10, 1, .aload_n 0, 0, 0, 0, 0), (11, 3, .getfield 23, 8, 3, 0, 435), (14, 3, .getfield 155, 6, 4, 0, 190)], [(17, 3, .ifCond .ne 5, 0, 0, 0, 0), (20, 1, .iconst (-1), 0, 0, 0, 0), (21, 1, .ireturn, 0, 0, 0, 0), (22, 1, .iconst 0, 0, 0, 0, 0), (23, 1, .istore_n 2, 0, 0, 0, 0), (24, 1, .iload_n 2, 0, 0, 0, 0), (25, 2, .bipush 10, 0, 0, 0, 0), (27, 3, .if_icmp .gt 56, 0, 0, 0, 0), (30, 1, .aload_n 0, 0, 0, 0, 0), (31, 3, .getfield 23, 8, 3, 0, 435)], [(34, 3, .getfield 155, 6, 4, 0, 190), (37, 1, .iload_n 2, 0, 0, 0, 0), (38, 3, .invokestatic 241, 252, 0, 0, 1114), (41, 1, .i2l, 0, 0, 0, 0), (42, 1, .lstore_n 3, 0, 0, 0, 0), (43, 1, .lload_n 3, 0, 0, 0, 0), (44, 1, .aload_n 0, 0, 0, 0, 0), (45, 3, .getfield 23, 8, 3, 0, 435)], [(48, 3, .getfield 155, 6, 4, 0, 190), (51, 1, .iconst 1, 0, 0, 0, 0), (52, 1, .isub, 0, 0, 0, 0), (53, 1, .iload_n 2, 0, 0, 0, 0), (54, 3, .invokestatic 241, 252, 0, 0, 1114), (57, 1, .i2l, 0, 0, 0, 0), (58, 1, .ladd, 0, 0, 0, 0), (59, 2, .lstore 5, 0, 0, 0, 0), (61, 3, .ldc2_w 244, 0, 0, 100, 1121)], [(64, 1, .lload_n 3, 0, 0, 0, 0), (65, 1, .lmul, 0, 0, 0, 0), (66, 1, .iload_n 1, 0, 0, 0, 0), (67, 1, .i2l, 0, 0, 0, 0), (68, 2, .lload 5, 0, 0, 0, 0), (70, 1, .lmul, 0, 0, 0, 0), (71, 1, .lcmp, 0, 0, 0, 0), (72, 3, .ifCond .lt 5, 0, 0, 0, 0), (75, 1, .iload_n 2, 0, 0, 0, 0), (76, 1, .ireturn, 0, 0, 0, 0), (77, 3, .iinc 2 1, 0, 0, 0, 0)], [(80, 3, .goto (-56), 0, 0, 0, 0), (83, 2, .bipush (-2), 0, 0, 0, 0), (85, 1, .ireturn, 0, 0, 0, 0)]], 7, 1, 1, 8, 1, 0, 0)
/-- StrawWatch.takeOut.([III)I -/
def mt_265 : List (List mm_I) × Nat × mm_M := ([[(0, 1, .iload_n 1, 0, 0, 0, 0), (1, 1, .aload_n 0, 0, 0, 0, 0), (2, 1, .arraylength, 0, 0, 0, 0), (3, 3, .if_icmp .gt 12, 0, 0, 0, 0), (6, 1, .iload_n 2, 0, 0, 0, 0), (7, 3, .ifCond .lt 8, 0, 0, 0, 0), (10, 1, .iload_n 2, 0, 0, 0, 0), (11, 1, .iload_n 1, 0, 0, 0, 0), (12, 3, .if_icmp .lt 6, 0, 0, 0, 0), (15, 2, .bipush (-2), 0, 0, 0, 0)], [(17, 1, .ireturn, 0, 0, 0, 0), (18, 1, .aload_n 0, 0, 0, 0, 0), (19, 1, .iload_n 2, 0, 0, 0, 0), (20, 1, .iaload, 0, 0, 0, 0), (21, 1, .istore_n 3, 0, 0, 0, 0), (22, 1, .iload_n 2, 0, 0, 0, 0), (23, 2, .istore 4, 0, 0, 0, 0), (25, 2, .iload 4, 0, 0, 0, 0), (27, 1, .iconst 1, 0, 0, 0, 0), (28, 1, .iadd, 0, 0, 0, 0), (29, 1, .iload_n 1, 0, 0, 0, 0), (30, 3, .if_icmp .ge 19, 0, 0, 0, 0)], [(33, 1, .aload_n 0, 0, 0, 0, 0), (34, 2, .iload 4, 0, 0, 0, 0), (36, 1, .aload_n 0, 0, 0, 0, 0), (37, 2, .iload 4, 0, 0, 0, 0), (39, 1, .iconst 1, 0, 0, 0, 0), (40, 1, .iadd, 0, 0, 0, 0), (41, 1, .iaload, 0, 0, 0, 0), (42, 1, .iastore, 0, 0, 0, 0), (43, 3, .iinc 4 1, 0, 0, 0, 0), (46, 3, .goto (-21), 0, 0, 0, 0)], [(49, 1, .iload_n 3, 0, 0, 0, 0), (50, 1, .ireturn, 0, 0, 0, 0)]], 5, 3, 0, 8, 1, 0, 0)
/-- StrawWatch.tell.(I)I -/
def mt_266 : List (List mm_I) × Nat × mm_M := ([[(0, 1, .aload_n 0, 0, 0, 0, 0), (1, 3, .getfield 23, 8, 3, 0, 435), (4, 1, .iload_n 1, 0, 0, 0, 0), (5, 3, .invokevirtual 102, 203, 0, 0, 762), (8, 3, .ifCond .eq 14, 0, 0, 0, 0), (11, 1, .aload_n 0, 0, 0, 0, 0), (12, 3, .getfield 68, 8, 10, 0, 442), (15, 1, .iload_n 1, 0, 0, 0, 0)], [(16, 3, .invokevirtual 232, 146, 0, 0, 1102), (19, 3, .goto 4, 0, 0, 0, 0), (22, 1, .iconst (-1), 0, 0, 0, 0), (23, 1, .ireturn, 0, 0, 0, 0)]], 2, 1, 1, 8, 1, 0, 0)
/-- StrawWatch.then.(II)I -/
def mt_267 : List (List mm_I) × Nat × mm_M := ([[(0, 1, .iload_n 1, 0, 0, 0, 0), (1, 3, .ifCond .lt 10, 0, 0, 0, 0), (4, 1, .iload_n 1, 0, 0, 0, 0), (5, 3, .sipush 200, 0, 0, 0, 0), (8, 3, .if_icmp .le 5, 0, 0, 0, 0), (11, 1, .iconst (-1), 0, 0, 0, 0), (12, 1, .ireturn, 0, 0, 0, 0), (13, 1, .aload_n 0, 0, 0, 0, 0), (14, 3, .getfield 48, 8, 7, 0, 439)], [(17, 1, .aload_n 0, 0, 0, 0, 0), (18, 3, .getfield 44, 8, 6, 0, 438), (21, 3, .invokevirtual 212, 181, 0, 0, 1045), (24, 1, .aload_n 0, 0, 0, 0, 0), (25, 3, .getfield 48, 8, 7, 0, 439), (28, 1, .iload_n 1, 0, 0, 0, 0), (29, 3, .invokevirtual 148, 192, 0, 0, 874)], [(32, 1, .pop, 0, 0, 0, 0), (33, 1, .aload_n 0, 0, 0, 0, 0), (34, 3, .getfield 48, 8, 7, 0, 439), (37, 1, .iload_n 2, 0, 0, 0, 0), (38, 3, .invokevirtual 123, 187, 0, 0, 791), (41, 1, .ireturn, 0, 0, 0, 0)]], 3, 2, 1, 8, 1, 0, 0)
/-- StrawWatch.timesCaptain.(IIZ)I -/
def mt_268 : List (List mm_I) × Nat × mm_M := ([[(0, 1, .aload_n 0, 0, 0, 0, 0), (1, 3, .getfield 48, 8, 7, 0, 439), (4, 1, .aload_n 0, 0, 0, 0, 0), (5, 3, .getfield 44, 8, 6, 0, 438), (8, 3, .invokevirtual 212, 181, 0, 0, 1045), (11, 1, .aload_n 0, 0, 0, 0, 0), (12, 3, .getfield 48, 8, 7, 0, 439), (15, 1, .iload_n 1, 0, 0, 0, 0)], [(16, 1, .iload_n 3, 0, 0, 0, 0), (17, 3, .invokevirtual 130, 193, 0, 0, 829), (20, 1, .aload_n 0, 0, 0, 0, 0), (21, 3, .getfield 48, 8, 7, 0, 439), (24, 1, .iload_n 2, 0, 0, 0, 0), (25, 3, .invokevirtual 148, 192, 0, 0, 874), (28, 1, .pop, 0, 0, 0, 0), (29, 1, .aload_n 0, 0, 0, 0, 0), (30, 3, .getfield 48, 8, 7, 0, 439)], [(33, 3, .getfield 110, 5, 0, 0, 312), (36, 2, .bipush 21, 0, 0, 0, 0), (38, 1, .iload_n 1, 0, 0, 0, 0), (39, 1, .iadd, 0, 0, 0, 0), (40, 1, .iaload, 0, 0, 0, 0), (41, 1, .ireturn, 0, 0, 0, 0)]], 4, 3, 1, 8, 1, 0, 0)
/-- StrawWatch.undo.()Z -/
def mt_269 : List (List mm_I) × Nat × mm_M := ([[(0, 1, .aload_n 0, 0, 0, 0, 0), (1, 3, .getfield 61, 8, 9, 0, 441), (4, 1, .aload_n 0, 0, 0, 0, 0), (5, 3, .getfield 44, 8, 6, 0, 438), (8, 3, .getfield 110, 5, 0, 0, 312), (11, 3, .invokevirtual 151, 160, 0, 0, 901), (14, 1, .ireturn, 0, 0, 0, 0)]], 1, 0, 1, 8, 2, 0, 0)
/-- StrawWatch.voyagesWith.(III)I -/
def mt_270 : List (List mm_I) × Nat × mm_M := ([[(0, 1, .iload_n 3, 0, 0, 0, 0), (1, 1, .iconst 1, 0, 0, 0, 0), (2, 3, .if_icmp .lt 9, 0, 0, 0, 0), (5, 1, .iload_n 3, 0, 0, 0, 0), (6, 2, .bipush 20, 0, 0, 0, 0), (8, 3, .if_icmp .le 5, 0, 0, 0, 0), (11, 1, .iconst (-1), 0, 0, 0, 0), (12, 1, .ireturn, 0, 0, 0, 0), (13, 1, .iconst 0, 0, 0, 0, 0), (14, 2, .istore 4, 0, 0, 0, 0)], [(16, 1, .iconst 0, 0, 0, 0, 0), (17, 2, .istore 5, 0, 0, 0, 0), (19, 2, .iload 5, 0, 0, 0, 0), (21, 1, .iload_n 3, 0, 0, 0, 0), (22, 3, .if_icmp .ge 64, 0, 0, 0, 0), (25, 1, .aload_n 0, 0, 0, 0, 0), (26, 3, .getfield 48, 8, 7, 0, 439), (29, 1, .aload_n 0, 0, 0, 0, 0), (30, 3, .getfield 44, 8, 6, 0, 438)], [(33, 3, .invokevirtual 212, 181, 0, 0, 1045), (36, 1, .aload_n 0, 0, 0, 0, 0), (37, 3, .getfield 48, 8, 7, 0, 439), (40, 1, .aload_n 0, 0, 0, 0, 0), (41, 3, .getfield 23, 8, 3, 0, 435), (44, 3, .getfield 282, 6, 10, 0, 211), (47, 2, .iload 5, 0, 0, 0, 0)], [(49, 1, .iadd, 0, 0, 0, 0), (50, 3, .invokevirtual 285, 197, 0, 0, 1090), (53, 1, .aload_n 0, 0, 0, 0, 0), (54, 3, .getfield 48, 8, 7, 0, 439), (57, 3, .sipush 200, 0, 0, 0, 0), (60, 3, .invokevirtual 148, 192, 0, 0, 874), (63, 1, .pop, 0, 0, 0, 0)], [(64, 1, .aload_n 0, 0, 0, 0, 0), (65, 3, .getfield 48, 8, 7, 0, 439), (68, 3, .getfield 110, 5, 0, 0, 312), (71, 1, .iload_n 1, 0, 0, 0, 0), (72, 1, .iaload, 0, 0, 0, 0), (73, 1, .iload_n 2, 0, 0, 0, 0), (74, 3, .if_icmp .ne 6, 0, 0, 0, 0), (77, 3, .iinc 4 1, 0, 0, 0, 0)], [(80, 3, .iinc 5 1, 0, 0, 0, 0), (83, 3, .goto (-64), 0, 0, 0, 0), (86, 2, .iload 4, 0, 0, 0, 0), (88, 1, .ireturn, 0, 0, 0, 0)]], 6, 3, 1, 8, 1, 0, 0)
/-- StrawWatch.watches.(I)I -/
def mt_271 : List (List mm_I) × Nat × mm_M := ([[(0, 1, .iload_n 1, 0, 0, 0, 0), (1, 3, .ifCond .lt 9, 0, 0, 0, 0), (4, 1, .iload_n 1, 0, 0, 0, 0), (5, 2, .bipush 60, 0, 0, 0, 0), (7, 3, .if_icmp .le 5, 0, 0, 0, 0), (10, 1, .iconst (-1), 0, 0, 0, 0), (11, 1, .ireturn, 0, 0, 0, 0), (12, 1, .aload_n 0, 0, 0, 0, 0), (13, 3, .getfield 44, 8, 6, 0, 438)], [(16, 3, .getfield 110, 5, 0, 0, 312), (19, 2, .bipush 6, 0, 0, 0, 0), (21, 1, .iaload, 0, 0, 0, 0), (22, 3, .ifCond .eq 6, 0, 0, 0, 0), (25, 2, .bipush (-2), 0, 0, 0, 0), (27, 1, .ireturn, 0, 0, 0, 0), (28, 1, .iload_n 1, 0, 0, 0, 0), (29, 3, .ifCond .le 17, 0, 0, 0, 0)], [(32, 1, .aload_n 0, 0, 0, 0, 0), (33, 3, .getfield 61, 8, 9, 0, 441), (36, 1, .aload_n 0, 0, 0, 0, 0), (37, 3, .getfield 44, 8, 6, 0, 438), (40, 3, .getfield 110, 5, 0, 0, 312), (43, 3, .invokevirtual 126, 158, 0, 0, 823), (46, 1, .aload_n 0, 0, 0, 0, 0), (47, 3, .getfield 44, 8, 6, 0, 438)], [(50, 1, .iload_n 1, 0, 0, 0, 0), (51, 3, .invokevirtual 148, 192, 0, 0, 874), (54, 1, .ireturn, 0, 0, 0, 0)]], 2, 1, 1, 8, 1, 0, 0)
/-- StrawWatch.weds.(II)I -/
def mt_272 : List (List mm_I) × Nat × mm_M := ([[(0, 1, .aload_n 0, 0, 0, 0, 0), (1, 3, .getfield 23, 8, 3, 0, 435), (4, 1, .iload_n 1, 0, 0, 0, 0), (5, 3, .invokevirtual 102, 203, 0, 0, 762), (8, 3, .ifCond .ne 5, 0, 0, 0, 0), (11, 1, .iconst (-1), 0, 0, 0, 0), (12, 1, .ireturn, 0, 0, 0, 0), (13, 1, .aload_n 0, 0, 0, 0, 0), (14, 2, .bipush 9, 0, 0, 0, 0)], [(16, 1, .iload_n 1, 0, 0, 0, 0), (17, 1, .iload_n 2, 0, 0, 0, 0), (18, 3, .invokevirtual 228, 270, 0, 0, 1086), (21, 1, .ireturn, 0, 0, 0, 0)]], 3, 2, 1, 8, 1, 0, 0)
/-- StrawWatch.within.(III)I -/
def mt_273 : List (List mm_I) × Nat × mm_M := ([[(0, 1, .iload_n 0, 0, 0, 0, 0), (1, 1, .iload_n 1, 0, 0, 0, 0), (2, 3, .if_icmp .ge 7, 0, 0, 0, 0), (5, 1, .iload_n 1, 0, 0, 0, 0), (6, 3, .goto 8, 0, 0, 0, 0), (9, 1, .iload_n 0, 0, 0, 0, 0), (10, 1, .iload_n 2, 0, 0, 0, 0), (11, 3, .invokestatic 255, 278, 0, 0, 818), (14, 1, .ireturn, 0, 0, 0, 0)]], 3, 3, 0, 8, 1, 0, 0)
/-- StrawWatch.year.(II)I -/
def mt_274 : List (List mm_I) × Nat × mm_M := ([[(0, 1, .iload_n 1, 0, 0, 0, 0), (1, 1, .iconst 1, 0, 0, 0, 0), (2, 3, .if_icmp .lt 8, 0, 0, 0, 0), (5, 1, .iload_n 1, 0, 0, 0, 0), (6, 1, .iconst 3, 0, 0, 0, 0), (7, 3, .if_icmp .le 5, 0, 0, 0, 0), (10, 1, .iconst (-1), 0, 0, 0, 0), (11, 1, .ireturn, 0, 0, 0, 0), (12, 1, .aload_n 0, 0, 0, 0, 0), (13, 2, .bipush 6, 0, 0, 0, 0), (15, 1, .iload_n 1, 0, 0, 0, 0)], [(16, 1, .iload_n 2, 0, 0, 0, 0), (17, 3, .invokevirtual 228, 270, 0, 0, 1086), (20, 1, .ireturn, 0, 0, 0, 0)]], 3, 2, 1, 8, 1, 0, 0)
/-- java/util/Arrays.fill.([II)V -/
def mt_275 : List (List mm_I) × Nat × mm_M := ([[(0, 1, .iconst 0, 0, 0, 0, 0), (1, 1, .istore_n 2, 0, 0, 0, 0), (2, 1, .aload_n 0, 0, 0, 0, 0), (3, 1, .arraylength, 0, 0, 0, 0), (4, 1, .istore_n 3, 0, 0, 0, 0), (5, 1, .iload_n 2, 0, 0, 0, 0), (6, 1, .iload_n 3, 0, 0, 0, 0), (7, 3, .if_icmp .ge 13, 0, 0, 0, 0), (10, 1, .aload_n 0, 0, 0, 0, 0), (11, 1, .iload_n 2, 0, 0, 0, 0), (12, 1, .iload_n 1, 0, 0, 0, 0), (13, 1, .iastore, 0, 0, 0, 0), (14, 3, .iinc 2 1, 0, 0, 0, 0)], [(17, 3, .goto (-12), 0, 0, 0, 0), (20, 1, .return_, 0, 0, 0, 0)]], 4, 2, 0, 0, 0, 0, 0)
/-- java/lang/Math.abs.(I)I -/
def mt_276 : List (List mm_I) × Nat × mm_M := ([[(0, 1, .iload_n 0, 0, 0, 0, 0), (1, 3, .ifCond .ge 8, 0, 0, 0, 0), (4, 1, .iload_n 0, 0, 0, 0, 0), (5, 1, .ineg, 0, 0, 0, 0), (6, 3, .goto 4, 0, 0, 0, 0), (9, 1, .iload_n 0, 0, 0, 0, 0), (10, 1, .ireturn, 0, 0, 0, 0)]], 1, 1, 0, 0, 1, 0, 0)
/-- java/lang/Math.max.(II)I -/
def mt_277 : List (List mm_I) × Nat × mm_M := ([[(0, 1, .iload_n 0, 0, 0, 0, 0), (1, 1, .iload_n 1, 0, 0, 0, 0), (2, 3, .if_icmp .lt 7, 0, 0, 0, 0), (5, 1, .iload_n 0, 0, 0, 0, 0), (6, 3, .goto 4, 0, 0, 0, 0), (9, 1, .iload_n 1, 0, 0, 0, 0), (10, 1, .ireturn, 0, 0, 0, 0)]], 2, 2, 0, 0, 1, 0, 0)
/-- java/lang/Math.min.(II)I -/
def mt_278 : List (List mm_I) × Nat × mm_M := ([[(0, 1, .iload_n 0, 0, 0, 0, 0), (1, 1, .iload_n 1, 0, 0, 0, 0), (2, 3, .if_icmp .gt 7, 0, 0, 0, 0), (5, 1, .iload_n 0, 0, 0, 0, 0), (6, 3, .goto 4, 0, 0, 0, 0), (9, 1, .iload_n 1, 0, 0, 0, 0), (10, 1, .ireturn, 0, 0, 0, 0)]], 2, 2, 0, 0, 1, 0, 0)
/-- StrawWatchLaw.law.([I)Z -/
def mt_279 : List (List mm_I) × Nat × mm_M := ([[(0, 3, .new 7, 8, 0, 0, 120), (3, 1, .dup, 0, 0, 0, 0), (4, 3, .invokespecial 9, 237, 0, 0, 122), (7, 1, .astore_n 1, 0, 0, 0, 0), (8, 3, .new 10, 9, 0, 0, 1185), (11, 1, .dup, 0, 0, 0, 0), (12, 3, .invokespecial 12, 44, 0, 0, 1187), (15, 1, .astore_n 2, 0, 0, 0, 0)], [(16, 1, .iconst 0, 0, 0, 0, 0), (17, 1, .istore_n 3, 0, 0, 0, 0), (18, 1, .iload_n 3, 0, 0, 0, 0), (19, 1, .aload_n 0, 0, 0, 0, 0), (20, 1, .arraylength, 0, 0, 0, 0), (21, 2, .bipush 6, 0, 0, 0, 0), (23, 1, .isub, 0, 0, 0, 0), (24, 3, .if_icmp .gt 1434, 0, 0, 0, 0), (27, 1, .aload_n 0, 0, 0, 0, 0), (28, 1, .iload_n 3, 0, 0, 0, 0), (29, 1, .iaload, 0, 0, 0, 0), (30, 2, .bipush 63, 0, 0, 0, 0)], [(32, 1, .iand, 0, 0, 0, 0), (33, 167, .tableswitch 1419 0 37 #[167, 230, 253, 266, 279, 312, 335, 358, 407, 460, 483, 496, 555, 578, 637, 696, 755, 788, 837, 860, 883, 922, 955, 998, 1021, 1054, 1087, 1100, 1133, 1166, 1189, 1248, 1271, 1304, 1337, 1350, 1373, 1396], 0, 0, 0, 0)], [], [], [], [], [], [], [], [], [], [(200, 1, .aload_n 1, 0, 0, 0, 0), (201, 1, .aload_n 0, 0, 0, 0, 0), (202, 1, .iload_n 3, 0, 0, 0, 0), (203, 1, .iconst 1, 0, 0, 0, 0), (204, 1, .iadd, 0, 0, 0, 0), (205, 1, .iaload, 0, 0, 0, 0), (206, 1, .aload_n 0, 0, 0, 0, 0), (207, 1, .iload_n 3, 0, 0, 0, 0)], [(208, 1, .iconst 2, 0, 0, 0, 0), (209, 1, .iadd, 0, 0, 0, 0), (210, 1, .iaload, 0, 0, 0, 0), (211, 1, .aload_n 0, 0, 0, 0, 0), (212, 1, .iload_n 3, 0, 0, 0, 0), (213, 1, .iconst 3, 0, 0, 0, 0), (214, 1, .iadd, 0, 0, 0, 0), (215, 1, .iaload, 0, 0, 0, 0), (216, 1, .aload_n 0, 0, 0, 0, 0), (217, 1, .iload_n 3, 0, 0, 0, 0), (218, 1, .iconst 4, 0, 0, 0, 0), (219, 1, .iadd, 0, 0, 0, 0), (220, 1, .iaload, 0, 0, 0, 0), (221, 1, .aload_n 0, 0, 0, 0, 0), (222, 1, .iload_n 3, 0, 0, 0, 0), (223, 1, .iconst 5, 0, 0, 0, 0)], [(224, 1, .iadd, 0, 0, 0, 0), (225, 1, .iaload, 0, 0, 0, 0), (226, 3, .invokevirtual 13, 230, 0, 0, 466), (229, 1, .aload_n 2, 0, 0, 0, 0), (230, 1, .aload_n 0, 0, 0, 0, 0), (231, 1, .iload_n 3, 0, 0, 0, 0), (232, 1, .iconst 1, 0, 0, 0, 0), (233, 1, .iadd, 0, 0, 0, 0), (234, 1, .iaload, 0, 0, 0, 0), (235, 1, .aload_n 0, 0, 0, 0, 0), (236, 1, .iload_n 3, 0, 0, 0, 0), (237, 1, .iconst 2, 0, 0, 0, 0), (238, 1, .iadd, 0, 0, 0, 0), (239, 1, .iaload, 0, 0, 0, 0)], [(240, 1, .aload_n 0, 0, 0, 0, 0), (241, 1, .iload_n 3, 0, 0, 0, 0), (242, 1, .iconst 3, 0, 0, 0, 0), (243, 1, .iadd, 0, 0, 0, 0), (244, 1, .iaload, 0, 0, 0, 0), (245, 1, .aload_n 0, 0, 0, 0, 0), (246, 1, .iload_n 3, 0, 0, 0, 0), (247, 1, .iconst 4, 0, 0, 0, 0), (248, 1, .iadd, 0, 0, 0, 0), (249, 1, .iaload, 0, 0, 0, 0), (250, 1, .aload_n 0, 0, 0, 0, 0), (251, 1, .iload_n 3, 0, 0, 0, 0), (252, 1, .iconst 5, 0, 0, 0, 0), (253, 1, .iadd, 0, 0, 0, 0), (254, 1, .iaload, 0, 0, 0, 0), (255, 3, .invokevirtual 17, 28, 0, 0, 1437)], [(258, 3, .if_icmp .eq 1194, 0, 0, 0, 0), (261, 1, .iconst 0, 0, 0, 0, 0), (262, 1, .ireturn, 0, 0, 0, 0), (263, 1, .aload_n 1, 0, 0, 0, 0), (264, 1, .aload_n 0, 0, 0, 0, 0), (265, 1, .iload_n 3, 0, 0, 0, 0), (266, 1, .iconst 1, 0, 0, 0, 0), (267, 1, .iadd, 0, 0, 0, 0), (268, 1, .iaload, 0, 0, 0, 0), (269, 3, .invokevirtual 18, 221, 0, 0, 474)], [(272, 1, .aload_n 2, 0, 0, 0, 0), (273, 1, .aload_n 0, 0, 0, 0, 0), (274, 1, .iload_n 3, 0, 0, 0, 0), (275, 1, .iconst 1, 0, 0, 0, 0), (276, 1, .iadd, 0, 0, 0, 0), (277, 1, .iaload, 0, 0, 0, 0), (278, 3, .invokevirtual 22, 5, 0, 0, 1445), (281, 3, .if_icmp .eq 1171, 0, 0, 0, 0), (284, 1, .iconst 0, 0, 0, 0, 0), (285, 1, .ireturn, 0, 0, 0, 0), (286, 1, .aload_n 1, 0, 0, 0, 0), (287, 3, .invokevirtual 23, 253, 0, 0, 478)], [(290, 1, .aload_n 2, 0, 0, 0, 0), (291, 3, .invokevirtual 27, 77, 0, 0, 1449), (294, 3, .if_icmp .eq 1158, 0, 0, 0, 0), (297, 1, .iconst 0, 0, 0, 0, 0), (298, 1, .ireturn, 0, 0, 0, 0), (299, 1, .aload_n 1, 0, 0, 0, 0), (300, 3, .invokevirtual 28, 250, 0, 0, 754), (303, 1, .aload_n 2, 0, 0, 0, 0)], [(304, 3, .invokevirtual 31, 71, 0, 0, 1531), (307, 3, .if_icmp .eq 1145, 0, 0, 0, 0), (310, 1, .iconst 0, 0, 0, 0, 0), (311, 1, .ireturn, 0, 0, 0, 0), (312, 1, .aload_n 1, 0, 0, 0, 0), (313, 1, .aload_n 0, 0, 0, 0, 0), (314, 1, .iload_n 3, 0, 0, 0, 0), (315, 1, .iconst 1, 0, 0, 0, 0), (316, 1, .iadd, 0, 0, 0, 0), (317, 1, .iaload, 0, 0, 0, 0), (318, 1, .aload_n 0, 0, 0, 0, 0), (319, 1, .iload_n 3, 0, 0, 0, 0)], [(320, 1, .iconst 2, 0, 0, 0, 0), (321, 1, .iadd, 0, 0, 0, 0), (322, 1, .iaload, 0, 0, 0, 0), (323, 3, .invokevirtual 32, 244, 0, 0, 758), (326, 1, .aload_n 2, 0, 0, 0, 0), (327, 1, .aload_n 0, 0, 0, 0, 0), (328, 1, .iload_n 3, 0, 0, 0, 0), (329, 1, .iconst 1, 0, 0, 0, 0), (330, 1, .iadd, 0, 0, 0, 0), (331, 1, .iaload, 0, 0, 0, 0), (332, 1, .aload_n 0, 0, 0, 0, 0), (333, 1, .iload_n 3, 0, 0, 0, 0), (334, 1, .iconst 2, 0, 0, 0, 0), (335, 1, .iadd, 0, 0, 0, 0)], [(336, 1, .iaload, 0, 0, 0, 0), (337, 3, .invokevirtual 36, 63, 0, 0, 1535), (340, 3, .if_icmp .eq 1112, 0, 0, 0, 0), (343, 1, .iconst 0, 0, 0, 0, 0), (344, 1, .ireturn, 0, 0, 0, 0), (345, 1, .aload_n 1, 0, 0, 0, 0), (346, 1, .aload_n 0, 0, 0, 0, 0), (347, 1, .iload_n 3, 0, 0, 0, 0), (348, 1, .iconst 1, 0, 0, 0, 0), (349, 1, .iadd, 0, 0, 0, 0), (350, 1, .iaload, 0, 0, 0, 0), (351, 3, .invokevirtual 37, 251, 0, 0, 782)], [(354, 1, .aload_n 2, 0, 0, 0, 0), (355, 1, .aload_n 0, 0, 0, 0, 0), (356, 1, .iload_n 3, 0, 0, 0, 0), (357, 1, .iconst 1, 0, 0, 0, 0), (358, 1, .iadd, 0, 0, 0, 0), (359, 1, .iaload, 0, 0, 0, 0), (360, 3, .invokevirtual 40, 73, 0, 0, 1558), (363, 3, .if_icmp .eq 1089, 0, 0, 0, 0), (366, 1, .iconst 0, 0, 0, 0, 0), (367, 1, .ireturn, 0, 0, 0, 0)], [(368, 1, .aload_n 1, 0, 0, 0, 0), (369, 1, .aload_n 0, 0, 0, 0, 0), (370, 1, .iload_n 3, 0, 0, 0, 0), (371, 1, .iconst 1, 0, 0, 0, 0), (372, 1, .iadd, 0, 0, 0, 0), (373, 1, .iaload, 0, 0, 0, 0), (374, 3, .invokevirtual 41, 260, 0, 0, 787), (377, 1, .aload_n 2, 0, 0, 0, 0), (378, 1, .aload_n 0, 0, 0, 0, 0), (379, 1, .iload_n 3, 0, 0, 0, 0), (380, 1, .iconst 1, 0, 0, 0, 0), (381, 1, .iadd, 0, 0, 0, 0), (382, 1, .iaload, 0, 0, 0, 0), (383, 3, .invokevirtual 44, 87, 0, 0, 1562)], [(386, 3, .if_icmp .eq 1066, 0, 0, 0, 0), (389, 1, .iconst 0, 0, 0, 0, 0), (390, 1, .ireturn, 0, 0, 0, 0), (391, 1, .aload_n 1, 0, 0, 0, 0), (392, 1, .aload_n 0, 0, 0, 0, 0), (393, 1, .iload_n 3, 0, 0, 0, 0), (394, 1, .iconst 1, 0, 0, 0, 0), (395, 1, .iadd, 0, 0, 0, 0), (396, 1, .iaload, 0, 0, 0, 0), (397, 1, .aload_n 0, 0, 0, 0, 0), (398, 1, .iload_n 3, 0, 0, 0, 0), (399, 1, .iconst 2, 0, 0, 0, 0)], [(400, 1, .iadd, 0, 0, 0, 0), (401, 1, .iaload, 0, 0, 0, 0), (402, 3, .ifCond .eq 7, 0, 0, 0, 0), (405, 1, .iconst 1, 0, 0, 0, 0), (406, 3, .goto 4, 0, 0, 0, 0), (409, 1, .iconst 0, 0, 0, 0, 0), (410, 3, .invokevirtual 45, 235, 0, 0, 819), (413, 1, .aload_n 2, 0, 0, 0, 0), (414, 1, .aload_n 0, 0, 0, 0, 0), (415, 1, .iload_n 3, 0, 0, 0, 0)], [(416, 1, .iconst 1, 0, 0, 0, 0), (417, 1, .iadd, 0, 0, 0, 0), (418, 1, .iaload, 0, 0, 0, 0), (419, 1, .aload_n 0, 0, 0, 0, 0), (420, 1, .iload_n 3, 0, 0, 0, 0), (421, 1, .iconst 2, 0, 0, 0, 0), (422, 1, .iadd, 0, 0, 0, 0), (423, 1, .iaload, 0, 0, 0, 0), (424, 3, .ifCond .eq 7, 0, 0, 0, 0), (427, 1, .iconst 1, 0, 0, 0, 0), (428, 3, .goto 4, 0, 0, 0, 0), (431, 1, .iconst 0, 0, 0, 0, 0)], [(432, 3, .invokevirtual 49, 40, 0, 0, 1594), (435, 3, .if_icmp .eq 1017, 0, 0, 0, 0), (438, 1, .iconst 0, 0, 0, 0, 0), (439, 1, .ireturn, 0, 0, 0, 0), (440, 1, .aload_n 1, 0, 0, 0, 0), (441, 1, .aload_n 0, 0, 0, 0, 0), (442, 1, .iload_n 3, 0, 0, 0, 0), (443, 1, .iconst 1, 0, 0, 0, 0), (444, 1, .iadd, 0, 0, 0, 0), (445, 1, .iaload, 0, 0, 0, 0), (446, 1, .aload_n 0, 0, 0, 0, 0), (447, 1, .iload_n 3, 0, 0, 0, 0)], [(448, 1, .iconst 2, 0, 0, 0, 0), (449, 1, .iadd, 0, 0, 0, 0), (450, 1, .iaload, 0, 0, 0, 0), (451, 1, .aload_n 0, 0, 0, 0, 0), (452, 1, .iload_n 3, 0, 0, 0, 0), (453, 1, .iconst 3, 0, 0, 0, 0), (454, 1, .iadd, 0, 0, 0, 0), (455, 1, .iaload, 0, 0, 0, 0), (456, 1, .aload_n 0, 0, 0, 0, 0), (457, 1, .iload_n 3, 0, 0, 0, 0), (458, 1, .iconst 4, 0, 0, 0, 0), (459, 1, .iadd, 0, 0, 0, 0), (460, 1, .iaload, 0, 0, 0, 0), (461, 3, .invokevirtual 50, 262, 0, 0, 833)], [(464, 1, .aload_n 2, 0, 0, 0, 0), (465, 1, .aload_n 0, 0, 0, 0, 0), (466, 1, .iload_n 3, 0, 0, 0, 0), (467, 1, .iconst 1, 0, 0, 0, 0), (468, 1, .iadd, 0, 0, 0, 0), (469, 1, .iaload, 0, 0, 0, 0), (470, 1, .aload_n 0, 0, 0, 0, 0), (471, 1, .iload_n 3, 0, 0, 0, 0), (472, 1, .iconst 2, 0, 0, 0, 0), (473, 1, .iadd, 0, 0, 0, 0), (474, 1, .iaload, 0, 0, 0, 0), (475, 1, .aload_n 0, 0, 0, 0, 0), (476, 1, .iload_n 3, 0, 0, 0, 0), (477, 1, .iconst 3, 0, 0, 0, 0), (478, 1, .iadd, 0, 0, 0, 0), (479, 1, .iaload, 0, 0, 0, 0)], [(480, 1, .aload_n 0, 0, 0, 0, 0), (481, 1, .iload_n 3, 0, 0, 0, 0), (482, 1, .iconst 4, 0, 0, 0, 0), (483, 1, .iadd, 0, 0, 0, 0), (484, 1, .iaload, 0, 0, 0, 0), (485, 3, .invokevirtual 54, 93, 0, 0, 1602), (488, 3, .if_icmp .eq 964, 0, 0, 0, 0), (491, 1, .iconst 0, 0, 0, 0, 0), (492, 1, .ireturn, 0, 0, 0, 0), (493, 1, .aload_n 1, 0, 0, 0, 0), (494, 1, .aload_n 0, 0, 0, 0, 0), (495, 1, .iload_n 3, 0, 0, 0, 0)], [(496, 1, .iconst 1, 0, 0, 0, 0), (497, 1, .iadd, 0, 0, 0, 0), (498, 1, .iaload, 0, 0, 0, 0), (499, 3, .invokevirtual 55, 271, 0, 0, 870), (502, 1, .aload_n 2, 0, 0, 0, 0), (503, 1, .aload_n 0, 0, 0, 0, 0), (504, 1, .iload_n 3, 0, 0, 0, 0), (505, 1, .iconst 1, 0, 0, 0, 0), (506, 1, .iadd, 0, 0, 0, 0), (507, 1, .iaload, 0, 0, 0, 0), (508, 3, .invokevirtual 58, 107, 0, 0, 1634), (511, 3, .if_icmp .eq 941, 0, 0, 0, 0)], [(514, 1, .iconst 0, 0, 0, 0, 0), (515, 1, .ireturn, 0, 0, 0, 0), (516, 1, .aload_n 1, 0, 0, 0, 0), (517, 3, .invokevirtual 59, 269, 0, 0, 897), (520, 1, .aload_n 2, 0, 0, 0, 0), (521, 3, .invokevirtual 63, 104, 0, 0, 1654), (524, 3, .if_icmp .eq 928, 0, 0, 0, 0), (527, 1, .iconst 0, 0, 0, 0, 0)], [(528, 1, .ireturn, 0, 0, 0, 0), (529, 1, .aload_n 1, 0, 0, 0, 0), (530, 1, .aload_n 0, 0, 0, 0, 0), (531, 1, .iload_n 3, 0, 0, 0, 0), (532, 1, .iconst 1, 0, 0, 0, 0), (533, 1, .iadd, 0, 0, 0, 0), (534, 1, .iaload, 0, 0, 0, 0), (535, 1, .aload_n 0, 0, 0, 0, 0), (536, 1, .iload_n 3, 0, 0, 0, 0), (537, 1, .iconst 2, 0, 0, 0, 0), (538, 1, .iadd, 0, 0, 0, 0), (539, 1, .iaload, 0, 0, 0, 0), (540, 1, .aload_n 0, 0, 0, 0, 0), (541, 1, .iload_n 3, 0, 0, 0, 0), (542, 1, .iconst 3, 0, 0, 0, 0), (543, 1, .iadd, 0, 0, 0, 0)], [(544, 1, .iaload, 0, 0, 0, 0), (545, 3, .ifCond .eq 7, 0, 0, 0, 0), (548, 1, .iconst 1, 0, 0, 0, 0), (549, 3, .goto 4, 0, 0, 0, 0), (552, 1, .iconst 0, 0, 0, 0, 0), (553, 3, .invokevirtual 64, 242, 0, 0, 905), (556, 1, .aload_n 2, 0, 0, 0, 0), (557, 1, .aload_n 0, 0, 0, 0, 0), (558, 1, .iload_n 3, 0, 0, 0, 0), (559, 1, .iconst 1, 0, 0, 0, 0)], [(560, 1, .iadd, 0, 0, 0, 0), (561, 1, .iaload, 0, 0, 0, 0), (562, 1, .aload_n 0, 0, 0, 0, 0), (563, 1, .iload_n 3, 0, 0, 0, 0), (564, 1, .iconst 2, 0, 0, 0, 0), (565, 1, .iadd, 0, 0, 0, 0), (566, 1, .iaload, 0, 0, 0, 0), (567, 1, .aload_n 0, 0, 0, 0, 0), (568, 1, .iload_n 3, 0, 0, 0, 0), (569, 1, .iconst 3, 0, 0, 0, 0), (570, 1, .iadd, 0, 0, 0, 0), (571, 1, .iaload, 0, 0, 0, 0), (572, 3, .ifCond .eq 7, 0, 0, 0, 0), (575, 1, .iconst 1, 0, 0, 0, 0)], [(576, 3, .goto 4, 0, 0, 0, 0), (579, 1, .iconst 0, 0, 0, 0, 0), (580, 3, .invokevirtual 68, 58, 0, 0, 1658), (583, 3, .if_icmp .eq 869, 0, 0, 0, 0), (586, 1, .iconst 0, 0, 0, 0, 0), (587, 1, .ireturn, 0, 0, 0, 0), (588, 1, .aload_n 1, 0, 0, 0, 0), (589, 1, .aload_n 0, 0, 0, 0, 0), (590, 1, .iload_n 3, 0, 0, 0, 0), (591, 1, .iconst 1, 0, 0, 0, 0)], [(592, 1, .iadd, 0, 0, 0, 0), (593, 1, .iaload, 0, 0, 0, 0), (594, 3, .invokevirtual 69, 249, 0, 0, 918), (597, 1, .aload_n 2, 0, 0, 0, 0), (598, 1, .aload_n 0, 0, 0, 0, 0), (599, 1, .iload_n 3, 0, 0, 0, 0), (600, 1, .iconst 1, 0, 0, 0, 0), (601, 1, .iadd, 0, 0, 0, 0), (602, 1, .iaload, 0, 0, 0, 0), (603, 3, .invokevirtual 72, 69, 0, 0, 1668), (606, 3, .if_icmp .eq 846, 0, 0, 0, 0)], [(609, 1, .iconst 0, 0, 0, 0, 0), (610, 1, .ireturn, 0, 0, 0, 0), (611, 1, .aload_n 1, 0, 0, 0, 0), (612, 1, .aload_n 0, 0, 0, 0, 0), (613, 1, .iload_n 3, 0, 0, 0, 0), (614, 1, .iconst 1, 0, 0, 0, 0), (615, 1, .iadd, 0, 0, 0, 0), (616, 1, .iaload, 0, 0, 0, 0), (617, 1, .aload_n 0, 0, 0, 0, 0), (618, 1, .iload_n 3, 0, 0, 0, 0), (619, 1, .iconst 2, 0, 0, 0, 0), (620, 1, .iadd, 0, 0, 0, 0), (621, 1, .iaload, 0, 0, 0, 0), (622, 1, .aload_n 0, 0, 0, 0, 0), (623, 1, .iload_n 3, 0, 0, 0, 0)], [(624, 1, .iconst 3, 0, 0, 0, 0), (625, 1, .iadd, 0, 0, 0, 0), (626, 1, .iaload, 0, 0, 0, 0), (627, 3, .ifCond .eq 7, 0, 0, 0, 0), (630, 1, .iconst 1, 0, 0, 0, 0), (631, 3, .goto 4, 0, 0, 0, 0), (634, 1, .iconst 0, 0, 0, 0, 0), (635, 3, .invokevirtual 73, 246, 0, 0, 927), (638, 1, .aload_n 2, 0, 0, 0, 0), (639, 1, .aload_n 0, 0, 0, 0, 0)], [(640, 1, .iload_n 3, 0, 0, 0, 0), (641, 1, .iconst 1, 0, 0, 0, 0), (642, 1, .iadd, 0, 0, 0, 0), (643, 1, .iaload, 0, 0, 0, 0), (644, 1, .aload_n 0, 0, 0, 0, 0), (645, 1, .iload_n 3, 0, 0, 0, 0), (646, 1, .iconst 2, 0, 0, 0, 0), (647, 1, .iadd, 0, 0, 0, 0), (648, 1, .iaload, 0, 0, 0, 0), (649, 1, .aload_n 0, 0, 0, 0, 0), (650, 1, .iload_n 3, 0, 0, 0, 0), (651, 1, .iconst 3, 0, 0, 0, 0), (652, 1, .iadd, 0, 0, 0, 0), (653, 1, .iaload, 0, 0, 0, 0), (654, 3, .ifCond .eq 7, 0, 0, 0, 0)], [(657, 1, .iconst 1, 0, 0, 0, 0), (658, 3, .goto 4, 0, 0, 0, 0), (661, 1, .iconst 0, 0, 0, 0, 0), (662, 3, .invokevirtual 76, 64, 0, 0, 1672), (665, 3, .if_icmp .eq 787, 0, 0, 0, 0), (668, 1, .iconst 0, 0, 0, 0, 0), (669, 1, .ireturn, 0, 0, 0, 0), (670, 1, .aload_n 1, 0, 0, 0, 0), (671, 1, .aload_n 0, 0, 0, 0, 0)], [(672, 1, .iload_n 3, 0, 0, 0, 0), (673, 1, .iconst 1, 0, 0, 0, 0), (674, 1, .iadd, 0, 0, 0, 0), (675, 1, .iaload, 0, 0, 0, 0), (676, 1, .aload_n 0, 0, 0, 0, 0), (677, 1, .iload_n 3, 0, 0, 0, 0), (678, 1, .iconst 2, 0, 0, 0, 0), (679, 1, .iadd, 0, 0, 0, 0), (680, 1, .iaload, 0, 0, 0, 0), (681, 1, .aload_n 0, 0, 0, 0, 0), (682, 1, .iload_n 3, 0, 0, 0, 0), (683, 1, .iconst 3, 0, 0, 0, 0), (684, 1, .iadd, 0, 0, 0, 0), (685, 1, .iaload, 0, 0, 0, 0), (686, 3, .ifCond .eq 7, 0, 0, 0, 0)], [(689, 1, .iconst 1, 0, 0, 0, 0), (690, 3, .goto 4, 0, 0, 0, 0), (693, 1, .iconst 0, 0, 0, 0, 0), (694, 3, .invokevirtual 77, 247, 0, 0, 951), (697, 1, .aload_n 2, 0, 0, 0, 0), (698, 1, .aload_n 0, 0, 0, 0, 0), (699, 1, .iload_n 3, 0, 0, 0, 0), (700, 1, .iconst 1, 0, 0, 0, 0), (701, 1, .iadd, 0, 0, 0, 0), (702, 1, .iaload, 0, 0, 0, 0), (703, 1, .aload_n 0, 0, 0, 0, 0)], [(704, 1, .iload_n 3, 0, 0, 0, 0), (705, 1, .iconst 2, 0, 0, 0, 0), (706, 1, .iadd, 0, 0, 0, 0), (707, 1, .iaload, 0, 0, 0, 0), (708, 1, .aload_n 0, 0, 0, 0, 0), (709, 1, .iload_n 3, 0, 0, 0, 0), (710, 1, .iconst 3, 0, 0, 0, 0), (711, 1, .iadd, 0, 0, 0, 0), (712, 1, .iaload, 0, 0, 0, 0), (713, 3, .ifCond .eq 7, 0, 0, 0, 0), (716, 1, .iconst 1, 0, 0, 0, 0), (717, 3, .goto 4, 0, 0, 0, 0)], [(720, 1, .iconst 0, 0, 0, 0, 0), (721, 3, .invokevirtual 80, 66, 0, 0, 1699), (724, 3, .if_icmp .eq 728, 0, 0, 0, 0), (727, 1, .iconst 0, 0, 0, 0, 0), (728, 1, .ireturn, 0, 0, 0, 0), (729, 1, .aload_n 1, 0, 0, 0, 0), (730, 1, .aload_n 0, 0, 0, 0, 0), (731, 1, .iload_n 3, 0, 0, 0, 0), (732, 1, .iconst 1, 0, 0, 0, 0), (733, 1, .iadd, 0, 0, 0, 0), (734, 1, .iaload, 0, 0, 0, 0), (735, 1, .aload_n 0, 0, 0, 0, 0)], [(736, 1, .iload_n 3, 0, 0, 0, 0), (737, 1, .iconst 2, 0, 0, 0, 0), (738, 1, .iadd, 0, 0, 0, 0), (739, 1, .iaload, 0, 0, 0, 0), (740, 1, .aload_n 0, 0, 0, 0, 0), (741, 1, .iload_n 3, 0, 0, 0, 0), (742, 1, .iconst 3, 0, 0, 0, 0), (743, 1, .iadd, 0, 0, 0, 0), (744, 1, .iaload, 0, 0, 0, 0), (745, 3, .ifCond .eq 7, 0, 0, 0, 0), (748, 1, .iconst 1, 0, 0, 0, 0), (749, 3, .goto 4, 0, 0, 0, 0)], [(752, 1, .iconst 0, 0, 0, 0, 0), (753, 3, .invokevirtual 81, 255, 0, 0, 960), (756, 1, .aload_n 2, 0, 0, 0, 0), (757, 1, .aload_n 0, 0, 0, 0, 0), (758, 1, .iload_n 3, 0, 0, 0, 0), (759, 1, .iconst 1, 0, 0, 0, 0), (760, 1, .iadd, 0, 0, 0, 0), (761, 1, .iaload, 0, 0, 0, 0), (762, 1, .aload_n 0, 0, 0, 0, 0), (763, 1, .iload_n 3, 0, 0, 0, 0), (764, 1, .iconst 2, 0, 0, 0, 0), (765, 1, .iadd, 0, 0, 0, 0), (766, 1, .iaload, 0, 0, 0, 0), (767, 1, .aload_n 0, 0, 0, 0, 0)], [(768, 1, .iload_n 3, 0, 0, 0, 0), (769, 1, .iconst 3, 0, 0, 0, 0), (770, 1, .iadd, 0, 0, 0, 0), (771, 1, .iaload, 0, 0, 0, 0), (772, 3, .ifCond .eq 7, 0, 0, 0, 0), (775, 1, .iconst 1, 0, 0, 0, 0), (776, 3, .goto 4, 0, 0, 0, 0), (779, 1, .iconst 0, 0, 0, 0, 0), (780, 3, .invokevirtual 84, 79, 0, 0, 1703), (783, 3, .if_icmp .eq 669, 0, 0, 0, 0)], [(786, 1, .iconst 0, 0, 0, 0, 0), (787, 1, .ireturn, 0, 0, 0, 0), (788, 1, .aload_n 1, 0, 0, 0, 0), (789, 1, .aload_n 0, 0, 0, 0, 0), (790, 1, .iload_n 3, 0, 0, 0, 0), (791, 1, .iconst 1, 0, 0, 0, 0), (792, 1, .iadd, 0, 0, 0, 0), (793, 1, .iaload, 0, 0, 0, 0), (794, 1, .aload_n 0, 0, 0, 0, 0), (795, 1, .iload_n 3, 0, 0, 0, 0), (796, 1, .iconst 2, 0, 0, 0, 0), (797, 1, .iadd, 0, 0, 0, 0), (798, 1, .iaload, 0, 0, 0, 0), (799, 3, .invokevirtual 85, 258, 0, 0, 974)], [(802, 1, .aload_n 2, 0, 0, 0, 0), (803, 1, .aload_n 0, 0, 0, 0, 0), (804, 1, .iload_n 3, 0, 0, 0, 0), (805, 1, .iconst 1, 0, 0, 0, 0), (806, 1, .iadd, 0, 0, 0, 0), (807, 1, .iaload, 0, 0, 0, 0), (808, 1, .aload_n 0, 0, 0, 0, 0), (809, 1, .iload_n 3, 0, 0, 0, 0), (810, 1, .iconst 2, 0, 0, 0, 0), (811, 1, .iadd, 0, 0, 0, 0), (812, 1, .iaload, 0, 0, 0, 0), (813, 3, .invokevirtual 88, 84, 0, 0, 1707)], [(816, 3, .if_icmp .eq 636, 0, 0, 0, 0), (819, 1, .iconst 0, 0, 0, 0, 0), (820, 1, .ireturn, 0, 0, 0, 0), (821, 1, .aload_n 1, 0, 0, 0, 0), (822, 1, .aload_n 0, 0, 0, 0, 0), (823, 1, .iload_n 3, 0, 0, 0, 0), (824, 1, .iconst 1, 0, 0, 0, 0), (825, 1, .iadd, 0, 0, 0, 0), (826, 1, .iaload, 0, 0, 0, 0), (827, 1, .aload_n 0, 0, 0, 0, 0), (828, 1, .iload_n 3, 0, 0, 0, 0), (829, 1, .iconst 2, 0, 0, 0, 0), (830, 1, .iadd, 0, 0, 0, 0), (831, 1, .iaload, 0, 0, 0, 0)], [(832, 3, .ifCond .eq 7, 0, 0, 0, 0), (835, 1, .iconst 1, 0, 0, 0, 0), (836, 3, .goto 4, 0, 0, 0, 0), (839, 1, .iconst 0, 0, 0, 0, 0), (840, 3, .invokevirtual 89, 257, 0, 0, 1005), (843, 1, .aload_n 2, 0, 0, 0, 0), (844, 1, .aload_n 0, 0, 0, 0, 0), (845, 1, .iload_n 3, 0, 0, 0, 0), (846, 1, .iconst 1, 0, 0, 0, 0), (847, 1, .iadd, 0, 0, 0, 0)], [(848, 1, .iaload, 0, 0, 0, 0), (849, 1, .aload_n 0, 0, 0, 0, 0), (850, 1, .iload_n 3, 0, 0, 0, 0), (851, 1, .iconst 2, 0, 0, 0, 0), (852, 1, .iadd, 0, 0, 0, 0), (853, 1, .iaload, 0, 0, 0, 0), (854, 3, .ifCond .eq 7, 0, 0, 0, 0), (857, 1, .iconst 1, 0, 0, 0, 0), (858, 3, .goto 4, 0, 0, 0, 0), (861, 1, .iconst 0, 0, 0, 0, 0), (862, 3, .invokevirtual 93, 81, 0, 0, 1731)], [(865, 3, .if_icmp .eq 587, 0, 0, 0, 0), (868, 1, .iconst 0, 0, 0, 0, 0), (869, 1, .ireturn, 0, 0, 0, 0), (870, 1, .aload_n 1, 0, 0, 0, 0), (871, 1, .aload_n 0, 0, 0, 0, 0), (872, 1, .iload_n 3, 0, 0, 0, 0), (873, 1, .iconst 1, 0, 0, 0, 0), (874, 1, .iadd, 0, 0, 0, 0), (875, 1, .iaload, 0, 0, 0, 0), (876, 3, .invokevirtual 94, 256, 0, 0, 1013), (879, 1, .aload_n 2, 0, 0, 0, 0)], [(880, 1, .aload_n 0, 0, 0, 0, 0), (881, 1, .iload_n 3, 0, 0, 0, 0), (882, 1, .iconst 1, 0, 0, 0, 0), (883, 1, .iadd, 0, 0, 0, 0), (884, 1, .iaload, 0, 0, 0, 0), (885, 3, .invokevirtual 97, 80, 0, 0, 1735), (888, 3, .if_icmp .eq 564, 0, 0, 0, 0), (891, 1, .iconst 0, 0, 0, 0, 0), (892, 1, .ireturn, 0, 0, 0, 0), (893, 1, .aload_n 1, 0, 0, 0, 0), (894, 1, .aload_n 0, 0, 0, 0, 0), (895, 1, .iload_n 3, 0, 0, 0, 0)], [(896, 1, .iconst 1, 0, 0, 0, 0), (897, 1, .iadd, 0, 0, 0, 0), (898, 1, .iaload, 0, 0, 0, 0), (899, 3, .invokevirtual 98, 234, 0, 0, 1033), (902, 1, .aload_n 2, 0, 0, 0, 0), (903, 1, .aload_n 0, 0, 0, 0, 0), (904, 1, .iload_n 3, 0, 0, 0, 0), (905, 1, .iconst 1, 0, 0, 0, 0), (906, 1, .iadd, 0, 0, 0, 0), (907, 1, .iaload, 0, 0, 0, 0), (908, 3, .invokevirtual 101, 38, 0, 0, 1747), (911, 3, .if_icmp .eq 541, 0, 0, 0, 0)], [(914, 1, .iconst 0, 0, 0, 0, 0), (915, 1, .ireturn, 0, 0, 0, 0), (916, 1, .aload_n 1, 0, 0, 0, 0), (917, 1, .aload_n 0, 0, 0, 0, 0), (918, 1, .iload_n 3, 0, 0, 0, 0), (919, 1, .iconst 1, 0, 0, 0, 0), (920, 1, .iadd, 0, 0, 0, 0), (921, 1, .iaload, 0, 0, 0, 0), (922, 3, .ifCond .eq 7, 0, 0, 0, 0), (925, 1, .iconst 1, 0, 0, 0, 0), (926, 3, .goto 4, 0, 0, 0, 0)], [(929, 1, .iconst 0, 0, 0, 0, 0), (930, 3, .invokevirtual 102, 223, 0, 0, 1037), (933, 1, .aload_n 2, 0, 0, 0, 0), (934, 1, .aload_n 0, 0, 0, 0, 0), (935, 1, .iload_n 3, 0, 0, 0, 0), (936, 1, .iconst 1, 0, 0, 0, 0), (937, 1, .iadd, 0, 0, 0, 0), (938, 1, .iaload, 0, 0, 0, 0), (939, 3, .ifCond .eq 7, 0, 0, 0, 0), (942, 1, .iconst 1, 0, 0, 0, 0), (943, 3, .goto 4, 0, 0, 0, 0)], [(946, 1, .iconst 0, 0, 0, 0, 0), (947, 3, .invokevirtual 106, 9, 0, 0, 1751), (950, 3, .if_icmp .eq 502, 0, 0, 0, 0), (953, 1, .iconst 0, 0, 0, 0, 0), (954, 1, .ireturn, 0, 0, 0, 0), (955, 1, .aload_n 1, 0, 0, 0, 0), (956, 1, .aload_n 0, 0, 0, 0, 0), (957, 1, .iload_n 3, 0, 0, 0, 0), (958, 1, .iconst 1, 0, 0, 0, 0), (959, 1, .iadd, 0, 0, 0, 0)], [(960, 1, .iaload, 0, 0, 0, 0), (961, 1, .aload_n 0, 0, 0, 0, 0), (962, 1, .iload_n 3, 0, 0, 0, 0), (963, 1, .iconst 2, 0, 0, 0, 0), (964, 1, .iadd, 0, 0, 0, 0), (965, 1, .iaload, 0, 0, 0, 0), (966, 3, .invokevirtual 107, 267, 0, 0, 1041), (969, 1, .aload_n 2, 0, 0, 0, 0), (970, 1, .aload_n 0, 0, 0, 0, 0), (971, 1, .iload_n 3, 0, 0, 0, 0), (972, 1, .iconst 1, 0, 0, 0, 0), (973, 1, .iadd, 0, 0, 0, 0), (974, 1, .iaload, 0, 0, 0, 0), (975, 1, .aload_n 0, 0, 0, 0, 0)], [(976, 1, .iload_n 3, 0, 0, 0, 0), (977, 1, .iconst 2, 0, 0, 0, 0), (978, 1, .iadd, 0, 0, 0, 0), (979, 1, .iaload, 0, 0, 0, 0), (980, 3, .invokevirtual 110, 102, 0, 0, 1755), (983, 3, .if_icmp .eq 469, 0, 0, 0, 0), (986, 1, .iconst 0, 0, 0, 0, 0), (987, 1, .ireturn, 0, 0, 0, 0), (988, 1, .aload_n 1, 0, 0, 0, 0), (989, 1, .aload_n 0, 0, 0, 0, 0), (990, 1, .iload_n 3, 0, 0, 0, 0), (991, 1, .iconst 1, 0, 0, 0, 0)], [(992, 1, .iadd, 0, 0, 0, 0), (993, 1, .iaload, 0, 0, 0, 0), (994, 1, .aload_n 0, 0, 0, 0, 0), (995, 1, .iload_n 3, 0, 0, 0, 0), (996, 1, .iconst 2, 0, 0, 0, 0), (997, 1, .iadd, 0, 0, 0, 0), (998, 1, .iaload, 0, 0, 0, 0), (999, 1, .aload_n 0, 0, 0, 0, 0), (1000, 1, .iload_n 3, 0, 0, 0, 0), (1001, 1, .iconst 3, 0, 0, 0, 0), (1002, 1, .iadd, 0, 0, 0, 0), (1003, 1, .iaload, 0, 0, 0, 0), (1004, 3, .invokevirtual 111, 248, 0, 0, 1050), (1007, 1, .aload_n 2, 0, 0, 0, 0)], [(1008, 1, .aload_n 0, 0, 0, 0, 0), (1009, 1, .iload_n 3, 0, 0, 0, 0), (1010, 1, .iconst 1, 0, 0, 0, 0), (1011, 1, .iadd, 0, 0, 0, 0), (1012, 1, .iaload, 0, 0, 0, 0), (1013, 1, .aload_n 0, 0, 0, 0, 0), (1014, 1, .iload_n 3, 0, 0, 0, 0), (1015, 1, .iconst 2, 0, 0, 0, 0), (1016, 1, .iadd, 0, 0, 0, 0), (1017, 1, .iaload, 0, 0, 0, 0), (1018, 1, .aload_n 0, 0, 0, 0, 0), (1019, 1, .iload_n 3, 0, 0, 0, 0), (1020, 1, .iconst 3, 0, 0, 0, 0), (1021, 1, .iadd, 0, 0, 0, 0), (1022, 1, .iaload, 0, 0, 0, 0), (1023, 3, .invokevirtual 115, 68, 0, 0, 1766)], [(1026, 3, .if_icmp .eq 426, 0, 0, 0, 0), (1029, 1, .iconst 0, 0, 0, 0, 0), (1030, 1, .ireturn, 0, 0, 0, 0), (1031, 1, .aload_n 1, 0, 0, 0, 0), (1032, 1, .aload_n 0, 0, 0, 0, 0), (1033, 1, .iload_n 3, 0, 0, 0, 0), (1034, 1, .iconst 1, 0, 0, 0, 0), (1035, 1, .iadd, 0, 0, 0, 0), (1036, 1, .iaload, 0, 0, 0, 0), (1037, 3, .invokevirtual 116, 229, 0, 0, 1054)], [(1040, 1, .aload_n 2, 0, 0, 0, 0), (1041, 1, .aload_n 0, 0, 0, 0, 0), (1042, 1, .iload_n 3, 0, 0, 0, 0), (1043, 1, .iconst 1, 0, 0, 0, 0), (1044, 1, .iadd, 0, 0, 0, 0), (1045, 1, .iaload, 0, 0, 0, 0), (1046, 3, .invokevirtual 119, 24, 0, 0, 1770), (1049, 3, .if_icmp .eq 403, 0, 0, 0, 0), (1052, 1, .iconst 0, 0, 0, 0, 0), (1053, 1, .ireturn, 0, 0, 0, 0), (1054, 1, .aload_n 1, 0, 0, 0, 0), (1055, 1, .aload_n 0, 0, 0, 0, 0)], [(1056, 1, .iload_n 3, 0, 0, 0, 0), (1057, 1, .iconst 1, 0, 0, 0, 0), (1058, 1, .iadd, 0, 0, 0, 0), (1059, 1, .iaload, 0, 0, 0, 0), (1060, 1, .aload_n 0, 0, 0, 0, 0), (1061, 1, .iload_n 3, 0, 0, 0, 0), (1062, 1, .iconst 2, 0, 0, 0, 0), (1063, 1, .iadd, 0, 0, 0, 0), (1064, 1, .iaload, 0, 0, 0, 0), (1065, 3, .invokevirtual 120, 263, 0, 0, 1062), (1068, 1, .aload_n 2, 0, 0, 0, 0), (1069, 1, .aload_n 0, 0, 0, 0, 0), (1070, 1, .iload_n 3, 0, 0, 0, 0), (1071, 1, .iconst 1, 0, 0, 0, 0)], [(1072, 1, .iadd, 0, 0, 0, 0), (1073, 1, .iaload, 0, 0, 0, 0), (1074, 1, .aload_n 0, 0, 0, 0, 0), (1075, 1, .iload_n 3, 0, 0, 0, 0), (1076, 1, .iconst 2, 0, 0, 0, 0), (1077, 1, .iadd, 0, 0, 0, 0), (1078, 1, .iaload, 0, 0, 0, 0), (1079, 3, .invokevirtual 123, 94, 0, 0, 1778), (1082, 3, .if_icmp .eq 370, 0, 0, 0, 0), (1085, 1, .iconst 0, 0, 0, 0, 0), (1086, 1, .ireturn, 0, 0, 0, 0), (1087, 1, .aload_n 1, 0, 0, 0, 0)], [(1088, 1, .aload_n 0, 0, 0, 0, 0), (1089, 1, .iload_n 3, 0, 0, 0, 0), (1090, 1, .iconst 1, 0, 0, 0, 0), (1091, 1, .iadd, 0, 0, 0, 0), (1092, 1, .iaload, 0, 0, 0, 0), (1093, 1, .aload_n 0, 0, 0, 0, 0), (1094, 1, .iload_n 3, 0, 0, 0, 0), (1095, 1, .iconst 2, 0, 0, 0, 0), (1096, 1, .iadd, 0, 0, 0, 0), (1097, 1, .iaload, 0, 0, 0, 0), (1098, 3, .invokevirtual 124, 261, 0, 0, 1070), (1101, 1, .aload_n 2, 0, 0, 0, 0), (1102, 1, .aload_n 0, 0, 0, 0, 0), (1103, 1, .iload_n 3, 0, 0, 0, 0)], [(1104, 1, .iconst 1, 0, 0, 0, 0), (1105, 1, .iadd, 0, 0, 0, 0), (1106, 1, .iaload, 0, 0, 0, 0), (1107, 1, .aload_n 0, 0, 0, 0, 0), (1108, 1, .iload_n 3, 0, 0, 0, 0), (1109, 1, .iconst 2, 0, 0, 0, 0), (1110, 1, .iadd, 0, 0, 0, 0), (1111, 1, .iaload, 0, 0, 0, 0), (1112, 3, .invokevirtual 127, 92, 0, 0, 1782), (1115, 3, .if_icmp .eq 337, 0, 0, 0, 0), (1118, 1, .iconst 0, 0, 0, 0, 0), (1119, 1, .ireturn, 0, 0, 0, 0)], [(1120, 1, .aload_n 1, 0, 0, 0, 0), (1121, 3, .invokevirtual 128, 224, 0, 0, 1078), (1124, 1, .aload_n 2, 0, 0, 0, 0), (1125, 3, .invokevirtual 131, 11, 0, 0, 1790), (1128, 3, .if_icmp .eq 324, 0, 0, 0, 0), (1131, 1, .iconst 0, 0, 0, 0, 0), (1132, 1, .ireturn, 0, 0, 0, 0), (1133, 1, .aload_n 1, 0, 0, 0, 0), (1134, 1, .aload_n 0, 0, 0, 0, 0), (1135, 1, .iload_n 3, 0, 0, 0, 0)], [(1136, 1, .iconst 1, 0, 0, 0, 0), (1137, 1, .iadd, 0, 0, 0, 0), (1138, 1, .iaload, 0, 0, 0, 0), (1139, 1, .aload_n 0, 0, 0, 0, 0), (1140, 1, .iload_n 3, 0, 0, 0, 0), (1141, 1, .iconst 2, 0, 0, 0, 0), (1142, 1, .iadd, 0, 0, 0, 0), (1143, 1, .iaload, 0, 0, 0, 0), (1144, 3, .invokevirtual 132, 274, 0, 0, 1082), (1147, 1, .aload_n 2, 0, 0, 0, 0), (1148, 1, .aload_n 0, 0, 0, 0, 0), (1149, 1, .iload_n 3, 0, 0, 0, 0), (1150, 1, .iconst 1, 0, 0, 0, 0), (1151, 1, .iadd, 0, 0, 0, 0)], [(1152, 1, .iaload, 0, 0, 0, 0), (1153, 1, .aload_n 0, 0, 0, 0, 0), (1154, 1, .iload_n 3, 0, 0, 0, 0), (1155, 1, .iconst 2, 0, 0, 0, 0), (1156, 1, .iadd, 0, 0, 0, 0), (1157, 1, .iaload, 0, 0, 0, 0), (1158, 3, .invokevirtual 135, 113, 0, 0, 1794), (1161, 3, .if_icmp .eq 291, 0, 0, 0, 0), (1164, 1, .iconst 0, 0, 0, 0, 0), (1165, 1, .ireturn, 0, 0, 0, 0), (1166, 1, .aload_n 1, 0, 0, 0, 0), (1167, 1, .aload_n 0, 0, 0, 0, 0)], [(1168, 1, .iload_n 3, 0, 0, 0, 0), (1169, 1, .iconst 1, 0, 0, 0, 0), (1170, 1, .iadd, 0, 0, 0, 0), (1171, 1, .iaload, 0, 0, 0, 0), (1172, 1, .aload_n 0, 0, 0, 0, 0), (1173, 1, .iload_n 3, 0, 0, 0, 0), (1174, 1, .iconst 2, 0, 0, 0, 0), (1175, 1, .iadd, 0, 0, 0, 0), (1176, 1, .iaload, 0, 0, 0, 0), (1177, 3, .invokevirtual 136, 272, 0, 0, 1094), (1180, 1, .aload_n 2, 0, 0, 0, 0), (1181, 1, .aload_n 0, 0, 0, 0, 0), (1182, 1, .iload_n 3, 0, 0, 0, 0), (1183, 1, .iconst 1, 0, 0, 0, 0)], [(1184, 1, .iadd, 0, 0, 0, 0), (1185, 1, .iaload, 0, 0, 0, 0), (1186, 1, .aload_n 0, 0, 0, 0, 0), (1187, 1, .iload_n 3, 0, 0, 0, 0), (1188, 1, .iconst 2, 0, 0, 0, 0), (1189, 1, .iadd, 0, 0, 0, 0), (1190, 1, .iaload, 0, 0, 0, 0), (1191, 3, .invokevirtual 139, 109, 0, 0, 1798), (1194, 3, .if_icmp .eq 258, 0, 0, 0, 0), (1197, 1, .iconst 0, 0, 0, 0, 0), (1198, 1, .ireturn, 0, 0, 0, 0), (1199, 1, .aload_n 1, 0, 0, 0, 0)], [(1200, 1, .aload_n 0, 0, 0, 0, 0), (1201, 1, .iload_n 3, 0, 0, 0, 0), (1202, 1, .iconst 1, 0, 0, 0, 0), (1203, 1, .iadd, 0, 0, 0, 0), (1204, 1, .iaload, 0, 0, 0, 0), (1205, 3, .invokevirtual 140, 266, 0, 0, 1098), (1208, 1, .aload_n 2, 0, 0, 0, 0), (1209, 1, .aload_n 0, 0, 0, 0, 0), (1210, 1, .iload_n 3, 0, 0, 0, 0), (1211, 1, .iconst 1, 0, 0, 0, 0), (1212, 1, .iadd, 0, 0, 0, 0), (1213, 1, .iaload, 0, 0, 0, 0), (1214, 3, .invokevirtual 143, 96, 0, 0, 1802)], [(1217, 3, .if_icmp .eq 235, 0, 0, 0, 0), (1220, 1, .iconst 0, 0, 0, 0, 0), (1221, 1, .ireturn, 0, 0, 0, 0), (1222, 1, .aload_n 1, 0, 0, 0, 0), (1223, 1, .aload_n 0, 0, 0, 0, 0), (1224, 1, .iload_n 3, 0, 0, 0, 0), (1225, 1, .iconst 1, 0, 0, 0, 0), (1226, 1, .iadd, 0, 0, 0, 0), (1227, 1, .iaload, 0, 0, 0, 0), (1228, 1, .aload_n 0, 0, 0, 0, 0), (1229, 1, .iload_n 3, 0, 0, 0, 0), (1230, 1, .iconst 2, 0, 0, 0, 0), (1231, 1, .iadd, 0, 0, 0, 0)], [(1232, 1, .iaload, 0, 0, 0, 0), (1233, 1, .aload_n 0, 0, 0, 0, 0), (1234, 1, .iload_n 3, 0, 0, 0, 0), (1235, 1, .iconst 3, 0, 0, 0, 0), (1236, 1, .iadd, 0, 0, 0, 0), (1237, 1, .iaload, 0, 0, 0, 0), (1238, 3, .ifCond .eq 7, 0, 0, 0, 0), (1241, 1, .iconst 1, 0, 0, 0, 0), (1242, 3, .goto 4, 0, 0, 0, 0), (1245, 1, .iconst 0, 0, 0, 0, 0), (1246, 3, .invokevirtual 144, 225, 0, 0, 1106)], [(1249, 1, .aload_n 2, 0, 0, 0, 0), (1250, 1, .aload_n 0, 0, 0, 0, 0), (1251, 1, .iload_n 3, 0, 0, 0, 0), (1252, 1, .iconst 1, 0, 0, 0, 0), (1253, 1, .iadd, 0, 0, 0, 0), (1254, 1, .iaload, 0, 0, 0, 0), (1255, 1, .aload_n 0, 0, 0, 0, 0), (1256, 1, .iload_n 3, 0, 0, 0, 0), (1257, 1, .iconst 2, 0, 0, 0, 0), (1258, 1, .iadd, 0, 0, 0, 0), (1259, 1, .iaload, 0, 0, 0, 0), (1260, 1, .aload_n 0, 0, 0, 0, 0), (1261, 1, .iload_n 3, 0, 0, 0, 0), (1262, 1, .iconst 3, 0, 0, 0, 0), (1263, 1, .iadd, 0, 0, 0, 0)], [(1264, 1, .iaload, 0, 0, 0, 0), (1265, 3, .ifCond .eq 7, 0, 0, 0, 0), (1268, 1, .iconst 1, 0, 0, 0, 0), (1269, 3, .goto 4, 0, 0, 0, 0), (1272, 1, .iconst 0, 0, 0, 0, 0), (1273, 3, .invokevirtual 147, 14, 0, 0, 1806), (1276, 3, .if_icmp .eq 176, 0, 0, 0, 0), (1279, 1, .iconst 0, 0, 0, 0, 0)], [(1280, 1, .ireturn, 0, 0, 0, 0), (1281, 1, .aload_n 1, 0, 0, 0, 0), (1282, 1, .aload_n 0, 0, 0, 0, 0), (1283, 1, .iload_n 3, 0, 0, 0, 0), (1284, 1, .iconst 1, 0, 0, 0, 0), (1285, 1, .iadd, 0, 0, 0, 0), (1286, 1, .iaload, 0, 0, 0, 0), (1287, 3, .invokevirtual 148, 264, 0, 0, 1117), (1290, 1, .aload_n 2, 0, 0, 0, 0), (1291, 1, .aload_n 0, 0, 0, 0, 0), (1292, 1, .iload_n 3, 0, 0, 0, 0), (1293, 1, .iconst 1, 0, 0, 0, 0), (1294, 1, .iadd, 0, 0, 0, 0), (1295, 1, .iaload, 0, 0, 0, 0)], [(1296, 3, .invokevirtual 151, 95, 0, 0, 1813), (1299, 3, .if_icmp .eq 153, 0, 0, 0, 0), (1302, 1, .iconst 0, 0, 0, 0, 0), (1303, 1, .ireturn, 0, 0, 0, 0), (1304, 1, .aload_n 1, 0, 0, 0, 0), (1305, 1, .aload_n 0, 0, 0, 0, 0), (1306, 1, .iload_n 3, 0, 0, 0, 0), (1307, 1, .iconst 1, 0, 0, 0, 0), (1308, 1, .iadd, 0, 0, 0, 0), (1309, 1, .iaload, 0, 0, 0, 0), (1310, 1, .aload_n 0, 0, 0, 0, 0), (1311, 1, .iload_n 3, 0, 0, 0, 0)], [(1312, 1, .iconst 2, 0, 0, 0, 0), (1313, 1, .iadd, 0, 0, 0, 0), (1314, 1, .iaload, 0, 0, 0, 0), (1315, 3, .invokevirtual 152, 243, 0, 0, 1122), (1318, 1, .aload_n 2, 0, 0, 0, 0), (1319, 1, .aload_n 0, 0, 0, 0, 0), (1320, 1, .iload_n 3, 0, 0, 0, 0), (1321, 1, .iconst 1, 0, 0, 0, 0), (1322, 1, .iadd, 0, 0, 0, 0), (1323, 1, .iaload, 0, 0, 0, 0), (1324, 1, .aload_n 0, 0, 0, 0, 0), (1325, 1, .iload_n 3, 0, 0, 0, 0), (1326, 1, .iconst 2, 0, 0, 0, 0), (1327, 1, .iadd, 0, 0, 0, 0)], [(1328, 1, .iaload, 0, 0, 0, 0), (1329, 3, .invokevirtual 155, 60, 0, 0, 1818), (1332, 3, .if_icmp .eq 120, 0, 0, 0, 0), (1335, 1, .iconst 0, 0, 0, 0, 0), (1336, 1, .ireturn, 0, 0, 0, 0), (1337, 1, .aload_n 1, 0, 0, 0, 0), (1338, 1, .aload_n 0, 0, 0, 0, 0), (1339, 1, .iload_n 3, 0, 0, 0, 0), (1340, 1, .iconst 1, 0, 0, 0, 0), (1341, 1, .iadd, 0, 0, 0, 0), (1342, 1, .iaload, 0, 0, 0, 0), (1343, 1, .aload_n 0, 0, 0, 0, 0)], [(1344, 1, .iload_n 3, 0, 0, 0, 0), (1345, 1, .iconst 2, 0, 0, 0, 0), (1346, 1, .iadd, 0, 0, 0, 0), (1347, 1, .iaload, 0, 0, 0, 0), (1348, 3, .invokevirtual 156, 222, 0, 0, 1130), (1351, 1, .aload_n 2, 0, 0, 0, 0), (1352, 1, .aload_n 0, 0, 0, 0, 0), (1353, 1, .iload_n 3, 0, 0, 0, 0), (1354, 1, .iconst 1, 0, 0, 0, 0), (1355, 1, .iadd, 0, 0, 0, 0), (1356, 1, .iaload, 0, 0, 0, 0), (1357, 1, .aload_n 0, 0, 0, 0, 0), (1358, 1, .iload_n 3, 0, 0, 0, 0), (1359, 1, .iconst 2, 0, 0, 0, 0)], [(1360, 1, .iadd, 0, 0, 0, 0), (1361, 1, .iaload, 0, 0, 0, 0), (1362, 3, .invokevirtual 159, 6, 0, 0, 1822), (1365, 3, .if_icmp .eq 87, 0, 0, 0, 0), (1368, 1, .iconst 0, 0, 0, 0, 0), (1369, 1, .ireturn, 0, 0, 0, 0), (1370, 1, .aload_n 1, 0, 0, 0, 0), (1371, 3, .invokevirtual 160, 232, 0, 0, 1148), (1374, 1, .aload_n 2, 0, 0, 0, 0), (1375, 3, .invokevirtual 163, 35, 0, 0, 1830)], [(1378, 3, .if_icmp .eq 74, 0, 0, 0, 0), (1381, 1, .iconst 0, 0, 0, 0, 0), (1382, 1, .ireturn, 0, 0, 0, 0), (1383, 1, .aload_n 1, 0, 0, 0, 0), (1384, 1, .aload_n 0, 0, 0, 0, 0), (1385, 1, .iload_n 3, 0, 0, 0, 0), (1386, 1, .iconst 1, 0, 0, 0, 0), (1387, 1, .iadd, 0, 0, 0, 0), (1388, 1, .iaload, 0, 0, 0, 0), (1389, 3, .invokevirtual 164, 236, 0, 0, 1156)], [(1392, 1, .aload_n 2, 0, 0, 0, 0), (1393, 1, .aload_n 0, 0, 0, 0, 0), (1394, 1, .iload_n 3, 0, 0, 0, 0), (1395, 1, .iconst 1, 0, 0, 0, 0), (1396, 1, .iadd, 0, 0, 0, 0), (1397, 1, .iaload, 0, 0, 0, 0), (1398, 3, .invokevirtual 168, 41, 0, 0, 1834), (1401, 3, .if_icmp .eq 51, 0, 0, 0, 0), (1404, 1, .iconst 0, 0, 0, 0, 0), (1405, 1, .ireturn, 0, 0, 0, 0), (1406, 1, .aload_n 1, 0, 0, 0, 0), (1407, 1, .aload_n 0, 0, 0, 0, 0)], [(1408, 1, .iload_n 3, 0, 0, 0, 0), (1409, 1, .iconst 1, 0, 0, 0, 0), (1410, 1, .iadd, 0, 0, 0, 0), (1411, 1, .iaload, 0, 0, 0, 0), (1412, 3, .invokevirtual 169, 254, 0, 0, 1164), (1415, 1, .aload_n 2, 0, 0, 0, 0), (1416, 1, .aload_n 0, 0, 0, 0, 0), (1417, 1, .iload_n 3, 0, 0, 0, 0), (1418, 1, .iconst 1, 0, 0, 0, 0), (1419, 1, .iadd, 0, 0, 0, 0), (1420, 1, .iaload, 0, 0, 0, 0), (1421, 3, .invokevirtual 172, 78, 0, 0, 1838)], [(1424, 3, .if_icmp .eq 28, 0, 0, 0, 0), (1427, 1, .iconst 0, 0, 0, 0, 0), (1428, 1, .ireturn, 0, 0, 0, 0), (1429, 1, .aload_n 1, 0, 0, 0, 0), (1430, 1, .aload_n 0, 0, 0, 0, 0), (1431, 1, .iload_n 3, 0, 0, 0, 0), (1432, 1, .iconst 1, 0, 0, 0, 0), (1433, 1, .iadd, 0, 0, 0, 0), (1434, 1, .iaload, 0, 0, 0, 0), (1435, 3, .invokevirtual 173, 227, 0, 0, 1173), (1438, 1, .aload_n 2, 0, 0, 0, 0), (1439, 1, .aload_n 0, 0, 0, 0, 0)], [(1440, 1, .iload_n 3, 0, 0, 0, 0), (1441, 1, .iconst 1, 0, 0, 0, 0), (1442, 1, .iadd, 0, 0, 0, 0), (1443, 1, .iaload, 0, 0, 0, 0), (1444, 3, .invokevirtual 176, 18, 0, 0, 1842), (1447, 3, .if_icmp .eq 5, 0, 0, 0, 0), (1450, 1, .iconst 0, 0, 0, 0, 0), (1451, 1, .ireturn, 0, 0, 0, 0), (1452, 3, .iinc 3 6, 0, 0, 0, 0), (1455, 3, .goto (-1437), 0, 0, 0, 0)], [(1458, 1, .iconst 1, 0, 0, 0, 0), (1459, 1, .ireturn, 0, 0, 0, 0)]], 4, 1, 0, 0, 2, 0, 0)
def mt_P : mm_T := [([], 0, 0, 9, 0, 9, 0, 0), ([], 0, 0, 9, 0, 9, 0, 0), mt_2, mt_3, mt_4, mt_5, mt_6, mt_7, mt_8, mt_9, mt_10, mt_11, mt_12, mt_13, mt_14, mt_15, mt_16, mt_17, mt_18, mt_19, mt_20, mt_21, mt_22, mt_23, mt_24, mt_25, mt_26, mt_27, mt_28, mt_29, mt_30, mt_31, mt_32, mt_33, mt_34, mt_35, mt_36, mt_37, mt_38, mt_39, mt_40, mt_41, mt_42, mt_43, mt_44, mt_45, mt_46, mt_47, mt_48, mt_49, mt_50, mt_51, mt_52, mt_53, mt_54, mt_55, mt_56, mt_57, mt_58, mt_59, mt_60, mt_61, mt_62, mt_63, mt_64, mt_65, mt_66, mt_67, mt_68, mt_69, mt_70, mt_71, mt_72, mt_73, mt_74, mt_75, mt_76, mt_77, mt_78, mt_79, mt_80, mt_81, mt_82, mt_83, mt_84, mt_85, mt_86, mt_87, mt_88, mt_89, mt_90, mt_91, mt_92, mt_93, mt_94, mt_95, mt_96, mt_97, mt_98, mt_99, mt_100, mt_101, mt_102, mt_103, mt_104, mt_105, mt_106, mt_107, mt_108, mt_109, mt_110, mt_111, mt_112, mt_113, mt_114, mt_115, mt_116, mt_117, mt_118, mt_119, mt_120, mt_121, mt_122, mt_123, mt_124, mt_125, mt_126, mt_127, mt_128, mt_129, mt_130, mt_131, mt_132, mt_133, mt_134, mt_135, mt_136, mt_137, mt_138, mt_139, mt_140, mt_141, mt_142, mt_143, mt_144, mt_145, mt_146, mt_147, mt_148, mt_149, mt_150, mt_151, mt_152, mt_153, mt_154, mt_155, mt_156, mt_157, mt_158, mt_159, mt_160, mt_161, mt_162, mt_163, mt_164, mt_165, mt_166, mt_167, mt_168, mt_169, mt_170, mt_171, mt_172, mt_173, mt_174, mt_175, mt_176, mt_177, mt_178, mt_179, mt_180, mt_181, mt_182, mt_183, mt_184, mt_185, mt_186, mt_187, mt_188, mt_189, mt_190, mt_191, mt_192, mt_193, mt_194, mt_195, mt_196, mt_197, mt_198, mt_199, mt_200, mt_201, mt_202, mt_203, mt_204, mt_205, mt_206, mt_207, mt_208, mt_209, mt_210, mt_211, mt_212, mt_213, mt_214, mt_215, mt_216, mt_217, mt_218, mt_219, mt_220, mt_221, mt_222, mt_223, mt_224, mt_225, mt_226, mt_227, mt_228, mt_229, mt_230, mt_231, mt_232, mt_233, mt_234, mt_235, mt_236, mt_237, mt_238, mt_239, mt_240, mt_241, mt_242, mt_243, mt_244, mt_245, mt_246, mt_247, mt_248, mt_249, mt_250, mt_251, mt_252, mt_253, mt_254, mt_255, mt_256, mt_257, mt_258, mt_259, mt_260, mt_261, mt_262, mt_263, mt_264, mt_265, mt_266, mt_267, mt_268, mt_269, mt_270, mt_271, mt_272, mt_273, mt_274, mt_275, mt_276, mt_277, mt_278, mt_279]
def mt_kds : List (List Nat) := [[3, 3, 3, 3, 3, 3, 0], [3, 3, 3, 3, 0], [3, 3, 3, 0, 0], [3, 3, 3, 0, 0], [3, 3, 0, 0, 1, 0, 0, 0, 0, 0], [3, 3, 3, 0, 0], [3, 3, 3, 3, 0, 0, 0, 0, 0, 0, 0], [3, 3, 3, 0, 3, 0, 0], [3, 0, 0, 3, 3, 3, 3, 3, 3, 3, 3], [0, 3, 0, 3, 0, 3, 3, 3, 3, 3, 0, 0, 0, 0, 0, 0, 0, 0, 0, 0, 0, 3, 3, 3, 3, 3, 3, 3, 3, 3, 3, 3, 3, 0, 3, 3, 3, 3, 3, 0, 3, 3, 3, 0, 3, 3, 2, 3, 3, 0, 0, 0, 0, 3, 0, 3, 3, 3, 0, 0, 3, 3, 3, 0, 0, 0, 3, 0, 3, 3, 3, 3, 3]]
end
section
/-! THE TABLES AGAINST THE WORDS, 1, by program (wip/p1/chk.py): classes and their fields -/
def mt_W : List Cond := lw_tbl.filter goodWord
theorem mt_w_in {w : Nat} {X : Cond} (h : rf_w lw_tbl w X = true) : X ∈ mt_W := by
  simp only [rf_w, Bool.and_eq_true, decide_eq_true_eq] at h
  exact List.mem_filter.mpr ⟨List.mem_of_getElem? h.1, h.2⟩
theorem mt_lays {C : String} {TT : u_T} {N : Nat} {ix : List Nat} (h : (List.range N).all (fun k => rf_w lw_tbl (ix.getD k 0) (u_lay C TT k)) = true) : ∀ w ∈ u_ws C TT N, w ∈ mt_W := by
  intro w hw
  obtain ⟨k, hk, rfl⟩ := List.mem_map.mp hw
  exact mt_w_in (List.all_eq_true.mp h k hk)
def mt_T0 : u_T := fun k => match k with
  | 0 => ("StrawWatch$Draws", "text", "LStrawWatch$Text;", true)
  | 1 => ("StrawWatch$Draws", "who", "[I", true)
  | 2 => ("StrawWatch$Draws", "left", "[I", true)
  | 3 => ("StrawWatch$Draws", "tally", "[I", true)
  | 4 => ("StrawWatch$Draws", "goesOn", "[I", true)
  | 5 => ("StrawWatch$Draws", "ways", "[I", true)
  | _ => ("StrawWatch$Draws", "size", "I", false)
def mt_ty0 : Nat → FieldType := fun k => match k with
  | 0 => (.object "StrawWatch$Text")
  | 1 => (.array .int)
  | 2 => (.array .int)
  | 3 => (.array .int)
  | 4 => (.array .int)
  | 5 => (.array .int)
  | _ => .int
def mt_T1 : u_T := fun k => match k with
  | 0 => ("StrawWatch$Laws", "vars", "[I", true)
  | 1 => ("StrawWatch$Laws", "code", "[I", true)
  | 2 => ("StrawWatch$Laws", "starts", "[I", true)
  | 3 => ("StrawWatch$Laws", "stack", "[I", true)
  | _ => ("StrawWatch$Laws", "size", "I", false)
def mt_ty1 : Nat → FieldType := fun k => match k with
  | 0 => (.array .int)
  | 1 => (.array .int)
  | 2 => (.array .int)
  | 3 => (.array .int)
  | _ => .int
def mt_T2 : u_T := fun k => match k with
  | 0 => ("StrawWatch$Notes", "captains", "[I", true)
  | 1 => ("StrawWatch$Notes", "watches", "[I", true)
  | 2 => ("StrawWatch$Notes", "leagues", "[I", true)
  | 3 => ("StrawWatch$Notes", "told", "I", false)
  | _ => ("StrawWatch$Notes", "logged", "I", false)
def mt_ty2 : Nat → FieldType := fun k => match k with
  | 0 => (.array .int)
  | 1 => (.array .int)
  | 2 => (.array .int)
  | 3 => .int
  | _ => .int
def mt_T3 : u_T := fun k => match k with
  | 0 => ("StrawWatch$Past", "rows", "[[I", true)
  | 1 => ("StrawWatch$Past", "slots", "[[I", true)
  | 2 => ("StrawWatch$Past", "holds", "[Z", true)
  | 3 => ("StrawWatch$Past", "next", "I", false)
  | _ => ("StrawWatch$Past", "undoable", "I", false)
def mt_ty3 : Nat → FieldType := fun k => match k with
  | 0 => (.array (.array .int))
  | 1 => (.array (.array .int))
  | 2 => (.array .boolean)
  | 3 => .int
  | _ => .int
def mt_T4 : u_T := fun k => match k with
  | 0 => ("StrawWatch$Reader", "tokens", "LStrawWatch$Tokens;", true)
  | 1 => ("StrawWatch$Reader", "into", "LStrawWatch$Text;", true)
  | 2 => ("StrawWatch$Reader", "at", "I", false)
  | 3 => ("StrawWatch$Reader", "kind", "I", false)
  | 4 => ("StrawWatch$Reader", "value", "J", false)
  | 5 => ("StrawWatch$Reader", "start", "I", false)
  | 6 => ("StrawWatch$Reader", "fault", "I", false)
  | 7 => ("StrawWatch$Reader", "place", "I", false)
  | 8 => ("StrawWatch$Reader", "laterFault", "I", false)
  | _ => ("StrawWatch$Reader", "laterPlace", "I", false)
def mt_ty4 : Nat → FieldType := fun k => match k with
  | 0 => (.object "StrawWatch$Tokens")
  | 1 => (.object "StrawWatch$Text")
  | 2 => .int
  | 3 => .int
  | 4 => .long
  | 5 => .int
  | 6 => .int
  | 7 => .int
  | 8 => .int
  | _ => .int
def mt_T5 : u_T := fun k => match k with
  | 0 => ("StrawWatch$Ship", "cell", "[I", true)
  | 1 => ("StrawWatch$Ship", "left", "[I", true)
  | 2 => ("StrawWatch$Ship", "text", "LStrawWatch$Text;", true)
  | 3 => ("StrawWatch$Ship", "seed", "I", false)
  | _ => ("StrawWatch$Ship", "sailForAll", "I", false)
def mt_ty5 : Nat → FieldType := fun k => match k with
  | 0 => (.array .int)
  | 1 => (.array .int)
  | 2 => (.object "StrawWatch$Text")
  | 3 => .int
  | _ => .int
def mt_T6 : u_T := fun k => match k with
  | 0 => ("StrawWatch$Text", "laws", "LStrawWatch$Laws;", true)
  | 1 => ("StrawWatch$Text", "skills", "[I", true)
  | 2 => ("StrawWatch$Text", "sleeves", "[I", true)
  | 3 => ("StrawWatch$Text", "names", "[J", true)
  | 4 => ("StrawWatch$Text", "men", "I", false)
  | 5 => ("StrawWatch$Text", "hull", "I", false)
  | 6 => ("StrawWatch$Text", "food", "I", false)
  | 7 => ("StrawWatch$Text", "mood", "I", false)
  | 8 => ("StrawWatch$Text", "goal", "I", false)
  | 9 => ("StrawWatch$Text", "broom", "I", false)
  | _ => ("StrawWatch$Text", "seed", "I", false)
def mt_ty6 : Nat → FieldType := fun k => match k with
  | 0 => (.object "StrawWatch$Laws")
  | 1 => (.array .int)
  | 2 => (.array .int)
  | 3 => (.array .long)
  | 4 => .int
  | 5 => .int
  | 6 => .int
  | 7 => .int
  | 8 => .int
  | 9 => .int
  | _ => .int
def mt_T7 : u_T := fun k => match k with
  | 0 => ("StrawWatch$Tokens", "kinds", "[I", true)
  | 1 => ("StrawWatch$Tokens", "places", "[I", true)
  | 2 => ("StrawWatch$Tokens", "values", "[J", true)
  | 3 => ("StrawWatch$Tokens", "size", "I", false)
  | 4 => ("StrawWatch$Tokens", "tape", "[B", true)
  | 5 => ("StrawWatch$Tokens", "length", "I", false)
  | _ => ("StrawWatch$Tokens", "at", "I", false)
def mt_ty7 : Nat → FieldType := fun k => match k with
  | 0 => (.array .int)
  | 1 => (.array .int)
  | 2 => (.array .long)
  | 3 => .int
  | 4 => (.array .byte)
  | 5 => .int
  | _ => .int
def mt_T8 : u_T := fun k => match k with
  | 0 => ("StrawWatch", "tape", "[B", true)
  | 1 => ("StrawWatch", "tapeLength", "I", false)
  | 2 => ("StrawWatch", "faultPlace", "I", false)
  | 3 => ("StrawWatch", "text", "LStrawWatch$Text;", true)
  | 4 => ("StrawWatch", "fresh", "LStrawWatch$Text;", true)
  | 5 => ("StrawWatch", "reader", "LStrawWatch$Reader;", true)
  | 6 => ("StrawWatch", "now", "LStrawWatch$Ship;", true)
  | 7 => ("StrawWatch", "trial", "LStrawWatch$Ship;", true)
  | 8 => ("StrawWatch", "draws", "LStrawWatch$Draws;", true)
  | 9 => ("StrawWatch", "past", "LStrawWatch$Past;", true)
  | _ => ("StrawWatch", "notes", "LStrawWatch$Notes;", true)
def mt_ty8 : Nat → FieldType := fun k => match k with
  | 0 => (.array .byte)
  | 1 => .int
  | 2 => .int
  | 3 => (.object "StrawWatch$Text")
  | 4 => (.object "StrawWatch$Text")
  | 5 => (.object "StrawWatch$Reader")
  | 6 => (.object "StrawWatch$Ship")
  | 7 => (.object "StrawWatch$Ship")
  | 8 => (.object "StrawWatch$Draws")
  | 9 => (.object "StrawWatch$Past")
  | _ => (.object "StrawWatch$Notes")
def mt_T9 : u_T := fun k => match k with
  | 0 => ("StrawWatchModel", "thrown", "I", false)
  | 1 => ("StrawWatchModel", "tape", "[B", true)
  | 2 => ("StrawWatchModel", "taped", "I", false)
  | 3 => ("StrawWatchModel", "text", "[B", true)
  | 4 => ("StrawWatchModel", "size", "I", false)
  | 5 => ("StrawWatchModel", "tKind", "[I", true)
  | 6 => ("StrawWatchModel", "tPlace", "[I", true)
  | 7 => ("StrawWatchModel", "tValue", "[I", true)
  | 8 => ("StrawWatchModel", "tName", "[J", true)
  | 9 => ("StrawWatchModel", "keys", "[J", true)
  | 10 => ("StrawWatchModel", "tokens", "I", false)
  | 11 => ("StrawWatchModel", "t", "I", false)
  | 12 => ("StrawWatchModel", "open", "I", false)
  | 13 => ("StrawWatchModel", "fault", "I", false)
  | 14 => ("StrawWatchModel", "faultPlace", "I", false)
  | 15 => ("StrawWatchModel", "worst", "I", false)
  | 16 => ("StrawWatchModel", "worstPlace", "I", false)
  | 17 => ("StrawWatchModel", "place", "I", false)
  | 18 => ("StrawWatchModel", "live", "I", false)
  | 19 => ("StrawWatchModel", "side", "I", false)
  | 20 => ("StrawWatchModel", "names", "I", false)
  | 21 => ("StrawWatchModel", "nameOf", "[J", true)
  | 22 => ("StrawWatchModel", "men", "[I", true)
  | 23 => ("StrawWatchModel", "skillOf", "[I", true)
  | 24 => ("StrawWatchModel", "sleeveTold", "[I", true)
  | 25 => ("StrawWatchModel", "hullTold", "[I", true)
  | 26 => ("StrawWatchModel", "foodTold", "[I", true)
  | 27 => ("StrawWatchModel", "moodTold", "[I", true)
  | 28 => ("StrawWatchModel", "goal", "[I", true)
  | 29 => ("StrawWatchModel", "strawsTold", "[I", true)
  | 30 => ("StrawWatchModel", "seed", "[I", true)
  | 31 => ("StrawWatchModel", "lawFirst", "[I", true)
  | 32 => ("StrawWatchModel", "lawLast", "[I", true)
  | 33 => ("StrawWatchModel", "branches", "I", false)
  | 34 => ("StrawWatchModel", "hasTest", "[Z", true)
  | 35 => ("StrawWatchModel", "testFrom", "[I", true)
  | 36 => ("StrawWatchModel", "testMid", "[I", true)
  | 37 => ("StrawWatchModel", "testTo", "[I", true)
  | 38 => ("StrawWatchModel", "termTo", "[I", true)
  | 39 => ("StrawWatchModel", "codes", "I", false)
  | 40 => ("StrawWatchModel", "code", "[I", true)
  | 41 => ("StrawWatchModel", "codeInt", "[I", true)
  | 42 => ("StrawWatchModel", "waits", "[I", true)
  | 43 => ("StrawWatchModel", "waiting", "I", false)
  | 44 => ("StrawWatchModel", "variables", "[I", true)
  | 45 => ("StrawWatchModel", "pile", "[I", true)
  | 46 => ("StrawWatchModel", "isBroken", "Z", false)
  | 47 => ("StrawWatchModel", "now", "[I", true)
  | 48 => ("StrawWatchModel", "row", "[I", true)
  | 49 => ("StrawWatchModel", "lots", "I", false)
  | 50 => ("StrawWatchModel", "steadily", "I", false)
  | 51 => ("StrawWatchModel", "blows", "I", false)
  | 52 => ("StrawWatchModel", "near", "I", false)
  | 53 => ("StrawWatchModel", "doing", "[I", true)
  | 54 => ("StrawWatchModel", "undos", "I", false)
  | 55 => ("StrawWatchModel", "history", "[I", true)
  | 56 => ("StrawWatchModel", "strikesBy", "[I", true)
  | 57 => ("StrawWatchModel", "isFilled", "[Z", true)
  | 58 => ("StrawWatchModel", "safeMany", "I", false)
  | 59 => ("StrawWatchModel", "safeWay", "I", false)
  | 60 => ("StrawWatchModel", "firstRuns", "[I", true)
  | 61 => ("StrawWatchModel", "firstStrikes", "[I", true)
  | 62 => ("StrawWatchModel", "firstEats", "[I", true)
  | 63 => ("StrawWatchModel", "bestDraw", "I", false)
  | 64 => ("StrawWatchModel", "bestSum", "I", false)
  | 65 => ("StrawWatchModel", "tolds", "I", false)
  | 66 => ("StrawWatchModel", "toldCaptain", "[I", true)
  | 67 => ("StrawWatchModel", "logs", "I", false)
  | 68 => ("StrawWatchModel", "logWatch", "[I", true)
  | 69 => ("StrawWatchModel", "logLeague", "[I", true)
  | 70 => ("StrawWatchModel", "leagueIn", "[I", true)
  | 71 => ("StrawWatchModel", "isHeld", "[Z", true)
  | _ => ("StrawWatchModel", "heldRows", "[I", true)
def mt_ty9 : Nat → FieldType := fun k => match k with
  | 0 => .int
  | 1 => (.array .byte)
  | 2 => .int
  | 3 => (.array .byte)
  | 4 => .int
  | 5 => (.array .int)
  | 6 => (.array .int)
  | 7 => (.array .int)
  | 8 => (.array .long)
  | 9 => (.array .long)
  | 10 => .int
  | 11 => .int
  | 12 => .int
  | 13 => .int
  | 14 => .int
  | 15 => .int
  | 16 => .int
  | 17 => .int
  | 18 => .int
  | 19 => .int
  | 20 => .int
  | 21 => (.array .long)
  | 22 => (.array .int)
  | 23 => (.array .int)
  | 24 => (.array .int)
  | 25 => (.array .int)
  | 26 => (.array .int)
  | 27 => (.array .int)
  | 28 => (.array .int)
  | 29 => (.array .int)
  | 30 => (.array .int)
  | 31 => (.array .int)
  | 32 => (.array .int)
  | 33 => .int
  | 34 => (.array .boolean)
  | 35 => (.array .int)
  | 36 => (.array .int)
  | 37 => (.array .int)
  | 38 => (.array .int)
  | 39 => .int
  | 40 => (.array .int)
  | 41 => (.array .int)
  | 42 => (.array .int)
  | 43 => .int
  | 44 => (.array .int)
  | 45 => (.array .int)
  | 46 => .boolean
  | 47 => (.array .int)
  | 48 => (.array .int)
  | 49 => .int
  | 50 => .int
  | 51 => .int
  | 52 => .int
  | 53 => (.array .int)
  | 54 => .int
  | 55 => (.array .int)
  | 56 => (.array .int)
  | 57 => (.array .boolean)
  | 58 => .int
  | 59 => .int
  | 60 => (.array .int)
  | 61 => (.array .int)
  | 62 => (.array .int)
  | 63 => .int
  | 64 => .int
  | 65 => .int
  | 66 => (.array .int)
  | 67 => .int
  | 68 => (.array .int)
  | 69 => (.array .int)
  | 70 => (.array .int)
  | 71 => (.array .boolean)
  | _ => (.array .int)
def mt_cl : List vw_C := [("StrawWatch$Draws", mt_T0, 7), ("StrawWatch$Laws", mt_T1, 5), ("StrawWatch$Notes", mt_T2, 5), ("StrawWatch$Past", mt_T3, 5), ("StrawWatch$Reader", mt_T4, 10), ("StrawWatch$Ship", mt_T5, 5), ("StrawWatch$Text", mt_T6, 11), ("StrawWatch$Tokens", mt_T7, 7), ("StrawWatch", mt_T8, 11), ("StrawWatchModel", mt_T9, 73)]
def mt_ty : Nat → Nat → FieldType := fun ci k => match ci with
  | 0 => mt_ty0 k
  | 1 => mt_ty1 k
  | 2 => mt_ty2 k
  | 3 => mt_ty3 k
  | 4 => mt_ty4 k
  | 5 => mt_ty5 k
  | 6 => mt_ty6 k
  | 7 => mt_ty7 k
  | 8 => mt_ty8 k
  | _ => mt_ty9 k
set_option maxRecDepth 100000 in
theorem mt_Cl0 : (∀ w ∈ u_ws "StrawWatch$Draws" mt_T0 7, w ∈ mt_W) ∧ (∀ k, k < 7 → parseFieldDescriptor (mt_T0 k).2.2.1 = some (mt_ty 0 k)) ∧ (∀ a, a < 7 → ∀ b, b < 7 → a ≠ b → (mt_T0 a).2.1 ≠ (mt_T0 b).2.1) ∧ Cond.instantiable "StrawWatch$Draws" 7 ∈ mt_W ∧ Cond.initialized "StrawWatch$Draws" ∈ mt_W ∧ ∃ l, mt_kds[0]? = some l ∧ l.length = 7 ∧ ∀ k, k < 7 → l[k]? = some (rf_kd (mt_ty 0 k)) ∧ rf_kd (mt_ty 0 k) ≠ 4 :=
  ⟨mt_lays (ix := [342, 344, 346, 348, 350, 352, 354]) (by decide +kernel), by decide +kernel, by decide +kernel, mt_w_in (w := 329) (by decide +kernel), mt_w_in (w := 108) (by decide +kernel), _, rfl, rfl, by decide +kernel⟩
set_option maxRecDepth 100000 in
theorem mt_Cl1 : (∀ w ∈ u_ws "StrawWatch$Laws" mt_T1 5, w ∈ mt_W) ∧ (∀ k, k < 5 → parseFieldDescriptor (mt_T1 k).2.2.1 = some (mt_ty 1 k)) ∧ (∀ a, a < 5 → ∀ b, b < 5 → a ≠ b → (mt_T1 a).2.1 ≠ (mt_T1 b).2.1) ∧ Cond.instantiable "StrawWatch$Laws" 5 ∈ mt_W ∧ Cond.initialized "StrawWatch$Laws" ∈ mt_W ∧ ∃ l, mt_kds[1]? = some l ∧ l.length = 5 ∧ ∀ k, k < 5 → l[k]? = some (rf_kd (mt_ty 1 k)) ∧ rf_kd (mt_ty 1 k) ≠ 4 :=
  ⟨mt_lays (ix := [148, 150, 152, 154, 156]) (by decide +kernel), by decide +kernel, by decide +kernel, mt_w_in (w := 135) (by decide +kernel), mt_w_in (w := 104) (by decide +kernel), _, rfl, rfl, by decide +kernel⟩
set_option maxRecDepth 100000 in
theorem mt_Cl2 : (∀ w ∈ u_ws "StrawWatch$Notes" mt_T2 5, w ∈ mt_W) ∧ (∀ k, k < 5 → parseFieldDescriptor (mt_T2 k).2.2.1 = some (mt_ty 2 k)) ∧ (∀ a, a < 5 → ∀ b, b < 5 → a ≠ b → (mt_T2 a).2.1 ≠ (mt_T2 b).2.1) ∧ Cond.instantiable "StrawWatch$Notes" 5 ∈ mt_W ∧ Cond.initialized "StrawWatch$Notes" ∈ mt_W ∧ ∃ l, mt_kds[2]? = some l ∧ l.length = 5 ∧ ∀ k, k < 5 → l[k]? = some (rf_kd (mt_ty 2 k)) ∧ rf_kd (mt_ty 2 k) ≠ 4 :=
  ⟨mt_lays (ix := [396, 398, 400, 402, 404]) (by decide +kernel), by decide +kernel, by decide +kernel, mt_w_in (w := 384) (by decide +kernel), mt_w_in (w := 110) (by decide +kernel), _, rfl, rfl, by decide +kernel⟩
set_option maxRecDepth 100000 in
theorem mt_Cl3 : (∀ w ∈ u_ws "StrawWatch$Past" mt_T3 5, w ∈ mt_W) ∧ (∀ k, k < 5 → parseFieldDescriptor (mt_T3 k).2.2.1 = some (mt_ty 3 k)) ∧ (∀ a, a < 5 → ∀ b, b < 5 → a ≠ b → (mt_T3 a).2.1 ≠ (mt_T3 b).2.1) ∧ Cond.instantiable "StrawWatch$Past" 5 ∈ mt_W ∧ Cond.initialized "StrawWatch$Past" ∈ mt_W ∧ ∃ l, mt_kds[3]? = some l ∧ l.length = 5 ∧ ∀ k, k < 5 → l[k]? = some (rf_kd (mt_ty 3 k)) ∧ rf_kd (mt_ty 3 k) ≠ 4 :=
  ⟨mt_lays (ix := [371, 373, 375, 377, 379]) (by decide +kernel), by decide +kernel, by decide +kernel, mt_w_in (w := 358) (by decide +kernel), mt_w_in (w := 109) (by decide +kernel), _, rfl, rfl, by decide +kernel⟩
set_option maxRecDepth 100000 in
theorem mt_Cl4 : (∀ w ∈ u_ws "StrawWatch$Reader" mt_T4 10, w ∈ mt_W) ∧ (∀ k, k < 10 → parseFieldDescriptor (mt_T4 k).2.2.1 = some (mt_ty 4 k)) ∧ (∀ a, a < 10 → ∀ b, b < 10 → a ≠ b → (mt_T4 a).2.1 ≠ (mt_T4 b).2.1) ∧ Cond.instantiable "StrawWatch$Reader" 10 ∈ mt_W ∧ Cond.initialized "StrawWatch$Reader" ∈ mt_W ∧ ∃ l, mt_kds[4]? = some l ∧ l.length = 10 ∧ ∀ k, k < 10 → l[k]? = some (rf_kd (mt_ty 4 k)) ∧ rf_kd (mt_ty 4 k) ≠ 4 :=
  ⟨mt_lays (ix := [284, 286, 288, 290, 292, 294, 296, 298, 300, 302]) (by decide +kernel), by decide +kernel, by decide +kernel, mt_w_in (w := 237) (by decide +kernel), mt_w_in (w := 105) (by decide +kernel), _, rfl, rfl, by decide +kernel⟩
set_option maxRecDepth 100000 in
theorem mt_Cl5 : (∀ w ∈ u_ws "StrawWatch$Ship" mt_T5 5, w ∈ mt_W) ∧ (∀ k, k < 5 → parseFieldDescriptor (mt_T5 k).2.2.1 = some (mt_ty 5 k)) ∧ (∀ a, a < 5 → ∀ b, b < 5 → a ≠ b → (mt_T5 a).2.1 ≠ (mt_T5 b).2.1) ∧ Cond.instantiable "StrawWatch$Ship" 5 ∈ mt_W ∧ Cond.initialized "StrawWatch$Ship" ∈ mt_W ∧ ∃ l, mt_kds[5]? = some l ∧ l.length = 5 ∧ ∀ k, k < 5 → l[k]? = some (rf_kd (mt_ty 5 k)) ∧ rf_kd (mt_ty 5 k) ≠ 4 :=
  ⟨mt_lays (ix := [317, 319, 321, 323, 325]) (by decide +kernel), by decide +kernel, by decide +kernel, mt_w_in (w := 306) (by decide +kernel), mt_w_in (w := 107) (by decide +kernel), _, rfl, rfl, by decide +kernel⟩
set_option maxRecDepth 100000 in
theorem mt_Cl6 : (∀ w ∈ u_ws "StrawWatch$Text" mt_T6 11, w ∈ mt_W) ∧ (∀ k, k < 11 → parseFieldDescriptor (mt_T6 k).2.2.1 = some (mt_ty 6 k)) ∧ (∀ a, a < 11 → ∀ b, b < 11 → a ≠ b → (mt_T6 a).2.1 ≠ (mt_T6 b).2.1) ∧ Cond.instantiable "StrawWatch$Text" 11 ∈ mt_W ∧ Cond.initialized "StrawWatch$Text" ∈ mt_W ∧ ∃ l, mt_kds[6]? = some l ∧ l.length = 11 ∧ ∀ k, k < 11 → l[k]? = some (rf_kd (mt_ty 6 k)) ∧ rf_kd (mt_ty 6 k) ≠ 4 :=
  ⟨mt_lays (ix := [212, 214, 216, 218, 220, 222, 224, 226, 228, 230, 232]) (by decide +kernel), by decide +kernel, by decide +kernel, mt_w_in (w := 129) (by decide +kernel), mt_w_in (w := 103) (by decide +kernel), _, rfl, rfl, by decide +kernel⟩
set_option maxRecDepth 100000 in
theorem mt_Cl7 : (∀ w ∈ u_ws "StrawWatch$Tokens" mt_T7 7, w ∈ mt_W) ∧ (∀ k, k < 7 → parseFieldDescriptor (mt_T7 k).2.2.1 = some (mt_ty 7 k)) ∧ (∀ a, a < 7 → ∀ b, b < 7 → a ≠ b → (mt_T7 a).2.1 ≠ (mt_T7 b).2.1) ∧ Cond.instantiable "StrawWatch$Tokens" 7 ∈ mt_W ∧ Cond.initialized "StrawWatch$Tokens" ∈ mt_W ∧ ∃ l, mt_kds[7]? = some l ∧ l.length = 7 ∧ ∀ k, k < 7 → l[k]? = some (rf_kd (mt_ty 7 k)) ∧ rf_kd (mt_ty 7 k) ≠ 4 :=
  ⟨mt_lays (ix := [259, 261, 263, 265, 267, 269, 271]) (by decide +kernel), by decide +kernel, by decide +kernel, mt_w_in (w := 243) (by decide +kernel), mt_w_in (w := 106) (by decide +kernel), _, rfl, rfl, by decide +kernel⟩
set_option maxRecDepth 100000 in
theorem mt_Cl8 : (∀ w ∈ u_ws "StrawWatch" mt_T8 11, w ∈ mt_W) ∧ (∀ k, k < 11 → parseFieldDescriptor (mt_T8 k).2.2.1 = some (mt_ty 8 k)) ∧ (∀ a, a < 11 → ∀ b, b < 11 → a ≠ b → (mt_T8 a).2.1 ≠ (mt_T8 b).2.1) ∧ Cond.instantiable "StrawWatch" 11 ∈ mt_W ∧ Cond.initialized "StrawWatch" ∈ mt_W ∧ ∃ l, mt_kds[8]? = some l ∧ l.length = 11 ∧ ∀ k, k < 11 → l[k]? = some (rf_kd (mt_ty 8 k)) ∧ rf_kd (mt_ty 8 k) ≠ 4 :=
  ⟨mt_lays (ix := [443, 445, 447, 449, 451, 453, 455, 457, 459, 461, 463]) (by decide +kernel), by decide +kernel, by decide +kernel, mt_w_in (w := 121) (by decide +kernel), mt_w_in (w := 102) (by decide +kernel), _, rfl, rfl, by decide +kernel⟩
set_option maxRecDepth 100000 in
theorem mt_Cl9 : (∀ w ∈ u_ws "StrawWatchModel" mt_T9 73, w ∈ mt_W) ∧ (∀ k, k < 73 → parseFieldDescriptor (mt_T9 k).2.2.1 = some (mt_ty 9 k)) ∧ (∀ a, a < 73 → ∀ b, b < 73 → a ≠ b → (mt_T9 a).2.1 ≠ (mt_T9 b).2.1) ∧ Cond.instantiable "StrawWatchModel" 73 ∈ mt_W ∧ Cond.initialized "StrawWatchModel" ∈ mt_W ∧ ∃ l, mt_kds[9]? = some l ∧ l.length = 73 ∧ ∀ k, k < 73 → l[k]? = some (rf_kd (mt_ty 9 k)) ∧ rf_kd (mt_ty 9 k) ≠ 4 :=
  ⟨mt_lays (ix := [1290, 1292, 1294, 1296, 1298, 1300, 1302, 1304, 1306, 1308, 1310, 1312, 1314, 1316, 1318, 1320, 1322, 1324, 1326, 1328, 1330, 1332, 1334, 1336, 1338, 1340, 1342, 1344, 1346, 1348, 1350, 1352, 1354, 1356, 1358, 1360, 1362, 1364, 1366, 1368, 1370, 1372, 1374, 1376, 1378, 1380, 1382, 1384, 1386, 1388, 1390, 1392, 1394, 1396, 1398, 1400, 1402, 1404, 1406, 1408, 1410, 1412, 1414, 1416, 1418, 1420, 1422, 1424, 1426, 1428, 1430, 1432, 1434]) (by decide +kernel), by decide +kernel, by decide +kernel, mt_w_in (w := 1186) (by decide +kernel), mt_w_in (w := 113) (by decide +kernel), _, rfl, rfl, by decide +kernel⟩
theorem mt_Cl : rf_Cl mt_cl mt_ty mt_kds mt_W := by
  intro ci C TT N h
  rcases ci with _ | _ | _ | _ | _ | _ | _ | _ | _ | _ | _
  · cases h; exact mt_Cl0
  · cases h; exact mt_Cl1
  · cases h; exact mt_Cl2
  · cases h; exact mt_Cl3
  · cases h; exact mt_Cl4
  · cases h; exact mt_Cl5
  · cases h; exact mt_Cl6
  · cases h; exact mt_Cl7
  · cases h; exact mt_Cl8
  · cases h; exact mt_Cl9
  · cases h
theorem mt_G : rf_G mt_W := ⟨mt_w_in (w := 160) (by decide +kernel), mt_w_in (w := 126) (by decide +kernel), mt_w_in (w := 127) (by decide +kernel), mt_w_in (w := 740) (by decide +kernel), mt_w_in (w := 739) (by decide +kernel), mt_w_in (w := 119) (by decide +kernel)⟩
def mt_SN : List (String × String × String) := [("StrawWatch$Laws", "SEEN", "[I"), ("StrawWatch$Laws", "LEAST", "[I"), ("StrawWatch$Laws", "MOST", "[I")]
end
section
/-! THE START: what holds at the law's entry -/
def st_S : List Int32 := [3, 3, 391, 463, 479, 39, 103]
def st_L : List Int32 := [0, 0, 0, (-9), 0, 0, (-9)]
def st_M : List Int32 := [9, 9, 3, 19, 9, 99, 9]
def mt_SB (n : Nat) : List (Nat × Nat) := [(7, 6097165429774940305248424958294139625914495676811219176612277912171540342963315256372480060201886664685814387526205473995522670448095644354304), (7, 6097165111782998425920410342589808088569888681921534843734483183553263678596435620770601808701065237111195651801287362045692709245719505012480), (7, 6097165162888846227955269835291481742180327972904332290162589785040917832959149219722950794035817831340398281064071331295802650357440790398720), (n, 41319465425935820148805380965904777034545824932183618262763822012877544413600022887606670617317575390258333278707545802240)]

theorem st_arr {s : State} {args : Array Value} {ty : FieldType} (h : (Cond.arrayClass ty).before args s = true) : ∃ c : ClassId, ArrOfT s c ty ∧ s.vm.findClass ("[" ++ ty.toString) = some c := by
  obtain ⟨c, k, comp, h1, h2, h3⟩ := Cond.arrayClass_spec h
  exact ⟨c, fun N z => ⟨(fun k h => by cases h), k, h2, comp, h3⟩, h1⟩
theorem st_in {w : Nat} {X : Cond} (h : rf_w lw_tbl w X = true) : X ∈ lw_tbl := (List.mem_filter.mp (mt_w_in h)).1
def st_fw (n : String) (xs : List Int32) : List Cond := Cond.arrayOf (.static "StrawWatch$Laws" n "[I") .int :: Cond.eq (.length (.static "StrawWatch$Laws" n "[I")) (.int (Int32.ofNat xs.length)) :: (List.range xs.length).map (fun j => Cond.eq (.elem (.static "StrawWatch$Laws" n "[I") (.int (Int32.ofNat j))) (.int (xs.getD j 0)))
theorem st_stat {args : Array Value} {s : State} {n : String} {xs : List Int32} {A : Nat → Prop} (hx : xs.length < 2 ^ 31) (hf : ∀ w ∈ st_fw n xs, w.before args s = true) (hl : (Cond.laysStatic "StrawWatch$Laws" n "[I").before args s = true) (hini : (Cond.initialized "StrawWatch$Laws").before args s = true) (hA : ∀ a : Nat, a < s.heap.size → ¬ A a) :
    ∃ t : Nat, va_T .int t xs.length (fun j => .int (xs.getD j 0)) A s s.heap ∧ va_Z "StrawWatch$Laws" n "[I" (.ref t) A s s.heap := by
  obtain ⟨t, ht, hT⟩ := va_Tof (f := fun j => .int (xs.getD j 0)) (A := A) hx (hf _ List.mem_cons_self) (va_eqt (hf _ (List.mem_cons_of_mem _ List.mem_cons_self))) (fun j hj => va_eqt (hf _ (List.mem_cons_of_mem _ (List.mem_cons_of_mem _ (List.mem_map.mpr ⟨j, List.mem_range.mpr hj, rfl⟩))))) hA
  exact ⟨t, hT, va_Zref hl hini ht hA⟩
theorem st_ne {A : Nat → Prop} {s : State} {H : Heap} {t t' N N' : Nat} {f f' : Nat → Value} (h : va_T .int t N f A s H) (h' : va_T .int t' N' f' A s H) {j : Nat} (hj : j < N) (hj' : j < N') (hn : f j ≠ f' j) : t ≠ t' := by
  intro e
  subst e
  obtain ⟨c, h1, -, -, -, -, h2, -⟩ := h
  obtain ⟨c', h1', -, -, -, -, h2', -⟩ := h'
  cases h1.symm.trans h1'
  exact hn (Option.some.inj ((h2 j hj).symm.trans (h2' j hj')))
theorem st_neL {A : Nat → Prop} {s : State} {H : Heap} {t t' N N' : Nat} {f f' : Nat → Value} (h : va_T .int t N f A s H) (h' : va_T .int t' N' f' A s H) (hn : Int32.ofNat N ≠ Int32.ofNat N') : t ≠ t' := by
  intro e
  subst e
  obtain ⟨c, h1, -, -, -, h2, -⟩ := h
  obtain ⟨c', h1', -, -, -, h2', -⟩ := h'
  cases h1.symm.trans h1'
  exact hn (h2.symm.trans h2')
def st_FIN (c : mm_C) : Prop := ∃ h, c = ([], h, some (.int 1))
def st_E (B tS tL tM b n : Nat) (xs : Nat → Int32) : mm_E := (B, [(tS, 7, fun j => st_S.getD j 0), (tL, 7, fun j => st_L.getD j 0), (tM, 7, fun j => st_M.getD j 0), (b, n, xs)])
/-- the law comes to its end in the mini machine -/
def st_Goal : Prop := ∀ (B tS tL tM b n : Nat) (xs : Nat → Int32), n ≤ 6 → tS < B → tL < B → tM < B → b < B → tS ≠ tL → tS ≠ tM → tS ≠ b → tL ≠ tM → tL ≠ b → tM ≠ b → en_Good (st_E B tS tL tM b n xs) mt_kds mt_P 1000 st_FIN ([(279, 0, lv_args 0 [.ref b], [], 600000, 7302250)], [], none)
theorem st_K {s : State} {args : Array Value} (hts : ∀ w ∈ lw_tbl, w.before args s = true) : ∃ (D : va_G) (cA : Nat → ClassId), va_K D mt_cl (rf_tys cA) s := by
  have hW : ∀ w ∈ mt_W, w.before args s = true := fun w hw => hts w (List.mem_filter.mp hw).1
  have hk : ∀ c : Nat, ∃ r : ClassId × (Nat → Nat), ∀ q : vw_C, mt_cl[c]? = some q → u_Kn s q.1 q.2.1 q.2.2 r.1 r.2 := by
    intro c
    cases hc : mt_cl[c]? with
    | none => exact ⟨(0, fun _ => 0), fun q h => by cases h⟩
    | some q =>
      obtain ⟨C, TT, N⟩ := q
      obtain ⟨h1, -, -, h4, -, -⟩ := mt_Cl c C TT N hc
      obtain ⟨cC, iS, h⟩ := u_known hW h1 (hW _ h4)
      exact ⟨(cC, iS), fun q hq => by cases hq; exact h⟩
  obtain ⟨D, hD⟩ := Classical.axiomOfChoice hk
  obtain ⟨c0, a0, b0⟩ := st_arr (hts _ (st_in (w := 160) (X := .arrayClass .int) (by decide +kernel)))
  obtain ⟨c1, a1, b1⟩ := st_arr (hts _ (st_in (w := 159) (X := .arrayClass .byte) (by decide +kernel)))
  obtain ⟨c2, a2, b2⟩ := st_arr (hts _ (st_in (w := 382) (X := .arrayClass .boolean) (by decide +kernel)))
  obtain ⟨c3, a3, b3⟩ := st_arr (hts _ (st_in (w := 235) (X := .arrayClass .long) (by decide +kernel)))
  obtain ⟨comp, c4, k4, p1, p2, p3, p4, p5⟩ := arrayOver_specB (hts _ (List.mem_of_getElem? (i := 364) (a := Cond.arrayOver (.array .int)) (by decide +kernel)))
  refine ⟨(fun c => (D c).1, fun c => (D c).2), fun k => match k with | 0 => c0 | 1 => c1 | 2 => c2 | 3 => c3 | _ => c4, fun c q hq => hD c q hq, ?_⟩
  intro k q hk
  rcases k with _ | _ | _ | _ | _ | k
  · cases hk; exact ⟨a0, b0⟩
  · cases hk; exact ⟨a1, b1⟩
  · cases hk; exact ⟨a2, b2⟩
  · cases hk; exact ⟨a3, b3⟩
  · cases hk; exact ⟨fun N z => ⟨(fun k h => by cases h), k4, p3, comp, p4⟩, p5⟩
  · cases hk
theorem st_flat : (∀ w ∈ st_fw "SEEN" st_S, w ∈ flatC (Jvm.Cond.and given_1 narrow_1)) ∧ (∀ w ∈ st_fw "LEAST" st_L, w ∈ flatC (Jvm.Cond.and given_1 narrow_1)) ∧ ∀ w ∈ st_fw "MOST" st_M, w ∈ flatC (Jvm.Cond.and given_1 narrow_1) := ⟨by decide +kernel, by decide +kernel, by decide +kernel⟩
def st_row : Nat := 41319465425935820148805380965904777034545824932183618262763822012877544413600022887606670617317575390258333278707545802240
theorem st_SA {B tS tL tM b n : Nat} {xs : Nat → Int32} {ω : Nat → Value} {ρ : Nat → Int32} (hn : n ≤ 6) (hρ : ∀ j, j < 6 → ρ j = xs j) (h1 : tS < B) (h2 : tL < B) (h3 : tM < B) (h4 : b < B) (n1 : tS ≠ tL) (n2 : tS ≠ tM) (n3 : tS ≠ b) (n4 : tL ≠ tM) (n5 : tL ≠ b) (n6 : tM ≠ b) : en_SA (st_E B tS tL tM b n xs) ρ ω (mt_SB n) := by
  intro s m row hs
  have ld : ∀ (N : Nat) (x : Int32) (j : Nat), en_elt N j < 4294967296 → en_d (en_elt N j) = x → en_v (st_E B tS tL tM b n xs) ρ ω (en_elt N j) (.int x) := fun N x j h e => by rw [en_v_const h, e]
  rcases s with _ | _ | _ | _ | s
  · cases hs
    refine ⟨_, (tS, 7, fun j => st_S.getD j 0), rfl, h1, ?_, rfl, ?_⟩
    · simp only [mm_stat, st_E, if_neg (Nat.not_le.mpr h1), List.find?_cons, beq_self_eq_true]
    · intro j hj
      apply ld
      · revert j; decide +kernel
      · simp only []; revert j; decide +kernel
  · cases hs
    refine ⟨_, (tL, 7, fun j => st_L.getD j 0), rfl, h2, ?_, rfl, ?_⟩
    · simp only [mm_stat, st_E, if_neg (Nat.not_le.mpr h2), List.find?_cons, beq_self_eq_true, beq_eq_false_iff_ne.mpr n1]
    · intro j hj
      apply ld
      · revert j; decide +kernel
      · simp only []; revert j; decide +kernel
  · cases hs
    refine ⟨_, (tM, 7, fun j => st_M.getD j 0), rfl, h3, ?_, rfl, ?_⟩
    · simp only [mm_stat, st_E, if_neg (Nat.not_le.mpr h3), List.find?_cons, beq_self_eq_true, beq_eq_false_iff_ne.mpr n2, beq_eq_false_iff_ne.mpr n4]
    · intro j hj
      apply ld
      · revert j; decide +kernel
      · simp only []; revert j; decide +kernel
  · cases hs
    refine ⟨_, (b, n, xs), rfl, h4, ?_, rfl, ?_⟩
    · simp only [mm_stat, st_E, if_neg (Nat.not_le.mpr h4), List.find?_cons, beq_self_eq_true, beq_eq_false_iff_ne.mpr n3, beq_eq_false_iff_ne.mpr n5, beq_eq_false_iff_ne.mpr n6]
    · intro j hj
      have hj6 : j < 6 := Nat.lt_of_lt_of_le hj hn
      have hr := hρ j hj6
      have k1 : ∀ j, j < 6 → 4294967296 ≤ en_elt st_row j ∧ en_elt st_row j < 8589934592 ∧ (en_elt st_row j - 4294967296) / 65536 = j ∧ en_off (en_elt st_row j) = 0 := by decide +kernel
      obtain ⟨a1, a2, a3, a4⟩ := k1 j hj6
      show en_v _ ρ ω (en_elt st_row j) _
      rw [en_v_name a1 a2, a3, a4, hr, Int32.add_zero]
  · cases hs
end
section
/-! THE TABLES AGAINST THE WORDS, 2: methods -/
def mt_DS : List rf_Y := [(⟨"", "", ""⟩, ⟨#[]⟩, none), (⟨"", "", ""⟩, ⟨#[]⟩, none), (⟨"StrawWatchModel", "appends", "(JI)J"⟩, prog_11_method_9_code, (some .long)), (⟨"StrawWatchModel", "asks", "(IIII)I"⟩, prog_11_method_42_code, (some .int)), (⟨"StrawWatchModel", "at", "(II)I"⟩, prog_11_method_68_code, (some .int)), (⟨"StrawWatchModel", "back", "(I)I"⟩, prog_11_method_5_code, (some .int)), (⟨"StrawWatchModel", "began", "(II)I"⟩, prog_11_method_109_code, (some .int)), (⟨"StrawWatchModel", "begins", "()V"⟩, prog_11_method_36_code, none), (⟨"StrawWatchModel", "beginsAt", "(I)V"⟩, prog_11_method_34_code, none), (⟨"StrawWatchModel", "better", "(Z)I"⟩, prog_11_method_91_code, (some .int)), (⟨"StrawWatchModel", "bounded", "(II)I"⟩, prog_11_method_23_code, (some .int)), (⟨"StrawWatchModel", "broom", "()I"⟩, prog_11_method_100_code, (some .int)), (⟨"StrawWatchModel", "byteAt", "(I)I"⟩, prog_11_method_6_code, (some .int)), (⟨"StrawWatchModel", "captainIn", "(III)I"⟩, prog_11_method_98_code, (some .int)), (⟨"StrawWatchModel", "cheats", "(IIZ)I"⟩, prog_11_method_105_code, (some .int)), (⟨"StrawWatchModel", "comesOut", "(Z)V"⟩, prog_11_method_28_code, none), (⟨"StrawWatchModel", "common", "(II)I"⟩, prog_11_method_71_code, (some .int)), (⟨"StrawWatchModel", "copies", "()V"⟩, prog_11_method_38_code, none), (⟨"StrawWatchModel", "count", "(I)I"⟩, prog_11_method_113_code, (some .int)), (⟨"StrawWatchModel", "cut", "()V"⟩, prog_11_method_12_code, none), (⟨"StrawWatchModel", "dangerNow", "()I"⟩, prog_11_method_45_code, (some .int)), (⟨"StrawWatchModel", "draws", "()V"⟩, prog_11_method_51_code, none), (⟨"StrawWatchModel", "drawsAll", "()I"⟩, prog_11_method_70_code, (some .int)), (⟨"StrawWatchModel", "emit", "(II)V"⟩, prog_11_method_27_code, none), (⟨"StrawWatchModel", "ends", "(I)I"⟩, prog_11_method_96_code, (some .int)), (⟨"StrawWatchModel", "endsBy", "(I)I"⟩, prog_11_method_95_code, (some .int)), (⟨"StrawWatchModel", "expression", "()V"⟩, prog_11_method_29_code, none), (⟨"StrawWatchModel", "fail", "(I)V"⟩, prog_11_method_15_code, none), (⟨"StrawWatchModel", "feed", "(IIIII)I"⟩, prog_11_method_3_code, (some .int)), (⟨"StrawWatchModel", "fillsBehind", "(I)V"⟩, prog_11_method_80_code, none), (⟨"StrawWatchModel", "fillsDoing", "(IIIII)V"⟩, prog_11_method_49_code, none), (⟨"StrawWatchModel", "fillsDraw", "(II)V"⟩, prog_11_method_75_code, none), (⟨"StrawWatchModel", "fillsFirst", "(I)V"⟩, prog_11_method_82_code, none), (⟨"StrawWatchModel", "fillsRoster", "()V"⟩, prog_11_method_88_code, none), (⟨"StrawWatchModel", "fillsSafest", "(I)V"⟩, prog_11_method_84_code, none), (⟨"StrawWatchModel", "forget", "()I"⟩, prog_11_method_110_code, (some .int)), (⟨"StrawWatchModel", "goes", "(I)V"⟩, prog_11_method_54_code, none), (⟨"StrawWatchModel", "goesOn", "()V"⟩, prog_11_method_17_code, none), (⟨"StrawWatchModel", "handy", "(I)I"⟩, prog_11_method_90_code, (some .int)), (⟨"StrawWatchModel", "held", "(II)I"⟩, prog_11_method_50_code, (some .int)), (⟨"StrawWatchModel", "hide", "(IZ)Z"⟩, prog_11_method_61_code, (some .boolean)), (⟨"StrawWatchModel", "hold", "(I)Z"⟩, prog_11_method_111_code, (some .boolean)), (⟨"StrawWatchModel", "howOver", "()I"⟩, prog_11_method_35_code, (some .int)), (⟨"StrawWatchModel", "in", "(III)Z"⟩, prog_11_method_32_code, (some .boolean)), (⟨"StrawWatchModel", "<init>", "()V"⟩, prog_11_method_2_code, none), (⟨"StrawWatchModel", "is", "(I)Z"⟩, prog_11_method_14_code, (some .boolean)), (⟨"StrawWatchModel", "isAsked", "(II)Z"⟩, prog_11_method_76_code, (some .boolean)), (⟨"StrawWatchModel", "isCrew", "(I)Z"⟩, prog_11_method_62_code, (some .boolean)), (⟨"StrawWatchModel", "isDigit", "(I)Z"⟩, prog_11_method_7_code, (some .boolean)), (⟨"StrawWatchModel", "isDraw", "(I)Z"⟩, prog_11_method_69_code, (some .boolean)), (⟨"StrawWatchModel", "isLetter", "(I)Z"⟩, prog_11_method_8_code, (some .boolean)), (⟨"StrawWatchModel", "isLong", "(I)Z"⟩, prog_11_method_92_code, (some .boolean)), (⟨"StrawWatchModel", "isMan", "(I)Z"⟩, prog_11_method_33_code, (some .boolean)), (⟨"StrawWatchModel", "isSame", "(II)Z"⟩, prog_11_method_63_code, (some .boolean)), (⟨"StrawWatchModel", "isSo", "(II)Z"⟩, prog_11_method_108_code, (some .boolean)), (⟨"StrawWatchModel", "keeps", "()V"⟩, prog_11_method_60_code, none), (⟨"StrawWatchModel", "keepsRow", "()V"⟩, prog_11_method_37_code, none), (⟨"StrawWatchModel", "lawTells", "(I)I"⟩, prog_11_method_43_code, (some .int)), (⟨"StrawWatchModel", "likely", "(IIZ)I"⟩, prog_11_method_73_code, (some .int)), (⟨"StrawWatchModel", "lineOf", "(IIZ)I"⟩, prog_11_method_72_code, (some .int)), (⟨"StrawWatchModel", "log", "(II)I"⟩, prog_11_method_107_code, (some .int)), (⟨"StrawWatchModel", "looks", "()V"⟩, prog_11_method_41_code, none), (⟨"StrawWatchModel", "lotOf", "(II)I"⟩, prog_11_method_40_code, (some .int)), (⟨"StrawWatchModel", "man", "(II)I"⟩, prog_11_method_56_code, (some .int)), (⟨"StrawWatchModel", "mean", "(IIZ)I"⟩, prog_11_method_77_code, (some .int)), (⟨"StrawWatchModel", "mixed", "(II)I"⟩, prog_11_method_39_code, (some .int)), (⟨"StrawWatchModel", "most", "(IIZ)I"⟩, prog_11_method_78_code, (some .int)), (⟨"StrawWatchModel", "must", "(I)V"⟩, prog_11_method_18_code, none), (⟨"StrawWatchModel", "often", "(III)I"⟩, prog_11_method_94_code, (some .int)), (⟨"StrawWatchModel", "orders", "(I)I"⟩, prog_11_method_74_code, (some .int)), (⟨"StrawWatchModel", "ordersOf", "(I)I"⟩, prog_11_method_48_code, (some .int)), (⟨"StrawWatchModel", "place", "()I"⟩, prog_11_method_21_code, (some .int)), (⟨"StrawWatchModel", "plain", "(I)V"⟩, prog_11_method_19_code, none), (⟨"StrawWatchModel", "post", "(I)I"⟩, prog_11_method_57_code, (some .int)), (⟨"StrawWatchModel", "postOf", "(I)I"⟩, prog_11_method_55_code, (some .int)), (⟨"StrawWatchModel", "powerOf", "(II)I"⟩, prog_11_method_104_code, (some .int)), (⟨"StrawWatchModel", "put", "(I)V"⟩, prog_11_method_4_code, none), (⟨"StrawWatchModel", "read", "()I"⟩, prog_11_method_20_code, (some .int)), (⟨"StrawWatchModel", "restore", "(I)Z"⟩, prog_11_method_112_code, (some .boolean)), (⟨"StrawWatchModel", "risk", "(IIZ)I"⟩, prog_11_method_79_code, (some .int)), (⟨"StrawWatchModel", "roster", "(I)I"⟩, prog_11_method_89_code, (some .int)), (⟨"StrawWatchModel", "safe", "(IZ)I"⟩, prog_11_method_86_code, (some .int)), (⟨"StrawWatchModel", "safeBehind", "(III)I"⟩, prog_11_method_81_code, (some .int)), (⟨"StrawWatchModel", "safeOf", "(III)I"⟩, prog_11_method_83_code, (some .int)), (⟨"StrawWatchModel", "safest", "(II)I"⟩, prog_11_method_85_code, (some .int)), (⟨"StrawWatchModel", "sails", "()I"⟩, prog_11_method_52_code, (some .int)), (⟨"StrawWatchModel", "sevens", "(I)I"⟩, prog_11_method_67_code, (some .int)), (⟨"StrawWatchModel", "ship", "(I)I"⟩, prog_11_method_59_code, (some .int)), (⟨"StrawWatchModel", "shipIs", "(I)I"⟩, prog_11_method_58_code, (some .int)), (⟨"StrawWatchModel", "sign", "(III)I"⟩, prog_11_method_13_code, (some .int)), (⟨"StrawWatchModel", "skillAt", "(II)I"⟩, prog_11_method_46_code, (some .int)), (⟨"StrawWatchModel", "skillBy", "(I)I"⟩, prog_11_method_87_code, (some .int)), (⟨"StrawWatchModel", "spared", "(II)I"⟩, prog_11_method_99_code, (some .int)), (⟨"StrawWatchModel", "stand", "(IIII)I"⟩, prog_11_method_64_code, (some .int)), (⟨"StrawWatchModel", "steady", "(II)I"⟩, prog_11_method_97_code, (some .int)), (⟨"StrawWatchModel", "surely", "(I)I"⟩, prog_11_method_106_code, (some .int)), (⟨"StrawWatchModel", "tell", "(I)I"⟩, prog_11_method_103_code, (some .int)), (⟨"StrawWatchModel", "tellLaw", "(I)V"⟩, prog_11_method_25_code, none), (⟨"StrawWatchModel", "tellMan", "()V"⟩, prog_11_method_24_code, none), (⟨"StrawWatchModel", "tellOne", "()V"⟩, prog_11_method_22_code, none), (⟨"StrawWatchModel", "term", "()V"⟩, prog_11_method_26_code, none), (⟨"StrawWatchModel", "termOf", "(II)I"⟩, prog_11_method_31_code, (some .int)), (⟨"StrawWatchModel", "then", "(II)I"⟩, prog_11_method_93_code, (some .int)), (⟨"StrawWatchModel", "token", "(IIIJ)V"⟩, prog_11_method_11_code, none), (⟨"StrawWatchModel", "undo", "()Z"⟩, prog_11_method_66_code, (some .boolean)), (⟨"StrawWatchModel", "unit", "()V"⟩, prog_11_method_30_code, none), (⟨"StrawWatchModel", "watchGoes", "()Z"⟩, prog_11_method_53_code, (some .boolean)), (⟨"StrawWatchModel", "watches", "(I)I"⟩, prog_11_method_65_code, (some .int)), (⟨"StrawWatchModel", "weathers", "()V"⟩, prog_11_method_47_code, none), (⟨"StrawWatchModel", "weds", "(II)I"⟩, prog_11_method_102_code, (some .int)), (⟨"StrawWatchModel", "windNow", "()I"⟩, prog_11_method_44_code, (some .int)), (⟨"StrawWatchModel", "word", "(IIIIIII)J"⟩, prog_11_method_10_code, (some .long)), (⟨"StrawWatchModel", "wrong", "(II)V"⟩, prog_11_method_16_code, none), (⟨"StrawWatchModel", "year", "(II)I"⟩, prog_11_method_101_code, (some .int)), (⟨"StrawWatch$Draws", "addWays", "(III)V"⟩, prog_2_method_18_code, none), (⟨"StrawWatch$Draws", "bestRoster", "()I"⟩, prog_2_method_6_code, (some .int)), (⟨"StrawWatch$Draws", "deal", "()V"⟩, prog_2_method_2_code, none), (⟨"StrawWatch$Draws", "dealOne", "(I)V"⟩, prog_2_method_3_code, none), (⟨"StrawWatch$Draws", "extremeOf", "(IIZ)I"⟩, prog_2_method_9_code, (some .int)), (⟨"StrawWatch$Draws", "fewerThan", "(I)I"⟩, prog_2_method_11_code, (some .int)), (⟨"StrawWatch$Draws", "<init>", "(LStrawWatch$Text;)V"⟩, prog_2_method_1_code, none), (⟨"StrawWatch$Draws", "isReached", "(I)Z"⟩, prog_2_method_17_code, (some .boolean)), (⟨"StrawWatch$Draws", "noteDraw", "(II)V"⟩, prog_2_method_7_code, none), (⟨"StrawWatch$Draws", "safestOf", "(I[I)I"⟩, prog_2_method_13_code, (some .int)), (⟨"StrawWatch$Draws", "skillsOf", "(I)I"⟩, prog_2_method_5_code, (some .int)), (⟨"StrawWatch$Draws", "sumOf", "(II)I"⟩, prog_2_method_8_code, (some .int)), (⟨"StrawWatch$Draws", "tallyStrikes", "(I)V"⟩, prog_2_method_10_code, none), (⟨"StrawWatch$Draws", "waysOf", "(I)I"⟩, prog_2_method_12_code, (some .int)), (⟨"StrawWatch$Draws", "weighFirst", "(I[I)V"⟩, prog_2_method_15_code, none), (⟨"StrawWatch$Draws", "weighOne", "([I)V"⟩, prog_2_method_14_code, none), (⟨"StrawWatch$Draws", "weighSecond", "([I)V"⟩, prog_2_method_16_code, none), (⟨"StrawWatch$Draws", "whoAt", "(II)I"⟩, prog_2_method_4_code, (some .int)), (⟨"StrawWatch$Laws", "aimHere", "(I)V"⟩, prog_3_method_9_code, none), (⟨"StrawWatch$Laws", "become", "(LStrawWatch$Laws;)V"⟩, prog_3_method_4_code, none), (⟨"StrawWatch$Laws", "clear", "()V"⟩, prog_3_method_2_code, none), (⟨"StrawWatch$Laws", "codes", "()I"⟩, prog_3_method_5_code, (some .int)), (⟨"StrawWatch$Laws", "emit", "(II)V"⟩, prog_3_method_7_code, none), (⟨"StrawWatch$Laws", "emitVar", "(II)V"⟩, prog_3_method_8_code, none), (⟨"StrawWatch$Laws", "held", "(I)I"⟩, prog_3_method_12_code, (some .int)), (⟨"StrawWatch$Laws", "<init>", "()V"⟩, prog_3_method_1_code, none), (⟨"StrawWatch$Laws", "noteWeather", "(II)V"⟩, prog_3_method_10_code, none), (⟨"StrawWatch$Laws", "run", "(I)I"⟩, prog_3_method_13_code, (some .int)), (⟨"StrawWatch$Laws", "sailBy", "(I)I"⟩, prog_3_method_11_code, (some .int)), (⟨"StrawWatch$Laws", "setNumber", "(II)V"⟩, prog_3_method_3_code, none), (⟨"StrawWatch$Laws", "setStart", "(II)V"⟩, prog_3_method_6_code, none), (⟨"StrawWatch$Notes", "addLogged", "(II)I"⟩, prog_4_method_4_code, (some .int)), (⟨"StrawWatch$Notes", "addTold", "(I)I"⟩, prog_4_method_2_code, (some .int)), (⟨"StrawWatch$Notes", "agrees", "(III)Z"⟩, prog_4_method_6_code, (some .boolean)), (⟨"StrawWatch$Notes", "forgetLogged", "()V"⟩, prog_4_method_8_code, none), (⟨"StrawWatch$Notes", "forgetTold", "()V"⟩, prog_4_method_7_code, none), (⟨"StrawWatch$Notes", "<init>", "()V"⟩, prog_4_method_1_code, none), (⟨"StrawWatch$Notes", "lastWatch", "(I)I"⟩, prog_4_method_5_code, (some .int)), (⟨"StrawWatch$Notes", "wasTold", "(II)Z"⟩, prog_4_method_3_code, (some .boolean)), (⟨"StrawWatch$Past", "forgetSlots", "()V"⟩, prog_5_method_8_code, none), (⟨"StrawWatch$Past", "forgetUndo", "()V"⟩, prog_5_method_4_code, none), (⟨"StrawWatch$Past", "goBackTo", "(I[I)Z"⟩, prog_5_method_6_code, (some .boolean)), (⟨"StrawWatch$Past", "<init>", "()V"⟩, prog_5_method_1_code, none), (⟨"StrawWatch$Past", "keep", "(I[I)Z"⟩, prog_5_method_5_code, (some .boolean)), (⟨"StrawWatch$Past", "save", "([I)V"⟩, prog_5_method_2_code, none), (⟨"StrawWatch$Past", "slotsHeld", "()I"⟩, prog_5_method_7_code, (some .int)), (⟨"StrawWatch$Past", "takeBack", "([I)Z"⟩, prog_5_method_3_code, (some .boolean)), (⟨"StrawWatch$Reader", "accept", "()V"⟩, prog_6_method_16_code, none), (⟨"StrawWatch$Reader", "<init>", "(LStrawWatch$Text;[B)V"⟩, prog_6_method_1_code, none), (⟨"StrawWatch$Reader", "isSign", "(C)Z"⟩, prog_6_method_11_code, (some .boolean)), (⟨"StrawWatch$Reader", "isWord", "(I)Z"⟩, prog_6_method_12_code, (some .boolean)), (⟨"StrawWatch$Reader", "noteLater", "(I)V"⟩, prog_6_method_18_code, none), (⟨"StrawWatch$Reader", "number", "(II)I"⟩, prog_6_method_15_code, (some .int)), (⟨"StrawWatch$Reader", "operator", "()I"⟩, prog_6_method_10_code, (some .int)), (⟨"StrawWatch$Reader", "placeOfFault", "()I"⟩, prog_6_method_3_code, (some .int)), (⟨"StrawWatch$Reader", "readLaw", "(I)V"⟩, prog_6_method_7_code, none), (⟨"StrawWatch$Reader", "readMan", "()V"⟩, prog_6_method_6_code, none), (⟨"StrawWatch$Reader", "readNumbers", "(I)V"⟩, prog_6_method_5_code, none), (⟨"StrawWatch$Reader", "readSum", "(II)V"⟩, prog_6_method_8_code, none), (⟨"StrawWatch$Reader", "readTape", "(I)I"⟩, prog_6_method_2_code, (some .int)), (⟨"StrawWatch$Reader", "readTell", "()V"⟩, prog_6_method_4_code, none), (⟨"StrawWatch$Reader", "readUnit", "(II)V"⟩, prog_6_method_9_code, none), (⟨"StrawWatch$Reader", "refuse", "(I)V"⟩, prog_6_method_17_code, none), (⟨"StrawWatch$Reader", "sign", "(C)V"⟩, prog_6_method_13_code, none), (⟨"StrawWatch$Reader", "word", "(I)V"⟩, prog_6_method_14_code, none), (⟨"StrawWatch$Ship", "drawStraws", "()V"⟩, prog_7_method_14_code, none), (⟨"StrawWatch$Ship", "findEnd", "()V"⟩, prog_7_method_21_code, none), (⟨"StrawWatch$Ship", "follow", "(LStrawWatch$Ship;)V"⟩, prog_7_method_3_code, none), (⟨"StrawWatch$Ship", "hideCaptain", "()V"⟩, prog_7_method_15_code, none), (⟨"StrawWatch$Ship", "hides", "(I)Z"⟩, prog_7_method_7_code, (some .boolean)), (⟨"StrawWatch$Ship", "<init>", "(LStrawWatch$Text;)V"⟩, prog_7_method_1_code, none), (⟨"StrawWatch$Ship", "keepWatch", "()I"⟩, prog_7_method_18_code, (some .int)), (⟨"StrawWatch$Ship", "lot", "(II)I"⟩, prog_7_method_16_code, (some .int)), (⟨"StrawWatch$Ship", "measure", "(I)I"⟩, prog_7_method_11_code, (some .int)), (⟨"StrawWatch$Ship", "noteWeather", "()V"⟩, prog_7_method_12_code, none), (⟨"StrawWatch$Ship", "passMutiny", "()V"⟩, prog_7_method_20_code, none), (⟨"StrawWatch$Ship", "postOf", "(I)I"⟩, prog_7_method_9_code, (some .int)), (⟨"StrawWatch$Ship", "sailNow", "()I"⟩, prog_7_method_19_code, (some .int)), (⟨"StrawWatch$Ship", "sailOn", "(I)I"⟩, prog_7_method_13_code, (some .int)), (⟨"StrawWatch$Ship", "setHides", "(IZ)V"⟩, prog_7_method_8_code, none), (⟨"StrawWatch$Ship", "setOut", "(I)V"⟩, prog_7_method_2_code, none), (⟨"StrawWatch$Ship", "setPost", "(II)V"⟩, prog_7_method_6_code, none), (⟨"StrawWatch$Ship", "setSail", "(I)V"⟩, prog_7_method_5_code, none), (⟨"StrawWatch$Ship", "setSeed", "(I)V"⟩, prog_7_method_4_code, none), (⟨"StrawWatch$Ship", "stirred", "(II)I"⟩, prog_7_method_17_code, (some .int)), (⟨"StrawWatch$Ship", "strawsUpSleeves", "()I"⟩, prog_7_method_10_code, (some .int)), (⟨"StrawWatch$Text", "addMan", "(J)V"⟩, prog_8_method_6_code, none), (⟨"StrawWatch$Text", "become", "(LStrawWatch$Text;)V"⟩, prog_8_method_3_code, none), (⟨"StrawWatch$Text", "clear", "()V"⟩, prog_8_method_2_code, none), (⟨"StrawWatch$Text", "has", "(I)Z"⟩, prog_8_method_4_code, (some .boolean)), (⟨"StrawWatch$Text", "<init>", "()V"⟩, prog_8_method_1_code, none), (⟨"StrawWatch$Text", "knows", "(J)Z"⟩, prog_8_method_5_code, (some .boolean)), (⟨"StrawWatch$Text", "notePosts", "([II)V"⟩, prog_8_method_9_code, none), (⟨"StrawWatch$Text", "setLastMan", "(II)V"⟩, prog_8_method_7_code, none), (⟨"StrawWatch$Text", "skillOf", "(II)I"⟩, prog_8_method_8_code, (some .int)), (⟨"StrawWatch$Tokens", "<init>", "([B)V"⟩, prog_9_method_1_code, none), (⟨"StrawWatch$Tokens", "isBlank", "(I)Z"⟩, prog_9_method_9_code, (some .boolean)), (⟨"StrawWatch$Tokens", "isDigit", "(I)Z"⟩, prog_9_method_11_code, (some .boolean)), (⟨"StrawWatch$Tokens", "isLetter", "(I)Z"⟩, prog_9_method_10_code, (some .boolean)), (⟨"StrawWatch$Tokens", "isWord", "(III)Z"⟩, prog_9_method_7_code, (some .boolean)), (⟨"StrawWatch$Tokens", "put", "(IJI)V"⟩, prog_9_method_8_code, none), (⟨"StrawWatch$Tokens", "scan", "()Z"⟩, prog_9_method_3_code, (some .boolean)), (⟨"StrawWatch$Tokens", "scanDigits", "()Z"⟩, prog_9_method_5_code, (some .boolean)), (⟨"StrawWatch$Tokens", "scanLetters", "()Z"⟩, prog_9_method_4_code, (some .boolean)), (⟨"StrawWatch$Tokens", "split", "(I)V"⟩, prog_9_method_2_code, none), (⟨"StrawWatch$Tokens", "wordAt", "(II)I"⟩, prog_9_method_6_code, (some .int)), (⟨"StrawWatch", "append", "(I)V"⟩, prog_1_method_40_code, none), (⟨"StrawWatch", "back", "(I)I"⟩, prog_1_method_3_code, (some .int)), (⟨"StrawWatch", "began", "(II)I"⟩, prog_1_method_35_code, (some .int)), (⟨"StrawWatch", "better", "(Z)I"⟩, prog_1_method_22_code, (some .int)), (⟨"StrawWatch", "broom", "()I"⟩, prog_1_method_28_code, (some .int)), (⟨"StrawWatch", "cheats", "(IIZ)I"⟩, prog_1_method_32_code, (some .int)), (⟨"StrawWatch", "commonDivisor", "(II)I"⟩, prog_1_method_53_code, (some .int)), (⟨"StrawWatch", "count", "(I)I"⟩, prog_1_method_39_code, (some .int)), (⟨"StrawWatch", "endOfTrial", "(I)I"⟩, prog_1_method_47_code, (some .int)), (⟨"StrawWatch", "ends", "(I)I"⟩, prog_1_method_25_code, (some .int)), (⟨"StrawWatch", "feed", "(IIIII)I"⟩, prog_1_method_2_code, (some .int)), (⟨"StrawWatch", "fitsLog", "(II)Z"⟩, prog_1_method_50_code, (some .boolean)), (⟨"StrawWatch", "forget", "()I"⟩, prog_1_method_36_code, (some .int)), (⟨"StrawWatch", "fraction", "(IIZ)I"⟩, prog_1_method_52_code, (some .int)), (⟨"StrawWatch", "handy", "(I)I"⟩, prog_1_method_21_code, (some .int)), (⟨"StrawWatch", "hide", "(IZ)Z"⟩, prog_1_method_9_code, (some .boolean)), (⟨"StrawWatch", "hold", "(I)Z"⟩, prog_1_method_37_code, (some .boolean)), (⟨"StrawWatch", "<init>", "()V"⟩, prog_1_method_1_code, none), (⟨"StrawWatch", "isMeasure", "(I)Z"⟩, prog_1_method_46_code, (some .boolean)), (⟨"StrawWatch", "isPost", "(I)Z"⟩, prog_1_method_43_code, (some .boolean)), (⟨"StrawWatch", "isSail", "(I)Z"⟩, prog_1_method_44_code, (some .boolean)), (⟨"StrawWatch", "isSailOrOrders", "(I)Z"⟩, prog_1_method_45_code, (some .boolean)), (⟨"StrawWatch", "likely", "(IIZ)I"⟩, prog_1_method_13_code, (some .int)), (⟨"StrawWatch", "log", "(II)I"⟩, prog_1_method_34_code, (some .int)), (⟨"StrawWatch", "man", "(II)I"⟩, prog_1_method_6_code, (some .int)), (⟨"StrawWatch", "mayStand", "(I)Z"⟩, prog_1_method_41_code, (some .boolean)), (⟨"StrawWatch", "mean", "(IIZ)I"⟩, prog_1_method_15_code, (some .int)), (⟨"StrawWatch", "most", "(IIZ)I"⟩, prog_1_method_16_code, (some .int)), (⟨"StrawWatch", "often", "(III)I"⟩, prog_1_method_24_code, (some .int)), (⟨"StrawWatch", "orders", "(I)I"⟩, prog_1_method_14_code, (some .int)), (⟨"StrawWatch", "place", "()I"⟩, prog_1_method_5_code, (some .int)), (⟨"StrawWatch", "post", "(I)I"⟩, prog_1_method_7_code, (some .int)), (⟨"StrawWatch", "power", "(II)I"⟩, prog_1_method_51_code, (some .int)), (⟨"StrawWatch", "read", "()I"⟩, prog_1_method_4_code, (some .int)), (⟨"StrawWatch", "restore", "(I)Z"⟩, prog_1_method_38_code, (some .boolean)), (⟨"StrawWatch", "risk", "(IIZ)I"⟩, prog_1_method_17_code, (some .int)), (⟨"StrawWatch", "roster", "(I)I"⟩, prog_1_method_20_code, (some .int)), (⟨"StrawWatch", "safe", "(IZ)I"⟩, prog_1_method_19_code, (some .int)), (⟨"StrawWatch", "safest", "(II)I"⟩, prog_1_method_18_code, (some .int)), (⟨"StrawWatch", "same", "(II)Z"⟩, prog_1_method_42_code, (some .boolean)), (⟨"StrawWatch", "ship", "(I)I"⟩, prog_1_method_8_code, (some .int)), (⟨"StrawWatch", "spared", "(II)I"⟩, prog_1_method_27_code, (some .int)), (⟨"StrawWatch", "stand", "(IIII)I"⟩, prog_1_method_10_code, (some .int)), (⟨"StrawWatch", "steady", "(II)I"⟩, prog_1_method_26_code, (some .int)), (⟨"StrawWatch", "surely", "(I)I"⟩, prog_1_method_33_code, (some .int)), (⟨"StrawWatch", "takeOut", "([III)I"⟩, prog_1_method_55_code, (some .int)), (⟨"StrawWatch", "tell", "(I)I"⟩, prog_1_method_31_code, (some .int)), (⟨"StrawWatch", "then", "(II)I"⟩, prog_1_method_23_code, (some .int)), (⟨"StrawWatch", "timesCaptain", "(IIZ)I"⟩, prog_1_method_48_code, (some .int)), (⟨"StrawWatch", "undo", "()Z"⟩, prog_1_method_12_code, (some .boolean)), (⟨"StrawWatch", "voyagesWith", "(III)I"⟩, prog_1_method_49_code, (some .int)), (⟨"StrawWatch", "watches", "(I)I"⟩, prog_1_method_11_code, (some .int)), (⟨"StrawWatch", "weds", "(II)I"⟩, prog_1_method_30_code, (some .int)), (⟨"StrawWatch", "within", "(III)I"⟩, prog_1_method_54_code, (some .int)), (⟨"StrawWatch", "year", "(II)I"⟩, prog_1_method_29_code, (some .int)), (⟨"java/util/Arrays", "fill", "([II)V"⟩, prog_18_method_103_code, none), (⟨"java/lang/Math", "abs", "(I)I"⟩, prog_13_method_59_code, (some .int)), (⟨"java/lang/Math", "max", "(II)I"⟩, prog_13_method_65_code, (some .int)), (⟨"java/lang/Math", "min", "(II)I"⟩, prog_13_method_69_code, (some .int)), (⟨"StrawWatchLaw", "law", "([I)Z"⟩, code, (some .boolean))]
def mt_ckM (q : List (List mm_I) × Nat × mm_M) (d : rf_Y) (i1 i2 i3 i4 : Nat) : Bool := match q, d with
  | (cs, nL, np, kd, ci, rk, _, _), (y, cc, ret) => rf_w lw_tbl i1 (.code y cc nL ret) && (rf_w lw_tbl i2 (.initialized y.cls) && (plainFor y && (decide (y.cls ≠ "java/lang/invoke/MethodHandle" ∧ y.cls ≠ "java/lang/invoke/VarHandle" ∧ (parseMethodDescriptor y.desc).map (fun d => d.parameters.length) = some np) && (rf_rk rk ret && (decide (nL ≤ 40) && ((match kd with
    | 0 => rf_w lw_tbl i3 (.static y)
    | 1 => rf_w lw_tbl i3 (.instanceMethod y) && (rf_w lw_tbl i4 (.selects y.cls y y) && (match mt_cl[ci]? with
      | some (C, _, _) => decide (C = y.cls)
      | none => false))
    | 2 => rf_w lw_tbl i3 (.instanceMethod y) && (decide (y.name = "<init>") && decide (ret = none))
    | _ => false) && cs.all (fun ch => ch.all (fun q => decide (decode cc q.1 = .ok (q.2.2.1, q.2.1)) && rf_cks lw_tbl mt_cl mt_SN mt_DS 279 y.cls (decide (y.name = "<init>")) q))))))))
def mt_okM (q : List (List mm_I) × Nat × mm_M) (d : rf_Y) : Prop := match q, d with
  | (cs, nL, np, kd, ci, rk, _, _), (y, cc, ret) => rf_M mt_W mt_cl y cc ret nL np kd ci rk ∧ ∀ ch ∈ cs, ∀ q ∈ ch, decode cc q.1 = .ok (q.2.2.1, q.2.1) ∧ rf_cks lw_tbl mt_cl mt_SN mt_DS 279 y.cls (decide (y.name = "<init>")) q = true
theorem mt_ck_ok {q : List (List mm_I) × Nat × mm_M} {d : rf_Y} {i1 i2 i3 i4 : Nat} (h : mt_ckM q d i1 i2 i3 i4 = true) : mt_okM q d := by
  obtain ⟨cs, nL, np, kd, ci, rk, mc, ms⟩ := q
  obtain ⟨y, cc, ret⟩ := d
  simp only [mt_ckM, Bool.and_eq_true, decide_eq_true_eq] at h
  obtain ⟨h1, h2, h3, h4, h5, h6, h7, h8⟩ := h
  refine ⟨⟨mt_w_in h1, mt_w_in h2, h3, h4, h5, h6, fun e => ?_, fun e => ?_, fun e => ?_⟩, fun ch hch q hq => ?_⟩
  · subst e
    exact mt_w_in h7
  · subst e
    simp only [Bool.and_eq_true] at h7
    obtain ⟨g1, g2, g3⟩ := h7
    refine ⟨mt_w_in g1, mt_w_in g2, ?_⟩
    split at g3
    · rename_i C TT N hcl
      have e := of_decide_eq_true g3
      subst e
      exact ⟨TT, N, hcl⟩
    · cases g3
  · subst e
    simp only [Bool.and_eq_true, decide_eq_true_eq] at h7
    exact ⟨mt_w_in h7.1, h7.2.1, h7.2.2⟩
  · have h9 := List.all_eq_true.mp (List.all_eq_true.mp h8 ch hch) q hq
    simp only [Bool.and_eq_true, decide_eq_true_eq] at h9
    exact h9
def mt_pc (cs : List (List mm_I)) (d : rf_Y) : Prop := ∀ ch ∈ cs, ∀ q ∈ ch, decode d.2.1 q.1 = .ok (q.2.2.1, q.2.1) ∧ rf_cks lw_tbl mt_cl mt_SN mt_DS 279 d.1.cls (decide (d.1.name = "<init>")) q = true
theorem mt_pI {cs : List (List mm_I)} {d : rf_Y} (h : cs.all (fun ch => ch.all (fun q => decide (decode d.2.1 q.1 = .ok (q.2.2.1, q.2.1)) && rf_cks lw_tbl mt_cl mt_SN mt_DS 279 d.1.cls (decide (d.1.name = "<init>")) q)) = true) : mt_pc cs d := by
  intro ch hch q hq
  have h9 := List.all_eq_true.mp (List.all_eq_true.mp h ch hch) q hq
  simp only [Bool.and_eq_true, decide_eq_true_eq] at h9
  exact h9
theorem mt_pS {cs : List (List mm_I)} {d : rf_Y} (n : Nat) (h1 : mt_pc (cs.take n) d) (h2 : mt_pc (cs.drop n) d) : mt_pc cs d := by
  intro ch hch
  rw [← List.take_append_drop n cs] at hch
  rcases List.mem_append.mp hch with h | h
  · exact h1 ch h
  · exact h2 ch h
theorem mt_ck_big {q : List (List mm_I) × Nat × mm_M} {d : rf_Y} {i1 i2 i3 i4 : Nat} (h : mt_ckM ([], q.2) d i1 i2 i3 i4 = true) (hp : mt_pc q.1 d) : mt_okM q d := by
  obtain ⟨cs, nL, np, kd, ci, rk, mc, ms⟩ := q
  obtain ⟨y, cc, ret⟩ := d
  have h1 := mt_ck_ok h
  exact ⟨h1.1, hp⟩
end
section
/-! WHOLE_START out of a run of the mini machine -/
def R_law : String := "StrawWatchLaw"
def lw_P (b : Addr) (xs : List Int32) (args : Array Value) (s : State) : Prop := args = #[.ref b] ∧ s.IntsAt b xs ∧ xs.length ≤ 6 ∧ (Jvm.Cond.and given_1 narrow_1).before args s = true
def lw_Q (_ : Array Value) (s : State) (o : Outcome) (t : State) : Prop := o = .returned (some (.int 1)) ∧ Framed s o t [] 600000 7302250
def lw_Z (below : List Frame) (a : Array Value) (s : State) : State → Prop := fun t => ∃ o, t.status = .running ∧ Ended t below o ∧ lw_Q a s o t
/-- the law's own end, with 1 on the stack, nothing written that was there before, its room as the claim has it -/
theorem lw_ret {p : Program} {l : Launch} {e : Env} {s : State} {m : MethodId} {below : List Frame} {meth : Method} {c : Code} {b : Nat} (hx : p.tables.exec = Jvm.exec) (hb : c.code = code) (hr : meth.sig.returnType = ret) (hlocks : meth.locks = false) {pc : Nat} {H : Heap} {ls : Array Slot} (hdg : decode code pc = .ok (.ireturn, 1)) : W p l e room_1 s m #[Value.ref b] below meth c H [] 600000 7302250 (lw_Z below #[Value.ref b] s) (F0 m pc ls [.int 1]) := by
  intro T hT X
  obtain ⟨fs, hret, hrun, hended, hW, hframe⟩ := X.leave (v := some (.int 1)) (hlocks := hlocks) (fun h => by rw [hr] at h; cases h)
  have hmeth' : T.vm.method? m = some meth := X.method'
  refine ⟨T.setFrames fs, ?_, .returned (some (.int 1)), hrun, hended, rfl, ⟨_, rfl⟩, hW, hframe⟩
  jvm_step X.here [X.here.top, hx, hb, hdg, hmeth', hr, ret, narrow_b1]
  (try refine ⟨rfl, ?_⟩); (try refine ⟨rfl, ?_⟩)
  first | (intro acts; rw [hret _ acts rfl rfl rfl]) | rw [hret _ _ rfl rfl rfl]
  exact Steps.refl _
/-- what holds at the law's entry: the machine, the code, the tables' words (any of lw_tbl by 'hts w (by decide +kernel)'), the script of L ints xs at the cell b, what the Statement gives of the start (any of its parts by flat_of_before) -/
def lw_At (p : Program) (s : State) (m : MethodId) (meth : Method) (c : Code) (b L : Nat) (xs : Nat → Int32) : Prop :=
  p.tables.exec = Jvm.exec ∧ c.code = code ∧ meth.sig.returnType = ret ∧ c.maxLocals = 4 ∧ s.vm.findClass R_law = some m.cls ∧ (∀ w ∈ lw_tbl, w.before #[Value.ref b] s = true) ∧ va_X b L xs s s.heap ∧ b < s.heap.size ∧ meth.locks = false ∧ (Jvm.Cond.and given_1 narrow_1).before #[Value.ref b] s = true
set_option maxHeartbeats 4000000 in
theorem st_whole (hG : st_Goal) (hlaw : mt_pc mt_279.1 (⟨"StrawWatchLaw", "law", "([I)Z"⟩, code, some .boolean)) (hPok : rf_P mt_P mt_DS 279 lw_tbl mt_W mt_cl mt_SN) {p : Program} {e : Env} {s : State} {m : MethodId} {below : List Frame} {meth : Method} {c : Code} (l : Launch) {b L : Nat} {xs : Nat → Int32} (hL : L ≤ 6) (C0 : lw_At p s m meth c b L xs) : W p l e room_1 s m #[Value.ref b] below meth c s.heap [] 0 0 (lw_Z below #[Value.ref b] s) (entryFrame m ([Value.ref b] : List Value).toArray 4) := by
  obtain ⟨hexec, hb, hr, hml, hown, hts, hX, hbs, hlocks, hgv⟩ := C0
  have hs := flat_of_before _ hgv
  have hA : ∀ a : Nat, a < s.heap.size → ¬ (fun x : Nat => s.heap.size ≤ x) a := fun a h1 h2 => absurd h1 (Nat.not_lt.mpr h2)
  obtain ⟨D, cA, hK⟩ := st_K hts
  have hini := hts _ (st_in (w := 104) (X := .initialized "StrawWatch$Laws") (by decide +kernel))
  obtain ⟨tS, TS, ZS⟩ := st_stat (A := fun x : Nat => s.heap.size ≤ x) (n := "SEEN") (xs := st_S) (by decide) (fun w hw => hs w (st_flat.1 w hw)) (hts _ (List.mem_of_getElem? (i := 705) (a := Cond.laysStatic "StrawWatch$Laws" "SEEN" "[I") (by decide +kernel))) hini hA
  obtain ⟨tL, TL, ZL⟩ := st_stat (A := fun x : Nat => s.heap.size ≤ x) (n := "LEAST") (xs := st_L) (by decide) (fun w hw => hs w (st_flat.2.1 w hw)) (hts _ (List.mem_of_getElem? (i := 812) (a := Cond.laysStatic "StrawWatch$Laws" "LEAST" "[I") (by decide +kernel))) hini hA
  obtain ⟨tM, TM, ZM⟩ := st_stat (A := fun x : Nat => s.heap.size ≤ x) (n := "MOST") (xs := st_M) (by decide) (fun w hw => hs w (st_flat.2.2 w hw)) (hts _ (List.mem_of_getElem? (i := 814) (a := Cond.laysStatic "StrawWatch$Laws" "MOST" "[I") (by decide +kernel))) hini hA
  have TX : va_T .int b L (fun j => .int (xs j)) (fun x : Nat => s.heap.size ≤ x) s s.heap := by
    obtain ⟨scr, g1, g2, g3, g4, g5⟩ := hX
    exact ⟨scr, g1, g2, g3, by rw [g4]; exact Nat.le_refl _, by rw [g4], g5, hA b hbs⟩
  have lt : ∀ {t N : Nat} {f : Nat → Value}, va_T .int t N f (fun x : Nat => s.heap.size ≤ x) s s.heap → t < s.heap.size := fun h => by
    obtain ⟨c, g1, -⟩ := h
    exact (Array.getElem?_eq_some_iff.mp g1).1
  have h67 : Int32.ofNat 7 ≠ Int32.ofNat L := by
    have : ∀ L, L ≤ 6 → Int32.ofNat 7 ≠ Int32.ofNat L := by decide
    exact this L hL
  obtain ⟨n, c', hrun, hF, rfl⟩ := hG s.heap.size tS tL tM b L xs hL (lt TS) (lt TL) (lt TM) hbs (st_ne TS TL (j := 0) (by decide) (by decide) (by decide)) (st_ne TS TM (j := 0) (by decide) (by decide) (by decide)) (st_neL TS TX h67) (st_ne TL TM (j := 0) (by decide) (by decide) (by decide)) (st_neL TL TX h67) (st_neL TM TX h67)
  obtain ⟨N, v1, h1, k, hbig, -, hbk⟩ := mm_run_big _ _ n _ [] _ none (by decide) hrun
  have hv : v1 = some (.int 1) := by
    cases k with
    | zero => cases hbk; rfl
    | succ k => cases hbk
  subst hv
  have hC : rf_Cx (st_E s.heap.size tS tL tM b L xs) mt_SN lw_tbl D mt_cl cA s := by
    refine ⟨hK, fun w hw hn => ?_, ?_, ?_, ?_, Nat.le_refl _⟩
    · have h9 := hts w hw
      cases w <;> first | exact va_Nw.of rfl h9 | exact absurd hn Bool.false_ne_true
    · exact hts (Cond.arrayOver (.array .int)) (List.mem_of_getElem? (i := 364) (by decide +kernel))
    · intro q hq
      rcases List.mem_cons.mp hq with rfl | hq
      · exact TS
      rcases List.mem_cons.mp hq with rfl | hq
      · exact TL
      rcases List.mem_cons.mp hq with rfl | hq
      · exact TM
      rcases List.mem_cons.mp hq with rfl | hq
      · exact TX
      · cases hq
    · intro k nm hk
      rcases k with _ | _ | _ | k
      · cases hk; exact ⟨_, rfl, ZS⟩
      · cases hk; exact ⟨_, rfl, ZL⟩
      · cases hk; exact ⟨_, rfl, ZM⟩
      · cases hk
  have hW : ∀ w ∈ mt_W, w.before #[Value.ref b] s = true := fun w hw => hts w (List.mem_filter.mp hw).1
  rw [lg_entry_eq]
  refine rf_W (Tw := lw_tbl) (T := mt_W) (SN := mt_SN) (DS := mt_DS) (nM := 279) (fun X h1 h2 => List.mem_filter.mpr ⟨h1, h2⟩) (fun X h => (List.mem_filter.mp h).2) mt_Cl hPok mt_G l _ _ _ _ _ _ _ _ _ _ _ hbig (cs := mt_279.1) (nL := 4) (np := 1) (kd := 0) (ci := 0) (rk := 2) (mc := 0) (ms := 0) (own := "StrawWatchLaw") (cc := code) (ini := false) rfl hlaw hexec hb hml hown (fun h => by cases h) hW hC (lv_entry _ (by show 1 ≤ 4; decide)) ⟨rfl, ?_, va_S.rf⟩ (by decide) (by decide) (by decide) (by decide) ?_
  · intro k q hk
    cases hk
  intro H' locs' cells' slots' pc' ls' st' ins ik hdg hrt hans hI hc1 hc2
  have hst : st' = [.int 1] ∧ ik = 1 := by
    unfold mm_ans at hans
    split at hans
    · split at hans <;> cases hans
    · split at hans
      · rename_i hh; cases hans; exact ⟨rfl, hh.1⟩
      · cases hans
    · split at hans <;> cases hans
    · cases hans
  obtain ⟨rfl, rfl⟩ := hst
  have hins : ins = .ireturn := by
    cases ins <;> simp [mm_rtn] at hrt
    rfl
  subst hins
  refine va_forget (fun q hq => hI.2.2.2.2 q hq) (W.widen (k := 600000) (n := 7302250) (by simpa using hc1) (by simpa using hc2) ?_)
  exact lw_ret hexec hb hr hlocks hdg
end
section
/-! THE TABLES AGAINST THE WORDS: methods 2 to 18 -/
theorem mt_ok2 : mt_okM mt_2 (⟨"StrawWatchModel", "appends", "(JI)J"⟩, prog_11_method_9_code, (some .long)) := mt_ck_ok (i1 := 1200) (i2 := 113) (i3 := 1199) (i4 := 0) (by decide +kernel)
theorem mt_ok3 : mt_okM mt_3 (⟨"StrawWatchModel", "asks", "(IIII)I"⟩, prog_11_method_42_code, (some .int)) := mt_ck_ok (i1 := 1581) (i2 := 113) (i3 := 1580) (i4 := 73) (by decide +kernel)
theorem mt_ok4 : mt_okM mt_4 (⟨"StrawWatchModel", "at", "(II)I"⟩, prog_11_method_68_code, (some .int)) := mt_ck_ok (i1 := 1687) (i2 := 113) (i3 := 1686) (i4 := 0) (by decide +kernel)
theorem mt_ok5 : mt_okM mt_5 (⟨"StrawWatchModel", "back", "(I)I"⟩, prog_11_method_5_code, (some .int)) := mt_ck_ok (i1 := 1448) (i2 := 113) (i3 := 1446) (i4 := 1447) (by decide +kernel)
theorem mt_ok6 : mt_okM mt_6 (⟨"StrawWatchModel", "began", "(II)I"⟩, prog_11_method_109_code, (some .int)) := mt_ck_ok (i1 := 1825) (i2 := 113) (i3 := 1823) (i4 := 1824) (by decide +kernel)
theorem mt_ok7 : mt_okM mt_7 (⟨"StrawWatchModel", "begins", "()V"⟩, prog_11_method_36_code, none) := mt_ck_ok (i1 := 1205) (i2 := 113) (i3 := 1204) (i4 := 43) (by decide +kernel)
theorem mt_ok8 : mt_okM mt_8 (⟨"StrawWatchModel", "beginsAt", "(I)V"⟩, prog_11_method_34_code, none) := mt_ck_big (i1 := 1209) (i2 := 113) (i3 := 1208) (i4 := 44) (by decide +kernel) (mt_pS 9 (mt_pI (by decide +kernel)) (mt_pI (by decide +kernel)))
theorem mt_ok9 : mt_okM mt_9 (⟨"StrawWatchModel", "better", "(Z)I"⟩, prog_11_method_91_code, (some .int)) := mt_ck_ok (i1 := 1754) (i2 := 113) (i3 := 1752) (i4 := 1753) (by decide +kernel)
theorem mt_ok10 : mt_okM mt_10 (⟨"StrawWatchModel", "bounded", "(II)I"⟩, prog_11_method_23_code, (some .int)) := mt_ck_ok (i1 := 1506) (i2 := 113) (i3 := 1505) (i4 := 59) (by decide +kernel)
theorem mt_ok11 : mt_okM mt_11 (⟨"StrawWatchModel", "broom", "()I"⟩, prog_11_method_100_code, (some .int)) := mt_ck_ok (i1 := 1793) (i2 := 113) (i3 := 1791) (i4 := 1792) (by decide +kernel)
theorem mt_ok12 : mt_okM mt_12 (⟨"StrawWatchModel", "byteAt", "(I)I"⟩, prog_11_method_6_code, (some .int)) := mt_ck_ok (i1 := 1460) (i2 := 113) (i3 := 1459) (i4 := 49) (by decide +kernel)
theorem mt_ok13 : mt_okM mt_13 (⟨"StrawWatchModel", "captainIn", "(III)I"⟩, prog_11_method_98_code, (some .int)) := mt_ck_ok (i1 := 1789) (i2 := 113) (i3 := 1788) (i4 := 99) (by decide +kernel)
theorem mt_ok14 : mt_okM mt_14 (⟨"StrawWatchModel", "cheats", "(IIZ)I"⟩, prog_11_method_105_code, (some .int)) := mt_ck_ok (i1 := 1809) (i2 := 113) (i3 := 1807) (i4 := 1808) (by decide +kernel)
theorem mt_ok15 : mt_okM mt_15 (⟨"StrawWatchModel", "comesOut", "(Z)V"⟩, prog_11_method_28_code, none) := mt_ck_ok (i1 := 1526) (i2 := 113) (i3 := 1525) (i4 := 64) (by decide +kernel)
theorem mt_ok16 : mt_okM mt_16 (⟨"StrawWatchModel", "common", "(II)I"⟩, prog_11_method_71_code, (some .int)) := mt_ck_ok (i1 := 1667) (i2 := 113) (i3 := 1666) (i4 := 0) (by decide +kernel)
theorem mt_ok17 : mt_okM mt_17 (⟨"StrawWatchModel", "copies", "()V"⟩, prog_11_method_38_code, none) := mt_ck_ok (i1 := 1549) (i2 := 113) (i3 := 1548) (i4 := 67) (by decide +kernel)
theorem mt_ok18 : mt_okM mt_18 (⟨"StrawWatchModel", "count", "(I)I"⟩, prog_11_method_113_code, (some .int)) := mt_ck_big (i1 := 1845) (i2 := 113) (i3 := 1843) (i4 := 1844) (by decide +kernel) (mt_pS 9 (mt_pI (by decide +kernel)) (mt_pI (by decide +kernel)))
end
section
/-! THE TABLES AGAINST THE WORDS: methods 19 to 30 -/
theorem mt_ok19 : mt_okM mt_19 (⟨"StrawWatchModel", "cut", "()V"⟩, prog_11_method_12_code, none) := mt_ck_big (i1 := 1456) (i2 := 113) (i3 := 1455) (i4 := 48) (by decide +kernel) (mt_pS 9 (mt_pI (by decide +kernel)) (mt_pS 9 (mt_pI (by decide +kernel)) (mt_pI (by decide +kernel))))
theorem mt_ok20 : mt_okM mt_20 (⟨"StrawWatchModel", "dangerNow", "()I"⟩, prog_11_method_45_code, (some .int)) := mt_ck_ok (i1 := 1593) (i2 := 113) (i3 := 1592) (i4 := 76) (by decide +kernel)
theorem mt_ok21 : mt_okM mt_21 (⟨"StrawWatchModel", "draws", "()V"⟩, prog_11_method_51_code, none) := mt_ck_big (i1 := 1645) (i2 := 113) (i3 := 1644) (i4 := 84) (by decide +kernel) (mt_pS 9 (mt_pI (by decide +kernel)) (mt_pI (by decide +kernel)))
theorem mt_ok22 : mt_okM mt_22 (⟨"StrawWatchModel", "drawsAll", "()I"⟩, prog_11_method_70_code, (some .int)) := mt_ck_ok (i1 := 1698) (i2 := 113) (i3 := 1697) (i4 := 89) (by decide +kernel)
theorem mt_ok23 : mt_okM mt_23 (⟨"StrawWatchModel", "emit", "(II)V"⟩, prog_11_method_27_code, none) := mt_ck_ok (i1 := 1522) (i2 := 113) (i3 := 1521) (i4 := 63) (by decide +kernel)
theorem mt_ok24 : mt_okM mt_24 (⟨"StrawWatchModel", "ends", "(I)I"⟩, prog_11_method_96_code, (some .int)) := mt_ck_ok (i1 := 1773) (i2 := 113) (i3 := 1771) (i4 := 1772) (by decide +kernel)
theorem mt_ok25 : mt_okM mt_25 (⟨"StrawWatchModel", "endsBy", "(I)I"⟩, prog_11_method_95_code, (some .int)) := mt_ck_ok (i1 := 1777) (i2 := 113) (i3 := 1776) (i4 := 98) (by decide +kernel)
theorem mt_ok26 : mt_okM mt_26 (⟨"StrawWatchModel", "expression", "()V"⟩, prog_11_method_29_code, none) := mt_ck_big (i1 := 1514) (i2 := 113) (i3 := 1513) (i4 := 61) (by decide +kernel) (mt_pS 9 (mt_pI (by decide +kernel)) (mt_pI (by decide +kernel)))
theorem mt_ok27 : mt_okM mt_27 (⟨"StrawWatchModel", "fail", "(I)V"⟩, prog_11_method_15_code, none) := mt_ck_ok (i1 := 1486) (i2 := 113) (i3 := 1485) (i4 := 54) (by decide +kernel)
theorem mt_ok28 : mt_okM mt_28 (⟨"StrawWatchModel", "feed", "(IIIII)I"⟩, prog_11_method_3_code, (some .int)) := mt_ck_ok (i1 := 1440) (i2 := 113) (i3 := 1438) (i4 := 1439) (by decide +kernel)
theorem mt_ok29 : mt_okM mt_29 (⟨"StrawWatchModel", "fillsBehind", "(I)V"⟩, prog_11_method_80_code, none) := mt_ck_big (i1 := 1730) (i2 := 113) (i3 := 1729) (i4 := 94) (by decide +kernel) (mt_pS 9 (mt_pI (by decide +kernel)) (mt_pI (by decide +kernel)))
theorem mt_ok30 : mt_okM mt_30 (⟨"StrawWatchModel", "fillsDoing", "(IIIII)V"⟩, prog_11_method_49_code, none) := mt_ck_big (i1 := 1630) (i2 := 113) (i3 := 1629) (i4 := 82) (by decide +kernel) (mt_pS 9 (mt_pI (by decide +kernel)) (mt_pI (by decide +kernel)))
end
section
/-! THE TABLES AGAINST THE WORDS: methods 31 to 43 -/
theorem mt_ok31 : mt_okM mt_31 (⟨"StrawWatchModel", "fillsDraw", "(II)V"⟩, prog_11_method_75_code, none) := mt_ck_ok (i1 := 1694) (i2 := 113) (i3 := 1693) (i4 := 88) (by decide +kernel)
theorem mt_ok32 : mt_okM mt_32 (⟨"StrawWatchModel", "fillsFirst", "(I)V"⟩, prog_11_method_82_code, none) := mt_ck_ok (i1 := 1718) (i2 := 113) (i3 := 1717) (i4 := 91) (by decide +kernel)
theorem mt_ok33 : mt_okM mt_33 (⟨"StrawWatchModel", "fillsRoster", "()V"⟩, prog_11_method_88_code, none) := mt_ck_ok (i1 := 1742) (i2 := 113) (i3 := 1741) (i4 := 95) (by decide +kernel)
theorem mt_ok34 : mt_okM mt_34 (⟨"StrawWatchModel", "fillsSafest", "(I)V"⟩, prog_11_method_84_code, none) := mt_ck_big (i1 := 1714) (i2 := 113) (i3 := 1713) (i4 := 90) (by decide +kernel) (mt_pS 9 (mt_pI (by decide +kernel)) (mt_pI (by decide +kernel)))
theorem mt_ok35 : mt_okM mt_35 (⟨"StrawWatchModel", "forget", "()I"⟩, prog_11_method_110_code, (some .int)) := mt_ck_ok (i1 := 1833) (i2 := 113) (i3 := 1831) (i4 := 1832) (by decide +kernel)
theorem mt_ok36 : mt_okM mt_36 (⟨"StrawWatchModel", "goes", "(I)V"⟩, prog_11_method_54_code, none) := mt_ck_ok (i1 := 1765) (i2 := 113) (i3 := 1764) (i4 := 97) (by decide +kernel)
theorem mt_ok37 : mt_okM mt_37 (⟨"StrawWatchModel", "goesOn", "()V"⟩, prog_11_method_17_code, none) := mt_ck_ok (i1 := 1494) (i2 := 113) (i3 := 1493) (i4 := 56) (by decide +kernel)
theorem mt_ok38 : mt_okM mt_38 (⟨"StrawWatchModel", "handy", "(I)I"⟩, prog_11_method_90_code, (some .int)) := mt_ck_ok (i1 := 1750) (i2 := 113) (i3 := 1748) (i4 := 1749) (by decide +kernel)
theorem mt_ok39 : mt_okM mt_39 (⟨"StrawWatchModel", "held", "(II)I"⟩, prog_11_method_50_code, (some .int)) := mt_ck_ok (i1 := 1633) (i2 := 113) (i3 := 1632) (i4 := 0) (by decide +kernel)
theorem mt_ok40 : mt_okM mt_40 (⟨"StrawWatchModel", "hide", "(IZ)Z"⟩, prog_11_method_61_code, (some .boolean)) := mt_ck_ok (i1 := 1597) (i2 := 113) (i3 := 1595) (i4 := 1596) (by decide +kernel)
theorem mt_ok41 : mt_okM mt_41 (⟨"StrawWatchModel", "hold", "(I)Z"⟩, prog_11_method_111_code, (some .boolean)) := mt_ck_ok (i1 := 1837) (i2 := 113) (i3 := 1835) (i4 := 1836) (by decide +kernel)
theorem mt_ok42 : mt_okM mt_42 (⟨"StrawWatchModel", "howOver", "()I"⟩, prog_11_method_35_code, (some .int)) := mt_ck_ok (i1 := 1213) (i2 := 113) (i3 := 1212) (i4 := 45) (by decide +kernel)
theorem mt_ok43 : mt_okM mt_43 (⟨"StrawWatchModel", "in", "(III)Z"⟩, prog_11_method_32_code, (some .boolean)) := mt_ck_ok (i1 := 1545) (i2 := 113) (i3 := 1544) (i4 := 0) (by decide +kernel)
end
section
/-! THE TABLES AGAINST THE WORDS: methods 44 to 56 -/
theorem mt_c44 : Cond.code ⟨"StrawWatchModel", "<init>", "()V"⟩ prog_11_method_2_code 1 none ∈ mt_W := List.mem_filter.mpr ⟨List.mem_append_right _ (show _ ∈ tables_1_1 ++ (tables_1_2 ++ (tables_1_3 ++ (tables_1_4 ++ (tables_1_5 ++ (tables_1_6 ++ (tables_1_7 ++ (tables_1_8))))))) from List.mem_append_right _ (List.mem_append_right _ (List.mem_append_right _ (List.mem_append_right _ (List.mem_append_left _ (List.mem_of_getElem? (i := 128) rfl)))))), rfl⟩
def mt_ckH (q : List (List mm_I) × Nat × mm_M) (d : rf_Y) (i2 i3 : Nat) : Bool := match q, d with
  | (_, nL, np, kd, _, rk, _, _), (y, _, ret) => rf_w lw_tbl i2 (.initialized y.cls) && (plainFor y && (decide (y.cls ≠ "java/lang/invoke/MethodHandle" ∧ y.cls ≠ "java/lang/invoke/VarHandle" ∧ (parseMethodDescriptor y.desc).map (fun d => d.parameters.length) = some np) && (rf_rk rk ret && (decide (nL ≤ 40) && (decide (kd = 2) && (rf_w lw_tbl i3 (.instanceMethod y) && (decide (y.name = "<init>") && decide (ret = none))))))))
theorem mt_ck_H {q : List (List mm_I) × Nat × mm_M} {d : rf_Y} {i2 i3 : Nat} (h : mt_ckH q d i2 i3 = true) (hc : Cond.code d.1 d.2.1 q.2.1 d.2.2 ∈ mt_W) (hp : mt_pc q.1 d) : mt_okM q d := by
  obtain ⟨cs, nL, np, kd, ci, rk, mc, ms⟩ := q
  obtain ⟨y, cc, ret⟩ := d
  simp only [mt_ckH, Bool.and_eq_true, decide_eq_true_eq] at h
  obtain ⟨h2, h3, h4, h5, h6, rfl, h7, h8, h9⟩ := h
  exact ⟨⟨hc, mt_w_in h2, h3, h4, h5, h6, fun e => absurd e (by decide), fun e => absurd e (by decide), fun _ => ⟨mt_w_in h7, h8, h9⟩⟩, hp⟩
theorem mt_ok44 : mt_okM mt_44 (⟨"StrawWatchModel", "<init>", "()V"⟩, prog_11_method_2_code, none) := mt_ck_H (i2 := 113) (i3 := 1188) (by decide +kernel) mt_c44 (mt_pS 9 (mt_pI (by decide +kernel)) (mt_pS 9 (mt_pI (by decide +kernel)) (mt_pS 9 (mt_pI (by decide +kernel)) (mt_pS 9 (mt_pI (by decide +kernel)) (mt_pS 9 (mt_pI (by decide +kernel)) (mt_pS 9 (mt_pI (by decide +kernel)) (mt_pI (by decide +kernel))))))))
theorem mt_ok45 : mt_okM mt_45 (⟨"StrawWatchModel", "is", "(I)Z"⟩, prog_11_method_14_code, (some .boolean)) := mt_ck_ok (i1 := 1478) (i2 := 113) (i3 := 1477) (i4 := 52) (by decide +kernel)
theorem mt_ok46 : mt_okM mt_46 (⟨"StrawWatchModel", "isAsked", "(II)Z"⟩, prog_11_method_76_code, (some .boolean)) := mt_ck_ok (i1 := 1679) (i2 := 113) (i3 := 1678) (i4 := 86) (by decide +kernel)
theorem mt_ok47 : mt_okM mt_47 (⟨"StrawWatchModel", "isCrew", "(I)Z"⟩, prog_11_method_62_code, (some .boolean)) := mt_ck_ok (i1 := 1609) (i2 := 113) (i3 := 1608) (i4 := 78) (by decide +kernel)
theorem mt_ok48 : mt_okM mt_48 (⟨"StrawWatchModel", "isDigit", "(I)Z"⟩, prog_11_method_7_code, (some .boolean)) := mt_ck_ok (i1 := 1470) (i2 := 113) (i3 := 1469) (i4 := 0) (by decide +kernel)
theorem mt_ok49 : mt_okM mt_49 (⟨"StrawWatchModel", "isDraw", "(I)Z"⟩, prog_11_method_69_code, (some .boolean)) := mt_ck_ok (i1 := 1684) (i2 := 113) (i3 := 1683) (i4 := 87) (by decide +kernel)
theorem mt_ok50 : mt_okM mt_50 (⟨"StrawWatchModel", "isLetter", "(I)Z"⟩, prog_11_method_8_code, (some .boolean)) := mt_ck_ok (i1 := 1467) (i2 := 113) (i3 := 1466) (i4 := 0) (by decide +kernel)
theorem mt_ok51 : mt_okM mt_51 (⟨"StrawWatchModel", "isLong", "(I)Z"⟩, prog_11_method_92_code, (some .boolean)) := mt_ck_ok (i1 := 1761) (i2 := 113) (i3 := 1760) (i4 := 0) (by decide +kernel)
theorem mt_ok52 : mt_okM mt_52 (⟨"StrawWatchModel", "isMan", "(I)Z"⟩, prog_11_method_33_code, (some .boolean)) := mt_ck_ok (i1 := 1542) (i2 := 113) (i3 := 1541) (i4 := 66) (by decide +kernel)
theorem mt_ok53 : mt_okM mt_53 (⟨"StrawWatchModel", "isSame", "(II)Z"⟩, prog_11_method_63_code, (some .boolean)) := mt_ck_ok (i1 := 1612) (i2 := 113) (i3 := 1611) (i4 := 0) (by decide +kernel)
theorem mt_ok54 : mt_okM mt_54 (⟨"StrawWatchModel", "isSo", "(II)Z"⟩, prog_11_method_108_code, (some .boolean)) := mt_ck_ok (i1 := 1829) (i2 := 113) (i3 := 1828) (i4 := 100) (by decide +kernel)
theorem mt_ok55 : mt_okM mt_55 (⟨"StrawWatchModel", "keeps", "()V"⟩, prog_11_method_60_code, none) := mt_ck_ok (i1 := 1601) (i2 := 113) (i3 := 1600) (i4 := 77) (by decide +kernel)
theorem mt_ok56 : mt_okM mt_56 (⟨"StrawWatchModel", "keepsRow", "()V"⟩, prog_11_method_37_code, none) := mt_ck_ok (i1 := 1217) (i2 := 113) (i3 := 1216) (i4 := 46) (by decide +kernel)
end
section
/-! THE TABLES AGAINST THE WORDS: methods 57 to 77 -/
theorem mt_ok57 : mt_okM mt_57 (⟨"StrawWatchModel", "lawTells", "(I)I"⟩, prog_11_method_43_code, (some .int)) := mt_ck_ok (i1 := 1585) (i2 := 113) (i3 := 1584) (i4 := 74) (by decide +kernel)
theorem mt_ok58 : mt_okM mt_58 (⟨"StrawWatchModel", "likely", "(IIZ)I"⟩, prog_11_method_73_code, (some .int)) := mt_ck_ok (i1 := 1661) (i2 := 113) (i3 := 1659) (i4 := 1660) (by decide +kernel)
theorem mt_ok59 : mt_okM mt_59 (⟨"StrawWatchModel", "lineOf", "(IIZ)I"⟩, prog_11_method_72_code, (some .int)) := mt_ck_ok (i1 := 1664) (i2 := 113) (i3 := 1663) (i4 := 0) (by decide +kernel)
theorem mt_ok60 : mt_okM mt_60 (⟨"StrawWatchModel", "log", "(II)I"⟩, prog_11_method_107_code, (some .int)) := mt_ck_ok (i1 := 1821) (i2 := 113) (i3 := 1819) (i4 := 1820) (by decide +kernel)
theorem mt_ok61 : mt_okM mt_61 (⟨"StrawWatchModel", "looks", "()V"⟩, prog_11_method_41_code, none) := mt_ck_ok (i1 := 1577) (i2 := 113) (i3 := 1576) (i4 := 72) (by decide +kernel)
theorem mt_ok62 : mt_okM mt_62 (⟨"StrawWatchModel", "lotOf", "(II)I"⟩, prog_11_method_40_code, (some .int)) := mt_ck_ok (i1 := 1649) (i2 := 113) (i3 := 1648) (i4 := 85) (by decide +kernel)
theorem mt_ok63 : mt_okM mt_63 (⟨"StrawWatchModel", "man", "(II)I"⟩, prog_11_method_56_code, (some .int)) := mt_ck_ok (i1 := 1538) (i2 := 113) (i3 := 1536) (i4 := 1537) (by decide +kernel)
theorem mt_ok64 : mt_okM mt_64 (⟨"StrawWatchModel", "mean", "(IIZ)I"⟩, prog_11_method_77_code, (some .int)) := mt_ck_ok (i1 := 1675) (i2 := 113) (i3 := 1673) (i4 := 1674) (by decide +kernel)
theorem mt_ok65 : mt_okM mt_65 (⟨"StrawWatchModel", "mixed", "(II)I"⟩, prog_11_method_39_code, (some .int)) := mt_ck_ok (i1 := 1652) (i2 := 113) (i3 := 1651) (i4 := 0) (by decide +kernel)
theorem mt_ok66 : mt_okM mt_66 (⟨"StrawWatchModel", "most", "(IIZ)I"⟩, prog_11_method_78_code, (some .int)) := mt_ck_ok (i1 := 1702) (i2 := 113) (i3 := 1700) (i4 := 1701) (by decide +kernel)
theorem mt_ok67 : mt_okM mt_67 (⟨"StrawWatchModel", "must", "(I)V"⟩, prog_11_method_18_code, none) := mt_ck_ok (i1 := 1498) (i2 := 113) (i3 := 1497) (i4 := 57) (by decide +kernel)
theorem mt_ok68 : mt_okM mt_68 (⟨"StrawWatchModel", "often", "(III)I"⟩, prog_11_method_94_code, (some .int)) := mt_ck_ok (i1 := 1769) (i2 := 113) (i3 := 1767) (i4 := 1768) (by decide +kernel)
theorem mt_ok69 : mt_okM mt_69 (⟨"StrawWatchModel", "orders", "(I)I"⟩, prog_11_method_74_code, (some .int)) := mt_ck_ok (i1 := 1671) (i2 := 113) (i3 := 1669) (i4 := 1670) (by decide +kernel)
theorem mt_ok70 : mt_okM mt_70 (⟨"StrawWatchModel", "ordersOf", "(I)I"⟩, prog_11_method_48_code, (some .int)) := mt_ck_ok (i1 := 1624) (i2 := 113) (i3 := 1623) (i4 := 81) (by decide +kernel)
theorem mt_ok71 : mt_okM mt_71 (⟨"StrawWatchModel", "place", "()I"⟩, prog_11_method_21_code, (some .int)) := mt_ck_ok (i1 := 1534) (i2 := 113) (i3 := 1532) (i4 := 1533) (by decide +kernel)
theorem mt_ok72 : mt_okM mt_72 (⟨"StrawWatchModel", "plain", "(I)V"⟩, prog_11_method_19_code, none) := mt_ck_ok (i1 := 1194) (i2 := 113) (i3 := 1193) (i4 := 42) (by decide +kernel)
theorem mt_ok73 : mt_okM mt_73 (⟨"StrawWatchModel", "post", "(I)I"⟩, prog_11_method_57_code, (some .int)) := mt_ck_ok (i1 := 1561) (i2 := 113) (i3 := 1559) (i4 := 1560) (by decide +kernel)
theorem mt_ok74 : mt_okM mt_74 (⟨"StrawWatchModel", "postOf", "(I)I"⟩, prog_11_method_55_code, (some .int)) := mt_ck_ok (i1 := 1557) (i2 := 113) (i3 := 1556) (i4 := 69) (by decide +kernel)
theorem mt_ok75 : mt_okM mt_75 (⟨"StrawWatchModel", "powerOf", "(II)I"⟩, prog_11_method_104_code, (some .int)) := mt_ck_ok (i1 := 1812) (i2 := 113) (i3 := 1811) (i4 := 0) (by decide +kernel)
theorem mt_ok76 : mt_okM mt_76 (⟨"StrawWatchModel", "put", "(I)V"⟩, prog_11_method_4_code, none) := mt_ck_ok (i1 := 1444) (i2 := 113) (i3 := 1443) (i4 := 47) (by decide +kernel)
theorem mt_ok77 : mt_okM mt_77 (⟨"StrawWatchModel", "read", "()I"⟩, prog_11_method_20_code, (some .int)) := mt_ck_big (i1 := 1452) (i2 := 113) (i3 := 1450) (i4 := 1451) (by decide +kernel) (mt_pS 9 (mt_pI (by decide +kernel)) (mt_pI (by decide +kernel)))
end
section
/-! THE TABLES AGAINST THE WORDS: methods 78 to 94 -/
theorem mt_ok78 : mt_okM mt_78 (⟨"StrawWatchModel", "restore", "(I)Z"⟩, prog_11_method_112_code, (some .boolean)) := mt_ck_ok (i1 := 1841) (i2 := 113) (i3 := 1839) (i4 := 1840) (by decide +kernel)
theorem mt_ok79 : mt_okM mt_79 (⟨"StrawWatchModel", "risk", "(IIZ)I"⟩, prog_11_method_79_code, (some .int)) := mt_ck_ok (i1 := 1706) (i2 := 113) (i3 := 1704) (i4 := 1705) (by decide +kernel)
theorem mt_ok80 : mt_okM mt_80 (⟨"StrawWatchModel", "roster", "(I)I"⟩, prog_11_method_89_code, (some .int)) := mt_ck_ok (i1 := 1738) (i2 := 113) (i3 := 1736) (i4 := 1737) (by decide +kernel)
theorem mt_ok81 : mt_okM mt_81 (⟨"StrawWatchModel", "safe", "(IZ)I"⟩, prog_11_method_86_code, (some .int)) := mt_ck_ok (i1 := 1734) (i2 := 113) (i3 := 1732) (i4 := 1733) (by decide +kernel)
theorem mt_ok82 : mt_okM mt_82 (⟨"StrawWatchModel", "safeBehind", "(III)I"⟩, prog_11_method_81_code, (some .int)) := mt_ck_ok (i1 := 1726) (i2 := 113) (i3 := 1725) (i4 := 93) (by decide +kernel)
theorem mt_ok83 : mt_okM mt_83 (⟨"StrawWatchModel", "safeOf", "(III)I"⟩, prog_11_method_83_code, (some .int)) := mt_ck_ok (i1 := 1722) (i2 := 113) (i3 := 1721) (i4 := 92) (by decide +kernel)
theorem mt_ok84 : mt_okM mt_84 (⟨"StrawWatchModel", "safest", "(II)I"⟩, prog_11_method_85_code, (some .int)) := mt_ck_ok (i1 := 1710) (i2 := 113) (i3 := 1708) (i4 := 1709) (by decide +kernel)
theorem mt_ok85 : mt_okM mt_85 (⟨"StrawWatchModel", "sails", "()I"⟩, prog_11_method_52_code, (some .int)) := mt_ck_big (i1 := 1616) (i2 := 113) (i3 := 1615) (i4 := 79) (by decide +kernel) (mt_pS 9 (mt_pI (by decide +kernel)) (mt_pS 9 (mt_pI (by decide +kernel)) (mt_pI (by decide +kernel))))
theorem mt_ok86 : mt_okM mt_86 (⟨"StrawWatchModel", "sevens", "(I)I"⟩, prog_11_method_67_code, (some .int)) := mt_ck_ok (i1 := 1690) (i2 := 113) (i3 := 1689) (i4 := 0) (by decide +kernel)
theorem mt_ok87 : mt_okM mt_87 (⟨"StrawWatchModel", "ship", "(I)I"⟩, prog_11_method_59_code, (some .int)) := mt_ck_ok (i1 := 1565) (i2 := 113) (i3 := 1563) (i4 := 1564) (by decide +kernel)
theorem mt_ok88 : mt_okM mt_88 (⟨"StrawWatchModel", "shipIs", "(I)I"⟩, prog_11_method_58_code, (some .int)) := mt_ck_ok (i1 := 1569) (i2 := 113) (i3 := 1568) (i4 := 70) (by decide +kernel)
theorem mt_ok89 : mt_okM mt_89 (⟨"StrawWatchModel", "sign", "(III)I"⟩, prog_11_method_13_code, (some .int)) := mt_ck_ok (i1 := 1474) (i2 := 113) (i3 := 1473) (i4 := 51) (by decide +kernel)
theorem mt_ok90 : mt_okM mt_90 (⟨"StrawWatchModel", "skillAt", "(II)I"⟩, prog_11_method_46_code, (some .int)) := mt_ck_ok (i1 := 1553) (i2 := 113) (i3 := 1552) (i4 := 68) (by decide +kernel)
theorem mt_ok91 : mt_okM mt_91 (⟨"StrawWatchModel", "skillBy", "(I)I"⟩, prog_11_method_87_code, (some .int)) := mt_ck_ok (i1 := 1746) (i2 := 113) (i3 := 1745) (i4 := 96) (by decide +kernel)
theorem mt_ok92 : mt_okM mt_92 (⟨"StrawWatchModel", "spared", "(II)I"⟩, prog_11_method_99_code, (some .int)) := mt_ck_ok (i1 := 1785) (i2 := 113) (i3 := 1783) (i4 := 1784) (by decide +kernel)
theorem mt_ok93 : mt_okM mt_93 (⟨"StrawWatchModel", "stand", "(IIII)I"⟩, prog_11_method_64_code, (some .int)) := mt_ck_big (i1 := 1605) (i2 := 113) (i3 := 1603) (i4 := 1604) (by decide +kernel) (mt_pS 9 (mt_pI (by decide +kernel)) (mt_pI (by decide +kernel)))
theorem mt_ok94 : mt_okM mt_94 (⟨"StrawWatchModel", "steady", "(II)I"⟩, prog_11_method_97_code, (some .int)) := mt_ck_ok (i1 := 1781) (i2 := 113) (i3 := 1779) (i4 := 1780) (by decide +kernel)
end
section
/-! THE TABLES AGAINST THE WORDS: methods 95 to 109 -/
theorem mt_ok95 : mt_okM mt_95 (⟨"StrawWatchModel", "surely", "(I)I"⟩, prog_11_method_106_code, (some .int)) := mt_ck_ok (i1 := 1816) (i2 := 113) (i3 := 1814) (i4 := 1815) (by decide +kernel)
theorem mt_ok96 : mt_okM mt_96 (⟨"StrawWatchModel", "tell", "(I)I"⟩, prog_11_method_103_code, (some .int)) := mt_ck_ok (i1 := 1805) (i2 := 113) (i3 := 1803) (i4 := 1804) (by decide +kernel)
theorem mt_ok97 : mt_okM mt_97 (⟨"StrawWatchModel", "tellLaw", "(I)V"⟩, prog_11_method_25_code, none) := mt_ck_big (i1 := 1510) (i2 := 113) (i3 := 1509) (i4 := 60) (by decide +kernel) (mt_pS 9 (mt_pI (by decide +kernel)) (mt_pI (by decide +kernel)))
theorem mt_ok98 : mt_okM mt_98 (⟨"StrawWatchModel", "tellMan", "()V"⟩, prog_11_method_24_code, none) := mt_ck_big (i1 := 1490) (i2 := 113) (i3 := 1489) (i4 := 55) (by decide +kernel) (mt_pS 9 (mt_pI (by decide +kernel)) (mt_pI (by decide +kernel)))
theorem mt_ok99 : mt_okM mt_99 (⟨"StrawWatchModel", "tellOne", "()V"⟩, prog_11_method_22_code, none) := mt_ck_big (i1 := 1482) (i2 := 113) (i3 := 1481) (i4 := 53) (by decide +kernel) (mt_pS 9 (mt_pI (by decide +kernel)) (mt_pS 9 (mt_pI (by decide +kernel)) (mt_pI (by decide +kernel))))
theorem mt_ok100 : mt_okM mt_100 (⟨"StrawWatchModel", "term", "()V"⟩, prog_11_method_26_code, none) := mt_ck_ok (i1 := 1530) (i2 := 113) (i3 := 1529) (i4 := 65) (by decide +kernel)
theorem mt_ok101 : mt_okM mt_101 (⟨"StrawWatchModel", "termOf", "(II)I"⟩, prog_11_method_31_code, (some .int)) := mt_ck_big (i1 := 1589) (i2 := 113) (i3 := 1588) (i4 := 75) (by decide +kernel) (mt_pS 9 (mt_pI (by decide +kernel)) (mt_pI (by decide +kernel)))
theorem mt_ok102 : mt_okM mt_102 (⟨"StrawWatchModel", "then", "(II)I"⟩, prog_11_method_93_code, (some .int)) := mt_ck_ok (i1 := 1758) (i2 := 113) (i3 := 1756) (i4 := 1757) (by decide +kernel)
theorem mt_ok103 : mt_okM mt_103 (⟨"StrawWatchModel", "token", "(IIIJ)V"⟩, prog_11_method_11_code, none) := mt_ck_ok (i1 := 1464) (i2 := 113) (i3 := 1463) (i4 := 50) (by decide +kernel)
theorem mt_ok104 : mt_okM mt_104 (⟨"StrawWatchModel", "undo", "()Z"⟩, prog_11_method_66_code, (some .boolean)) := mt_ck_ok (i1 := 1657) (i2 := 113) (i3 := 1655) (i4 := 1656) (by decide +kernel)
theorem mt_ok105 : mt_okM mt_105 (⟨"StrawWatchModel", "unit", "()V"⟩, prog_11_method_30_code, none) := mt_ck_ok (i1 := 1518) (i2 := 113) (i3 := 1517) (i4 := 62) (by decide +kernel)
theorem mt_ok106 : mt_okM mt_106 (⟨"StrawWatchModel", "watchGoes", "()Z"⟩, prog_11_method_53_code, (some .boolean)) := mt_ck_ok (i1 := 1641) (i2 := 113) (i3 := 1640) (i4 := 83) (by decide +kernel)
theorem mt_ok107 : mt_okM mt_107 (⟨"StrawWatchModel", "watches", "(I)I"⟩, prog_11_method_65_code, (some .int)) := mt_ck_ok (i1 := 1637) (i2 := 113) (i3 := 1635) (i4 := 1636) (by decide +kernel)
theorem mt_ok108 : mt_okM mt_108 (⟨"StrawWatchModel", "weathers", "()V"⟩, prog_11_method_47_code, none) := mt_ck_ok (i1 := 1620) (i2 := 113) (i3 := 1619) (i4 := 80) (by decide +kernel)
theorem mt_ok109 : mt_okM mt_109 (⟨"StrawWatchModel", "weds", "(II)I"⟩, prog_11_method_102_code, (some .int)) := mt_ck_ok (i1 := 1801) (i2 := 113) (i3 := 1799) (i4 := 1800) (by decide +kernel)
end
section
/-! THE TABLES AGAINST THE WORDS: methods 110 to 129 -/
theorem mt_ok110 : mt_okM mt_110 (⟨"StrawWatchModel", "windNow", "()I"⟩, prog_11_method_44_code, (some .int)) := mt_ck_ok (i1 := 1573) (i2 := 113) (i3 := 1572) (i4 := 71) (by decide +kernel)
theorem mt_ok111 : mt_okM mt_111 (⟨"StrawWatchModel", "word", "(IIIIIII)J"⟩, prog_11_method_10_code, (some .long)) := mt_ck_ok (i1 := 1197) (i2 := 113) (i3 := 1196) (i4 := 0) (by decide +kernel)
theorem mt_ok112 : mt_okM mt_112 (⟨"StrawWatchModel", "wrong", "(II)V"⟩, prog_11_method_16_code, none) := mt_ck_ok (i1 := 1502) (i2 := 113) (i3 := 1501) (i4 := 58) (by decide +kernel)
theorem mt_ok113 : mt_okM mt_113 (⟨"StrawWatchModel", "year", "(II)I"⟩, prog_11_method_101_code, (some .int)) := mt_ck_ok (i1 := 1797) (i2 := 113) (i3 := 1795) (i4 := 1796) (by decide +kernel)
theorem mt_ok114 : mt_okM mt_114 (⟨"StrawWatch$Draws", "addWays", "(III)V"⟩, prog_2_method_18_code, none) := mt_ck_ok (i1 := 1004) (i2 := 108) (i3 := 1003) (i4 := 37) (by decide +kernel)
theorem mt_ok115 : mt_okM mt_115 (⟨"StrawWatch$Draws", "bestRoster", "()I"⟩, prog_2_method_6_code, (some .int)) := mt_ck_ok (i1 := 1020) (i2 := 108) (i3 := 1018) (i4 := 1019) (by decide +kernel)
theorem mt_ok116 : mt_okM mt_116 (⟨"StrawWatch$Draws", "deal", "()V"⟩, prog_2_method_2_code, none) := mt_ck_ok (i1 := 421) (i2 := 108) (i3 := 419) (i4 := 420) (by decide +kernel)
theorem mt_ok117 : mt_okM mt_117 (⟨"StrawWatch$Draws", "dealOne", "(I)V"⟩, prog_2_method_3_code, none) := mt_ck_ok (i1 := 428) (i2 := 108) (i3 := 427) (i4 := 2) (by decide +kernel)
theorem mt_ok118 : mt_okM mt_118 (⟨"StrawWatch$Draws", "extremeOf", "(IIZ)I"⟩, prog_2_method_9_code, (some .int)) := mt_ck_ok (i1 := 958) (i2 := 108) (i3 := 956) (i4 := 957) (by decide +kernel)
theorem mt_ok119 : mt_okM mt_119 (⟨"StrawWatch$Draws", "fewerThan", "(I)I"⟩, prog_2_method_11_code, (some .int)) := mt_ck_ok (i1 := 973) (i2 := 108) (i3 := 971) (i4 := 972) (by decide +kernel)
theorem mt_ok120 : mt_okM mt_120 (⟨"StrawWatch$Draws", "<init>", "(LStrawWatch$Text;)V"⟩, prog_2_method_1_code, none) := mt_ck_ok (i1 := 332) (i2 := 108) (i3 := 331) (i4 := 0) (by decide +kernel)
theorem mt_ok121 : mt_okM mt_121 (⟨"StrawWatch$Draws", "isReached", "(I)Z"⟩, prog_2_method_17_code, (some .boolean)) := mt_ck_ok (i1 := 1000) (i2 := 108) (i3 := 999) (i4 := 36) (by decide +kernel)
theorem mt_ok122 : mt_okM mt_122 (⟨"StrawWatch$Draws", "noteDraw", "(II)V"⟩, prog_2_method_7_code, none) := mt_ck_ok (i1 := 948) (i2 := 108) (i3 := 947) (i4 := 32) (by decide +kernel)
theorem mt_ok123 : mt_okM mt_123 (⟨"StrawWatch$Draws", "safestOf", "(I[I)I"⟩, prog_2_method_13_code, (some .int)) := mt_ck_big (i1 := 981) (i2 := 108) (i3 := 979) (i4 := 980) (by decide +kernel) (mt_pS 9 (mt_pI (by decide +kernel)) (mt_pI (by decide +kernel)))
theorem mt_ok124 : mt_okM mt_124 (⟨"StrawWatch$Draws", "skillsOf", "(I)I"⟩, prog_2_method_5_code, (some .int)) := mt_ck_ok (i1 := 1024) (i2 := 108) (i3 := 1022) (i4 := 1023) (by decide +kernel)
theorem mt_ok125 : mt_okM mt_125 (⟨"StrawWatch$Draws", "sumOf", "(II)I"⟩, prog_2_method_8_code, (some .int)) := mt_ck_ok (i1 := 944) (i2 := 108) (i3 := 942) (i4 := 943) (by decide +kernel)
theorem mt_ok126 : mt_okM mt_126 (⟨"StrawWatch$Draws", "tallyStrikes", "(I)V"⟩, prog_2_method_10_code, none) := mt_ck_ok (i1 := 967) (i2 := 108) (i3 := 965) (i4 := 966) (by decide +kernel)
theorem mt_ok127 : mt_okM mt_127 (⟨"StrawWatch$Draws", "waysOf", "(I)I"⟩, prog_2_method_12_code, (some .int)) := mt_ck_ok (i1 := 1012) (i2 := 108) (i3 := 1010) (i4 := 1011) (by decide +kernel)
theorem mt_ok128 : mt_okM mt_128 (⟨"StrawWatch$Draws", "weighFirst", "(I[I)V"⟩, prog_2_method_15_code, none) := mt_ck_big (i1 := 992) (i2 := 108) (i3 := 991) (i4 := 34) (by decide +kernel) (mt_pS 9 (mt_pI (by decide +kernel)) (mt_pI (by decide +kernel)))
theorem mt_ok129 : mt_okM mt_129 (⟨"StrawWatch$Draws", "weighOne", "([I)V"⟩, prog_2_method_14_code, none) := mt_ck_ok (i1 := 985) (i2 := 108) (i3 := 984) (i4 := 33) (by decide +kernel)
end
section
/-! THE TABLES AGAINST THE WORDS: methods 130 to 155 -/
theorem mt_ok130 : mt_okM mt_130 (⟨"StrawWatch$Draws", "weighSecond", "([I)V"⟩, prog_2_method_16_code, none) := mt_ck_ok (i1 := 996) (i2 := 108) (i3 := 995) (i4 := 35) (by decide +kernel)
theorem mt_ok131 : mt_okM mt_131 (⟨"StrawWatch$Draws", "whoAt", "(II)I"⟩, prog_2_method_4_code, (some .int)) := mt_ck_ok (i1 := 1028) (i2 := 108) (i3 := 1026) (i4 := 1027) (by decide +kernel)
theorem mt_ok132 : mt_okM mt_132 (⟨"StrawWatch$Laws", "aimHere", "(I)V"⟩, prog_3_method_9_code, none) := mt_ck_ok (i1 := 717) (i2 := 104) (i3 := 715) (i4 := 716) (by decide +kernel)
theorem mt_ok133 : mt_okM mt_133 (⟨"StrawWatch$Laws", "become", "(LStrawWatch$Laws;)V"⟩, prog_3_method_4_code, none) := mt_ck_ok (i1 := 737) (i2 := 104) (i3 := 735) (i4 := 736) (by decide +kernel)
theorem mt_ok134 : mt_okM mt_134 (⟨"StrawWatch$Laws", "clear", "()V"⟩, prog_3_method_2_code, none) := mt_ck_ok (i1 := 168) (i2 := 104) (i3 := 166) (i4 := 167) (by decide +kernel)
theorem mt_ok135 : mt_okM mt_135 (⟨"StrawWatch$Laws", "codes", "()I"⟩, prog_3_method_5_code, (some .int)) := mt_ck_ok (i1 := 684) (i2 := 104) (i3 := 682) (i4 := 683) (by decide +kernel)
theorem mt_ok136 : mt_okM mt_136 (⟨"StrawWatch$Laws", "emit", "(II)V"⟩, prog_3_method_7_code, none) := mt_ck_ok (i1 := 176) (i2 := 104) (i3 := 174) (i4 := 175) (by decide +kernel)
theorem mt_ok137 : mt_okM mt_137 (⟨"StrawWatch$Laws", "emitVar", "(II)V"⟩, prog_3_method_8_code, none) := mt_ck_ok (i1 := 703) (i2 := 104) (i3 := 701) (i4 := 702) (by decide +kernel)
theorem mt_ok138 : mt_okM mt_138 (⟨"StrawWatch$Laws", "held", "(I)I"⟩, prog_3_method_12_code, (some .int)) := mt_ck_ok (i1 := 806) (i2 := 104) (i3 := 804) (i4 := 805) (by decide +kernel)
theorem mt_ok139 : mt_okM mt_139 (⟨"StrawWatch$Laws", "<init>", "()V"⟩, prog_3_method_1_code, none) := mt_ck_ok (i1 := 138) (i2 := 104) (i3 := 137) (i4 := 0) (by decide +kernel)
theorem mt_ok140 : mt_okM mt_140 (⟨"StrawWatch$Laws", "noteWeather", "(II)V"⟩, prog_3_method_10_code, none) := mt_ck_ok (i1 := 802) (i2 := 104) (i3 := 800) (i4 := 801) (by decide +kernel)
theorem mt_ok141 : mt_okM mt_141 (⟨"StrawWatch$Laws", "run", "(I)I"⟩, prog_3_method_13_code, (some .int)) := mt_ck_big (i1 := 810) (i2 := 104) (i3 := 809) (i4 := 25) (by decide +kernel) (mt_pS 9 (mt_pI (by decide +kernel)) (mt_pS 9 (mt_pI (by decide +kernel)) (mt_pI (by decide +kernel))))
theorem mt_ok142 : mt_okM mt_142 (⟨"StrawWatch$Laws", "sailBy", "(I)I"⟩, prog_3_method_11_code, (some .int)) := mt_ck_ok (i1 := 926) (i2 := 104) (i3 := 924) (i4 := 925) (by decide +kernel)
theorem mt_ok143 : mt_okM mt_143 (⟨"StrawWatch$Laws", "setNumber", "(II)V"⟩, prog_3_method_3_code, none) := mt_ck_ok (i1 := 172) (i2 := 104) (i3 := 171) (i4 := 0) (by decide +kernel)
theorem mt_ok144 : mt_okM mt_144 (⟨"StrawWatch$Laws", "setStart", "(II)V"⟩, prog_3_method_6_code, none) := mt_ck_ok (i1 := 721) (i2 := 104) (i3 := 719) (i4 := 720) (by decide +kernel)
theorem mt_ok145 : mt_okM mt_145 (⟨"StrawWatch$Notes", "addLogged", "(II)I"⟩, prog_4_method_4_code, (some .int)) := mt_ck_ok (i1 := 1129) (i2 := 110) (i3 := 1127) (i4 := 1128) (by decide +kernel)
theorem mt_ok146 : mt_okM mt_146 (⟨"StrawWatch$Notes", "addTold", "(I)I"⟩, prog_4_method_2_code, (some .int)) := mt_ck_ok (i1 := 1105) (i2 := 110) (i3 := 1103) (i4 := 1104) (by decide +kernel)
theorem mt_ok147 : mt_okM mt_147 (⟨"StrawWatch$Notes", "agrees", "(III)Z"⟩, prog_4_method_6_code, (some .boolean)) := mt_ck_ok (i1 := 1146) (i2 := 110) (i3 := 1144) (i4 := 1145) (by decide +kernel)
theorem mt_ok148 : mt_okM mt_148 (⟨"StrawWatch$Notes", "forgetLogged", "()V"⟩, prog_4_method_8_code, none) := mt_ck_ok (i1 := 1155) (i2 := 110) (i3 := 1153) (i4 := 1154) (by decide +kernel)
theorem mt_ok149 : mt_okM mt_149 (⟨"StrawWatch$Notes", "forgetTold", "()V"⟩, prog_4_method_7_code, none) := mt_ck_ok (i1 := 753) (i2 := 110) (i3 := 751) (i4 := 752) (by decide +kernel)
theorem mt_ok150 : mt_okM mt_150 (⟨"StrawWatch$Notes", "<init>", "()V"⟩, prog_4_method_1_code, none) := mt_ck_ok (i1 := 387) (i2 := 110) (i3 := 386) (i4 := 0) (by decide +kernel)
theorem mt_ok151 : mt_okM mt_151 (⟨"StrawWatch$Notes", "lastWatch", "(I)I"⟩, prog_4_method_5_code, (some .int)) := mt_ck_ok (i1 := 1141) (i2 := 110) (i3 := 1139) (i4 := 1140) (by decide +kernel)
theorem mt_ok152 : mt_okM mt_152 (⟨"StrawWatch$Notes", "wasTold", "(II)Z"⟩, prog_4_method_3_code, (some .boolean)) := mt_ck_ok (i1 := 1113) (i2 := 110) (i3 := 1111) (i4 := 1112) (by decide +kernel)
theorem mt_ok153 : mt_okM mt_153 (⟨"StrawWatch$Past", "forgetSlots", "()V"⟩, prog_5_method_8_code, none) := mt_ck_ok (i1 := 749) (i2 := 109) (i3 := 747) (i4 := 748) (by decide +kernel)
theorem mt_ok154 : mt_okM mt_154 (⟨"StrawWatch$Past", "forgetUndo", "()V"⟩, prog_5_method_4_code, none) := mt_ck_ok (i1 := 745) (i2 := 109) (i3 := 743) (i4 := 744) (by decide +kernel)
theorem mt_ok155 : mt_okM mt_155 (⟨"StrawWatch$Past", "goBackTo", "(I[I)Z"⟩, prog_5_method_6_code, (some .boolean)) := mt_ck_ok (i1 := 1171) (i2 := 109) (i3 := 1169) (i4 := 1170) (by decide +kernel)
end
section
/-! THE TABLES AGAINST THE WORDS: methods 156 to 174 -/
theorem mt_ok156 : mt_okM mt_156 (⟨"StrawWatch$Past", "<init>", "()V"⟩, prog_5_method_1_code, none) := mt_ck_ok (i1 := 361) (i2 := 109) (i3 := 360) (i4 := 0) (by decide +kernel)
theorem mt_ok157 : mt_okM mt_157 (⟨"StrawWatch$Past", "keep", "(I[I)Z"⟩, prog_5_method_5_code, (some .boolean)) := mt_ck_ok (i1 := 1163) (i2 := 109) (i3 := 1161) (i4 := 1162) (by decide +kernel)
theorem mt_ok158 : mt_okM mt_158 (⟨"StrawWatch$Past", "save", "([I)V"⟩, prog_5_method_2_code, none) := mt_ck_ok (i1 := 826) (i2 := 109) (i3 := 824) (i4 := 825) (by decide +kernel)
theorem mt_ok159 : mt_okM mt_159 (⟨"StrawWatch$Past", "slotsHeld", "()I"⟩, prog_5_method_7_code, (some .int)) := mt_ck_ok (i1 := 1180) (i2 := 109) (i3 := 1178) (i4 := 1179) (by decide +kernel)
theorem mt_ok160 : mt_okM mt_160 (⟨"StrawWatch$Past", "takeBack", "([I)Z"⟩, prog_5_method_3_code, (some .boolean)) := mt_ck_ok (i1 := 904) (i2 := 109) (i3 := 902) (i4 := 903) (by decide +kernel)
theorem mt_ok161 : mt_okM mt_161 (⟨"StrawWatch$Reader", "accept", "()V"⟩, prog_6_method_16_code, none) := mt_ck_ok (i1 := 636) (i2 := 105) (i3 := 635) (i4 := 10) (by decide +kernel)
theorem mt_ok162 : mt_okM mt_162 (⟨"StrawWatch$Reader", "<init>", "(LStrawWatch$Text;[B)V"⟩, prog_6_method_1_code, none) := mt_ck_ok (i1 := 240) (i2 := 105) (i3 := 239) (i4 := 0) (by decide +kernel)
theorem mt_ok163 : mt_okM mt_163 (⟨"StrawWatch$Reader", "isSign", "(C)Z"⟩, prog_6_method_11_code, (some .boolean)) := mt_ck_ok (i1 := 676) (i2 := 105) (i3 := 675) (i4 := 17) (by decide +kernel)
theorem mt_ok164 : mt_okM mt_164 (⟨"StrawWatch$Reader", "isWord", "(I)Z"⟩, prog_6_method_12_code, (some .boolean)) := mt_ck_ok (i1 := 688) (i2 := 105) (i3 := 687) (i4 := 19) (by decide +kernel)
theorem mt_ok165 : mt_okM mt_165 (⟨"StrawWatch$Reader", "noteLater", "(I)V"⟩, prog_6_method_18_code, none) := mt_ck_ok (i1 := 656) (i2 := 105) (i3 := 655) (i4 := 14) (by decide +kernel)
theorem mt_ok166 : mt_okM mt_166 (⟨"StrawWatch$Reader", "number", "(II)I"⟩, prog_6_method_15_code, (some .int)) := mt_ck_ok (i1 := 664) (i2 := 105) (i3 := 663) (i4 := 15) (by decide +kernel)
theorem mt_ok167 : mt_okM mt_167 (⟨"StrawWatch$Reader", "operator", "()I"⟩, prog_6_method_10_code, (some .int)) := mt_ck_ok (i1 := 709) (i2 := 105) (i3 := 708) (i4 := 22) (by decide +kernel)
theorem mt_ok168 : mt_okM mt_168 (⟨"StrawWatch$Reader", "placeOfFault", "()I"⟩, prog_6_method_3_code, (some .int)) := mt_ck_ok (i1 := 729) (i2 := 105) (i3 := 727) (i4 := 728) (by decide +kernel)
theorem mt_ok169 : mt_okM mt_169 (⟨"StrawWatch$Reader", "readLaw", "(I)V"⟩, prog_6_method_7_code, none) := mt_ck_big (i1 := 680) (i2 := 105) (i3 := 679) (i4 := 18) (by decide +kernel) (mt_pS 9 (mt_pI (by decide +kernel)) (mt_pI (by decide +kernel)))
theorem mt_ok170 : mt_okM mt_170 (⟨"StrawWatch$Reader", "readMan", "()V"⟩, prog_6_method_6_code, none) := mt_ck_ok (i1 := 644) (i2 := 105) (i3 := 643) (i4 := 12) (by decide +kernel)
theorem mt_ok171 : mt_okM mt_171 (⟨"StrawWatch$Reader", "readNumbers", "(I)V"⟩, prog_6_method_5_code, none) := mt_ck_ok (i1 := 725) (i2 := 105) (i3 := 724) (i4 := 24) (by decide +kernel)
theorem mt_ok172 : mt_okM mt_172 (⟨"StrawWatch$Reader", "readSum", "(II)V"⟩, prog_6_method_8_code, none) := mt_ck_ok (i1 := 692) (i2 := 105) (i3 := 691) (i4 := 20) (by decide +kernel)
theorem mt_ok173 : mt_okM mt_173 (⟨"StrawWatch$Reader", "readTape", "(I)I"⟩, prog_6_method_2_code, (some .int)) := mt_ck_ok (i1 := 485) (i2 := 105) (i3 := 483) (i4 := 484) (by decide +kernel)
theorem mt_ok174 : mt_okM mt_174 (⟨"StrawWatch$Reader", "readTell", "()V"⟩, prog_6_method_4_code, none) := mt_ck_ok (i1 := 640) (i2 := 105) (i3 := 639) (i4 := 11) (by decide +kernel)
end
section
/-! THE TABLES AGAINST THE WORDS: methods 175 to 194 -/
theorem mt_ok175 : mt_okM mt_175 (⟨"StrawWatch$Reader", "readUnit", "(II)V"⟩, prog_6_method_9_code, none) := mt_ck_ok (i1 := 696) (i2 := 105) (i3 := 695) (i4 := 21) (by decide +kernel)
theorem mt_ok176 : mt_okM mt_176 (⟨"StrawWatch$Reader", "refuse", "(I)V"⟩, prog_6_method_17_code, none) := mt_ck_ok (i1 := 648) (i2 := 105) (i3 := 647) (i4 := 13) (by decide +kernel)
theorem mt_ok177 : mt_okM mt_177 (⟨"StrawWatch$Reader", "sign", "(C)V"⟩, prog_6_method_13_code, none) := mt_ck_ok (i1 := 672) (i2 := 105) (i3 := 671) (i4 := 16) (by decide +kernel)
theorem mt_ok178 : mt_okM mt_178 (⟨"StrawWatch$Reader", "word", "(I)V"⟩, prog_6_method_14_code, none) := mt_ck_ok (i1 := 713) (i2 := 105) (i3 := 712) (i4 := 23) (by decide +kernel)
theorem mt_ok179 : mt_okM mt_179 (⟨"StrawWatch$Ship", "drawStraws", "()V"⟩, prog_7_method_14_code, none) := mt_ck_ok (i1 := 881) (i2 := 107) (i3 := 880) (i4 := 29) (by decide +kernel)
theorem mt_ok180 : mt_okM mt_180 (⟨"StrawWatch$Ship", "findEnd", "()V"⟩, prog_7_method_21_code, none) := mt_ck_ok (i1 := 417) (i2 := 107) (i3 := 416) (i4 := 1) (by decide +kernel)
theorem mt_ok181 : mt_okM mt_181 (⟨"StrawWatch$Ship", "follow", "(LStrawWatch$Ship;)V"⟩, prog_7_method_3_code, none) := mt_ck_ok (i1 := 1048) (i2 := 107) (i3 := 1046) (i4 := 1047) (by decide +kernel)
theorem mt_ok182 : mt_okM mt_182 (⟨"StrawWatch$Ship", "hideCaptain", "()V"⟩, prog_7_method_15_code, none) := mt_ck_ok (i1 := 894) (i2 := 107) (i3 := 893) (i4 := 31) (by decide +kernel)
theorem mt_ok183 : mt_okM mt_183 (⟨"StrawWatch$Ship", "hides", "(I)Z"⟩, prog_7_method_7_code, (some .boolean)) := mt_ck_ok (i1 := 777) (i2 := 107) (i3 := 775) (i4 := 776) (by decide +kernel)
theorem mt_ok184 : mt_okM mt_184 (⟨"StrawWatch$Ship", "<init>", "(LStrawWatch$Text;)V"⟩, prog_7_method_1_code, none) := mt_ck_ok (i1 := 309) (i2 := 107) (i3 := 308) (i4 := 0) (by decide +kernel)
theorem mt_ok185 : mt_okM mt_185 (⟨"StrawWatch$Ship", "keepWatch", "()I"⟩, prog_7_method_18_code, (some .int)) := mt_ck_big (i1 := 852) (i2 := 107) (i3 := 850) (i4 := 851) (by decide +kernel) (mt_pS 9 (mt_pI (by decide +kernel)) (mt_pI (by decide +kernel)))
theorem mt_ok186 : mt_okM mt_186 (⟨"StrawWatch$Ship", "lot", "(II)I"⟩, prog_7_method_16_code, (some .int)) := mt_ck_ok (i1 := 885) (i2 := 107) (i3 := 884) (i4 := 30) (by decide +kernel)
theorem mt_ok187 : mt_okM mt_187 (⟨"StrawWatch$Ship", "measure", "(I)I"⟩, prog_7_method_11_code, (some .int)) := mt_ck_ok (i1 := 794) (i2 := 107) (i3 := 792) (i4 := 793) (by decide +kernel)
theorem mt_ok188 : mt_okM mt_188 (⟨"StrawWatch$Ship", "noteWeather", "()V"⟩, prog_7_method_12_code, none) := mt_ck_ok (i1 := 798) (i2 := 107) (i3 := 796) (i4 := 797) (by decide +kernel)
theorem mt_ok189 : mt_okM mt_189 (⟨"StrawWatch$Ship", "passMutiny", "()V"⟩, prog_7_method_20_code, none) := mt_ck_ok (i1 := 869) (i2 := 107) (i3 := 868) (i4 := 28) (by decide +kernel)
theorem mt_ok190 : mt_okM mt_190 (⟨"StrawWatch$Ship", "postOf", "(I)I"⟩, prog_7_method_9_code, (some .int)) := mt_ck_ok (i1 := 781) (i2 := 107) (i3 := 779) (i4 := 780) (by decide +kernel)
theorem mt_ok191 : mt_okM mt_191 (⟨"StrawWatch$Ship", "sailNow", "()I"⟩, prog_7_method_19_code, (some .int)) := mt_ck_ok (i1 := 861) (i2 := 107) (i3 := 860) (i4 := 27) (by decide +kernel)
theorem mt_ok192 : mt_okM mt_192 (⟨"StrawWatch$Ship", "sailOn", "(I)I"⟩, prog_7_method_13_code, (some .int)) := mt_ck_ok (i1 := 877) (i2 := 107) (i3 := 875) (i4 := 876) (by decide +kernel)
theorem mt_ok193 : mt_okM mt_193 (⟨"StrawWatch$Ship", "setHides", "(IZ)V"⟩, prog_7_method_8_code, none) := mt_ck_ok (i1 := 832) (i2 := 107) (i3 := 830) (i4 := 831) (by decide +kernel)
theorem mt_ok194 : mt_okM mt_194 (⟨"StrawWatch$Ship", "setOut", "(I)V"⟩, prog_7_method_2_code, none) := mt_ck_big (i1 := 410) (i2 := 107) (i3 := 408) (i4 := 409) (by decide +kernel) (mt_pS 9 (mt_pI (by decide +kernel)) (mt_pI (by decide +kernel)))
end
section
/-! THE TABLES AGAINST THE WORDS: methods 195 to 218 -/
theorem mt_ok195 : mt_okM mt_195 (⟨"StrawWatch$Ship", "setPost", "(II)V"⟩, prog_7_method_6_code, none) := mt_ck_ok (i1 := 847) (i2 := 107) (i3 := 845) (i4 := 846) (by decide +kernel)
theorem mt_ok196 : mt_okM mt_196 (⟨"StrawWatch$Ship", "setSail", "(I)V"⟩, prog_7_method_5_code, none) := mt_ck_ok (i1 := 1069) (i2 := 107) (i3 := 1067) (i4 := 1068) (by decide +kernel)
theorem mt_ok197 : mt_okM mt_197 (⟨"StrawWatch$Ship", "setSeed", "(I)V"⟩, prog_7_method_4_code, none) := mt_ck_ok (i1 := 1093) (i2 := 107) (i3 := 1091) (i4 := 1092) (by decide +kernel)
theorem mt_ok198 : mt_okM mt_198 (⟨"StrawWatch$Ship", "stirred", "(II)I"⟩, prog_7_method_17_code, (some .int)) := mt_ck_ok (i1 := 888) (i2 := 107) (i3 := 887) (i4 := 0) (by decide +kernel)
theorem mt_ok199 : mt_okM mt_199 (⟨"StrawWatch$Ship", "strawsUpSleeves", "()I"⟩, prog_7_method_10_code, (some .int)) := mt_ck_ok (i1 := 1184) (i2 := 107) (i3 := 1182) (i4 := 1183) (by decide +kernel)
theorem mt_ok200 : mt_okM mt_200 (⟨"StrawWatch$Text", "addMan", "(J)V"⟩, prog_8_method_6_code, none) := mt_ck_ok (i1 := 660) (i2 := 103) (i3 := 658) (i4 := 659) (by decide +kernel)
theorem mt_ok201 : mt_okM mt_201 (⟨"StrawWatch$Text", "become", "(LStrawWatch$Text;)V"⟩, prog_8_method_3_code, none) := mt_ck_ok (i1 := 733) (i2 := 103) (i3 := 731) (i4 := 732) (by decide +kernel)
theorem mt_ok202 : mt_okM mt_202 (⟨"StrawWatch$Text", "clear", "()V"⟩, prog_8_method_2_code, none) := mt_ck_ok (i1 := 164) (i2 := 103) (i3 := 162) (i4 := 163) (by decide +kernel)
theorem mt_ok203 : mt_okM mt_203 (⟨"StrawWatch$Text", "has", "(I)Z"⟩, prog_8_method_4_code, (some .boolean)) := mt_ck_ok (i1 := 765) (i2 := 103) (i3 := 763) (i4 := 764) (by decide +kernel)
theorem mt_ok204 : mt_okM mt_204 (⟨"StrawWatch$Text", "<init>", "()V"⟩, prog_8_method_1_code, none) := mt_ck_ok (i1 := 132) (i2 := 103) (i3 := 131) (i4 := 0) (by decide +kernel)
theorem mt_ok205 : mt_okM mt_205 (⟨"StrawWatch$Text", "knows", "(J)Z"⟩, prog_8_method_5_code, (some .boolean)) := mt_ck_ok (i1 := 652) (i2 := 103) (i3 := 650) (i4 := 651) (by decide +kernel)
theorem mt_ok206 : mt_okM mt_206 (⟨"StrawWatch$Text", "notePosts", "([II)V"⟩, prog_8_method_9_code, none) := mt_ck_ok (i1 := 856) (i2 := 103) (i3 := 854) (i4 := 855) (by decide +kernel)
theorem mt_ok207 : mt_okM mt_207 (⟨"StrawWatch$Text", "setLastMan", "(II)V"⟩, prog_8_method_7_code, none) := mt_ck_ok (i1 := 668) (i2 := 103) (i3 := 666) (i4 := 667) (by decide +kernel)
theorem mt_ok208 : mt_okM mt_208 (⟨"StrawWatch$Text", "skillOf", "(II)I"⟩, prog_8_method_8_code, (some .int)) := mt_ck_ok (i1 := 769) (i2 := 103) (i3 := 767) (i4 := 768) (by decide +kernel)
theorem mt_ok209 : mt_okM mt_209 (⟨"StrawWatch$Tokens", "<init>", "([B)V"⟩, prog_9_method_1_code, none) := mt_ck_ok (i1 := 246) (i2 := 106) (i3 := 245) (i4 := 0) (by decide +kernel)
theorem mt_ok210 : mt_okM mt_210 (⟨"StrawWatch$Tokens", "isBlank", "(I)Z"⟩, prog_9_method_9_code, (some .boolean)) := mt_ck_ok (i1 := 500) (i2 := 106) (i3 := 499) (i4 := 0) (by decide +kernel)
theorem mt_ok211 : mt_okM mt_211 (⟨"StrawWatch$Tokens", "isDigit", "(I)Z"⟩, prog_9_method_11_code, (some .boolean)) := mt_ck_ok (i1 := 572) (i2 := 106) (i3 := 571) (i4 := 0) (by decide +kernel)
theorem mt_ok212 : mt_okM mt_212 (⟨"StrawWatch$Tokens", "isLetter", "(I)Z"⟩, prog_9_method_10_code, (some .boolean)) := mt_ck_ok (i1 := 507) (i2 := 106) (i3 := 506) (i4 := 0) (by decide +kernel)
theorem mt_ok213 : mt_okM mt_213 (⟨"StrawWatch$Tokens", "isWord", "(III)Z"⟩, prog_9_method_7_code, (some .boolean)) := mt_ck_ok (i1 := 520) (i2 := 106) (i3 := 519) (i4 := 8) (by decide +kernel)
theorem mt_ok214 : mt_okM mt_214 (⟨"StrawWatch$Tokens", "put", "(IJI)V"⟩, prog_9_method_8_code, none) := mt_ck_ok (i1 := 504) (i2 := 106) (i3 := 503) (i4 := 5) (by decide +kernel)
theorem mt_ok215 : mt_okM mt_215 (⟨"StrawWatch$Tokens", "scan", "()Z"⟩, prog_9_method_3_code, (some .boolean)) := mt_ck_big (i1 := 497) (i2 := 106) (i3 := 496) (i4 := 4) (by decide +kernel) (mt_pS 9 (mt_pI (by decide +kernel)) (mt_pI (by decide +kernel)))
theorem mt_ok216 : mt_okM mt_216 (⟨"StrawWatch$Tokens", "scanDigits", "()Z"⟩, prog_9_method_5_code, (some .boolean)) := mt_ck_ok (i1 := 576) (i2 := 106) (i3 := 575) (i4 := 9) (by decide +kernel)
theorem mt_ok217 : mt_okM mt_217 (⟨"StrawWatch$Tokens", "scanLetters", "()Z"⟩, prog_9_method_4_code, (some .boolean)) := mt_ck_ok (i1 := 511) (i2 := 106) (i3 := 510) (i4 := 6) (by decide +kernel)
theorem mt_ok218 : mt_okM mt_218 (⟨"StrawWatch$Tokens", "split", "(I)V"⟩, prog_9_method_2_code, none) := mt_ck_ok (i1 := 490) (i2 := 106) (i3 := 488) (i4 := 489) (by decide +kernel)
end
section
/-! THE TABLES AGAINST THE WORDS: methods 219 to 243 -/
theorem mt_ok219 : mt_okM mt_219 (⟨"StrawWatch$Tokens", "wordAt", "(II)I"⟩, prog_9_method_6_code, (some .int)) := mt_ck_ok (i1 := 516) (i2 := 106) (i3 := 515) (i4 := 7) (by decide +kernel)
theorem mt_ok220 : mt_okM mt_220 (⟨"StrawWatch", "append", "(I)V"⟩, prog_1_method_40_code, none) := mt_ck_ok (i1 := 473) (i2 := 102) (i3 := 472) (i4 := 3) (by decide +kernel)
theorem mt_ok221 : mt_okM mt_221 (⟨"StrawWatch", "back", "(I)I"⟩, prog_1_method_3_code, (some .int)) := mt_ck_ok (i1 := 477) (i2 := 102) (i3 := 475) (i4 := 476) (by decide +kernel)
theorem mt_ok222 : mt_okM mt_222 (⟨"StrawWatch", "began", "(II)I"⟩, prog_1_method_35_code, (some .int)) := mt_ck_ok (i1 := 1133) (i2 := 102) (i3 := 1131) (i4 := 1132) (by decide +kernel)
theorem mt_ok223 : mt_okM mt_223 (⟨"StrawWatch", "better", "(Z)I"⟩, prog_1_method_22_code, (some .int)) := mt_ck_ok (i1 := 1040) (i2 := 102) (i3 := 1038) (i4 := 1039) (by decide +kernel)
theorem mt_ok224 : mt_okM mt_224 (⟨"StrawWatch", "broom", "()I"⟩, prog_1_method_28_code, (some .int)) := mt_ck_ok (i1 := 1081) (i2 := 102) (i3 := 1079) (i4 := 1080) (by decide +kernel)
theorem mt_ok225 : mt_okM mt_225 (⟨"StrawWatch", "cheats", "(IIZ)I"⟩, prog_1_method_32_code, (some .int)) := mt_ck_ok (i1 := 1109) (i2 := 102) (i3 := 1107) (i4 := 1108) (by decide +kernel)
theorem mt_ok226 : mt_okM mt_226 (⟨"StrawWatch", "commonDivisor", "(II)I"⟩, prog_1_method_53_code, (some .int)) := mt_ck_ok (i1 := 917) (i2 := 102) (i3 := 916) (i4 := 0) (by decide +kernel)
theorem mt_ok227 : mt_okM mt_227 (⟨"StrawWatch", "count", "(I)I"⟩, prog_1_method_39_code, (some .int)) := mt_ck_ok (i1 := 1176) (i2 := 102) (i3 := 1174) (i4 := 1175) (by decide +kernel)
theorem mt_ok228 : mt_okM mt_228 (⟨"StrawWatch", "endOfTrial", "(I)I"⟩, prog_1_method_47_code, (some .int)) := mt_ck_ok (i1 := 1061) (i2 := 102) (i3 := 1060) (i4 := 38) (by decide +kernel)
theorem mt_ok229 : mt_okM mt_229 (⟨"StrawWatch", "ends", "(I)I"⟩, prog_1_method_25_code, (some .int)) := mt_ck_ok (i1 := 1057) (i2 := 102) (i3 := 1055) (i4 := 1056) (by decide +kernel)
theorem mt_ok230 : mt_okM mt_230 (⟨"StrawWatch", "feed", "(IIIII)I"⟩, prog_1_method_2_code, (some .int)) := mt_ck_ok (i1 := 469) (i2 := 102) (i3 := 467) (i4 := 468) (by decide +kernel)
theorem mt_ok231 : mt_okM mt_231 (⟨"StrawWatch", "fitsLog", "(II)Z"⟩, prog_1_method_50_code, (some .boolean)) := mt_ck_ok (i1 := 1137) (i2 := 102) (i3 := 1136) (i4 := 41) (by decide +kernel)
theorem mt_ok232 : mt_okM mt_232 (⟨"StrawWatch", "forget", "()I"⟩, prog_1_method_36_code, (some .int)) := mt_ck_ok (i1 := 1151) (i2 := 102) (i3 := 1149) (i4 := 1150) (by decide +kernel)
theorem mt_ok233 : mt_okM mt_233 (⟨"StrawWatch", "fraction", "(IIZ)I"⟩, prog_1_method_52_code, (some .int)) := mt_ck_ok (i1 := 911) (i2 := 102) (i3 := 910) (i4 := 0) (by decide +kernel)
theorem mt_ok234 : mt_okM mt_234 (⟨"StrawWatch", "handy", "(I)I"⟩, prog_1_method_21_code, (some .int)) := mt_ck_ok (i1 := 1036) (i2 := 102) (i3 := 1034) (i4 := 1035) (by decide +kernel)
theorem mt_ok235 : mt_okM mt_235 (⟨"StrawWatch", "hide", "(IZ)Z"⟩, prog_1_method_9_code, (some .boolean)) := mt_ck_ok (i1 := 822) (i2 := 102) (i3 := 820) (i4 := 821) (by decide +kernel)
theorem mt_ok236 : mt_okM mt_236 (⟨"StrawWatch", "hold", "(I)Z"⟩, prog_1_method_37_code, (some .boolean)) := mt_ck_ok (i1 := 1159) (i2 := 102) (i3 := 1157) (i4 := 1158) (by decide +kernel)
theorem mt_ok237 : mt_okM mt_237 (⟨"StrawWatch", "<init>", "()V"⟩, prog_1_method_1_code, none) := mt_ck_ok (i1 := 124) (i2 := 102) (i3 := 123) (i4 := 0) (by decide +kernel)
theorem mt_ok238 : mt_okM mt_238 (⟨"StrawWatch", "isMeasure", "(I)Z"⟩, prog_1_method_46_code, (some .boolean)) := mt_ck_ok (i1 := 933) (i2 := 102) (i3 := 932) (i4 := 0) (by decide +kernel)
theorem mt_ok239 : mt_okM mt_239 (⟨"StrawWatch", "isPost", "(I)Z"⟩, prog_1_method_43_code, (some .boolean)) := mt_ck_ok (i1 := 773) (i2 := 102) (i3 := 772) (i4 := 0) (by decide +kernel)
theorem mt_ok240 : mt_okM mt_240 (⟨"StrawWatch", "isSail", "(I)Z"⟩, prog_1_method_44_code, (some .boolean)) := mt_ck_ok (i1 := 939) (i2 := 102) (i3 := 938) (i4 := 0) (by decide +kernel)
theorem mt_ok241 : mt_okM mt_241 (⟨"StrawWatch", "isSailOrOrders", "(I)Z"⟩, prog_1_method_45_code, (some .boolean)) := mt_ck_ok (i1 := 936) (i2 := 102) (i3 := 935) (i4 := 0) (by decide +kernel)
theorem mt_ok242 : mt_okM mt_242 (⟨"StrawWatch", "likely", "(IIZ)I"⟩, prog_1_method_13_code, (some .int)) := mt_ck_ok (i1 := 908) (i2 := 102) (i3 := 906) (i4 := 907) (by decide +kernel)
theorem mt_ok243 : mt_okM mt_243 (⟨"StrawWatch", "log", "(II)I"⟩, prog_1_method_34_code, (some .int)) := mt_ck_ok (i1 := 1125) (i2 := 102) (i3 := 1123) (i4 := 1124) (by decide +kernel)
end
section
/-! THE TABLES AGAINST THE WORDS: methods 244 to 269 -/
theorem mt_ok244 : mt_okM mt_244 (⟨"StrawWatch", "man", "(II)I"⟩, prog_1_method_6_code, (some .int)) := mt_ck_ok (i1 := 761) (i2 := 102) (i3 := 759) (i4 := 760) (by decide +kernel)
theorem mt_ok245 : mt_okM mt_245 (⟨"StrawWatch", "mayStand", "(I)Z"⟩, prog_1_method_41_code, (some .boolean)) := mt_ck_ok (i1 := 840) (i2 := 102) (i3 := 839) (i4 := 26) (by decide +kernel)
theorem mt_ok246 : mt_okM mt_246 (⟨"StrawWatch", "mean", "(IIZ)I"⟩, prog_1_method_15_code, (some .int)) := mt_ck_ok (i1 := 930) (i2 := 102) (i3 := 928) (i4 := 929) (by decide +kernel)
theorem mt_ok247 : mt_okM mt_247 (⟨"StrawWatch", "most", "(IIZ)I"⟩, prog_1_method_16_code, (some .int)) := mt_ck_ok (i1 := 954) (i2 := 102) (i3 := 952) (i4 := 953) (by decide +kernel)
theorem mt_ok248 : mt_okM mt_248 (⟨"StrawWatch", "often", "(III)I"⟩, prog_1_method_24_code, (some .int)) := mt_ck_ok (i1 := 1053) (i2 := 102) (i3 := 1051) (i4 := 1052) (by decide +kernel)
theorem mt_ok249 : mt_okM mt_249 (⟨"StrawWatch", "orders", "(I)I"⟩, prog_1_method_14_code, (some .int)) := mt_ck_ok (i1 := 921) (i2 := 102) (i3 := 919) (i4 := 920) (by decide +kernel)
theorem mt_ok250 : mt_okM mt_250 (⟨"StrawWatch", "place", "()I"⟩, prog_1_method_5_code, (some .int)) := mt_ck_ok (i1 := 757) (i2 := 102) (i3 := 755) (i4 := 756) (by decide +kernel)
theorem mt_ok251 : mt_okM mt_251 (⟨"StrawWatch", "post", "(I)I"⟩, prog_1_method_7_code, (some .int)) := mt_ck_ok (i1 := 785) (i2 := 102) (i3 := 783) (i4 := 784) (by decide +kernel)
theorem mt_ok252 : mt_okM mt_252 (⟨"StrawWatch", "power", "(II)I"⟩, prog_1_method_51_code, (some .int)) := mt_ck_ok (i1 := 1116) (i2 := 102) (i3 := 1115) (i4 := 0) (by decide +kernel)
theorem mt_ok253 : mt_okM mt_253 (⟨"StrawWatch", "read", "()I"⟩, prog_1_method_4_code, (some .int)) := mt_ck_ok (i1 := 481) (i2 := 102) (i3 := 479) (i4 := 480) (by decide +kernel)
theorem mt_ok254 : mt_okM mt_254 (⟨"StrawWatch", "restore", "(I)Z"⟩, prog_1_method_38_code, (some .boolean)) := mt_ck_ok (i1 := 1167) (i2 := 102) (i3 := 1165) (i4 := 1166) (by decide +kernel)
theorem mt_ok255 : mt_okM mt_255 (⟨"StrawWatch", "risk", "(IIZ)I"⟩, prog_1_method_17_code, (some .int)) := mt_ck_ok (i1 := 963) (i2 := 102) (i3 := 961) (i4 := 962) (by decide +kernel)
theorem mt_ok256 : mt_okM mt_256 (⟨"StrawWatch", "roster", "(I)I"⟩, prog_1_method_20_code, (some .int)) := mt_ck_ok (i1 := 1016) (i2 := 102) (i3 := 1014) (i4 := 1015) (by decide +kernel)
theorem mt_ok257 : mt_okM mt_257 (⟨"StrawWatch", "safe", "(IZ)I"⟩, prog_1_method_19_code, (some .int)) := mt_ck_ok (i1 := 1008) (i2 := 102) (i3 := 1006) (i4 := 1007) (by decide +kernel)
theorem mt_ok258 : mt_okM mt_258 (⟨"StrawWatch", "safest", "(II)I"⟩, prog_1_method_18_code, (some .int)) := mt_ck_ok (i1 := 977) (i2 := 102) (i3 := 975) (i4 := 976) (by decide +kernel)
theorem mt_ok259 : mt_okM mt_259 (⟨"StrawWatch", "same", "(II)Z"⟩, prog_1_method_42_code, (some .boolean)) := mt_ck_ok (i1 := 843) (i2 := 102) (i3 := 842) (i4 := 0) (by decide +kernel)
theorem mt_ok260 : mt_okM mt_260 (⟨"StrawWatch", "ship", "(I)I"⟩, prog_1_method_8_code, (some .int)) := mt_ck_ok (i1 := 790) (i2 := 102) (i3 := 788) (i4 := 789) (by decide +kernel)
theorem mt_ok261 : mt_okM mt_261 (⟨"StrawWatch", "spared", "(II)I"⟩, prog_1_method_27_code, (some .int)) := mt_ck_ok (i1 := 1073) (i2 := 102) (i3 := 1071) (i4 := 1072) (by decide +kernel)
theorem mt_ok262 : mt_okM mt_262 (⟨"StrawWatch", "stand", "(IIII)I"⟩, prog_1_method_10_code, (some .int)) := mt_ck_big (i1 := 836) (i2 := 102) (i3 := 834) (i4 := 835) (by decide +kernel) (mt_pS 9 (mt_pI (by decide +kernel)) (mt_pI (by decide +kernel)))
theorem mt_ok263 : mt_okM mt_263 (⟨"StrawWatch", "steady", "(II)I"⟩, prog_1_method_26_code, (some .int)) := mt_ck_ok (i1 := 1065) (i2 := 102) (i3 := 1063) (i4 := 1064) (by decide +kernel)
theorem mt_ok264 : mt_okM mt_264 (⟨"StrawWatch", "surely", "(I)I"⟩, prog_1_method_33_code, (some .int)) := mt_ck_ok (i1 := 1120) (i2 := 102) (i3 := 1118) (i4 := 1119) (by decide +kernel)
theorem mt_ok265 : mt_okM mt_265 (⟨"StrawWatch", "takeOut", "([III)I"⟩, prog_1_method_55_code, (some .int)) := mt_ck_ok (i1 := 431) (i2 := 102) (i3 := 430) (i4 := 0) (by decide +kernel)
theorem mt_ok266 : mt_okM mt_266 (⟨"StrawWatch", "tell", "(I)I"⟩, prog_1_method_31_code, (some .int)) := mt_ck_ok (i1 := 1101) (i2 := 102) (i3 := 1099) (i4 := 1100) (by decide +kernel)
theorem mt_ok267 : mt_okM mt_267 (⟨"StrawWatch", "then", "(II)I"⟩, prog_1_method_23_code, (some .int)) := mt_ck_ok (i1 := 1044) (i2 := 102) (i3 := 1042) (i4 := 1043) (by decide +kernel)
theorem mt_ok268 : mt_okM mt_268 (⟨"StrawWatch", "timesCaptain", "(IIZ)I"⟩, prog_1_method_48_code, (some .int)) := mt_ck_ok (i1 := 1077) (i2 := 102) (i3 := 1076) (i4 := 39) (by decide +kernel)
theorem mt_ok269 : mt_okM mt_269 (⟨"StrawWatch", "undo", "()Z"⟩, prog_1_method_12_code, (some .boolean)) := mt_ck_ok (i1 := 900) (i2 := 102) (i3 := 898) (i4 := 899) (by decide +kernel)
end
section
/-! THE TABLES AGAINST THE WORDS: methods 270 to 278 -/
theorem mt_ok270 : mt_okM mt_270 (⟨"StrawWatch", "voyagesWith", "(III)I"⟩, prog_1_method_49_code, (some .int)) := mt_ck_ok (i1 := 1089) (i2 := 102) (i3 := 1088) (i4 := 40) (by decide +kernel)
theorem mt_ok271 : mt_okM mt_271 (⟨"StrawWatch", "watches", "(I)I"⟩, prog_1_method_11_code, (some .int)) := mt_ck_ok (i1 := 873) (i2 := 102) (i3 := 871) (i4 := 872) (by decide +kernel)
theorem mt_ok272 : mt_okM mt_272 (⟨"StrawWatch", "weds", "(II)I"⟩, prog_1_method_30_code, (some .int)) := mt_ck_ok (i1 := 1097) (i2 := 102) (i3 := 1095) (i4 := 1096) (by decide +kernel)
theorem mt_ok273 : mt_okM mt_273 (⟨"StrawWatch", "within", "(III)I"⟩, prog_1_method_54_code, (some .int)) := mt_ck_ok (i1 := 817) (i2 := 102) (i3 := 816) (i4 := 0) (by decide +kernel)
theorem mt_ok274 : mt_okM mt_274 (⟨"StrawWatch", "year", "(II)I"⟩, prog_1_method_29_code, (some .int)) := mt_ck_ok (i1 := 1085) (i2 := 102) (i3 := 1083) (i4 := 1084) (by decide +kernel)
theorem mt_ok275 : mt_okM mt_275 (⟨"java/util/Arrays", "fill", "([II)V"⟩, prog_18_method_103_code, none) := mt_ck_ok (i1 := 413) (i2 := 111) (i3 := 412) (i4 := 0) (by decide +kernel)
theorem mt_ok276 : mt_okM mt_276 (⟨"java/lang/Math", "abs", "(I)I"⟩, prog_13_method_59_code, (some .int)) := mt_ck_ok (i1 := 914) (i2 := 112) (i3 := 913) (i4 := 0) (by decide +kernel)
theorem mt_ok277 : mt_okM mt_277 (⟨"java/lang/Math", "max", "(II)I"⟩, prog_13_method_65_code, (some .int)) := mt_ck_ok (i1 := 424) (i2 := 112) (i3 := 423) (i4 := 0) (by decide +kernel)
theorem mt_ok278 : mt_okM mt_278 (⟨"java/lang/Math", "min", "(II)I"⟩, prog_13_method_69_code, (some .int)) := mt_ck_ok (i1 := 493) (i2 := 112) (i3 := 492) (i4 := 0) (by decide +kernel)
end
section
/-! THE TABLES AGAINST THE WORDS: all of them -/
def mt_okK (k : Nat) : Prop := mt_okM (mt_P.getD k ([], 0, 0, 0, 0, 0, 0, 0)) (mt_DS.getD k (⟨"", "", ""⟩, ⟨#[]⟩, none))
theorem mt_all0 : ∀ j, j < 30 → mt_okK (2 + j) := by
  intro j hj
  rcases j with _ | _ | _ | _ | _ | _ | _ | _ | _ | _ | _ | _ | _ | _ | _ | _ | _ | _ | _ | _ | _ | _ | _ | _ | _ | _ | _ | _ | _ | _ | _
  · exact mt_ok2
  · exact mt_ok3
  · exact mt_ok4
  · exact mt_ok5
  · exact mt_ok6
  · exact mt_ok7
  · exact mt_ok8
  · exact mt_ok9
  · exact mt_ok10
  · exact mt_ok11
  · exact mt_ok12
  · exact mt_ok13
  · exact mt_ok14
  · exact mt_ok15
  · exact mt_ok16
  · exact mt_ok17
  · exact mt_ok18
  · exact mt_ok19
  · exact mt_ok20
  · exact mt_ok21
  · exact mt_ok22
  · exact mt_ok23
  · exact mt_ok24
  · exact mt_ok25
  · exact mt_ok26
  · exact mt_ok27
  · exact mt_ok28
  · exact mt_ok29
  · exact mt_ok30
  · exact mt_ok31
  · omega
theorem mt_all1 : ∀ j, j < 30 → mt_okK (32 + j) := by
  intro j hj
  rcases j with _ | _ | _ | _ | _ | _ | _ | _ | _ | _ | _ | _ | _ | _ | _ | _ | _ | _ | _ | _ | _ | _ | _ | _ | _ | _ | _ | _ | _ | _ | _
  · exact mt_ok32
  · exact mt_ok33
  · exact mt_ok34
  · exact mt_ok35
  · exact mt_ok36
  · exact mt_ok37
  · exact mt_ok38
  · exact mt_ok39
  · exact mt_ok40
  · exact mt_ok41
  · exact mt_ok42
  · exact mt_ok43
  · exact mt_ok44
  · exact mt_ok45
  · exact mt_ok46
  · exact mt_ok47
  · exact mt_ok48
  · exact mt_ok49
  · exact mt_ok50
  · exact mt_ok51
  · exact mt_ok52
  · exact mt_ok53
  · exact mt_ok54
  · exact mt_ok55
  · exact mt_ok56
  · exact mt_ok57
  · exact mt_ok58
  · exact mt_ok59
  · exact mt_ok60
  · exact mt_ok61
  · omega
theorem mt_all2 : ∀ j, j < 30 → mt_okK (62 + j) := by
  intro j hj
  rcases j with _ | _ | _ | _ | _ | _ | _ | _ | _ | _ | _ | _ | _ | _ | _ | _ | _ | _ | _ | _ | _ | _ | _ | _ | _ | _ | _ | _ | _ | _ | _
  · exact mt_ok62
  · exact mt_ok63
  · exact mt_ok64
  · exact mt_ok65
  · exact mt_ok66
  · exact mt_ok67
  · exact mt_ok68
  · exact mt_ok69
  · exact mt_ok70
  · exact mt_ok71
  · exact mt_ok72
  · exact mt_ok73
  · exact mt_ok74
  · exact mt_ok75
  · exact mt_ok76
  · exact mt_ok77
  · exact mt_ok78
  · exact mt_ok79
  · exact mt_ok80
  · exact mt_ok81
  · exact mt_ok82
  · exact mt_ok83
  · exact mt_ok84
  · exact mt_ok85
  · exact mt_ok86
  · exact mt_ok87
  · exact mt_ok88
  · exact mt_ok89
  · exact mt_ok90
  · exact mt_ok91
  · omega
theorem mt_all3 : ∀ j, j < 30 → mt_okK (92 + j) := by
  intro j hj
  rcases j with _ | _ | _ | _ | _ | _ | _ | _ | _ | _ | _ | _ | _ | _ | _ | _ | _ | _ | _ | _ | _ | _ | _ | _ | _ | _ | _ | _ | _ | _ | _
  · exact mt_ok92
  · exact mt_ok93
  · exact mt_ok94
  · exact mt_ok95
  · exact mt_ok96
  · exact mt_ok97
  · exact mt_ok98
  · exact mt_ok99
  · exact mt_ok100
  · exact mt_ok101
  · exact mt_ok102
  · exact mt_ok103
  · exact mt_ok104
  · exact mt_ok105
  · exact mt_ok106
  · exact mt_ok107
  · exact mt_ok108
  · exact mt_ok109
  · exact mt_ok110
  · exact mt_ok111
  · exact mt_ok112
  · exact mt_ok113
  · exact mt_ok114
  · exact mt_ok115
  · exact mt_ok116
  · exact mt_ok117
  · exact mt_ok118
  · exact mt_ok119
  · exact mt_ok120
  · exact mt_ok121
  · omega
theorem mt_all4 : ∀ j, j < 30 → mt_okK (122 + j) := by
  intro j hj
  rcases j with _ | _ | _ | _ | _ | _ | _ | _ | _ | _ | _ | _ | _ | _ | _ | _ | _ | _ | _ | _ | _ | _ | _ | _ | _ | _ | _ | _ | _ | _ | _
  · exact mt_ok122
  · exact mt_ok123
  · exact mt_ok124
  · exact mt_ok125
  · exact mt_ok126
  · exact mt_ok127
  · exact mt_ok128
  · exact mt_ok129
  · exact mt_ok130
  · exact mt_ok131
  · exact mt_ok132
  · exact mt_ok133
  · exact mt_ok134
  · exact mt_ok135
  · exact mt_ok136
  · exact mt_ok137
  · exact mt_ok138
  · exact mt_ok139
  · exact mt_ok140
  · exact mt_ok141
  · exact mt_ok142
  · exact mt_ok143
  · exact mt_ok144
  · exact mt_ok145
  · exact mt_ok146
  · exact mt_ok147
  · exact mt_ok148
  · exact mt_ok149
  · exact mt_ok150
  · exact mt_ok151
  · omega
theorem mt_all5 : ∀ j, j < 30 → mt_okK (152 + j) := by
  intro j hj
  rcases j with _ | _ | _ | _ | _ | _ | _ | _ | _ | _ | _ | _ | _ | _ | _ | _ | _ | _ | _ | _ | _ | _ | _ | _ | _ | _ | _ | _ | _ | _ | _
  · exact mt_ok152
  · exact mt_ok153
  · exact mt_ok154
  · exact mt_ok155
  · exact mt_ok156
  · exact mt_ok157
  · exact mt_ok158
  · exact mt_ok159
  · exact mt_ok160
  · exact mt_ok161
  · exact mt_ok162
  · exact mt_ok163
  · exact mt_ok164
  · exact mt_ok165
  · exact mt_ok166
  · exact mt_ok167
  · exact mt_ok168
  · exact mt_ok169
  · exact mt_ok170
  · exact mt_ok171
  · exact mt_ok172
  · exact mt_ok173
  · exact mt_ok174
  · exact mt_ok175
  · exact mt_ok176
  · exact mt_ok177
  · exact mt_ok178
  · exact mt_ok179
  · exact mt_ok180
  · exact mt_ok181
  · omega
theorem mt_all6 : ∀ j, j < 30 → mt_okK (182 + j) := by
  intro j hj
  rcases j with _ | _ | _ | _ | _ | _ | _ | _ | _ | _ | _ | _ | _ | _ | _ | _ | _ | _ | _ | _ | _ | _ | _ | _ | _ | _ | _ | _ | _ | _ | _
  · exact mt_ok182
  · exact mt_ok183
  · exact mt_ok184
  · exact mt_ok185
  · exact mt_ok186
  · exact mt_ok187
  · exact mt_ok188
  · exact mt_ok189
  · exact mt_ok190
  · exact mt_ok191
  · exact mt_ok192
  · exact mt_ok193
  · exact mt_ok194
  · exact mt_ok195
  · exact mt_ok196
  · exact mt_ok197
  · exact mt_ok198
  · exact mt_ok199
  · exact mt_ok200
  · exact mt_ok201
  · exact mt_ok202
  · exact mt_ok203
  · exact mt_ok204
  · exact mt_ok205
  · exact mt_ok206
  · exact mt_ok207
  · exact mt_ok208
  · exact mt_ok209
  · exact mt_ok210
  · exact mt_ok211
  · omega
theorem mt_all7 : ∀ j, j < 30 → mt_okK (212 + j) := by
  intro j hj
  rcases j with _ | _ | _ | _ | _ | _ | _ | _ | _ | _ | _ | _ | _ | _ | _ | _ | _ | _ | _ | _ | _ | _ | _ | _ | _ | _ | _ | _ | _ | _ | _
  · exact mt_ok212
  · exact mt_ok213
  · exact mt_ok214
  · exact mt_ok215
  · exact mt_ok216
  · exact mt_ok217
  · exact mt_ok218
  · exact mt_ok219
  · exact mt_ok220
  · exact mt_ok221
  · exact mt_ok222
  · exact mt_ok223
  · exact mt_ok224
  · exact mt_ok225
  · exact mt_ok226
  · exact mt_ok227
  · exact mt_ok228
  · exact mt_ok229
  · exact mt_ok230
  · exact mt_ok231
  · exact mt_ok232
  · exact mt_ok233
  · exact mt_ok234
  · exact mt_ok235
  · exact mt_ok236
  · exact mt_ok237
  · exact mt_ok238
  · exact mt_ok239
  · exact mt_ok240
  · exact mt_ok241
  · omega
theorem mt_all8 : ∀ j, j < 30 → mt_okK (242 + j) := by
  intro j hj
  rcases j with _ | _ | _ | _ | _ | _ | _ | _ | _ | _ | _ | _ | _ | _ | _ | _ | _ | _ | _ | _ | _ | _ | _ | _ | _ | _ | _ | _ | _ | _ | _
  · exact mt_ok242
  · exact mt_ok243
  · exact mt_ok244
  · exact mt_ok245
  · exact mt_ok246
  · exact mt_ok247
  · exact mt_ok248
  · exact mt_ok249
  · exact mt_ok250
  · exact mt_ok251
  · exact mt_ok252
  · exact mt_ok253
  · exact mt_ok254
  · exact mt_ok255
  · exact mt_ok256
  · exact mt_ok257
  · exact mt_ok258
  · exact mt_ok259
  · exact mt_ok260
  · exact mt_ok261
  · exact mt_ok262
  · exact mt_ok263
  · exact mt_ok264
  · exact mt_ok265
  · exact mt_ok266
  · exact mt_ok267
  · exact mt_ok268
  · exact mt_ok269
  · exact mt_ok270
  · exact mt_ok271
  · omega
theorem mt_all9 : ∀ j, j < 7 → mt_okK (272 + j) := by
  intro j hj
  rcases j with _ | _ | _ | _ | _ | _ | _ | _
  · exact mt_ok272
  · exact mt_ok273
  · exact mt_ok274
  · exact mt_ok275
  · exact mt_ok276
  · exact mt_ok277
  · exact mt_ok278
  · omega
theorem mt_alk0 : ∀ k, 2 ≤ k → k < 32 → mt_okK k := by
  intro k h1 h2
  obtain ⟨j, rfl⟩ := Nat.exists_eq_add_of_le h1
  have hj : j < 30 := by omega
  exact mt_all0 j hj
theorem mt_alk1 : ∀ k, 32 ≤ k → k < 62 → mt_okK k := by
  intro k h1 h2
  obtain ⟨j, rfl⟩ := Nat.exists_eq_add_of_le h1
  have hj : j < 30 := by omega
  exact mt_all1 j hj
theorem mt_alk2 : ∀ k, 62 ≤ k → k < 92 → mt_okK k := by
  intro k h1 h2
  obtain ⟨j, rfl⟩ := Nat.exists_eq_add_of_le h1
  have hj : j < 30 := by omega
  exact mt_all2 j hj
theorem mt_alk3 : ∀ k, 92 ≤ k → k < 122 → mt_okK k := by
  intro k h1 h2
  obtain ⟨j, rfl⟩ := Nat.exists_eq_add_of_le h1
  have hj : j < 30 := by omega
  exact mt_all3 j hj
theorem mt_alk4 : ∀ k, 122 ≤ k → k < 152 → mt_okK k := by
  intro k h1 h2
  obtain ⟨j, rfl⟩ := Nat.exists_eq_add_of_le h1
  have hj : j < 30 := by omega
  exact mt_all4 j hj
theorem mt_alk5 : ∀ k, 152 ≤ k → k < 182 → mt_okK k := by
  intro k h1 h2
  obtain ⟨j, rfl⟩ := Nat.exists_eq_add_of_le h1
  have hj : j < 30 := by omega
  exact mt_all5 j hj
theorem mt_alk6 : ∀ k, 182 ≤ k → k < 212 → mt_okK k := by
  intro k h1 h2
  obtain ⟨j, rfl⟩ := Nat.exists_eq_add_of_le h1
  have hj : j < 30 := by omega
  exact mt_all6 j hj
theorem mt_alk7 : ∀ k, 212 ≤ k → k < 242 → mt_okK k := by
  intro k h1 h2
  obtain ⟨j, rfl⟩ := Nat.exists_eq_add_of_le h1
  have hj : j < 30 := by omega
  exact mt_all7 j hj
theorem mt_alk8 : ∀ k, 242 ≤ k → k < 272 → mt_okK k := by
  intro k h1 h2
  obtain ⟨j, rfl⟩ := Nat.exists_eq_add_of_le h1
  have hj : j < 30 := by omega
  exact mt_all8 j hj
theorem mt_alk9 : ∀ k, 272 ≤ k → k < 279 → mt_okK k := by
  intro k h1 h2
  obtain ⟨j, rfl⟩ := Nat.exists_eq_add_of_le h1
  have hj : j < 7 := by omega
  exact mt_all9 j hj
theorem mt_allk : ∀ k, 2 ≤ k → k < 279 → mt_okK k := by
  intro k h1 h2
  by_cases h10 : k < 32
  · exact mt_alk0 k (by omega) h10
  by_cases h11 : k < 62
  · exact mt_alk1 k (by omega) h11
  by_cases h12 : k < 92
  · exact mt_alk2 k (by omega) h12
  by_cases h13 : k < 122
  · exact mt_alk3 k (by omega) h13
  by_cases h14 : k < 152
  · exact mt_alk4 k (by omega) h14
  by_cases h15 : k < 182
  · exact mt_alk5 k (by omega) h15
  by_cases h16 : k < 212
  · exact mt_alk6 k (by omega) h16
  by_cases h17 : k < 242
  · exact mt_alk7 k (by omega) h17
  by_cases h18 : k < 272
  · exact mt_alk8 k (by omega) h18
  exact mt_alk9 k (by omega) h2
theorem mt_len : mt_P.length = 280 ∧ mt_DS.length = 280 := by decide +kernel
theorem mt_Pok : rf_P mt_P mt_DS 279 lw_tbl mt_W mt_cl mt_SN := by
  intro k cs nL np kd ci rk mc ms hk h2 hn
  have h := mt_allk k h2 hn
  unfold mt_okK at h
  have e1 : mt_P.getD k ([], 0, 0, 0, 0, 0, 0, 0) = (cs, nL, np, kd, ci, rk, mc, ms) := by rw [List.getD_eq_getElem?_getD, hk]; rfl
  have hl : k < mt_DS.length := by rw [mt_len.2]; omega
  have e2 : mt_DS[k]? = some mt_DS[k] := List.getElem?_eq_getElem hl
  have e3 : mt_DS.getD k (⟨"", "", ""⟩, ⟨#[]⟩, none) = mt_DS[k] := by rw [List.getD_eq_getElem?_getD, e2]; rfl
  rw [e1, e3] at h
  generalize mt_DS[k] = d at h e2
  obtain ⟨y, cc, ret⟩ := d
  exact ⟨y, cc, ret, e2, h.1, h.2⟩
theorem mt_Pn : ∀ (k : Nat) (cs : List (List mm_I)) (nL : Nat) (dd : mm_M), mt_P[k]? = some (cs, nL, dd) → nL < 16777216 := by
  have h : mt_P.all (fun q => decide (q.2.1 < 16777216)) = true := by decide +kernel
  intro k cs nL dd hk
  exact of_decide_eq_true (List.all_eq_true.mp h _ (List.mem_of_getElem? hk))
end
section
/-! THE LAW'S OWN INSTRUCTIONS, and its start -/
theorem st_law : mt_pc mt_279.1 (⟨"StrawWatchLaw", "law", "([I)Z"⟩, code, some .boolean) := mt_pS 6 (mt_pI (by decide +kernel)) (mt_pS 6 (mt_pI (by decide +kernel)) (mt_pS 6 (mt_pI (by decide +kernel)) (mt_pS 6 (mt_pI (by decide +kernel)) (mt_pS 6 (mt_pI (by decide +kernel)) (mt_pS 6 (mt_pI (by decide +kernel)) (mt_pS 6 (mt_pI (by decide +kernel)) (mt_pS 6 (mt_pI (by decide +kernel)) (mt_pS 6 (mt_pI (by decide +kernel)) (mt_pS 6 (mt_pI (by decide +kernel)) (mt_pS 6 (mt_pI (by decide +kernel)) (mt_pS 6 (mt_pI (by decide +kernel)) (mt_pS 6 (mt_pI (by decide +kernel)) (mt_pS 6 (mt_pI (by decide +kernel)) (mt_pS 6 (mt_pI (by decide +kernel)) (mt_pI (by decide +kernel))))))))))))))))
end
section
/-! HOOKS: named ints that the ranges pin; a split of a named int -/
noncomputable def rn_pin1 (w : en_W) (c : Nat) : Nat := en_if (Nat.ble 4294967296 c) (en_if (Nat.ble c 8589934591) (en_iv w c (fun lo hi => en_if (Nat.beq lo hi) lo c)) c) c
noncomputable def rn_pins (w : en_W) (st : List Nat) : List Nat := List.rec (motive := fun _ => List Nat) [] (fun c _ r => rn_pin1 w c :: r) st
/-- named ints of the stack that have one value are that value -/
noncomputable def rn_pin : en_O → en_O := fun o loc st hp w ih => o loc (rn_pins w st) hp w ih
/-- a named int below a value, or not -/
noncomputable def rn_sp (c v : Nat) : en_O → en_O := fun o loc st hp w ih => en_lt c v w (fun w => o loc st hp w ih) (fun w => o loc st hp w ih)
section RNH
variable {E : mm_E} {kds : List (List Nat)} {P : mm_T} {L : Nat} {ρ : Nat → Int32} {ω : Nat → Value} {h0 : mm_H} {fsC : List mm_F} {FIN : mm_C → Prop}
theorem rn_pin1_v {w : en_W} {c : Nat} {v : Value} (he : en_e ρ (en_ev w)) (hv : en_v E ρ ω c v) : en_v E ρ ω (rn_pin1 w c) v := by
  unfold rn_pin1
  cases h1 : Nat.ble 4294967296 c with
  | false => exact hv
  | true =>
    cases h2 : Nat.ble c 8589934591 with
    | false => exact hv
    | true =>
      have a1 := en_ble_t.mp h1
      have a2 := en_ble_t.mp h2
      have e := (en_v_name a1 (by omega)).mp hv
      subst e
      obtain ⟨a, b, g1, g2, g3, g4⟩ := en_iv_v (w := w) he hv
      show en_v E ρ ω (en_iv w c (fun lo hi => en_if (Nat.beq lo hi) lo c)) _
      rw [g4]
      cases h3 : Nat.beq a b with
      | false => exact hv
      | true =>
        have a3 := en_beq_t.mp h3
        show en_v E ρ ω a _
        rw [en_v_const (by omega)]
        have a4 : a = en_z (ρ ((c - 4294967296) / 65536) + en_off c) := by omega
        rw [a4, en_d_z]
theorem rn_pins_v {w : en_W} (he : en_e ρ (en_ev w)) : ∀ (st : List Nat) (sv : List Value), en_sr E ρ ω st sv → en_sr E ρ ω (rn_pins w st) sv
  | [], _, h => h
  | _ :: _, [], h => h.elim
  | _ :: r, _ :: vs, h => ⟨rn_pin1_v he h.1, rn_pins_v he r vs h.2⟩
theorem rn_pin_ok {q : Nat} {o : en_O} (ho : en_OS E kds P L ρ ω h0 fsC FIN q o) : en_OS E kds P L ρ ω h0 fsC FIN q (rn_pin o) := by
  intro loc st hp w ih c hih hk hR
  obtain ⟨lv, sv, gs, h, o', rfl, hl, hs, hh, he, hx⟩ := hR
  exact ho loc _ hp w ih _ hih hk ⟨lv, sv, gs, h, o', rfl, hl, rn_pins_v he st sv hs, hh, he, hx⟩
theorem rn_sp_ok {q c v : Nat} {o : en_O} (hc : 4294967296 ≤ c) (hc2 : c < 8589934592) (hv : v < 4294967296) (ho : en_OS E kds P L ρ ω h0 fsC FIN q o) : en_OS E kds P L ρ ω h0 fsC FIN q (rn_sp c v o) := by
  intro loc st hp w ih c0 hih hk hR
  obtain ⟨lv, sv, gs, h, o', rfl, hl, hs, hh, he, hx, hd, hf⟩ := hR
  have hX := (en_v_name (E := E) (ρ := ρ) (ω := ω) hc hc2).mpr rfl
  have hY := (en_v_const (E := E) (ρ := ρ) (ω := ω) hv).mpr rfl
  obtain ⟨k1, k2⟩ := en_lt_v he hX hY hk
  have key : ∀ w', o loc st hp w' ih = true → en_wq w w' → en_e ρ (en_ev w') → en_Good E kds P L FIN ((q / 65536, q % 65536, lv, sv, w.1, w.2.1) :: gs, h, o') := by
    intro w' hk' hw he'
    obtain ⟨e1, e2, e3, e4, e5⟩ := hw
    refine ho loc st hp w' ih _ hih hk' ⟨lv, sv, gs, h, o', ?_, hl, hs, hh, he', ?_, ?_, ?_⟩
    · rw [e1, e2]
    · rw [e5]; exact hx
    · rw [e3, e4]; exact hd
    · rw [e4]; exact hf
  by_cases hlt : ρ ((c - 4294967296) / 65536) + en_off c < en_d v
  · obtain ⟨w', h1, h2, h3⟩ := k1 hlt
    exact key w' h1 h2 h3
  · obtain ⟨w', h1, h2, h3⟩ := k2 hlt
    exact key w' h1 h2 h3
end RNH
end
section
/-! RUNS, 1: the law's start, short scripts, the switch, the light cases (wip/p1/run.py) -/
noncomputable def rn_fin : List Nat → en_H → en_W → Bool := fun v _ _ => List.rec (motive := fun _ => Bool) false (fun c r _ => List.rec (motive := fun _ => Bool) (Nat.beq c 2147483649) (fun _ _ _ => false) r) v
theorem rn_FS {E : mm_E} {ρ : Nat → Int32} {ω : Nat → Value} : en_FS E mt_kds mt_P 1000 ρ ω [] [] st_FIN rn_fin := by
  intro v vo hp w h hf hv _ _ _
  rcases hv with ⟨rfl, rfl⟩ | ⟨c, V, rfl, rfl, hv⟩
  · cases hf
  · have e : c = 2147483649 := Nat.eq_of_beq_eq_true hf
    subst e
    have hV := (en_v_const (by decide)).mp hv
    rw [show en_d 2147483649 = 1 by decide] at hV
    subst hV
    exact ⟨0, _, rfl, h, rfl⟩
/-- a place where a run stops, in this state -/
def rn_stop (loc0 : Nat) (st0 : List Nat) (hp0 : en_H) (w0 : en_W) : en_O → en_O := fun _ loc st hp w _ => decide (loc = loc0) && (decide (st = st0) && (decide (hp = hp0) && decide (w = w0)))
theorem rn_stop_ok {E : mm_E} {kds : List (List Nat)} {P : mm_T} {L : Nat} {ρ : Nat → Int32} {ω : Nat → Value} {h0 : mm_H} {fsC : List mm_F} {FIN : mm_C → Prop} {q loc0 : Nat} {st0 : List Nat} {hp0 : en_H} {w0 : en_W} (h : ∀ c, en_R E P L ρ ω h0 fsC q loc0 st0 hp0 w0 c → en_Good E kds P L FIN c) (o : en_O) : en_OS E kds P L ρ ω h0 fsC FIN q (rn_stop loc0 st0 hp0 w0 o) := by
  intro loc st hp w ih c hih hk hR
  simp only [rn_stop, Bool.and_eq_true, decide_eq_true_eq] at hk
  obtain ⟨rfl, rfl, rfl, rfl⟩ := hk
  exact h c hR
def rn_hp0 : en_H := (((((((0, 0), 0), 0), ((0, 0), (0, 0))), ((((((0, (0, 0)), 0), 0), ((((0, 0), (0, (0, 0))), (((0, 0), 0), (0, (0, (0, 0))))), 0)), ((0, 0), 0)), (0, ((((0, 0), ((0, 0), ((0, 0), 0))), (((0, (0, 0)), ((0, 0), (0, 0))), (((0, 0), (0, 0)), ((0, 0), (0, 0))))), (((((0, 0), (0, 0)), ((0, 0), (0, 0))), (((0, 0), (0, 0)), ((0, 0), (0, 0)))), ((((0, 0), (0, 0)), ((0, 0), (0, (0, 0)))), ((((0, 0), (0, 0)), ((0, 0), 0)), (0, (0, (0, 0)))))))))), 0), ((((((0, 0), 0), (0, (0, 0))), (0, 0)), 0), ((((((((0, 0), 0), (0, 0)), (0, (0, 0))), 0), (0, (((0, 0), (0, 0)), ((0, 0), (0, 0))))), 0), (((0, 0), 0), (0, ((0, ((0, 0), (0, 0))), (((0, 0), (0, 0)), ((0, 0), ((0, 0), (0, 0))))))))))
def rn_w0 : en_W := (600000, 7302250, 30, [], 0, [(0, 4294967295), (0, 4294967295), (0, 4294967295), (0, 4294967295), (0, 4294967295), (0, 4294967295)])
def rn_hp1 : en_H := (((((((185074580607725140711023436544551539393426708123811016346997769659590593804759806851441134615498535422303607820788056285235948813001102209121611001615318018353174546103186566975610334935754859603559418684100616905405174385422, (en_rep 2 2000 2147483648)), 46268644699475435470170963609547708703204613217389242168458102849207382223825170075903713353918212484704958326104739033726016168573292445629648387635532446397848444272925579324967056897419811208475115183192680426584043162380), 69992023714537591522497078148291069787855881547233333588879389213128693707987890727671336081517708551), (((en_rep 1 9 2147483648), 3564533058111354990690768492986223102624539627342490871533620568921992237581999503142743164208945031932772411559514539910823642965276888316321889447797390552276262502856883248605244103079870268191893901572313621509624121806085012170984893130034397926735894118878370046136494749499521241321718537661686096131136981268522075391765406733479011416339453539458842006657962936799071044705832589941726753287898883246267443997966461738179291329958763474604265375027320575805720775082231894089837061771040925616417072502232876883396273947811168292999521475216258735084917020863601371637764844476365691274916093358074042412742329420940516395098335565269130337478709024286158517305959614849840275080885567508392343809083102278608936686152393299590509456194803914963590981070341663217781389035273581373037546610005281438878244615359815910494655546916529786335129367345000167579112417865398214217757417747572890347560240860760614192310108181258379677617565849261523098975359206409540877837632240240921581127402111512080031255781425186637480852881295249105818115511662851724738825107549823859887999631248889285551741776381544153723543459512395325484487625723959143376405508377915290131651807272646491005647998957302542969793833045718841498293761205380823567597468414262891486116594234796391535050694641322035187931963880454756852476339878517898488573312297300880364386204079260493069846527307995104366998143174694788864803992732360077390816736910395634219002070512142558118402472646413170258535725315572335501831930056566846566233278144743711611466527533377639802771232599909792283811307422843261243022095819624166432456241187291351449196242550640227754527189560044992051187794912209566415247696036647735204940326355825395290059920325863317347242999731617989229751134868954341047901173182207864933474632398213196617482609836785814145785311466795561310042009799655452811464115527330923420332894449427732835076969470052280022763928224971944848555629423855824579252797023644131943731438487442976931937886271038299128150754302248667768986562196326842048547779887496847285701997606137094566733518563504217436089682031039255140498934937479913163526011786880008062718713963658618203237709323023102118415105129338473331744250244781307825169146420174490553494660366751186321531892990243791608064551904578381216555928661150987810019442241401324489863064301776389942947372949717751757938821492447253833887502553638854151624450109054213499433110840003861307630686941671130007938584178743283722106207416453848396118874204825289984856097335596401041381719067532644557286181685093244581498048896705912850876428613596083526795096218581930883982923920237110050825969928521705836338158844917386846691305381517312204478587069162159788183935248088902452480081312216877273677966866347573215593067197287203109539267530380932432864495463364037312522234371039879233103920810181810938130933294395154860955588878933653860023022875761421636061960048906501771185952956353018410130371349460212164349401616492404236460781279505701131226525142517979276595319063490215074040200530266101833443138578016249541672322479154559915811386099917101806756679067733547483709953299353793637433348832288356900259633661154015452369740693503411231417050501999932773267221879237296950025838948534158070312248680718201140545839925746938665129928356563091552268043693183942361313596803268124846753147324513291944945864804558619789363998936577320632277102987195969059221874200983153293993097409287196840076740640206038683488964945929514634524832609240976882127443472810372700681896398627660886896156138405908244398602983108571501100716445148440245273152804324455464286458084032072629825569909668048015081388946296421985913620949918057024453589025954506238065146152456375064564417418687515151975321712332192160487755094515204145868111614664458282118564955410036879028059778157494512259995169175378571297034856573796722267714859839329384108319746520932209427612522042456285109823460141907978594824014779292211805800300595401282358870324487406246282273705375659291634186269600119781547275657981344853517853372855131294065246757437621578846361518865798601931247130892527716733468920831671065309137907962977871036545774207859730754484314860946162644180780552827570311235247274872818896345424775666800362356879764756046481816921636282850811854098526988182432378471219837975216077866782304270532613735861624220609605962774239326064548723784946956752293420959990335874681669006387363137043756196945568076540392135943595160465619737686057185465531476349486832967211109951805205578745200848071951946917627732669250294127605429561324529361321304266887290319796355115457896560742957805561222515389258848549123722025464278477625725038909464061814826549392221092497897973881722077902351450439355352073840842079191133496884919954089501569719738348225854234908538898863481000247467225686437970790764039469949144719213867406234315498059647857891517380087642247800956476146777529470118895625575377819255168903681565689905630186438224418574168255883569664367323710026248381340966109273266683652536826862771013342925943861605909229150032587380411947942480300736449771725783818800592242676415213927791806739040192942573932380273372460788402745267605887445811760080660982985134815290099779479788684265815316683393099063342093083492653303644415124649570792599344252198549401764445708560325787302230756341038378843807835823141745148938289056865955251974497468709813848761856947391474500199859106087575590170542899041753849069066049045831374307068859852379806053162348463609758251525045406020269629361920101837837841980795608552645819170880370643657123643766905035041684653939707143307968634319706551935502899395225778647743320855886161424032509445748548588812935397659769781056700777524220073700980621799399388502179250731598353599134750067815014120717528849799554146919017743616662997145964567293135588443712408239443719596698487998042373691129585851762055606924575093101269258759725060851783478142801623062104991629514645279547153588015132772989793133656644749297711845470766427942916012935363319223319140294760596918059210139067218596693556805782526440612988842358379616932805345839624177414641689848523994356160925498882803802414028221818926012090082207877762352909460628492367219123349482962469485267524286540298833180663441846237304068710644855278390843154278538378341438340032674045074605104664048303527099216692105784851832924455124917704178624577271157800644422198582278257658613635126357201954999467883678919167600793168611538689708580713133474722801043474720178035445394276233804653461414493877586233088749846394742890173236622478778130265784087738320348626634043771165888115126400497504114738280703648960692256419120643050326547364155109836340190579128360682059080494013616499668759270481525502246247456809884037201695516907895544667807599641010623009027456663647158966640057368557492287081765198253532185968748432070509307858266741751788074322492923034376927609683572473846730867225443706962746852240633127813803002888905447764569304518932739100498696936546153427437491904213335194814940813699544904508892987232394523946013699457868048419989514037017813882415784588595439764754278319227819625931132934173076359283413255222406255313386758127016284768067871089034480618270122054679940686935493117703012553111519386776048586600123176458464458293258964675329611098364185462806817078526359434095592616381088843986568726834848643812822598088894895073856703538249651679208934635713515194825668042571049184739750413593529292061665710933631159394943119150318339458571479669446295270363295663617942648855372398938274832873634834901316479067866318200712853792769139490096804178163687084654785436823767288937114564529264462104237735239228865057799280265767752320940671444593066645650389735232203857785492410531239801094494114330416759073728609543278045500108926839669340414597835817527234415033842525325384079764141452378482917756854345868523694694956942574185588462503899984481791928742471380342935705419979998623519451280116731632907683786889278804608057288064997934027781569118524012551361838305365592184367687277116686510407815364287531298408186679085314741911226591684686235785778796147303828160452564860334678305324101829362371378841635638694619344011961925037395413897354030289946262376280359671851809694198354029432467721708852472531706285382517397610528204064098774555865660891543117890815783136820225331308610607954215342599853238187663107780133453328977899208629146131138523145257349179827003812831442414559504290993464184780246765654346406251260900315465910928537312480343881747574315411660137761599932690993939823438447827267513650540500072772387665882187209773238736062437875989072433155978684777129243715094298831775134165110851295452604516402154396300418606704205877731743640143245938382740165491163576066579700545119509958591169866085090672276589566037429673814193947488310483560619864282331382069067378849853441), (6097165177084915061853841915496054518536295516074050519035318173311772917605207130734778469152264760591379188345331487579943428062615923853057, (en_rep 1 32 2147483648)))), (((((((en_rep 1 24 2147483648), (20657999024695268717317345399217151376217803556100310009904804550960083696430775487074181660039444458980143126423638377985, 354901720847464302027239469372694916652547433785613331152010286478582099510371890579608323823329616085312512965554881072698786579972)), 46268644699475435470170963609547708703204613217389242168458102849207382223825170075903713353918212484704958326104739033726016168573292445629648387635533440249322382114110973297110997199485287720865817699226765730849832831756), 69992023714537591522497078149284921261793722732627305732819691278605206098690406761756640347307377927), (((((en_rep 1 9 2147483648), 3564533058111354990690768492986223102624539627342490871533620568921992237581999503142743164208945031932772411559514539910823642965276888316321889447797390552276262502856883248605244103079870268191893901572313621509624121806085012170984893130034397926735894118878370046136494749499521241321718537661686096131136981268522075391765406733479011416339453539458842006657962936799071044705832589941726753287898883246267443997966461738179291329958763474604265375027320575805720775082231894089837061771040925616417072502232876883396273947811168292999521475216258735084917020863601371637764844476365691274916093358074042412742329420940516395098335565269130337478709024286158517305959614849840275080885567508392343809083102278608936686152393299590509456194803914963590981070341663217781389035273581373037546610005281438878244615359815910494655546916529786335129367345000167579112417865398214217757417747572890347560240860760614192310108181258379677617565849261523098975359206409540877837632240240921581127402111512080031255781425186637480852881295249105818115511662851724738825107549823859887999631248889285551741776381544153723543459512395325484487625723959143376405508377915290131651807272646491005647998957302542969793833045718841498293761205380823567597468414262891486116594234796391535050694641322035187931963880454756852476339878517898488573312297300880364386204079260493069846527307995104366998143174694788864803992732360077390816736910395634219002070512142558118402472646413170258535725315572335501831930056566846566233278144743711611466527533377639802771232599909792283811307422843261243022095819624166432456241187291351449196242550640227754527189560044992051187794912209566415247696036647735204940326355825395290059920325863317347242999731617989229751134868954341047901173182207864933474632398213196617482609836785814145785311466795561310042009799655452811464115527330923420332894449427732835076969470052280022763928224971944848555629423855824579252797023644131943731438487442976931937886271038299128150754302248667768986562196326842048547779887496847285701997606137094566733518563504217436089682031039255140498934937479913163526011786880008062718713963658618203237709323023102118415105129338473331744250244781307825169146420174490553494660366751186321531892990243791608064551904578381216555928661150987810019442241401324489863064301776389942947372949717751757938821492447253833887502553638854151624450109054213499433110840003861307630686941671130007938584178743283722106207416453848396118874204825289984856097335596401041381719067532644557286181685093244581498048896705912850876428613596083526795096218581930883982923920237110050825969928521705836338158844917386846691305381517312204478587069162159788183935248088902452480081312216877273677966866347573215593067197287203109539267530380932432864495463364037312522234371039879233103920810181810938130933294395154860955588878933653860023022875761421636061960048906501771185952956353018410130371349460212164349401616492404236460781279505701131226525142517979276595319063490215074040200530266101833443138578016249541672322479154559915811386099917101806756679067733547483709953299353793637433348832288356900259633661154015452369740693503411231417050501999932773267221879237296950025838948534158070312248680718201140545839925746938665129928356563091552268043693183942361313596803268124846753147324513291944945864804558619789363998936577320632277102987195969059221874200983153293993097409287196840076740640206038683488964945929514634524832609240976882127443472810372700681896398627660886896156138405908244398602983108571501100716445148440245273152804324455464286458084032072629825569909668048015081388946296421985913620949918057024453589025954506238065146152456375064564417418687515151975321712332192160487755094515204145868111614664458282118564955410036879028059778157494512259995169175378571297034856573796722267714859839329384108319746520932209427612522042456285109823460141907978594824014779292211805800300595401282358870324487406246282273705375659291634186269600119781547275657981344853517853372855131294065246757437621578846361518865798601931247130892527716733468920831671065309137907962977871036545774207859730754484314860946162644180780552827570311235247274872818896345424775666800362356879764756046481816921636282850811854098526988182432378471219837975216077866782304270532613735861624220609605962774239326064548723784946956752293420959990335874681669006387363137043756196945568076540392135943595160465619737686057185465531476349486832967211109951805205578745200848071951946917627732669250294127605429561324529361321304266887290319796355115457896560742957805561222515389258848549123722025464278477625725038909464061814826549392221092497897973881722077902351450439355352073840842079191133496884919954089501569719738348225854234908538898863481000247467225686437970790764039469949144719213867406234315498059647857891517380087642247800956476146777529470118895625575377819255168903681565689905630186438224418574168255883569664367323710026248381340966109273266683652536826862771013342925943861605909229150032587380411947942480300736449771725783818800592242676415213927791806739040192942573932380273372460788402745267605887445811760080660982985134815290099779479788684265815316683393099063342093083492653303644415124649570792599344252198549401764445708560325787302230756341038378843807835823141745148938289056865955251974497468709813848761856947391474500199859106087575590170542899041753849069066049045831374307068859852379806053162348463609758251525045406020269629361920101837837841980795608552645819170880370643657123643766905035041684653939707143307968634319706551935502899395225778647743320855886161424032509445748548588812935397659769781056700777524220073700980621799399388502179250731598353599134750067815014120717528849799554146919017743616662997145964567293135588443712408239443719596698487998042373691129585851762055606924575093101269258759725060851783478142801623062104991629514645279547153588015132772989793133656644749297711845470766427942916012935363319223319140294760596918059210139067218596693556805782526440612988842358379616932805345839624177414641689848523994356160925498882803802414028221818926012090082207877762352909460628492367219123349482962469485267524286540298833180663441846237304068710644855278390843154278538378341438340032674045074605104664048303527099216692105784851832924455124917704178624577271157800644422198582278257658613635126357201954999467883678919167600793168611538689708580713133474722801043474720178035445394276233804653461414493877586233088749846394742890173236622478778130265784087738320348626634043771165888115126400497504114738280703648960692256419120643050326547364155109836340190579128360682059080494013616499668759270481525502246247456809884037201695516907895544667807599641010623009027456663647158966640057368557492287081765198253532185968748432070509307858266741751788074322492923034376927609683572473846730867225443706962746852240633127813803002888905447764569304518932739100498696936546153427437491904213335194814940813699544904508892987232394523946013699457868048419989514037017813882415784588595439764754278319227819625931132934173076359283413255222406255313386758127016284768067871089034480618270122054679940686935493117703012553111519386776048586600123176458464458293258964675329611098364185462806817078526359434095592616381088843986568726834848643812822598088894895073856703538249651679208934635713515194825668042571049184739750413593529292061665710933631159394943119150318339458571479669446295270363295663617942648855372398938274832873634834901316479067866318200712853792769139490096804178163687084654785436823767288937114564529264462104237735239228865057799280265767752320940671444593066645650389735232203857785492410531239801094494114330416759073728609543278045500108926839669340414597835817527234415033842525325384079764141452378482917756854345868523694694956942574185588462503899984481791928742471380342935705419979998623519451280116731632907683786889278804608057288064997934027781569118524012551361838305365592184367687277116686510407815364287531298408186679085314741911226591684686235785778796147303828160452564860334678305324101829362371378841635638694619344011961925037395413897354030289946262376280359671851809694198354029432467721708852472531706285382517397610528204064098774555865660891543117890815783136820225331308610607954215342599853238187663107780133453328977899208629146131138523145257349179827003812831442414559504290993464184780246765654346406251260900315465910928537312480343881747574315411660137761599932690993939823438447827267513650540500072772387665882187209773238736062437875989072433155978684777129243715094298831775134165110851295452604516402154396300418606704205877731743640143245938382740165491163576066579700545119509958591169866085090672276589566037429673814193947488310483560619864282331382069067378849853441), (6097165177084915061853841915496054518536295516074050519035318173311772917605207130734778469152264760591379188345331487579943428062615923853057, ((en_rep 1 32 2147483648), (en_rep 1 24 2147483648)))), (((20657999024695268717317345399217151376217803556100310009904804550960083696430775487074181660039444458980143126423638377985, 354901720847464302027239469372694916652547433785613331152010286478582099510371890579608323823329616085312512965554881072698786579972), 156764265941034957982862350837669234443402804815969158677356399637698771997432538949166023213710199665120485767136518829093388544346977300545227900789535788324716212403652840576620210120342617409546357258), (6097165137335922326937840088464473209632758068861350692118369852315588074174347988074782588498460533699014135032091567911622941646557179545357, ((en_rep 1 401 2147483648), ((en_rep 1 401 2147483648), (en_rep 4 401 36893488147419103232)))))), 69992023160463805958805436086226776244982058465146362771642584559050058968299170048955636365096125707)), ((153434160245132195762117339065653985682146349549946687836900937469280166304895885421835780694592219264851323202541356201051426157615363026398413358662007052756826717256591983331419243120261635841436728379059087306109306482673482933757666107659005728710374493025177805058860956614668119074602590320305136671457856722622529784552325874589429311243780532549515017767367449527211628487673265668463389134784543731020809695738878692948057302837536088961167776397206420147435089345079586272596691390237124752791226010729408990146053232795352445895142564436737, 20657999024695268717317345399217151376217803556100310009904804550960083696430775487074181660039444458980143126423638377985), 69992023160463805958805436086226776244982058465146362771642584559050062771250970733643840868090643723)), ((en_rep 1 27 2147483648), ((((20657999024695268717317345399217151376217803556100310009904804550960083696430775487074181660039444458980143126423638377985, 6097165140175136093779528502093161835432516193761113940738414116884299238038693284886177326977200899151442557177980487921509879301312692094726), ((2249186347650526669350560724350667784549254043164441043983140695824760206090022062034767850949460049100651071180835781981946680035226126609745854314958105732727964725614053383316203724149838040390912352415378355838701716991851154739413283245932582943541757417382060114295862223472865337873904647680241379790792978213667109413441160096014903379720396266124870315272391490756570205710227075899303175904567293064691883251330976556252509299673806751635705638479025955362868639260722757951411807693308612238315649140857983247557092911187563107127863092367130850399049265726245816656520141238438395455721071728430471198750064254197545675151379168644235490173383873254101026160522421083278824391206255804614841639198596462256512402585327584334302183005628116574631176803317523024279954730414435571970201530937433753294232192707465324559926097671325119939330827940212222354241428023024597674832341161582940307132741268562499598359590038351328269978337105714401069004462159781287401285029767453575011991821466439318008580807439951989979223442736982074518041390433998636309626079413123983223886876647954726378868549715204363689092839074794154633471977045195852384955308408841165555453426258183181212340344062109321159901508555658844898701525143070981684966054608914516073718519578399596600965926522864062937805545754769637908760451627216943138264198644706392504967170772012177440570108626179112907258855231357590822776704850400745522398252076385965804498816229545819540683646554065963382821866225120794233706242342614687472434469486516610819198502050108607197034979552179757149748645648029953210692447098342291305702298175540731125248733792450141193346240731945248406870123941605660879576967902695474827697853607777010389280904311811254500889164564653551202183331478104346354659789986975516910933506085465673120275772051020476270990239492589143263030874491108144329555891282439190395851719692262220795962948156200188793693025640085291686267503669865560189175404039586347894011622987111513622259167265271895457559156967267070750287851440104792523951602906465711137830921173413196115993891529967214121014981753359827464921221362515854933581412775370009187423203221220872542121393498154398491978729563420153028340005942257308558005355875542391487276979031800374978692426873842269681417249919841224784943891293120743733688878105447114606990607553014488401606972033087811937159466369981487984354463044213932111693428599409149374654999365927248122099525287247207727151678399350084385053583504376426313131041907404346410110438210779406478421596102286163047315650778279218003606225504737211819913144978942994946745661129162118198657162845756261042650667131487612504400480912388315853071060773419391617321825253542574487426043290750719310461497816566119434973584648886508422400612066308776343076028663912952828226600440912897497072782269594218929903559038641146921405381241462850808803146362730913856395707484308117789500773596545732464780648109736400239500238881151272536482077988976444004776182220860805586973133080920818727234355080656397415731773545557329683700233269550492203098838413887261768297237733907156524647459709868575897487514235406677714797840682865100170208414519424308579321109196363308226035085191500169558663868892901794029289784361939500128353241612128333416502883072455959219535546115927928864323624138867578196808296658644836330403875181669004017454656675018029763525082250997835964652878900644549787320647261696221107385442979424351722727634082899862630511029007803604151448333484268191386071999963061330356219387493423843843478643520400639691182744036776291983796025998709201830266199185757411954587257243714678567685416847502483057650847564726631186103011969651910716114290034252388291276368464384736022416984280622309562587078766439626602291300299264162407019317850143255850868253179378019486243012140804616116942875429506745132186529720591542599624432294088070415715503383962534566888977402416291462001801276355512786230912426817896295118472149032979169552029961931970301041676423583730451632283855399119995511914228151360443020242721151625235372710525747020424602418477480801404403659818749136407654482662470603309944834228761069556738326608645858973130226409904671445081946827819186100886633074465785775919694079777075392123543244125619208948083445569576102170557046393180240999874681009354872702209630245730691574727041776547125124653461181762687378596213227898186537813118393627997703822611749555394067297056410067902765761586343087137919886376584038307928447195073808509734350003296046516914542383396971956543679354300437438976879256421408704944641544854440871915479912800037020410555007275524881123333234869683964443837266133330217664172768221766464615983469462599170654729633838566113145820832723622788548107993517742420728632268414238706014429386315012405236775087818374924293618138830578765831998919066670516098869473148805589909174586651234407986931806358610012412436804685611888094570302339122068725646792857557050544725265394360327093945517770343811097629296828875310022592903032304770607554294364244711578745326068179263412950662500284856220970167723509191797976444319663496939200505498429396133927828356410842392573642115223760604789532114862693470279653292812238597373161429991199905461058079606467530484611489839568402350373121925715082808776523090517317241143767376640305873120481454707683809714757700673395302016401401010549295696835570570720103699661637010704278548947221971511160215252934220057076796111872125121969990067910042277381537552241737776175923174058928930197424466261421624197659837663659970826101785613862681713480609154022791241032815827750295191019267621487129456265383026269749878319766450109119912331408887273404057566301624413909167225076083770248214204028317139706415209876410579528568843487533075878201086691205009969029614826422059688107934096567576375279028483262420780231415684093350392712191156463524161258782290224845218993877336665778515732773004456166877718213330192276758071275148936506476240152936594944014508253178095343423592447707392050094329472051608952981005058412389681063385408917795636027269962022588261013852273110017254760312315077934821329351262787784347881245006326404843753140702688871131764232693781680080339946820753985433045798008043488728856731636714049951450226624971895702620759716842014565656878986809522351757091061232579774402470867038594933040509354872240410155467222482522098709661715514084311169249155466341045993871048525383633029674557395119098206944132226523961832972355402540082734573552215956637576937601361283381481625657299312270751780483667005495508475978223832861870536098069567521958133825943598100771490728884577061443176410076480905489789174907711654698573469420615861788116230708103641927727961012676628369859835097690813974760678869682678444609684334779545263160970664543885660927841127718066033537825699906850408523403583264051907270440223072351647622100274630375581329701172946045504210434999042815513094836919897934251305528735358035960812579834874473019634129601035621535156186611446433719898332467760601863755976770982070006355000029901224487082996144427310823567640133510600559347987850315055348619497964751472702980194357849213565115013987667618784843613456616784290111977908522732538444967318747317883790680006466517528812714778138946363749127287040743797734583538361510683515193346770934392084897198668456552904523364168623661308894023083716920438204503350850238279818152885545573031942562955507960196745180363504154760849313091382181291223653894107231657266240730248040455255286032020798806216327875895763955923910078257530226479111272863605912773878041146526499772657055478358866124825983535999256205142789473954103014022554681340842056169482999644051385232051892681641505381223140561466611325716944945434698090399101985862862063798772916910807447569858797431576799291903122681243201848325168891117489175386093282323820599500247807212028411428342869858954222264451132315820345045364921178462574866438086969028966020448434573303666934438425620999657195181962739285436064605954113788377367142938622939013474123613178189230429267611161534657107005871968498485096312977221502156309875814618851066125825740429964950368933243151137789103387293211889505568872248659255425768915442097266965530266151152003620657301293348327499211750850808011632590512111938340352781758996086303481583481745722622445264051074736407913825215181732646027137772913685792856689398706141817359425201889739441062379523919776060866586572839831544364236578501586742232419532082786425998510821063152759504639829452603607956402697442509598364180523649451103370907869542543966846410607651869208557437645958039638794164874388448144850599863340786850136951939304129438460050866988955853876576731605924485580010186052739550194559564611355006757958863059162856746136978789151342296760331912968687747088275890266114858417838577492495428036985342853722526654600910512136834368302549998385596129415500816024155889214839652514802329183379683573482481503075382222399946339158538916269704404822319147531501270156327514586307812233643337180698909779762792795739709237219374988492317272666248823060364827339192269513828500319387768510142737887031134791167665965232267330642283666593013228471074976918083694773753942619278654517877662878628289917292036402985612627971242463992950517284416776121705564907794541177115474704088586074475545357636483743309331768371689896057625117582273533855820245723948597079799884841323114770450751283147522692053444313693792429874885594258501510312796901911788293712158498949824639696819518432417902286049712684386404503838464949965580568230341023392958394184860690401399395198821218813502771287408795546815403905684813866533523143003394396103014280197021637706205515561196328082185592453062860243728554857987020492596276461595513825736773685115003967024298928254547764347693020414070156031000108178208507770121995583681185729484062003454269975359841343320778783597125246597526552512886054617605807713481600913080094986104238685229394515656569768308363231786085304182522432693095305802967725105825145218377642268808135733406970611570782451635819179565518279809535044549654534792885769081652559295855481447535077551496323509456744091392628332694823779755131320976207507021592026961813884435415248599776629711986998660638492265428378686765309361372987167285355906850571011982553919528458874610140713935008444119937489792326752086405924078021887202760652383884148642526125793681169540102978180174826340820095450971612797775123065484306676093054863370354064049254314711882155337959721704368745676381287590474695583094702641297589798531919818259177210517104955365987884774720335586847543540646119813404828289646181309882160424655133821776248295311631928714891320542140553359949518274844946673738405430186494981675627051304490227345634807416989466589865536712619685326774582328546659287033197664260286400877052042896025837207890034185112148925543355214417558072697259390252103542314837228826864421182318012568113524258014781758180008602360399015137391506252979657156667769815059761828458048183483628480256452562297890198706393799611491609340179910155228157333670073313320411071529681133926258763066203136330161804050177653597210023588285008858782182286619920330152395609986574245783101365186877511888685256480110727990310258403542813707139713803543048555842283241630504272237394759389643470487103913285789480737351252349185548384243522959324701412238473424118019061586828218926788686992825252495920523859358595434054499468485997427241980294301413335079832858596462660598199286635139434832107957567251892920326694655868418872279680714526070003488454403755343401308894276518196678156305272459905643161984184216715563811069313508520557256894676107360514271005613588088628897114130883916635199573159132738584654659813755580281553856475148006206647193958400030442002677734978855199015767501919095003490730537976022298167484040656174385793597056112274002430049202020360990587984425380751817592676350221466695487365686670099423681207626928043245162062377266465339981738948691624502653754901152474573775903727444785272146064019528158967320327057416323247966683439433009004956325933693985343145198765865050686204832063661326252198707230669314964062637812806816466835396191752932299509266760154444673603909200235712853296676327013736977341532868593050715275973243139386436259246592884985794815417873656830172060363086712108907906684967299801137004696586514305281914867499084969511244650595802853197497071538299408793874678156418055512943846062204410137114803197830937638967829890155912797587642750007764934075678047860269445747080160165986819894835675286496595161525721649738764978346931270219720086738576254379083939216443602150280314892342731802683489305119007815572131546191511433193641809232355351784937701741886470671233382558355150534593441762251425463063022392676247698115548485245010716998599381012077049835971040387056034620587317251084516708177852207891889005378040063040732852481326761485244833398574084525119124513491412389522257994430378875204027465303028364570905206030106055646584149236827158794625554860573981953097387672684119699260346693150801492245458026201744164504134800695729053519860989334086377514255012296980384111755943982933259299330677590099809429545814672399548175250464672953700326696665942509436972994444654058987715626149938598059121741890265231994480931286483977123603077224754284389280955066860251419727521885321190875752104178729243963632497664880883594804573455939227185602209342563657362711853076782891852623420281822680339260693640382248209402064006982303607484376957084357712258532710966876008105487662068990612507179480087121489370755325548558267546881822358657579623941785775397578938445971653869345513127716637622843656800015531412180509796299213046820920687529840491137108741498693302041924116486342773118103513052515556006060560255217051992590315731289163789422791029026000774633013384898240986834082309180565377045321817474772327109092072193095951941148931516720631402616100170165947208428193588983839368786457843564481001879396684723701863269336802748675019784950465474603556050935414939333935522504847823873476509470462285033704934622620612744866431903860427453061409805570305052815670658754395703281905898360958534199580302376290390643437738006436238620047358096803501584993549138469852150880328001492597399557654489666762793668650000601027544162771233673344619277543345380329456412724529955733168103480656416515778831652159160136821021898170391918591161611764160357616657504386446358114380389511519792791147596952771020599563484020071011466755574018073503384245860304059288549015859319360966863441084955791939044159745958860514071612000597701289437421893790614153800325148073331370279197161912357728630767247627617417070226649946879754052312869194091181383510007559297196741847380929224429008358661295346267221831153301336522077352615965499582314208320532464682705094185971233238991630870977233195775838974536358630201542623327169153498936621449793384830090231124982596658020441093108606412747116675039867537115460303133613472091416066136193204898481228921406351065989187686959249722793816470953200693892190301595077807065498292860516580807899639294716149690721155206667681370842985842479131661920708934284317884611328124039546595200535088926979886650752694159936839461033122885150812059857511722903155570003574403462835647383947718724814126229668857223190846366646967357163900670725815360943599534212078332713626329184789824549048470172572598999153753568352097639514173996367358051000504176814212372365090749083511709481939557216808814369202937384973313371787707433261284658612984696372832200976256366057336124365085287378642385687624039340715687644130826430671947834821844129103192960855473871970693990409132899631937543279236148407357751779031386252971551465200148877353241803346770168071814371395606956227471101110136445253374669365967127838248387454468360684792948722596287606181683102544362224904656714989929354800765539401888429918104220844190644448968947916804538177837002796540333934733945747098594653370794245831776377067761734579673931891534286211599975110428914286028744444842518295668539159595179969544978081408856064574696945519844431961532645811173282500210331160995127467559122247005752009605276976368817011508519490346528100910149255693272863007407470150049876940616570816485555921080755138584312280986885728126797350999307514092080196800946235975716936225107641210208954736562024984851101684264015000287510286249286470063873600377834257609429518159409601954410502964623896807325404134737093603465598747561432079659476362924991441720600709026058772117216862631895111270561309011541683195724164708853409998891222356449018526280848562100918190471072553725607942873116148360768675069451101720776493101118926682215082570762626009963795687484893292796180076317143663156184283408729591616349398877328413844443825350313793197515531427532149986983211863394872523535002268862330315464257050536206438040005459438652441042321389938690290386790939524898850991576488636870703291565541580997541445476089476017871154708165332687684407552437973384621470258819149790631950327058126171546160367569721002684592587495342242440324751846172467252549012508870374549039371767277269794699836897884299029350181244568587579979548443892713646029652123806999262415360477255430209897431764103137744599380788293533889190544472278034269503656295948677101100482954409558752364670329733128687918137045043759752205976794876001864313276068993073092559950544720234606743043107809446472787308916140565984960151523445609402656349313385700768757806839708242185297996576017210330882537255110721276692650583922106654008071033910590683832991330643786305070918586011964947192382647381376314542142351601518637650390970711141945758956104349492611325374220205859521379287091371585700451998421554828713436811793901461082969354030519440301953806722856175789170800379876420539131749647419206129931021408052616390536219543844414463447444589107447779759791956607930631693429691272707778674708721711995066493978557299364680209906540964940175383883522050896014146673924634542514383952263222121965576519625990646223832514739695759166175308574196523009685807975202942766960948286031988404882560850267331227324936465961463334846070945748390280726237103767168731948270167707062101183566581084639989696413631040179701332952774377338866481345465333310828933596505624117701988831494256349272841647922659927211060033807075911129027524320497112514838414318812199971799571303460087175842051263028728437629407039929369042007362972581869282243857233476437829249706409429878715945325610839969199576835201789200401797812297714628536896400095640098238989260065430325716357290110928719457402673703820172793324720826641628586951374774230206872661645805021565642538544271103657870344514983179131845794654128814067015850809534732879719996946232562635578939299526423260710518707085943301320489564392073357603272411365938166750603822592540145250459561949329266726195910595113870031440393064661682217467709563457905655914764666401508366961414081255067460125251093406774974357948931793700042773411596698589920354618316001080183664257912244833883549055010454333351077591608682888271705221564212886657757269043212983930106151799482961126340033926789611519735372977973437593838666485684450783144472745183523249441313663274535380463273606970083925653899960891725253073226592421278605094738998432904858723121220374348653328192936600063974188559984668074110292350266886129587175018396042843586619912286229306091154762206063120959232233694174417949433313032441066002462462588796876901498006533435649971078438680638807754070405534204128207646598914455753058684490337737969221887537341645415451297573037598804068176619070297848576114490132358992422649725797314536702415747703131762171058038547655998270511816012547262752103657754107744263939878006152010393172684064580555545464259527562596130562747441729027473627781262042626266081640566630154523656921967655809295403917733385785500609193739152850492961811197408620672904593346758205648375140339918803206662742215567415328691805709951275165870929849623538886073583846450032267153647769015966961107550239445140111086242954432105696771511222043763291165987932200690850703190671171461442388990325703106387111723308973044362118449488779035644343729829545675864611875474644858121826188272816593912390980978872280621723883772226501080018161585706595824665080319655912515857623439413412940523905050382340878128275148760368062356797979391716371471380793317478128317166351775570929042517194875914917591524913824629162272733759451180883761978324695532938158894351181386164796114575212159786480729514015523054015873641993869385428144340056233370927442323261285393028265893025084507384139952643855134612290073687836290128895843987810892369250003585734317144931419389597030380596258988778567115187696859119813341132586614053215852786640683131164583333885021466464721186383939890741573028502114762870690046640412007898004031490191057796689486013192415240995035790222589115312255258265324343554964732963313635816342192396478710476581307999278093906785022619913140986398183214063013996879157589490694542309255427175688507382324887314919095008563751228070734797955858556891949100254817540588533126691683342398383550595144633923546990374162032027549650955791286423864420999332159516081143167510818300911707575012170333635538917431262019734975439323169956132542716931571068193178043788201604765527102216361198940541043855959238492478739973606453065256250049214245506789320171365844107196771136867210226489722964530648892464100059062307086469126011331198235761307103268920696581649592347324212205225343204376419470054236497647231789302156276568412583366166930153878053447750052961219066837648733052077299284941542231109366442500348983903170711742024058079360288000509157644883445100201281896224875152627018843003451362000004983052011352177740918493957084793358875314850173979449268913733142479833760921865421404143387109520228742320180164763024734751717702822900791108419198369742149070153487057894240285054980822799264946519381669281281949152773491584014982842522816290109786124825898617667051642278384494274345446696502014948718945865575599450497181586092531854004042701894096937984453554494143038238436015555897666153619679120689919772415327090079320104787078541546766704226732604576699690995330409242665834425288314042841669106488948786545388259574654852595223632786100925575328566629461870956765073283767422855624513850341291918834731541751024952360952431627840023292746789889098441984628177745590298202474651398473719310025353297431454629241630236873484609801304488453099414055667454879629049429640070389288354926248724566295132962639150023329677408732381083803373767835934577375442553774360677169926074680193976438120460399030374863041406261997461293377587775522220754637510276482709267505573993760088205543129648931098489727741206016363876122201042174914410672373475408389971508641644192125884198360646353006227616113408217433721113781053576066899615054129439934354221906159365782121539600636814895331324548177497557094276733145280558055677242329893518594927850408816836400830242904765390422102675475268250905860099742144643677493067580066091515724879820483607695863602158574158404001630473135257441755702753056806388667683007854528732961293732051750584591652652336454069957932970831914092995707886644304289675785112604559205020453193323755592689077180734538648588421551058473518070283226522357479268534767626157593150575497593135551488144230596330739769768578889717268258268898856056800436618999213123976709353918595845156092254558354397299200068307318679920469032522428701820714284058393091957620650415345086916268577796030678424837219189449726547483752915145582126557449062815943951364087773860006985867585417456101622800755169757594153265008460720667537551036202280975853065905688662534399705383045240068662184701148877230799378281554329342910889740815444837353938424995300324976244927467530354811571042050510364460387649435226967068367603419640260957462040655467426897770730731210957702558850991966488207595733921601429101944466025637369838467262097046542050002643830881778818837271013065141603168882803061573336907891852070033188617014808979940944562109805935598969517548326441269085843390388239633267023270851548678786266464936094583144112212030075474170903890889325525459870706606273513940195882286643381041096180774978135823806857377363508131370165188917590364755292516182001518949130352550986772119344142958069185071822634967458898155195365239446385119018975334716216578292154697200527137601789043045368298629233145195983166753020971516511400333914636639898423552038641649082536874940235900487137469167189091290614412817860582759791033618455324894861228266706567280147758488060472448440174720052622384974040184856817433811162132927944411968147559840810061150006282445323850208247062782328151931003813728898382225424365907909585776139287161476335740348161117454383571726358277264604032981193113163786370054829884017137376675859043868797869033718802461079936348650941211190552624596094947750066582542190270275747215812533487059849441208339700671464720224877789379951297687407562003948620020290437708156419791538672882309716803250995256052355637034913003269126097546999334275453773360103756940796836091761053528040312965728216000876522505884994671597261518160072171547119515183010525175716754232201078436672896729288114684330744881063634008152671816234101595530523901259692326895497034328711012173664298245089013584243576181406513685432592729484634434229272397950450949945876604635099839372903177703564738385431850031780956827676471123836511424366980928676512244816670586461321990636757759569189756309290761332393099936673693378322777044574024785728988785220990781697530341846884518207666785731788671130715759785745433604208620201901645961869059103258881707342675312302330993852780690270931622291736291803257874609927192764760776516546370530254380683126359274919093263731769742032308818372436128869229057401356299168931462085810526645331402756391261074486233490323278618050250043331568689576953773014497261604526881478156760546482385007276505379276433516850507881100497894786858927094107236423976690932542021615639738817510531091882538582660470390634276432713802561345604988478275493574706054384196081408852192289238650899892568830746402406027762875285396069877962623167979088839480459144536755489410843129202636693593380373189952647015130741294460211815415173022658657333673874159708250227178551848981432145870374186022053232528927610254961127714603387958720012993437090835143785149380549539633553012588056858993182737673511176762894029783671551474299292536703817316971327266736137439923806827183684968665295082948234684038316450898952656281637454652150498670353024639988809211638948934028760827319979712762186783122089207330070302942685564120596950308595278499015835224772779737452146085364272713889696405239447734377509633195452380146890778839045653232010966394759894887918999112961139001638239423318594126555021317155698901772138864433653172933670719981331997294263973516665750300487250063070778059575981302232130426806637241471257143957255154962645418642969845342845741912182234483895671117877058439652643502460194131804691640334033722455052834375535102377748541488990820252442953709743703321109497856302647766880750282793359333285889352593816076584574522953569820500324623874470910954382063055132812612323800001875157627315175203336532970504054981804399677087737906731723480365431931222901968105528375999482572587067203202479346882158763194502966776859616426669912169898159620736291941120328839383799736436045014435182661838803187941834453825838032194589452230602295915694075540808479825998932152800696002606262389171013627426260973973224295695187442927710610909499696979132499292797609417854409036570369937252471415972347655011853705145277005023243393353314789857011031758341582090640243013546319687727115409862872646327150319057431193884832730577558434096862382294290453939265009918909464893921999601591870853789298825241430930380283233601141508754904784128460537010051057080049630253440488238857984094518176401073574756987214221720717682253567835293642762122186309224072993855879101771948832015125916995666612035927359036522494747648129637140558308207111634884391944473131471632355058906345027144289930963370736231702617338455308676327010131710939327856766712300968595626032826561585107027751599731312844093487590077963221554560758184561341309622638699939838872169916024882330080508696615310834566564580376940557355582145259879499435554188033819009582059363990820390617973813843556049512997466398491706309679022257088438024931320596526217343070965660723631772974388164193390844413335120753008266706747119309431683924618652758829326465118332626672502575011056063493639633428671426303974627739812899033028797995130284895342140677728354242210714848862626912433231668832412530390097108630339643264723583184780329592169583762703278238396569494934133311143139256262247985704705911262941818935774667557902431388449427486147743452626400926779543581077055602680021781152507823613042368268343527530005627804685287175626428308110166853713518093356932937714620695328279345120909446926195341308088332202104365294460315448821187147816368677013621345080652339886020164166866676751219223453524626586084544195146518287556943492298938441837880521783210074991754596818140106532288894316713580271260610016072823406182524278973558536497446798309199561617849572357183610053946559154714885395176320959408891981114586429118690299523221485919907597374400848779469829009414108058646479826769275245119119333138503766108441220940047351743756965513112325325880348901909969706002616155125216750968833, 20657999072793420812525449906524084300948832986275800419430041652414494387175263852106087345719629478604842980210311693825), (((en_rep 1 10 2147483648), (en_rep 1 1160 2147483648)), (en_rep 1 16 2147483648)))), (((69992023193056381580157213466521907259532109042000162768249258172140243684491687557793486961347921161, (79158621565370304561535928227085351129307596913185799983994338586234986451438912952267325200073277743366547200080675973200022254294578858611242724981622843880773946680768590712877128524404755464197202767951493497122220937459432297182481612341034579260391992250388754926901413624857000958792378917033415937369246356582040202240636358516716265578828072052242309514826865408703508394850396387430269931755654295949913389687143963634472938640507644518318449946863669225327525604372903465115269618910312071225105617319067977581598594414787805296664916754802039879407778415038978291153071287692890844914915030942619013974203416521052726518480425703773705691937602169712424664380485639950812371014436583513973636274992081899973869941346512559793830537637824086876758235292604996082903387470010971280024245753472198119018997765, (en_rep 1 27 2147483648))), (((en_rep 1 27 2147483648), (en_rep 1 27 2147483648)), ((en_rep 1 27 2147483648), (en_rep 1 27 2147483648)))), ((((en_rep 1 27 2147483648), (en_rep 1 27 2147483648)), ((en_rep 1 27 2147483648), (en_rep 1 27 2147483648))), (((en_rep 1 27 2147483648), (en_rep 1 27 2147483648)), ((en_rep 1 27 2147483648), (en_rep 1 27 2147483648)))))), ((((((en_rep 1 27 2147483648), (en_rep 1 27 2147483648)), ((en_rep 1 27 2147483648), (en_rep 1 27 2147483648))), (((en_rep 1 27 2147483648), (en_rep 1 27 2147483648)), ((en_rep 1 27 2147483648), (en_rep 1 27 2147483648)))), ((((en_rep 1 27 2147483648), (en_rep 1 27 2147483648)), ((en_rep 1 27 2147483648), (en_rep 1 27 2147483648))), (((en_rep 1 27 2147483648), (en_rep 1 27 2147483648)), ((en_rep 1 27 2147483648), (en_rep 1 27 2147483648))))), (((((en_rep 1 27 2147483648), (en_rep 1 27 2147483648)), ((en_rep 1 27 2147483648), (en_rep 1 27 2147483648))), (((en_rep 1 27 2147483648), (en_rep 1 27 2147483648)), ((en_rep 1 27 2147483648), ((en_rep 1 27 2147483648), (en_rep 1 27 2147483648))))), (((((en_rep 1 27 2147483648), (en_rep 1 27 2147483648)), (3213876119197822921945127279458226942873970598630462171644677, (en_rep 1 27 2147483648))), (((en_rep 1 27 2147483648), (en_rep 1 27 2147483648)), 803469022129495137773703305105948808968817717122887418118915)), (69992023193056381580157213466521907259532109042001659345925885016728493131314590629211425315057829128, ((en_rep 1 10 2147483648), ((en_rep 1 20 2147483648), (en_rep 1 20 2147483648))))))))))), 256926260380088238927959150268255197482075788590469181971356469936867219039166220882689247035795946550192209903620402703058065357756795906449699225951994369255155830647632782429127155425666672216429297449995851160143432099910251365052482373350454806758580860602601330970291652744376930058303086695607916800600240529949287705984973209491108971326333871214820309281681469812762069186074163572281025963036320357675553445169824770284368258644789455359210275704355328260999609957700973988455105956847733461848978783140307056865227847258678019255811141689070896645769540317225534779632365498036176950268770830767142910479700377360286412337885975822649833971271753000287070743437097205341082910491177050775925797984613911114073452297598978150683304844769442185447700471939605599021829927018418553746141110416248036811269896153194563551887461727850461611316615435716458806535480592011747253449230453482334850442575424732200107237646790430780367139316079002472923339793999742147649437731508988299936722731683086528429020706558489883458221496357638140804754188727079268682199145272659984485762940982147549602302209000293774729172512160815849996988153133969410243725814577180619091153314527327922932230639590526454555854106026258592116925319220413445931267316056259566371241801107652942571483597579776715913212522013606606393586793065624116029889625799476129042585849545247326411091896596771374926283512581142627173907212433019394887127961463828638242646058614636595011192773932394312235696790705065183503), (((((((en_rep 2 2000 2147483648), (en_rep 2 2000 2147483648)), (en_rep 1 403 2147483648)), ((en_rep 1 403 2147483648), ((en_rep 1 403 2147483648), (en_rep 4 403 36893488147419103232)))), (102523352206455836929077717516303387652071391654209672340140996504698578876764914481414126115345758835607780639384729940874125811196145742263442148667789941699047303788496744706208646265102134590991171042604284848938102264572217614697119151453148770437079446420798675657326341106007392037876463605800302804957687009864294015260797528422560563862996217534093666701621103604630431514884488124605818625266550481980963093202744512172718594501971954144301279999935397143118931637373830689712706070276741124, 354901720847464302027239469372694916652547433785613331152010286478582099510371890579608323823329616085312512965554881072698786579972)), 2722258935367507707716220231491000467969), (((((((((en_rep 1 48 2147483648), (en_rep 1 12 2147483648)), 2722258935367507707716220231576899813889), (2722258935367507707716220231916202230273, 2722258935367507707716220231705748832769)), (2722258935367507707716220231748698505729, (2722258935367507707716220235781672796673, 2722258935367507707716220231491000467969))), (en_rep 1 14 2147483648)), ((en_rep 1 14 2147483648), ((((en_rep 3 260 2147483648), (en_rep 1 260 2147483648)), ((en_rep 1 260 2147483648), (en_rep 1 260 2147483648))), (((en_rep 1 260 2147483648), (en_rep 1 840 2147483648)), ((en_rep 1 840 2147483648), (en_rep 1 64 2147483648)))))), (en_rep 1 9 2147483648)), ((((en_rep 1 400 2147483648), 498003426271988156650205248778265190475387883704504272659833150656380522643354528686295097468034619920288673902185237849378235628180372981807148325017977240216919725820034056441575891524164885495115624323471146562475213761843065778872708726186113513067212169513888072956703696000589091239213208711779472567706862938644247148769133709971461809009561758939599274082069756622610223837362667394826225818929172143866025247751827091005989021840276635295996361511830087602993581086266481331733669111806873722582201829390886353587998720276755403182000296219184504825453982488878042976618945113604251269864968797244724289422280559251838672632094735829931607162087535717508040055024551141340181064379249333888732308638843153440487629019804596237187128498259838563354353230292013610481259010584898631909395229909758659187299117501936677681757900623772664862968129415603485557399105420019734852533225469600408631755155339329423843214390373853100286845933538770917797372836224575305647038035472122490207373433598246129216282730586994610603845556839715516325844663952907568909274243474113312667045215776330946614163903641101301493304604878472621434664226470278111561051223518108632384965207974913705613005591224215150750353972242412898106369), 498003426271988156650205248778265190475387883704504272659833150656380522643354528686295097468034619920288673902185237849378235628180372981807148325017977240216919725820034056441575891524164885495115624323471146562475213761843065778872708726186113513067212169513888072956703696000589091239213208711779472567706862938644247148769133709971461809009561758939599274082069756622610223837362667394826225818929172143866025247751827091005989021840276635295996361511830087602993581086266481331733669111806873722582201829390886353587998720276755403182000296219184504825453982488878042976618945113604251269864968797244724289422280559251838672632094735829931607162087535717508040055024551141340181064379249333888732308638843153440487629019804596237187128498259838563354353230292013610481259010584898631909395229909758659187299117501936677681757900623772664862968129415603485557399105420019734852533225469600408631755155339329423843214390373853100286845933538770917797372836224575305647038035472122490207373433598246129216282730586994610603845556839715516325844663952907568909274243474113312667045215776330946614163903641101301493304604878472621434664226470278111561051223518108632384965207974913705613005591224215150750353972242412898106369), (237142198758023568228276846319922330421270631900337823961777949765328976920708097, (((en_rep 1 2400 2147483648), (((en_rep 1 1160 2147483648), (en_rep 3 29 2147483648)), ((en_rep 1 360 2147483648), (en_rep 1 360 2147483648)))), ((((en_rep 1 360 2147483648), (en_rep 1 10 2147483648)), ((en_rep 1 20 2147483648), (en_rep 1 20 2147483648))), (((en_rep 1 61 2147483648), 803469022129495137773703305105948808968817717122887418118915), (((en_rep 1 180 2147483648), 0), (0, 0))))))))))
def rn_w1 : en_W := (599867, 7279616, 30, [], 133, [(0, 4294967295), (0, 4294967295), (0, 4294967295), (0, 4294967295), (0, 4294967295), (0, 4294967295)])
set_option maxRecDepth 100000 in
theorem rn_R0 {B tS tL tM b n : Nat} {xs ρ : Nat → Int32} {ω : Nat → Value} : en_R (st_E B tS tL tM b n xs) mt_P 1000 ρ ω [] [] 18284544 1422853192879425234015608139717524697174391146560864407338173043287075352173609984 [] rn_hp0 rn_w0 ([(279, 0, lv_args 0 [.ref b], [], 600000, 7302250)], [], none) := by
  refine ⟨lv_args 0 [.ref b], [], [], [], none, rfl, ⟨mt_279.1, 4, mt_279.2.2, rfl, ?_⟩, trivial, ?_, ?_, rfl, by decide, rfl⟩
  · intro i hi
    rcases i with _ | _ | _ | _ | i
    · refine Or.inr ⟨.ref b, rfl, ?_⟩
      rw [show en_elt 1422853192879425234015608139717524697174391146560864407338173043287075352173609984 0 = 12884901907 by decide +kernel]
      unfold en_v
      rw [if_neg (by decide), if_neg (by decide), if_neg (by decide), if_neg (by decide), if_neg (by decide), if_pos (by decide)]
      exact ⟨_, rfl, rfl⟩
    · exact Or.inl (by decide +kernel)
    · exact Or.inl (by decide +kernel)
    · exact Or.inl (by decide +kernel)
    · omega
  · intro k
    refine ⟨fun h1 h2 => absurd ?_ h2, fun _ => rfl⟩
    revert k
    decide +kernel
  · intro i
    have h9 := en_z_lt (ρ i)
    have e : en_nth (0, 4294967295) (en_ev rn_w0) i = (0, 4294967295) := by
      rcases i with _ | _ | _ | _ | _ | _ | i <;> rfl
    rw [e]
    exact ⟨Nat.zero_le _, by omega⟩
set_option maxRecDepth 1000000 in
theorem rn_short : ∀ n, n < 6 → en_run (mt_SB n) rn_fin mt_kds mt_P (fun _ => none) 7000 18284544 1422853192879425234015608139717524697174391146560864407338173043287075352173609984 [] rn_hp0 rn_w0 = true := by decide +kernel
end
section
/-! A LOOP OVER DRAWS: a hook that goes from draw 0 to draw 2400 at once, if one round with a named draw comes back to the loop's head with the next draw. The name (6) stands nowhere else in the state: that is looked up. -/
noncomputable def rn_fr (c : Nat) : Bool := en_if (Nat.ble 4295360512 c) (Nat.ble 4295426048 c) true
noncomputable def rn_frs (n N : Nat) : Bool := Nat.rec (motive := fun _ => Bool) true (fun j ih => en_if (rn_fr (en_elt N j)) ih false) n
noncomputable def rn_frl (l : List Nat) : Bool := List.rec (motive := fun _ => Bool) true (fun c _ ih => en_if (rn_fr c) ih false) l
noncomputable def rn_frf (l : List en_F) : Bool := List.rec (motive := fun _ => Bool) true (fun f _ ih => en_if (rn_frs 40 f.2.1) (en_if (rn_frl f.2.2.1) ih false) false) l
/-- cells: as they were in hq, or without the name -/
noncomputable def rn_frh (hp hq : en_H) (n : Nat) : Bool := Nat.rec (motive := fun _ => Bool) true (fun k ih => en_if (en_if (Nat.beq (en_get hp k) (en_get hq k)) true (rn_frs (en_len (en_get hp k)) (en_get hp k))) ih false) n
theorem rn_frs_t {N : Nat} : ∀ n, rn_frs n N = true → ∀ j, j < n → rn_fr (en_elt N j) = true
  | 0, _, j, hj => absurd hj (Nat.not_lt_zero j)
  | n + 1, h, j, hj => by
    obtain ⟨h1, h2⟩ := en_if_and.mp (show en_if (rn_fr (en_elt N n)) (rn_frs n N) false = true from h)
    by_cases e : j = n
    · subst e; exact h1
    · exact rn_frs_t n h2 j (by omega)
theorem rn_frl_t : ∀ l, rn_frl l = true → ∀ c ∈ l, rn_fr c = true
  | [], _, c, hc => by cases hc
  | a :: l, h, c, hc => by
    obtain ⟨h1, h2⟩ := en_if_and.mp (show en_if (rn_fr a) (rn_frl l) false = true from h)
    rcases List.mem_cons.mp hc with rfl | hc
    · exact h1
    · exact rn_frl_t l h2 c hc
theorem rn_frf_t : ∀ l, rn_frf l = true → ∀ f ∈ l, (∀ i, i < 40 → rn_fr (en_elt f.2.1 i) = true) ∧ ∀ c ∈ f.2.2.1, rn_fr c = true
  | [], _, c, hc => by cases hc
  | a :: l, h, f, hc => by
    obtain ⟨h1, h2⟩ := en_if_and.mp (show en_if (rn_frs 40 a.2.1) (en_if (rn_frl a.2.2.1) (rn_frf l) false) false = true from h)
    obtain ⟨h2, h3⟩ := en_if_and.mp h2
    rcases List.mem_cons.mp hc with rfl | hc
    · exact ⟨rn_frs_t 40 h1, rn_frl_t _ h2⟩
    · exact rn_frf_t l h3 f hc
theorem rn_frh_t {hp hq : en_H} : ∀ n, rn_frh hp hq n = true → ∀ k, k < n → en_get hp k = en_get hq k ∨ rn_frs (en_len (en_get hp k)) (en_get hp k) = true
  | 0, _, j, hj => absurd hj (Nat.not_lt_zero j)
  | n + 1, h, j, hj => by
    obtain ⟨h1, h2⟩ := en_if_and.mp (show en_if (en_if (Nat.beq (en_get hp n) (en_get hq n)) true (rn_frs (en_len (en_get hp n)) (en_get hp n))) (rn_frh hp hq n) false = true from h)
    by_cases e : j = n
    · subst e
      rcases en_if_or.mp h1 with ⟨h3, -⟩ | ⟨-, h3⟩
      · exact Or.inl (en_beq_t.mp h3)
      · exact Or.inr h3
    · exact rn_frh_t n h2 j (by omega)
section RNL
variable {E : mm_E} {kds : List (List Nat)} {P : mm_T} {L : Nat} {ρ ρ' : Nat → Int32} {ω : Nat → Value} {h0 : mm_H} {fsC : List mm_F} {FIN : mm_C → Prop}
theorem rn_fr_v (hρ : ∀ i, i ≠ 6 → ρ i = ρ' i) {c : Nat} {v : Value} (hf : rn_fr c = true) (h : en_v E ρ ω c v) : en_v E ρ' ω c v := by
  have hc : c < 4295360512 ∨ 4295426048 ≤ c := by
    rcases en_if_or.mp hf with ⟨-, h1⟩ | ⟨h1, -⟩
    · exact Or.inr (en_ble_t.mp h1)
    · refine Or.inl (Nat.lt_of_not_le fun h2 => ?_)
      rw [en_ble_t.mpr h2] at h1
      cases h1
  by_cases h1 : c < 4294967296
  · rw [en_v_const h1] at h ⊢; exact h
  · by_cases h2 : c < 8589934592
    · rw [en_v_name (by omega) h2] at h ⊢
      rw [← hρ _ (by omega)]
      exact h
    · unfold en_v at h ⊢
      rw [if_neg h1, if_neg h2] at h ⊢
      exact h
theorem rn_cr_mv (hρ : ∀ i, i ≠ 6 → ρ i = ρ' i) {N : Nat} {x : Option va_E} (hf : ∀ j, j < en_len N → rn_fr (en_elt N j) = true) (h : en_cr E ρ ω N x) : en_cr E ρ' ω N x := by
  rcases h with ⟨t, f, h1, h2, h3, h4⟩ | ⟨f, h1, h2, h3⟩ | ⟨f, h1, h2, h3⟩ | ⟨ci, fs, h1, h2, h3, h4⟩
  · exact Or.inl ⟨t, f, h1, h2, h3, fun j hj => rn_fr_v hρ (hf j hj) (h4 j hj)⟩
  · exact Or.inr (Or.inl ⟨f, h1, h2, fun j hj => rn_fr_v hρ (hf j hj) (h3 j hj)⟩)
  · exact Or.inr (Or.inr (Or.inl ⟨f, h1, h2, fun j hj => rn_fr_v hρ (hf j hj) (h3 j hj)⟩))
  · refine Or.inr (Or.inr (Or.inr ⟨ci, fs, h1, h2, h3, fun j v hv => rn_fr_v hρ (hf j ?_) (h4 j v hv)⟩))
    rw [← h3]
    exact (List.getElem?_eq_some_iff.mp hv).1
theorem rn_sr_mv (hρ : ∀ i, i ≠ 6 → ρ i = ρ' i) : ∀ (st : List Nat) (sv : List Value), (∀ c ∈ st, rn_fr c = true) → en_sr E ρ ω st sv → en_sr E ρ' ω st sv
  | [], [], _, h => h
  | [], _ :: _, _, h => h.elim
  | _ :: _, [], _, h => h.elim
  | c :: r, _ :: vs, hf, h => ⟨rn_fr_v hρ (hf c List.mem_cons_self) h.1, rn_sr_mv hρ r vs (fun c hc => hf c (List.mem_cons_of_mem _ hc)) h.2⟩
theorem rn_lr_mv (hρ : ∀ i, i ≠ 6 → ρ i = ρ' i) {nL loc : Nat} {lv : mm_V} (hn : nL ≤ 40) (hf : ∀ i, i < 40 → rn_fr (en_elt loc i) = true) (h : en_lr E ρ ω nL loc lv) : en_lr E ρ' ω nL loc lv := by
  intro i hi
  rcases h i hi with h1 | ⟨v, g1, g2⟩
  · exact Or.inl h1
  · exact Or.inr ⟨v, g1, rn_fr_v hρ (hf i (Nat.lt_of_lt_of_le hi hn)) g2⟩
theorem rn_fs_mv (hρ : ∀ i, i ≠ 6 → ρ i = ρ' i) (hP : ∀ (k : Nat) (cs : List (List mm_I)) (nL : Nat) (dd : mm_M), P[k]? = some (cs, nL, dd) → nL ≤ 40) : ∀ (fs : List en_F) (gs : List mm_F), (∀ f ∈ fs, (∀ i, i < 40 → rn_fr (en_elt f.2.1 i) = true) ∧ ∀ c ∈ f.2.2.1, rn_fr c = true) → en_frs E P L ρ ω fsC fs gs → en_frs E P L ρ' ω fsC fs gs
  | [], _, _, h => h
  | _ :: _, [], _, h => h.elim
  | f :: fs, g :: gs, hf, h => by
    obtain ⟨⟨h1, h2, ⟨cs, nL, dd, h3, h4⟩, h5, h6⟩, h7, h8⟩ := h
    obtain ⟨f1, f2⟩ := hf f List.mem_cons_self
    exact ⟨⟨h1, h2, ⟨cs, nL, dd, h3, rn_lr_mv hρ (hP _ _ _ _ h3) f1 h4⟩, rn_sr_mv hρ _ _ f2 h5, h6⟩, h7, rn_fs_mv hρ hP fs gs (fun f hc => hf f (List.mem_cons_of_mem _ hc)) h8⟩
theorem rn_R_mv (hρ : ∀ i, i ≠ 6 → ρ i = ρ' i) (hP : ∀ (k : Nat) (cs : List (List mm_I)) (nL : Nat) (dd : mm_M), P[k]? = some (cs, nL, dd) → nL ≤ 40) {q loc loc' r : Nat} {st : List Nat} {hp : en_H} {w w' : en_W} {c : mm_C} (hl : ∀ i, i < 40 → i ≠ r → en_elt loc' i = en_elt loc i ∧ rn_fr (en_elt loc i) = true) (hu : en_elt loc r ≠ 12884901891) (hr : ∀ v, en_v E ρ ω (en_elt loc r) v → en_v E ρ' ω (en_elt loc' r) v) (hs : ∀ c ∈ st, rn_fr c = true) (hh : ∀ k, k < 136 → ∀ j, j < en_len (en_get hp k) → rn_fr (en_elt (en_get hp k) j) = true) (hf : ∀ f ∈ w.2.2.2.1, (∀ i, i < 40 → rn_fr (en_elt f.2.1 i) = true) ∧ ∀ c ∈ f.2.2.1, rn_fr c = true) (hw : en_wq w w') (he' : en_e ρ (en_ev w) → en_e ρ' (en_ev w')) (h : en_R E P L ρ ω h0 fsC q loc st hp w c) : en_R E P L ρ' ω h0 fsC q loc' st hp w' c := by
  obtain ⟨lv, sv, gs, h1, o, rfl, ⟨cs, nL, dd, hPq, hlr⟩, hsr, hhp, he, hx, hd, hfr⟩ := h
  obtain ⟨e1, e2, e3, e4, e5⟩ := hw
  refine ⟨lv, sv, gs, h1, o, by rw [e1, e2], ⟨cs, nL, dd, hPq, fun i hi => ?_⟩, rn_sr_mv hρ st sv hs hsr, fun k => ⟨fun k1 k2 => rn_cr_mv hρ (hh k k1) ((hhp k).1 k1 k2), (hhp k).2⟩, he' he, by rw [e5]; exact hx, by rw [e3, e4]; exact hd, by rw [e4]; exact rn_fs_mv hρ hP _ _ hf hfr⟩
  by_cases hir : i = r
  · subst hir
    rcases hlr i hi with g | ⟨v, g1, g2⟩
    · exact absurd g hu
    · exact Or.inr ⟨v, g1, hr v g2⟩
  · obtain ⟨k1, k2⟩ := hl i (Nat.lt_of_lt_of_le hi (hP _ _ _ _ hPq)) hir
    rw [k1]
    rcases hlr i hi with g | ⟨v, g1, g2⟩
    · exact Or.inl g
    · exact Or.inr ⟨v, g1, rn_fr_v hρ k2 g2⟩
end RNL
noncomputable def rn_lw (w : en_W) (lo hi : Nat) : en_W := (w.1, w.2.1, w.2.2.1, w.2.2.2.1, w.2.2.2.2.1, w.2.2.2.2.2 ++ [(lo, hi)])
/-- the round's end: the head again, with the next draw -/
noncomputable def rn_hkS (r loc : Nat) (st : List Nat) (hp : en_H) (w1 : en_W) : en_O → en_O := fun o loc' st' hp' w' ih => en_if (Nat.beq (en_elt loc' r) 4295393280) (o loc' st' hp' w' ih) (rn_stop (en_eset loc r 4295393281) st hp w1 o loc' st' hp' w' ih)
noncomputable def rn_seg (SA : List (Nat × Nat)) (H r loc : Nat) (st : List Nat) (hp : en_H) (w : en_W) (lo hi : Nat) : Bool := en_run SA (fun _ _ _ => false) mt_kds mt_P (fun q => en_if (Nat.beq q H) (some (rn_hkS r loc st hp (rn_lw w lo hi))) none) 500 H (en_eset loc r 4295393280) st hp (rn_lw w lo hi)
noncomputable def rn_fresh (loc : Nat) (st : List Nat) (hp hq : en_H) (w : en_W) : Bool := en_if (rn_frs 40 loc) (en_if (rn_frl st) (en_if (rn_frf w.2.2.2.1) (en_if (decide (w.2.2.2.2.2.length = 6)) (rn_frh hp hq 136) false) false) false) false
noncomputable def rn_loop (SA : List (Nat × Nat)) (hq : en_H) (H r : Nat) : en_O → en_O := fun o loc st hp w ih => en_if (Nat.beq (en_elt loc r) 2147483648) (en_if (rn_fresh loc st hp hq w)
  (en_if (rn_seg SA H r loc st hp w 2147483648 2147485705) (en_if (rn_seg SA H r loc st hp w 2147485706 2147485999) (en_if (rn_seg SA H r loc st hp w 2147486000 2147486041) (en_if (rn_seg SA H r loc st hp w 2147486042 2147486047) (ih H (en_eset loc r 2147486048) st hp w) false) false) false) false) false) (o loc st hp w ih)
section RNM
variable {E : mm_E} {L : Nat} {ρ : Nat → Int32} {ω : Nat → Value} {h0 : mm_H} {fsC : List mm_F} {FIN : mm_C → Prop}
def rn_at6 (ρ : Nat → Int32) (x : Nat) : Nat → Int32 := fun i => if i = 6 then en_d x else ρ i
theorem rn_round {SA : List (Nat × Nat)} (hSA : ∀ x, en_SA E (rn_at6 ρ x) ω SA) (hPn : ∀ (k : Nat) (cs : List (List mm_I)) (nL : Nat) (dd : mm_M), mt_P[k]? = some (cs, nL, dd) → nL ≤ 40) {H r loc : Nat} {st : List Nat} {hp : en_H} {w : en_W} {lo hi x : Nat} (hloc : ∀ i, i < 40 → rn_fr (en_elt loc i) = true) (hs : ∀ c ∈ st, rn_fr c = true) (hh : ∀ k, k < 136 → ∀ j, j < en_len (en_get hp k) → rn_fr (en_elt (en_get hp k) j) = true) (hf : ∀ f ∈ w.2.2.2.1, (∀ i, i < 40 → rn_fr (en_elt f.2.1 i) = true) ∧ ∀ c ∈ f.2.2.1, rn_fr c = true) (hev : w.2.2.2.2.2.length = 6) (h1 : lo ≤ x) (h2 : x ≤ hi) (h3 : hi < 4294967295)
    (hseg : rn_seg SA H r loc st hp w lo hi = true) (hnext : ∀ c, en_R E mt_P L ρ ω h0 fsC H (en_eset loc r (x + 1)) st hp w c → en_Good E mt_kds mt_P L FIN c) : ∀ c, en_R E mt_P L ρ ω h0 fsC H (en_eset loc r x) st hp w c → en_Good E mt_kds mt_P L FIN c := by
  intro c hc
  have hρ : ∀ i, i ≠ 6 → ρ i = rn_at6 ρ x i := fun i hi => by unfold rn_at6; rw [if_neg hi]
  have h6 : rn_at6 ρ x 6 = en_d x := rfl
  have hx : x < 4294967296 := by omega
  have hz : en_z (en_d x) = x := en_z_d hx
  have el : ∀ (v i : Nat), v < 2 ^ 68 → i ≠ r → en_elt (en_eset loc r v) i = en_elt loc i := fun v i hv hi => by rw [en_elt_eset hv, if_neg hi]
  have er : ∀ v : Nat, v < 2 ^ 68 → en_elt (en_eset loc r v) r = v := fun v hv => by rw [en_elt_eset hv, if_pos rfl]
  have bx : x < 2 ^ 68 := Nat.lt_trans hx (by decide)
  have bx1 : x + 1 < 2 ^ 68 := Nat.lt_of_le_of_lt (Nat.succ_le_of_lt hx) (by decide)
  have b0 : 4295393280 < 2 ^ 68 := by decide
  have b1 : 4295393281 < 2 ^ 68 := by decide
  have v0 : ∀ v, en_v E (rn_at6 ρ x) ω 4295393280 v ↔ v = .int (en_d x) := fun v => by
    rw [en_v_name (by decide) (by decide), show (4295393280 - 4294967296) / 65536 = 6 by decide, h6, show en_off 4295393280 = 0 by decide, Int32.add_zero]
  have v1 : ∀ v, en_v E (rn_at6 ρ x) ω 4295393281 v ↔ v = .int (en_d x + 1) := fun v => by
    rw [en_v_name (by decide) (by decide), show (4295393281 - 4294967296) / 65536 = 6 by decide, h6, show en_off 4295393281 = 1 by decide]
  have d1 : en_d (x + 1) = en_d x + 1 := by
    apply en_z_inj
    rw [en_z_d (by omega), en_z_add (by rw [hz]; show 2147483648 ≤ x + 2147483649; omega) (by rw [hz]; show x + 2147483649 < 6442450944; omega), hz]
    show x + 1 = x + 2147483649 - 2147483648
    omega
  have ee : en_e ρ (en_ev w) → en_e (rn_at6 ρ x) (en_ev (rn_lw w lo hi)) := by
    intro he i
    have hi0 := he i
    rw [en_nth_eq] at hi0 ⊢
    show (((w.2.2.2.2.2 ++ [(lo, hi)])[i]?).getD (0, 4294967295)).1 ≤ _ ∧ _ ≤ (((w.2.2.2.2.2 ++ [(lo, hi)])[i]?).getD (0, 4294967295)).2
    by_cases h66 : i = 6
    · subst h66
      rw [List.getElem?_append_right (by omega), hev, h6, hz]
      exact ⟨h1, h2⟩
    · rw [← hρ i h66]
      by_cases hlt : i < 6
      · rw [List.getElem?_append_left (by omega)]
        exact hi0
      · rw [List.getElem?_eq_none (by simp; omega)]
        have h9 := en_z_lt (ρ i)
        exact ⟨Nat.zero_le _, by show en_z (ρ i) ≤ 4294967295; omega⟩
  have eb : en_e (rn_at6 ρ x) (en_ev (rn_lw w lo hi)) → en_e ρ (en_ev w) := by
    intro he i
    have hi0 := he i
    rw [en_nth_eq] at hi0 ⊢
    replace hi0 : (((w.2.2.2.2.2 ++ [(lo, hi)])[i]?).getD (0, 4294967295)).1 ≤ en_z (rn_at6 ρ x i) ∧ en_z (rn_at6 ρ x i) ≤ (((w.2.2.2.2.2 ++ [(lo, hi)])[i]?).getD (0, 4294967295)).2 := hi0
    show (((w.2.2.2.2.2)[i]?).getD (0, 4294967295)).1 ≤ _ ∧ _ ≤ (((w.2.2.2.2.2)[i]?).getD (0, 4294967295)).2
    by_cases hlt : i < 6
    · rw [List.getElem?_append_left (by omega), ← hρ i (by omega)] at hi0
      exact hi0
    · rw [List.getElem?_eq_none (by omega)]
      have h9 := en_z_lt (ρ i)
      exact ⟨Nat.zero_le _, by show en_z (ρ i) ≤ 4294967295; omega⟩
  refine en_run_v (ρ := rn_at6 ρ x) (hSA x) (fin := fun _ _ _ => false) (fun _ _ _ _ _ h => by cases h) (fun k cs nL dd h => Nat.lt_of_le_of_lt (hPn k cs nL dd h) (by decide)) ?_ 500 _ _ _ _ _ c hseg
    (rn_R_mv (r := r) hρ hPn (fun i hi hr => ⟨by rw [el _ _ b0 hr, el _ _ bx hr], by rw [el _ _ bx hr]; exact hloc i hi⟩) (by rw [er _ bx]; omega) (fun v hv => by rw [er _ bx, en_v_const hx] at hv; rw [er _ b0, v0]; exact hv) hs hh hf ⟨rfl, rfl, rfl, rfl, rfl⟩ ee hc)
  intro q hk o e ho
  cases hq : Nat.beq q H with
  | false => rw [hq] at e; cases e
  | true =>
    rw [hq, en_if_t] at e
    cases e
    have e2 := en_beq_t.mp hq
    subst e2
    intro loc' st' hp' w' ih' c' hih' hk2 hR2
    unfold rn_hkS at hk2
    rcases en_if_or.mp hk2 with ⟨-, hk2⟩ | ⟨-, hk2⟩
    · exact ho loc' st' hp' w' ih' c' hih' hk2 hR2
    · simp only [rn_stop, Bool.and_eq_true, decide_eq_true_eq] at hk2
      obtain ⟨rfl, rfl, rfl, rfl⟩ := hk2
      exact hnext c' (rn_R_mv (r := r) (fun i hi => (hρ i hi).symm) hPn (fun i hi hr => ⟨by rw [el _ _ bx1 hr, el _ _ b1 hr], by rw [el _ _ b1 hr]; exact hloc i hi⟩) (by rw [er _ b1]; decide) (fun v hv => by rw [er _ b1, v1] at hv; rw [er _ bx1, en_v_const (by omega), d1]; exact hv) hs hh hf ⟨rfl, rfl, rfl, rfl, rfl⟩ eb hR2)
theorem rn_loop_ok {SA : List (Nat × Nat)} (hSA : ∀ x, en_SA E (rn_at6 ρ x) ω SA) (hPn : ∀ (k : Nat) (cs : List (List mm_I)) (nL : Nat) (dd : mm_M), mt_P[k]? = some (cs, nL, dd) → nL ≤ 40) {hq : en_H} (hhq : ∀ k, k < 136 → rn_frs (en_len (en_get hq k)) (en_get hq k) = true) {H r : Nat} {o : en_O} (ho : en_OS E mt_kds mt_P L ρ ω h0 fsC FIN H o) : en_OS E mt_kds mt_P L ρ ω h0 fsC FIN H (rn_loop SA hq H r o) := by
  intro loc st hp w ih c hih hk hR
  unfold rn_loop at hk
  rcases en_if_or.mp hk with ⟨a1, hk⟩ | ⟨-, hk⟩
  · obtain ⟨a2, hk⟩ := en_if_and.mp hk
    obtain ⟨s1, hk⟩ := en_if_and.mp hk
    obtain ⟨s2, hk⟩ := en_if_and.mp hk
    obtain ⟨s3, hk⟩ := en_if_and.mp hk
    obtain ⟨s4, hk⟩ := en_if_and.mp hk
    have a1 := en_beq_t.mp a1
    unfold rn_fresh at a2
    obtain ⟨f1, a2⟩ := en_if_and.mp a2
    obtain ⟨f2, a2⟩ := en_if_and.mp a2
    obtain ⟨f3, a2⟩ := en_if_and.mp a2
    obtain ⟨f4, f5⟩ := en_if_and.mp a2
    have f1 := rn_frs_t 40 f1
    have f2 := rn_frl_t _ f2
    have f3 := rn_frf_t _ f3
    have f4 := of_decide_eq_true f4
    have f6 : ∀ k, k < 136 → ∀ j, j < en_len (en_get hp k) → rn_fr (en_elt (en_get hp k) j) = true := by
      intro k hk9 j hj
      rcases rn_frh_t 136 f5 k hk9 with e | e
      · rw [e] at hj ⊢; exact rn_frs_t _ (hhq k hk9) j hj
      · exact rn_frs_t _ e j hj
    have G : ∀ n x : Nat, x + n = 2147486048 → 2147483648 ≤ x → ∀ c, en_R E mt_P L ρ ω h0 fsC H (en_eset loc r x) st hp w c → en_Good E mt_kds mt_P L FIN c := by
      intro n
      induction n with
      | zero =>
        intro x e _ c hc
        have e2 : x = 2147486048 := by omega
        subst e2
        exact hih _ _ _ _ _ c hk hc
      | succ n ihn =>
        intro x e hx c hc
        have nx := ihn (x + 1) (by omega) (by omega)
        by_cases c1 : x ≤ 2147485705
        · exact rn_round hSA hPn f1 f2 f6 f3 f4 hx c1 (by decide) s1 nx c hc
        · by_cases c2 : x ≤ 2147485999
          · exact rn_round hSA hPn f1 f2 f6 f3 f4 (show 2147485706 ≤ x by omega) c2 (by decide) s2 nx c hc
          · by_cases c3 : x ≤ 2147486041
            · exact rn_round hSA hPn f1 f2 f6 f3 f4 (show 2147486000 ≤ x by omega) c3 (by decide) s3 nx c hc
            · exact rn_round hSA hPn f1 f2 f6 f3 f4 (show 2147486042 ≤ x by omega) (show x ≤ 2147486047 by omega) (by decide) s4 nx c hc
    refine G 2400 2147483648 (by decide) (Nat.le_refl _) c (rn_R_mv (r := r) (ρ := ρ) (ρ' := ρ) (fun _ _ => rfl) hPn (fun i hi hr => ⟨by rw [en_elt_eset (by decide), if_neg hr], f1 i hi⟩) (by rw [a1]; decide) (fun v hv => by rw [en_elt_eset (by decide), if_pos rfl]; rw [a1] at hv; exact hv) f2 f6 f3 ⟨rfl, rfl, rfl, rfl, rfl⟩ (fun h => h) hR)
  · exact ho loc st hp w ih c hih hk hR
end RNM
set_option maxRecDepth 1000000 in
theorem rn_hp1_ok : ∀ k, k < 136 → rn_frs (en_len (en_get rn_hp1 k)) (en_get rn_hp1 k) = true := by decide +kernel
theorem mt_P40 : ∀ (k : Nat) (cs : List (List mm_I)) (nL : Nat) (dd : mm_M), mt_P[k]? = some (cs, nL, dd) → nL ≤ 40 := by
  have h : mt_P.all (fun q => decide (q.2.1 ≤ 40)) = true := by decide +kernel
  intro k cs nL dd hk
  exact of_decide_eq_true (List.all_eq_true.mp h _ (List.mem_of_getElem? hk))
end
section
/-! RUNS, 2: the switch and its light cases; the law's run out of the heavy cases -/
noncomputable def rn_in (l : List Nat) (q : Nat) : Bool := List.rec (motive := fun _ => Bool) false (fun a _ ih => en_if (Nat.beq q a) true ih) l
theorem rn_in_t {q : Nat} : ∀ (l : List Nat), rn_in l q = true → q ∈ l
  | [], h => by cases h
  | a :: l, h => by
    rcases en_if_or.mp (show en_if (Nat.beq q a) true (rn_in l q) = true from h) with ⟨h1, -⟩ | ⟨-, h2⟩
    · rw [en_beq_t.mp h1]; exact List.mem_cons_self
    · exact List.mem_cons_of_mem _ (rn_in_t l h2)
def rn_st : en_O → en_O := rn_stop 237142198758023568230687253419235524720382322756948282300116845230250642817156096 [] rn_hp1 rn_w1
def rn_hv : List Nat := [18284984, 18285037, 18285155, 18285214, 18285273, 18285332, 18285365, 18285414, 18285460, 18285499, 18285575, 18285598, 18285677, 18285881, 18285927]
noncomputable def rn_tb : en_T := fun q => en_if (Nat.beq (Nat.div q 65536) 279) (en_if (rn_in rn_hv q) (some rn_st) none) none
theorem rn_tb_t {q : Nat} {hk : en_O → en_O} (h : rn_tb q = some hk) : q ∈ rn_hv ∧ hk = rn_st := by
  unfold rn_tb at h
  cases h1 : Nat.beq (Nat.div q 65536) 279 with
  | false => rw [h1] at h; cases h
  | true =>
    rw [h1, en_if_t] at h
    cases h2 : rn_in rn_hv q with
    | false => rw [h2] at h; cases h
    | true =>
      rw [h2, en_if_t] at h
      exact ⟨rn_in_t _ h2, (Option.some.inj h).symm⟩
/-- from the case at q on, the law comes to its end -/
def rn_Hq (q : Nat) : Prop := ∀ (B tS tL tM b : Nat) (xs : Nat → Int32), tS < B → tL < B → tM < B → b < B → tS ≠ tL → tS ≠ tM → tS ≠ b → tL ≠ tM → tL ≠ b → tM ≠ b → ∀ c, en_R (st_E B tS tL tM b 6 xs) mt_P 1000 xs (fun _ => .null) [] [] q 237142198758023568230687253419235524720382322756948282300116845230250642817156096 [] rn_hp1 rn_w1 c → en_Good (st_E B tS tL tM b 6 xs) mt_kds mt_P 1000 st_FIN c
theorem rn_case {q N : Nat} {tb : en_T} (htb : ∀ {E : mm_E} {ρ : Nat → Int32} {ω : Nat → Value} (q : Nat) (hk : en_O → en_O) (o : en_O), tb q = some hk → en_OS E mt_kds mt_P 1000 ρ ω [] [] st_FIN q o → en_OS E mt_kds mt_P 1000 ρ ω [] [] st_FIN q (hk o)) (h : en_run (mt_SB 6) rn_fin mt_kds mt_P tb N q 237142198758023568230687253419235524720382322756948282300116845230250642817156096 [] rn_hp1 rn_w1 = true) : rn_Hq q :=
  fun _ _ _ _ _ _ h1 h2 h3 h4 n1 n2 n3 n4 n5 n6 c hR => en_run_v (st_SA (Nat.le_refl 6) (fun _ _ => rfl) h1 h2 h3 h4 n1 n2 n3 n4 n5 n6) rn_FS mt_Pn htb N _ _ _ _ _ c h hR
set_option maxRecDepth 1000000 in
theorem rn_long : en_run (mt_SB 6) rn_fin mt_kds mt_P rn_tb 10000 18284544 1422853192879425234015608139717524697174391146560864407338173043287075352173609984 [] rn_hp0 rn_w0 = true := by decide +kernel
theorem rn_goal (hH : ∀ q ∈ rn_hv, rn_Hq q) : st_Goal := by
  intro B tS tL tM b n xs hn h1 h2 h3 h4 n1 n2 n3 n4 n5 n6
  by_cases hn6 : n < 6
  · exact en_run_v (ρ := xs) (ω := fun _ => .null) (h0 := []) (fsC := []) (st_SA hn (fun _ _ => rfl) h1 h2 h3 h4 n1 n2 n3 n4 n5 n6) rn_FS mt_Pn (fun q hk o h => by cases h) 7000 _ _ _ _ _ _ (rn_short n hn6) rn_R0
  · have e : n = 6 := by omega
    subst e
    refine en_run_v (ρ := xs) (ω := fun _ => .null) (h0 := []) (fsC := []) (st_SA hn (fun _ _ => rfl) h1 h2 h3 h4 n1 n2 n3 n4 n5 n6) rn_FS mt_Pn ?_ 10000 _ _ _ _ _ _ rn_long rn_R0
    intro q hk o h _
    obtain ⟨hq, rfl⟩ := rn_tb_t h
    exact rn_stop_ok (fun c hR => hH q hq B tS tL tM b xs h1 h2 h3 h4 n1 n2 n3 n4 n5 n6 c hR) o
end
section
/-! RUNS, 3: cases by hooks of their own -/
theorem rn_tb1 {E : mm_E} {ρ : Nat → Int32} {ω : Nat → Value} {Q : Nat} {hk : en_O → en_O} (h : ∀ o, en_OS E mt_kds mt_P 1000 ρ ω [] [] st_FIN Q o → en_OS E mt_kds mt_P 1000 ρ ω [] [] st_FIN Q (hk o)) (q : Nat) (hk' : en_O → en_O) (o : en_O) (e : (en_if (Nat.beq q Q) (some hk) none : Option (en_O → en_O)) = some hk') (ho : en_OS E mt_kds mt_P 1000 ρ ω [] [] st_FIN q o) : en_OS E mt_kds mt_P 1000 ρ ω [] [] st_FIN q (hk' o) := by
  cases h1 : Nat.beq q Q with
  | false => rw [h1] at e; cases e
  | true =>
    rw [h1, en_if_t] at e
    cases e
    have e2 := en_beq_t.mp h1
    subst e2
    exact h o ho
set_option maxRecDepth 1000000 in
theorem rn_r8 : en_run (mt_SB 6) rn_fin mt_kds mt_P (fun q => en_if (Nat.beq q 18284984) (some (fun o => rn_sp 4295065600 2147483647 (rn_sp 4295065600 2147483648 (rn_sp 4295131136 2147483647 (rn_sp 4295131136 2147483648 (rn_sp 4295196672 2147483647 (rn_sp 4295196672 2147483648 (rn_sp 4295262208 2147483647 (rn_sp 4295262208 2147483648 o))))))))) none) 8000 18284984 237142198758023568230687253419235524720382322756948282300116845230250642817156096 [] rn_hp1 rn_w1 = true := by decide +kernel
theorem rn_H8 : rn_Hq 18284984 := rn_case (fun q hk o h => rn_tb1 (fun o ho => rn_sp_ok (by decide) (by decide) (by decide) (rn_sp_ok (by decide) (by decide) (by decide) (rn_sp_ok (by decide) (by decide) (by decide) (rn_sp_ok (by decide) (by decide) (by decide) (rn_sp_ok (by decide) (by decide) (by decide) (rn_sp_ok (by decide) (by decide) (by decide) (rn_sp_ok (by decide) (by decide) (by decide) (rn_sp_ok (by decide) (by decide) (by decide) (ho))))))))) q hk o h) rn_r8
set_option maxRecDepth 1000000 in
theorem rn_r35 : en_run (mt_SB 6) rn_fin mt_kds mt_P (fun _ => some rn_pin) 4000 18285927 237142198758023568230687253419235524720382322756948282300116845230250642817156096 [] rn_hp1 rn_w1 = true := by decide +kernel
theorem rn_H35 : rn_Hq 18285927 := rn_case (fun q hk o h ho => by cases h; exact rn_pin_ok ho) rn_r35
set_option maxRecDepth 1000000 in
theorem rn_r23 : en_run (mt_SB 6) rn_fin mt_kds mt_P (fun _ => none) 80000 18285575 237142198758023568230687253419235524720382322756948282300116845230250642817156096 [] rn_hp1 rn_w1 = true := by decide +kernel
theorem rn_H23 : rn_Hq 18285575 := rn_case (fun q hk o h ho => by cases h) rn_r23
end
