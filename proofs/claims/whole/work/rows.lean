section
-- ===== PART A: goes FIRST, ahead of the names: the tables' words, and 'selects' of the private methods out of them =====
/-- a private method of a class that the tables say can be made, by its rows of tables_1 -/
def lw_okq (q : MethodName × Nat) : Prop := (q.1.cls ≠ "java/lang/invoke/MethodHandle" ∧ q.1.cls ≠ "java/lang/invoke/VarHandle") ∧ Cond.instantiable q.1.cls q.2 ∈ tables_1 ∧ Cond.privateMethod q.1 ∈ tables_1 ∧ Cond.instanceMethod q.1 ∈ tables_1
theorem lw_p0 : lw_okq (⟨"FairDraws$Tape", "readStatement", "()V"⟩, 5) := ⟨⟨by decide +kernel, by decide +kernel⟩, List.mem_of_getElem? (i := 144) (by decide +kernel), List.mem_of_getElem? (i := 278) (by decide +kernel), List.mem_of_getElem? (i := 279) (by decide +kernel)⟩
theorem lw_p1 : lw_okq (⟨"FairDraws$Tape", "skipBlanks", "()V"⟩, 5) := ⟨⟨by decide +kernel, by decide +kernel⟩, List.mem_of_getElem? (i := 144) (by decide +kernel), List.mem_of_getElem? (i := 282) (by decide +kernel), List.mem_of_getElem? (i := 283) (by decide +kernel)⟩
theorem lw_p2 : lw_okq (⟨"FairDraws$Tape", "takes", "(Ljava/lang/String;)Z"⟩, 5) := ⟨⟨by decide +kernel, by decide +kernel⟩, List.mem_of_getElem? (i := 144) (by decide +kernel), List.mem_of_getElem? (i := 287) (by decide +kernel), List.mem_of_getElem? (i := 288) (by decide +kernel)⟩
theorem lw_p3 : lw_okq (⟨"FairDraws$Tape", "isLetter", "(I)Z"⟩, 5) := ⟨⟨by decide +kernel, by decide +kernel⟩, List.mem_of_getElem? (i := 144) (by decide +kernel), List.mem_of_getElem? (i := 301) (by decide +kernel), List.mem_of_getElem? (i := 302) (by decide +kernel)⟩
theorem lw_p4 : lw_okq (⟨"FairDraws$Tape", "readSize", "()V"⟩, 5) := ⟨⟨by decide +kernel, by decide +kernel⟩, List.mem_of_getElem? (i := 144) (by decide +kernel), List.mem_of_getElem? (i := 344) (by decide +kernel), List.mem_of_getElem? (i := 345) (by decide +kernel)⟩
theorem lw_p5 : lw_okq (⟨"FairDraws$Tape", "number", "(II)I"⟩, 5) := ⟨⟨by decide +kernel, by decide +kernel⟩, List.mem_of_getElem? (i := 144) (by decide +kernel), List.mem_of_getElem? (i := 348) (by decide +kernel), List.mem_of_getElem? (i := 349) (by decide +kernel)⟩
theorem lw_p6 : lw_okq (⟨"FairDraws$Tape", "meet", "(II)V"⟩, 5) := ⟨⟨by decide +kernel, by decide +kernel⟩, List.mem_of_getElem? (i := 144) (by decide +kernel), List.mem_of_getElem? (i := 356) (by decide +kernel), List.mem_of_getElem? (i := 357) (by decide +kernel)⟩
theorem lw_p7 : lw_okq (⟨"FairDraws$Tape", "readWindow", "()V"⟩, 5) := ⟨⟨by decide +kernel, by decide +kernel⟩, List.mem_of_getElem? (i := 144) (by decide +kernel), List.mem_of_getElem? (i := 361) (by decide +kernel), List.mem_of_getElem? (i := 362) (by decide +kernel)⟩
theorem lw_p8 : lw_okq (⟨"FairDraws$Tape", "readSeed", "()V"⟩, 5) := ⟨⟨by decide +kernel, by decide +kernel⟩, List.mem_of_getElem? (i := 144) (by decide +kernel), List.mem_of_getElem? (i := 366) (by decide +kernel), List.mem_of_getElem? (i := 367) (by decide +kernel)⟩
theorem lw_p9 : lw_okq (⟨"FairDraws$Tape", "readWait", "(I)V"⟩, 5) := ⟨⟨by decide +kernel, by decide +kernel⟩, List.mem_of_getElem? (i := 144) (by decide +kernel), List.mem_of_getElem? (i := 372) (by decide +kernel), List.mem_of_getElem? (i := 373) (by decide +kernel)⟩
theorem lw_p10 : lw_okq (⟨"FairDraws$Tape", "readItems", "(I)V"⟩, 5) := ⟨⟨by decide +kernel, by decide +kernel⟩, List.mem_of_getElem? (i := 144) (by decide +kernel), List.mem_of_getElem? (i := 378) (by decide +kernel), List.mem_of_getElem? (i := 379) (by decide +kernel)⟩
theorem lw_p11 : lw_okq (⟨"FairDraws$Tape", "label", "()I"⟩, 5) := ⟨⟨by decide +kernel, by decide +kernel⟩, List.mem_of_getElem? (i := 144) (by decide +kernel), List.mem_of_getElem? (i := 382) (by decide +kernel), List.mem_of_getElem? (i := 383) (by decide +kernel)⟩
theorem lw_p12 : lw_okq (⟨"FairDraws$Tape", "readKey", "(I)V"⟩, 5) := ⟨⟨by decide +kernel, by decide +kernel⟩, List.mem_of_getElem? (i := 144) (by decide +kernel), List.mem_of_getElem? (i := 404) (by decide +kernel), List.mem_of_getElem? (i := 405) (by decide +kernel)⟩
theorem lw_p13 : lw_okq (⟨"FairDraws$State", "rank", "(I)V"⟩, 13) := ⟨⟨by decide +kernel, by decide +kernel⟩, List.mem_of_getElem? (i := 25) (by decide +kernel), List.mem_of_getElem? (i := 416) (by decide +kernel), List.mem_of_getElem? (i := 417) (by decide +kernel)⟩
theorem lw_p14 : lw_okq (⟨"FairDraws$Keys", "compareRows", "()I"⟩, 2) := ⟨⟨by decide +kernel, by decide +kernel⟩, List.mem_of_getElem? (i := 31) (by decide +kernel), List.mem_of_getElem? (i := 443) (by decide +kernel), List.mem_of_getElem? (i := 444) (by decide +kernel)⟩
theorem lw_p15 : lw_okq (⟨"FairDraws", "moveAll", "(III)I"⟩, 8) := ⟨⟨by decide +kernel, by decide +kernel⟩, List.mem_of_getElem? (i := 17) (by decide +kernel), List.mem_of_getElem? (i := 537) (by decide +kernel), List.mem_of_getElem? (i := 538) (by decide +kernel)⟩
def lw_privs_1 : List (MethodName × Nat) := [(⟨"FairDraws$Tape", "readStatement", "()V"⟩, 5), (⟨"FairDraws$Tape", "skipBlanks", "()V"⟩, 5), (⟨"FairDraws$Tape", "takes", "(Ljava/lang/String;)Z"⟩, 5), (⟨"FairDraws$Tape", "isLetter", "(I)Z"⟩, 5), (⟨"FairDraws$Tape", "readSize", "()V"⟩, 5), (⟨"FairDraws$Tape", "number", "(II)I"⟩, 5), (⟨"FairDraws$Tape", "meet", "(II)V"⟩, 5), (⟨"FairDraws$Tape", "readWindow", "()V"⟩, 5), (⟨"FairDraws$Tape", "readSeed", "()V"⟩, 5), (⟨"FairDraws$Tape", "readWait", "(I)V"⟩, 5), (⟨"FairDraws$Tape", "readItems", "(I)V"⟩, 5), (⟨"FairDraws$Tape", "label", "()I"⟩, 5), (⟨"FairDraws$Tape", "readKey", "(I)V"⟩, 5), (⟨"FairDraws$State", "rank", "(I)V"⟩, 13), (⟨"FairDraws$Keys", "compareRows", "()I"⟩, 2), (⟨"FairDraws", "moveAll", "(III)I"⟩, 8)]
theorem lw_r1 : ∀ q ∈ lw_privs_1, lw_okq q := List.forall_mem_cons.mpr ⟨lw_p0, List.forall_mem_cons.mpr ⟨lw_p1, List.forall_mem_cons.mpr ⟨lw_p2, List.forall_mem_cons.mpr ⟨lw_p3, List.forall_mem_cons.mpr ⟨lw_p4, List.forall_mem_cons.mpr ⟨lw_p5, List.forall_mem_cons.mpr ⟨lw_p6, List.forall_mem_cons.mpr ⟨lw_p7, List.forall_mem_cons.mpr ⟨lw_p8, List.forall_mem_cons.mpr ⟨lw_p9, List.forall_mem_cons.mpr ⟨lw_p10, List.forall_mem_cons.mpr ⟨lw_p11, List.forall_mem_cons.mpr ⟨lw_p12, List.forall_mem_cons.mpr ⟨lw_p13, List.forall_mem_cons.mpr ⟨lw_p14, List.forall_mem_cons.mpr ⟨lw_p15, fun _ h => absurd h List.not_mem_nil⟩⟩⟩⟩⟩⟩⟩⟩⟩⟩⟩⟩⟩⟩⟩⟩
theorem lw_p16 : lw_okq (⟨"FairDraws$Sampler", "isAskedFor", "(LFairDraws$State;I)Z"⟩, 9) := ⟨⟨by decide +kernel, by decide +kernel⟩, List.mem_of_getElem? (i := 170) (by decide +kernel), List.mem_of_getElem? (i := 562) (by decide +kernel), List.mem_of_getElem? (i := 563) (by decide +kernel)⟩
theorem lw_p17 : lw_okq (⟨"FairDraws$State", "isAliveOf", "(III)Z"⟩, 13) := ⟨⟨by decide +kernel, by decide +kernel⟩, List.mem_of_getElem? (i := 25) (by decide +kernel), List.mem_of_getElem? (i := 595) (by decide +kernel), List.mem_of_getElem? (i := 596) (by decide +kernel)⟩
theorem lw_p18 : lw_okq (⟨"FairDraws", "isKept", "(I)Z"⟩, 8) := ⟨⟨by decide +kernel, by decide +kernel⟩, List.mem_of_getElem? (i := 17) (by decide +kernel), List.mem_of_getElem? (i := 628) (by decide +kernel), List.mem_of_getElem? (i := 629) (by decide +kernel)⟩
theorem lw_p19 : lw_okq (⟨"FairDraws", "lifeOf", "(I)I"⟩, 8) := ⟨⟨by decide +kernel, by decide +kernel⟩, List.mem_of_getElem? (i := 17) (by decide +kernel), List.mem_of_getElem? (i := 637) (by decide +kernel), List.mem_of_getElem? (i := 638) (by decide +kernel)⟩
theorem lw_p20 : lw_okq (⟨"FairDraws", "aheadInSample", "(I)I"⟩, 8) := ⟨⟨by decide +kernel, by decide +kernel⟩, List.mem_of_getElem? (i := 17) (by decide +kernel), List.mem_of_getElem? (i := 641) (by decide +kernel), List.mem_of_getElem? (i := 642) (by decide +kernel)⟩
theorem lw_p21 : lw_okq (⟨"FairDraws", "aheadOfAlive", "(I)I"⟩, 8) := ⟨⟨by decide +kernel, by decide +kernel⟩, List.mem_of_getElem? (i := 17) (by decide +kernel), List.mem_of_getElem? (i := 645) (by decide +kernel), List.mem_of_getElem? (i := 646) (by decide +kernel)⟩
theorem lw_p22 : lw_okq (⟨"FairDraws", "takeMerged", "(II)V"⟩, 8) := ⟨⟨by decide +kernel, by decide +kernel⟩, List.mem_of_getElem? (i := 17) (by decide +kernel), List.mem_of_getElem? (i := 690) (by decide +kernel), List.mem_of_getElem? (i := 691) (by decide +kernel)⟩
theorem lw_p23 : lw_okq (⟨"FairDraws", "lastOfFull", "(I)I"⟩, 8) := ⟨⟨by decide +kernel, by decide +kernel⟩, List.mem_of_getElem? (i := 17) (by decide +kernel), List.mem_of_getElem? (i := 706) (by decide +kernel), List.mem_of_getElem? (i := 707) (by decide +kernel)⟩
theorem lw_p24 : lw_okq (⟨"FairDraws", "leastLotForSample", "(II)I"⟩, 8) := ⟨⟨by decide +kernel, by decide +kernel⟩, List.mem_of_getElem? (i := 17) (by decide +kernel), List.mem_of_getElem? (i := 718) (by decide +kernel), List.mem_of_getElem? (i := 719) (by decide +kernel)⟩
theorem lw_p25 : lw_okq (⟨"FairDraws", "leastLotAhead", "(II)I"⟩, 8) := ⟨⟨by decide +kernel, by decide +kernel⟩, List.mem_of_getElem? (i := 17) (by decide +kernel), List.mem_of_getElem? (i := 722) (by decide +kernel), List.mem_of_getElem? (i := 723) (by decide +kernel)⟩
theorem lw_p26 : lw_okq (⟨"FairDraws", "kindsBySize", "(II)I"⟩, 8) := ⟨⟨by decide +kernel, by decide +kernel⟩, List.mem_of_getElem? (i := 17) (by decide +kernel), List.mem_of_getElem? (i := 748) (by decide +kernel), List.mem_of_getElem? (i := 749) (by decide +kernel)⟩
theorem lw_p27 : lw_okq (⟨"FairDraws", "takeWithout", "(I)V"⟩, 8) := ⟨⟨by decide +kernel, by decide +kernel⟩, List.mem_of_getElem? (i := 17) (by decide +kernel), List.mem_of_getElem? (i := 764) (by decide +kernel), List.mem_of_getElem? (i := 765) (by decide +kernel)⟩
theorem lw_p28 : lw_okq (⟨"FairDraws", "rivalTime", "(I)I"⟩, 8) := ⟨⟨by decide +kernel, by decide +kernel⟩, List.mem_of_getElem? (i := 17) (by decide +kernel), List.mem_of_getElem? (i := 793) (by decide +kernel), List.mem_of_getElem? (i := 794) (by decide +kernel)⟩
theorem lw_p29 : lw_okq (⟨"FairDraws", "askThen", "(I)V"⟩, 8) := ⟨⟨by decide +kernel, by decide +kernel⟩, List.mem_of_getElem? (i := 17) (by decide +kernel), List.mem_of_getElem? (i := 814) (by decide +kernel), List.mem_of_getElem? (i := 815) (by decide +kernel)⟩
theorem lw_p30 : lw_okq (⟨"FairDraws", "putOutBy", "(I)I"⟩, 8) := ⟨⟨by decide +kernel, by decide +kernel⟩, List.mem_of_getElem? (i := 17) (by decide +kernel), List.mem_of_getElem? (i := 822) (by decide +kernel), List.mem_of_getElem? (i := 823) (by decide +kernel)⟩
theorem lw_p31 : lw_okq (⟨"FairDraws", "weightOfSample", "(I)I"⟩, 8) := ⟨⟨by decide +kernel, by decide +kernel⟩, List.mem_of_getElem? (i := 17) (by decide +kernel), List.mem_of_getElem? (i := 842) (by decide +kernel), List.mem_of_getElem? (i := 843) (by decide +kernel)⟩
def lw_privs_2 : List (MethodName × Nat) := [(⟨"FairDraws$Sampler", "isAskedFor", "(LFairDraws$State;I)Z"⟩, 9), (⟨"FairDraws$State", "isAliveOf", "(III)Z"⟩, 13), (⟨"FairDraws", "isKept", "(I)Z"⟩, 8), (⟨"FairDraws", "lifeOf", "(I)I"⟩, 8), (⟨"FairDraws", "aheadInSample", "(I)I"⟩, 8), (⟨"FairDraws", "aheadOfAlive", "(I)I"⟩, 8), (⟨"FairDraws", "takeMerged", "(II)V"⟩, 8), (⟨"FairDraws", "lastOfFull", "(I)I"⟩, 8), (⟨"FairDraws", "leastLotForSample", "(II)I"⟩, 8), (⟨"FairDraws", "leastLotAhead", "(II)I"⟩, 8), (⟨"FairDraws", "kindsBySize", "(II)I"⟩, 8), (⟨"FairDraws", "takeWithout", "(I)V"⟩, 8), (⟨"FairDraws", "rivalTime", "(I)I"⟩, 8), (⟨"FairDraws", "askThen", "(I)V"⟩, 8), (⟨"FairDraws", "putOutBy", "(I)I"⟩, 8), (⟨"FairDraws", "weightOfSample", "(I)I"⟩, 8)]
theorem lw_r2 : ∀ q ∈ lw_privs_2, lw_okq q := List.forall_mem_cons.mpr ⟨lw_p16, List.forall_mem_cons.mpr ⟨lw_p17, List.forall_mem_cons.mpr ⟨lw_p18, List.forall_mem_cons.mpr ⟨lw_p19, List.forall_mem_cons.mpr ⟨lw_p20, List.forall_mem_cons.mpr ⟨lw_p21, List.forall_mem_cons.mpr ⟨lw_p22, List.forall_mem_cons.mpr ⟨lw_p23, List.forall_mem_cons.mpr ⟨lw_p24, List.forall_mem_cons.mpr ⟨lw_p25, List.forall_mem_cons.mpr ⟨lw_p26, List.forall_mem_cons.mpr ⟨lw_p27, List.forall_mem_cons.mpr ⟨lw_p28, List.forall_mem_cons.mpr ⟨lw_p29, List.forall_mem_cons.mpr ⟨lw_p30, List.forall_mem_cons.mpr ⟨lw_p31, fun _ h => absurd h List.not_mem_nil⟩⟩⟩⟩⟩⟩⟩⟩⟩⟩⟩⟩⟩⟩⟩⟩
theorem lw_p32 : lw_okq (⟨"FairDraws$Teller", "tellShards", "(LFairDraws$State;)V"⟩, 3) := ⟨⟨by decide +kernel, by decide +kernel⟩, List.mem_of_getElem? (i := 213) (by decide +kernel), List.mem_of_getElem? (i := 873) (by decide +kernel), List.mem_of_getElem? (i := 874) (by decide +kernel)⟩
theorem lw_p33 : lw_okq (⟨"FairDraws$Teller", "tellWord", "(Ljava/lang/String;)V"⟩, 3) := ⟨⟨by decide +kernel, by decide +kernel⟩, List.mem_of_getElem? (i := 213) (by decide +kernel), List.mem_of_getElem? (i := 878) (by decide +kernel), List.mem_of_getElem? (i := 879) (by decide +kernel)⟩
theorem lw_p34 : lw_okq (⟨"FairDraws$Teller", "tellByte", "(I)V"⟩, 3) := ⟨⟨by decide +kernel, by decide +kernel⟩, List.mem_of_getElem? (i := 213) (by decide +kernel), List.mem_of_getElem? (i := 882) (by decide +kernel), List.mem_of_getElem? (i := 883) (by decide +kernel)⟩
theorem lw_p35 : lw_okq (⟨"FairDraws$Teller", "tellNumber", "(I)V"⟩, 3) := ⟨⟨by decide +kernel, by decide +kernel⟩, List.mem_of_getElem? (i := 213) (by decide +kernel), List.mem_of_getElem? (i := 888) (by decide +kernel), List.mem_of_getElem? (i := 889) (by decide +kernel)⟩
theorem lw_p36 : lw_okq (⟨"FairDraws$Teller", "tellWaits", "(I)V"⟩, 3) := ⟨⟨by decide +kernel, by decide +kernel⟩, List.mem_of_getElem? (i := 213) (by decide +kernel), List.mem_of_getElem? (i := 893) (by decide +kernel), List.mem_of_getElem? (i := 894) (by decide +kernel)⟩
theorem lw_p37 : lw_okq (⟨"FairDraws$Teller", "tellItem", "(LFairDraws$State;I)V"⟩, 3) := ⟨⟨by decide +kernel, by decide +kernel⟩, List.mem_of_getElem? (i := 213) (by decide +kernel), List.mem_of_getElem? (i := 899) (by decide +kernel), List.mem_of_getElem? (i := 900) (by decide +kernel)⟩
theorem lw_p38 : lw_okq (⟨"FairDrawsModel", "isItem", "(I)Z"⟩, 22) := ⟨⟨by decide +kernel, by decide +kernel⟩, List.mem_of_getElem? (i := 915) (by decide +kernel), List.mem_of_getElem? (i := 995) (by decide +kernel), List.mem_of_getElem? (i := 996) (by decide +kernel)⟩
theorem lw_p39 : lw_okq (⟨"FairDrawsModel", "item", "(II)I"⟩, 22) := ⟨⟨by decide +kernel, by decide +kernel⟩, List.mem_of_getElem? (i := 915) (by decide +kernel), List.mem_of_getElem? (i := 1002) (by decide +kernel), List.mem_of_getElem? (i := 1003) (by decide +kernel)⟩
theorem lw_p40 : lw_okq (⟨"FairDrawsModel", "comparedKeys", "(IIII)I"⟩, 22) := ⟨⟨by decide +kernel, by decide +kernel⟩, List.mem_of_getElem? (i := 915) (by decide +kernel), List.mem_of_getElem? (i := 1006) (by decide +kernel), List.mem_of_getElem? (i := 1007) (by decide +kernel)⟩
theorem lw_p41 : lw_okq (⟨"FairDrawsModel", "compared", "()I"⟩, 22) := ⟨⟨by decide +kernel, by decide +kernel⟩, List.mem_of_getElem? (i := 915) (by decide +kernel), List.mem_of_getElem? (i := 1017) (by decide +kernel), List.mem_of_getElem? (i := 1018) (by decide +kernel)⟩
theorem lw_p42 : lw_okq (⟨"FairDrawsModel", "isNoMore", "(III)Z"⟩, 22) := ⟨⟨by decide +kernel, by decide +kernel⟩, List.mem_of_getElem? (i := 915) (by decide +kernel), List.mem_of_getElem? (i := 1026) (by decide +kernel), List.mem_of_getElem? (i := 1027) (by decide +kernel)⟩
theorem lw_p43 : lw_okq (⟨"FairDrawsModel", "shardOf", "(I)I"⟩, 22) := ⟨⟨by decide +kernel, by decide +kernel⟩, List.mem_of_getElem? (i := 915) (by decide +kernel), List.mem_of_getElem? (i := 1034) (by decide +kernel), List.mem_of_getElem? (i := 1035) (by decide +kernel)⟩
theorem lw_p44 : lw_okq (⟨"FairDrawsModel", "isDropped", "(I)Z"⟩, 22) := ⟨⟨by decide +kernel, by decide +kernel⟩, List.mem_of_getElem? (i := 915) (by decide +kernel), List.mem_of_getElem? (i := 1038) (by decide +kernel), List.mem_of_getElem? (i := 1039) (by decide +kernel)⟩
theorem lw_p45 : lw_okq (⟨"FairDrawsModel", "isAlive", "(I)Z"⟩, 22) := ⟨⟨by decide +kernel, by decide +kernel⟩, List.mem_of_getElem? (i := 915) (by decide +kernel), List.mem_of_getElem? (i := 1042) (by decide +kernel), List.mem_of_getElem? (i := 1043) (by decide +kernel)⟩
theorem lw_p46 : lw_okq (⟨"FairDrawsModel", "isAliveAt", "(III)Z"⟩, 22) := ⟨⟨by decide +kernel, by decide +kernel⟩, List.mem_of_getElem? (i := 915) (by decide +kernel), List.mem_of_getElem? (i := 1046) (by decide +kernel), List.mem_of_getElem? (i := 1047) (by decide +kernel)⟩
theorem lw_p47 : lw_okq (⟨"FairDrawsModel", "laysSample", "(I)V"⟩, 22) := ⟨⟨by decide +kernel, by decide +kernel⟩, List.mem_of_getElem? (i := 915) (by decide +kernel), List.mem_of_getElem? (i := 1050) (by decide +kernel), List.mem_of_getElem? (i := 1051) (by decide +kernel)⟩
def lw_privs_3 : List (MethodName × Nat) := [(⟨"FairDraws$Teller", "tellShards", "(LFairDraws$State;)V"⟩, 3), (⟨"FairDraws$Teller", "tellWord", "(Ljava/lang/String;)V"⟩, 3), (⟨"FairDraws$Teller", "tellByte", "(I)V"⟩, 3), (⟨"FairDraws$Teller", "tellNumber", "(I)V"⟩, 3), (⟨"FairDraws$Teller", "tellWaits", "(I)V"⟩, 3), (⟨"FairDraws$Teller", "tellItem", "(LFairDraws$State;I)V"⟩, 3), (⟨"FairDrawsModel", "isItem", "(I)Z"⟩, 22), (⟨"FairDrawsModel", "item", "(II)I"⟩, 22), (⟨"FairDrawsModel", "comparedKeys", "(IIII)I"⟩, 22), (⟨"FairDrawsModel", "compared", "()I"⟩, 22), (⟨"FairDrawsModel", "isNoMore", "(III)Z"⟩, 22), (⟨"FairDrawsModel", "shardOf", "(I)I"⟩, 22), (⟨"FairDrawsModel", "isDropped", "(I)Z"⟩, 22), (⟨"FairDrawsModel", "isAlive", "(I)Z"⟩, 22), (⟨"FairDrawsModel", "isAliveAt", "(III)Z"⟩, 22), (⟨"FairDrawsModel", "laysSample", "(I)V"⟩, 22)]
theorem lw_r3 : ∀ q ∈ lw_privs_3, lw_okq q := List.forall_mem_cons.mpr ⟨lw_p32, List.forall_mem_cons.mpr ⟨lw_p33, List.forall_mem_cons.mpr ⟨lw_p34, List.forall_mem_cons.mpr ⟨lw_p35, List.forall_mem_cons.mpr ⟨lw_p36, List.forall_mem_cons.mpr ⟨lw_p37, List.forall_mem_cons.mpr ⟨lw_p38, List.forall_mem_cons.mpr ⟨lw_p39, List.forall_mem_cons.mpr ⟨lw_p40, List.forall_mem_cons.mpr ⟨lw_p41, List.forall_mem_cons.mpr ⟨lw_p42, List.forall_mem_cons.mpr ⟨lw_p43, List.forall_mem_cons.mpr ⟨lw_p44, List.forall_mem_cons.mpr ⟨lw_p45, List.forall_mem_cons.mpr ⟨lw_p46, List.forall_mem_cons.mpr ⟨lw_p47, fun _ h => absurd h List.not_mem_nil⟩⟩⟩⟩⟩⟩⟩⟩⟩⟩⟩⟩⟩⟩⟩⟩
theorem lw_p48 : lw_okq (⟨"FairDrawsModel", "laysAlive", "(I)V"⟩, 22) := ⟨⟨by decide +kernel, by decide +kernel⟩, List.mem_of_getElem? (i := 915) (by decide +kernel), List.mem_of_getElem? (i := 1054) (by decide +kernel), List.mem_of_getElem? (i := 1055) (by decide +kernel)⟩
theorem lw_p49 : lw_okq (⟨"FairDrawsModel", "lays", "(IIII)V"⟩, 22) := ⟨⟨by decide +kernel, by decide +kernel⟩, List.mem_of_getElem? (i := 915) (by decide +kernel), List.mem_of_getElem? (i := 1058) (by decide +kernel), List.mem_of_getElem? (i := 1059) (by decide +kernel)⟩
theorem lw_p50 : lw_okq (⟨"FairDrawsModel", "ranks", "()V"⟩, 22) := ⟨⟨by decide +kernel, by decide +kernel⟩, List.mem_of_getElem? (i := 915) (by decide +kernel), List.mem_of_getElem? (i := 1062) (by decide +kernel), List.mem_of_getElem? (i := 1063) (by decide +kernel)⟩
theorem lw_p51 : lw_okq (⟨"FairDrawsModel", "areInOrder", "(II)Z"⟩, 22) := ⟨⟨by decide +kernel, by decide +kernel⟩, List.mem_of_getElem? (i := 915) (by decide +kernel), List.mem_of_getElem? (i := 1066) (by decide +kernel), List.mem_of_getElem? (i := 1067) (by decide +kernel)⟩
theorem lw_p52 : lw_okq (⟨"FairDrawsModel", "isAhead", "(IIII)Z"⟩, 22) := ⟨⟨by decide +kernel, by decide +kernel⟩, List.mem_of_getElem? (i := 915) (by decide +kernel), List.mem_of_getElem? (i := 1070) (by decide +kernel), List.mem_of_getElem? (i := 1071) (by decide +kernel)⟩
theorem lw_p53 : lw_okq (⟨"FairDrawsModel", "begins", "()V"⟩, 22) := ⟨⟨by decide +kernel, by decide +kernel⟩, List.mem_of_getElem? (i := 915) (by decide +kernel), List.mem_of_getElem? (i := 1074) (by decide +kernel), List.mem_of_getElem? (i := 1075) (by decide +kernel)⟩
theorem lw_p54 : lw_okq (⟨"FairDrawsModel", "comesIn", "(I)V"⟩, 22) := ⟨⟨by decide +kernel, by decide +kernel⟩, List.mem_of_getElem? (i := 915) (by decide +kernel), List.mem_of_getElem? (i := 1078) (by decide +kernel), List.mem_of_getElem? (i := 1079) (by decide +kernel)⟩
theorem lw_p55 : lw_okq (⟨"FairDrawsModel", "cuts", "(I)V"⟩, 22) := ⟨⟨by decide +kernel, by decide +kernel⟩, List.mem_of_getElem? (i := 915) (by decide +kernel), List.mem_of_getElem? (i := 1082) (by decide +kernel), List.mem_of_getElem? (i := 1083) (by decide +kernel)⟩
theorem lw_p56 : lw_okq (⟨"FairDrawsModel", "placeOf", "(I)I"⟩, 22) := ⟨⟨by decide +kernel, by decide +kernel⟩, List.mem_of_getElem? (i := 915) (by decide +kernel), List.mem_of_getElem? (i := 1086) (by decide +kernel), List.mem_of_getElem? (i := 1087) (by decide +kernel)⟩
theorem lw_p57 : lw_okq (⟨"FairDrawsModel", "toldOf", "(I)I"⟩, 22) := ⟨⟨by decide +kernel, by decide +kernel⟩, List.mem_of_getElem? (i := 915) (by decide +kernel), List.mem_of_getElem? (i := 1098) (by decide +kernel), List.mem_of_getElem? (i := 1099) (by decide +kernel)⟩
theorem lw_p58 : lw_okq (⟨"FairDrawsModel", "laysMerged", "(II)Z"⟩, 22) := ⟨⟨by decide +kernel, by decide +kernel⟩, List.mem_of_getElem? (i := 915) (by decide +kernel), List.mem_of_getElem? (i := 1106) (by decide +kernel), List.mem_of_getElem? (i := 1107) (by decide +kernel)⟩
theorem lw_p59 : lw_okq (⟨"FairDrawsModel", "labelled", "(I)I"⟩, 22) := ⟨⟨by decide +kernel, by decide +kernel⟩, List.mem_of_getElem? (i := 915) (by decide +kernel), List.mem_of_getElem? (i := 1121) (by decide +kernel), List.mem_of_getElem? (i := 1122) (by decide +kernel)⟩
theorem lw_p60 : lw_okq (⟨"FairDrawsModel", "wouldBeIn", "(III)Z"⟩, 22) := ⟨⟨by decide +kernel, by decide +kernel⟩, List.mem_of_getElem? (i := 915) (by decide +kernel), List.mem_of_getElem? (i := 1134) (by decide +kernel), List.mem_of_getElem? (i := 1135) (by decide +kernel)⟩
theorem lw_p61 : lw_okq (⟨"FairDrawsModel", "drawn", "([I)I"⟩, 22) := ⟨⟨by decide +kernel, by decide +kernel⟩, List.mem_of_getElem? (i := 915) (by decide +kernel), List.mem_of_getElem? (i := 1147) (by decide +kernel), List.mem_of_getElem? (i := 1148) (by decide +kernel)⟩
theorem lw_p62 : lw_okq (⟨"FairDrawsModel", "lessWindow", "(II)I"⟩, 22) := ⟨⟨by decide +kernel, by decide +kernel⟩, List.mem_of_getElem? (i := 915) (by decide +kernel), List.mem_of_getElem? (i := 1166) (by decide +kernel), List.mem_of_getElem? (i := 1167) (by decide +kernel)⟩
theorem lw_p63 : lw_okq (⟨"FairDrawsModel", "nextDeath", "(II)I"⟩, 22) := ⟨⟨by decide +kernel, by decide +kernel⟩, List.mem_of_getElem? (i := 915) (by decide +kernel), List.mem_of_getElem? (i := 1179) (by decide +kernel), List.mem_of_getElem? (i := 1180) (by decide +kernel)⟩
def lw_privs_4 : List (MethodName × Nat) := [(⟨"FairDrawsModel", "laysAlive", "(I)V"⟩, 22), (⟨"FairDrawsModel", "lays", "(IIII)V"⟩, 22), (⟨"FairDrawsModel", "ranks", "()V"⟩, 22), (⟨"FairDrawsModel", "areInOrder", "(II)Z"⟩, 22), (⟨"FairDrawsModel", "isAhead", "(IIII)Z"⟩, 22), (⟨"FairDrawsModel", "begins", "()V"⟩, 22), (⟨"FairDrawsModel", "comesIn", "(I)V"⟩, 22), (⟨"FairDrawsModel", "cuts", "(I)V"⟩, 22), (⟨"FairDrawsModel", "placeOf", "(I)I"⟩, 22), (⟨"FairDrawsModel", "toldOf", "(I)I"⟩, 22), (⟨"FairDrawsModel", "laysMerged", "(II)Z"⟩, 22), (⟨"FairDrawsModel", "labelled", "(I)I"⟩, 22), (⟨"FairDrawsModel", "wouldBeIn", "(III)Z"⟩, 22), (⟨"FairDrawsModel", "drawn", "([I)I"⟩, 22), (⟨"FairDrawsModel", "lessWindow", "(II)I"⟩, 22), (⟨"FairDrawsModel", "nextDeath", "(II)I"⟩, 22)]
theorem lw_r4 : ∀ q ∈ lw_privs_4, lw_okq q := List.forall_mem_cons.mpr ⟨lw_p48, List.forall_mem_cons.mpr ⟨lw_p49, List.forall_mem_cons.mpr ⟨lw_p50, List.forall_mem_cons.mpr ⟨lw_p51, List.forall_mem_cons.mpr ⟨lw_p52, List.forall_mem_cons.mpr ⟨lw_p53, List.forall_mem_cons.mpr ⟨lw_p54, List.forall_mem_cons.mpr ⟨lw_p55, List.forall_mem_cons.mpr ⟨lw_p56, List.forall_mem_cons.mpr ⟨lw_p57, List.forall_mem_cons.mpr ⟨lw_p58, List.forall_mem_cons.mpr ⟨lw_p59, List.forall_mem_cons.mpr ⟨lw_p60, List.forall_mem_cons.mpr ⟨lw_p61, List.forall_mem_cons.mpr ⟨lw_p62, List.forall_mem_cons.mpr ⟨lw_p63, fun _ h => absurd h List.not_mem_nil⟩⟩⟩⟩⟩⟩⟩⟩⟩⟩⟩⟩⟩⟩⟩⟩
theorem lw_p64 : lw_okq (⟨"FairDrawsModel", "laysThen", "(IZ)V"⟩, 22) := ⟨⟨by decide +kernel, by decide +kernel⟩, List.mem_of_getElem? (i := 915) (by decide +kernel), List.mem_of_getElem? (i := 1192) (by decide +kernel), List.mem_of_getElem? (i := 1193) (by decide +kernel)⟩
theorem lw_p65 : lw_okq (⟨"FairDrawsModel", "putsOut", "(II)Z"⟩, 22) := ⟨⟨by decide +kernel, by decide +kernel⟩, List.mem_of_getElem? (i := 915) (by decide +kernel), List.mem_of_getElem? (i := 1200) (by decide +kernel), List.mem_of_getElem? (i := 1201) (by decide +kernel)⟩
theorem lw_p66 : lw_okq (⟨"FairDrawsModel", "weights", "()I"⟩, 22) := ⟨⟨by decide +kernel, by decide +kernel⟩, List.mem_of_getElem? (i := 915) (by decide +kernel), List.mem_of_getElem? (i := 1217) (by decide +kernel), List.mem_of_getElem? (i := 1218) (by decide +kernel)⟩
theorem lw_p67 : lw_okq (⟨"FairDrawsModel", "thereIn", "(I)I"⟩, 22) := ⟨⟨by decide +kernel, by decide +kernel⟩, List.mem_of_getElem? (i := 915) (by decide +kernel), List.mem_of_getElem? (i := 1221) (by decide +kernel), List.mem_of_getElem? (i := 1222) (by decide +kernel)⟩
theorem lw_p68 : lw_okq (⟨"FairDrawsModel", "putsAside", "()V"⟩, 22) := ⟨⟨by decide +kernel, by decide +kernel⟩, List.mem_of_getElem? (i := 915) (by decide +kernel), List.mem_of_getElem? (i := 1237) (by decide +kernel), List.mem_of_getElem? (i := 1238) (by decide +kernel)⟩
theorem lw_p69 : lw_okq (⟨"FairDrawsModel", "exchanges", "([II)V"⟩, 22) := ⟨⟨by decide +kernel, by decide +kernel⟩, List.mem_of_getElem? (i := 915) (by decide +kernel), List.mem_of_getElem? (i := 1241) (by decide +kernel), List.mem_of_getElem? (i := 1242) (by decide +kernel)⟩
theorem lw_p70 : lw_okq (⟨"FairDrawsModel", "keepsAct", "()V"⟩, 22) := ⟨⟨by decide +kernel, by decide +kernel⟩, List.mem_of_getElem? (i := 915) (by decide +kernel), List.mem_of_getElem? (i := 1249) (by decide +kernel), List.mem_of_getElem? (i := 1250) (by decide +kernel)⟩
theorem lw_p71 : lw_okq (⟨"FairDrawsModel", "comesNew", "(IIII)I"⟩, 22) := ⟨⟨by decide +kernel, by decide +kernel⟩, List.mem_of_getElem? (i := 915) (by decide +kernel), List.mem_of_getElem? (i := 1253) (by decide +kernel), List.mem_of_getElem? (i := 1254) (by decide +kernel)⟩
theorem lw_p72 : lw_okq (⟨"FairDrawsModel", "sets", "(III)V"⟩, 22) := ⟨⟨by decide +kernel, by decide +kernel⟩, List.mem_of_getElem? (i := 915) (by decide +kernel), List.mem_of_getElem? (i := 1257) (by decide +kernel), List.mem_of_getElem? (i := 1258) (by decide +kernel)⟩
theorem lw_p73 : lw_okq (⟨"FairDrawsModel", "becomes", "(II)I"⟩, 22) := ⟨⟨by decide +kernel, by decide +kernel⟩, List.mem_of_getElem? (i := 915) (by decide +kernel), List.mem_of_getElem? (i := 1274) (by decide +kernel), List.mem_of_getElem? (i := 1275) (by decide +kernel)⟩
theorem lw_p74 : lw_okq (⟨"FairDrawsModel", "isThere", "(I)Z"⟩, 22) := ⟨⟨by decide +kernel, by decide +kernel⟩, List.mem_of_getElem? (i := 915) (by decide +kernel), List.mem_of_getElem? (i := 1286) (by decide +kernel), List.mem_of_getElem? (i := 1287) (by decide +kernel)⟩
theorem lw_p75 : lw_okq (⟨"FairDrawsModel", "spellAll", "()V"⟩, 22) := ⟨⟨by decide +kernel, by decide +kernel⟩, List.mem_of_getElem? (i := 915) (by decide +kernel), List.mem_of_getElem? (i := 1335) (by decide +kernel), List.mem_of_getElem? (i := 1336) (by decide +kernel)⟩
theorem lw_p76 : lw_okq (⟨"FairDrawsModel", "spells", "(Ljava/lang/String;)V"⟩, 22) := ⟨⟨by decide +kernel, by decide +kernel⟩, List.mem_of_getElem? (i := 915) (by decide +kernel), List.mem_of_getElem? (i := 1340) (by decide +kernel), List.mem_of_getElem? (i := 1341) (by decide +kernel)⟩
theorem lw_p77 : lw_okq (⟨"FairDrawsModel", "spell", "(I)V"⟩, 22) := ⟨⟨by decide +kernel, by decide +kernel⟩, List.mem_of_getElem? (i := 915) (by decide +kernel), List.mem_of_getElem? (i := 1344) (by decide +kernel), List.mem_of_getElem? (i := 1345) (by decide +kernel)⟩
theorem lw_p78 : lw_okq (⟨"FairDrawsModel", "spellsOn", "(I)V"⟩, 22) := ⟨⟨by decide +kernel, by decide +kernel⟩, List.mem_of_getElem? (i := 915) (by decide +kernel), List.mem_of_getElem? (i := 1350) (by decide +kernel), List.mem_of_getElem? (i := 1351) (by decide +kernel)⟩
theorem lw_p79 : lw_okq (⟨"FairDrawsModel", "spellNumber", "(I)V"⟩, 22) := ⟨⟨by decide +kernel, by decide +kernel⟩, List.mem_of_getElem? (i := 915) (by decide +kernel), List.mem_of_getElem? (i := 1354) (by decide +kernel), List.mem_of_getElem? (i := 1355) (by decide +kernel)⟩
def lw_privs_5 : List (MethodName × Nat) := [(⟨"FairDrawsModel", "laysThen", "(IZ)V"⟩, 22), (⟨"FairDrawsModel", "putsOut", "(II)Z"⟩, 22), (⟨"FairDrawsModel", "weights", "()I"⟩, 22), (⟨"FairDrawsModel", "thereIn", "(I)I"⟩, 22), (⟨"FairDrawsModel", "putsAside", "()V"⟩, 22), (⟨"FairDrawsModel", "exchanges", "([II)V"⟩, 22), (⟨"FairDrawsModel", "keepsAct", "()V"⟩, 22), (⟨"FairDrawsModel", "comesNew", "(IIII)I"⟩, 22), (⟨"FairDrawsModel", "sets", "(III)V"⟩, 22), (⟨"FairDrawsModel", "becomes", "(II)I"⟩, 22), (⟨"FairDrawsModel", "isThere", "(I)Z"⟩, 22), (⟨"FairDrawsModel", "spellAll", "()V"⟩, 22), (⟨"FairDrawsModel", "spells", "(Ljava/lang/String;)V"⟩, 22), (⟨"FairDrawsModel", "spell", "(I)V"⟩, 22), (⟨"FairDrawsModel", "spellsOn", "(I)V"⟩, 22), (⟨"FairDrawsModel", "spellNumber", "(I)V"⟩, 22)]
theorem lw_r5 : ∀ q ∈ lw_privs_5, lw_okq q := List.forall_mem_cons.mpr ⟨lw_p64, List.forall_mem_cons.mpr ⟨lw_p65, List.forall_mem_cons.mpr ⟨lw_p66, List.forall_mem_cons.mpr ⟨lw_p67, List.forall_mem_cons.mpr ⟨lw_p68, List.forall_mem_cons.mpr ⟨lw_p69, List.forall_mem_cons.mpr ⟨lw_p70, List.forall_mem_cons.mpr ⟨lw_p71, List.forall_mem_cons.mpr ⟨lw_p72, List.forall_mem_cons.mpr ⟨lw_p73, List.forall_mem_cons.mpr ⟨lw_p74, List.forall_mem_cons.mpr ⟨lw_p75, List.forall_mem_cons.mpr ⟨lw_p76, List.forall_mem_cons.mpr ⟨lw_p77, List.forall_mem_cons.mpr ⟨lw_p78, List.forall_mem_cons.mpr ⟨lw_p79, fun _ h => absurd h List.not_mem_nil⟩⟩⟩⟩⟩⟩⟩⟩⟩⟩⟩⟩⟩⟩⟩⟩
theorem lw_p80 : lw_okq (⟨"FairDrawsModel", "spellWait", "(I)V"⟩, 22) := ⟨⟨by decide +kernel, by decide +kernel⟩, List.mem_of_getElem? (i := 915) (by decide +kernel), List.mem_of_getElem? (i := 1359) (by decide +kernel), List.mem_of_getElem? (i := 1360) (by decide +kernel)⟩
theorem lw_p81 : lw_okq (⟨"FairDrawsModel", "laysFour", "(I)V"⟩, 22) := ⟨⟨by decide +kernel, by decide +kernel⟩, List.mem_of_getElem? (i := 915) (by decide +kernel), List.mem_of_getElem? (i := 1380) (by decide +kernel), List.mem_of_getElem? (i := 1381) (by decide +kernel)⟩
theorem lw_p82 : lw_okq (⟨"FairDrawsModel", "readsAll", "()Z"⟩, 22) := ⟨⟨by decide +kernel, by decide +kernel⟩, List.mem_of_getElem? (i := 915) (by decide +kernel), List.mem_of_getElem? (i := 1392) (by decide +kernel), List.mem_of_getElem? (i := 1393) (by decide +kernel)⟩
theorem lw_p83 : lw_okq (⟨"FairDrawsModel", "readsStatement", "()Z"⟩, 22) := ⟨⟨by decide +kernel, by decide +kernel⟩, List.mem_of_getElem? (i := 915) (by decide +kernel), List.mem_of_getElem? (i := 1396) (by decide +kernel), List.mem_of_getElem? (i := 1397) (by decide +kernel)⟩
theorem lw_p84 : lw_okq (⟨"FairDrawsModel", "nextByte", "()I"⟩, 22) := ⟨⟨by decide +kernel, by decide +kernel⟩, List.mem_of_getElem? (i := 915) (by decide +kernel), List.mem_of_getElem? (i := 1400) (by decide +kernel), List.mem_of_getElem? (i := 1401) (by decide +kernel)⟩
theorem lw_p85 : lw_okq (⟨"FairDrawsModel", "byteAt", "(I)I"⟩, 22) := ⟨⟨by decide +kernel, by decide +kernel⟩, List.mem_of_getElem? (i := 915) (by decide +kernel), List.mem_of_getElem? (i := 1404) (by decide +kernel), List.mem_of_getElem? (i := 1405) (by decide +kernel)⟩
theorem lw_p86 : lw_okq (⟨"FairDrawsModel", "takesWord", "(Ljava/lang/String;)Z"⟩, 22) := ⟨⟨by decide +kernel, by decide +kernel⟩, List.mem_of_getElem? (i := 915) (by decide +kernel), List.mem_of_getElem? (i := 1408) (by decide +kernel), List.mem_of_getElem? (i := 1409) (by decide +kernel)⟩
theorem lw_p87 : lw_okq (⟨"FairDrawsModel", "readsSize", "()Z"⟩, 22) := ⟨⟨by decide +kernel, by decide +kernel⟩, List.mem_of_getElem? (i := 915) (by decide +kernel), List.mem_of_getElem? (i := 1414) (by decide +kernel), List.mem_of_getElem? (i := 1415) (by decide +kernel)⟩
theorem lw_p88 : lw_okq (⟨"FairDrawsModel", "readsNumber", "(II)Z"⟩, 22) := ⟨⟨by decide +kernel, by decide +kernel⟩, List.mem_of_getElem? (i := 915) (by decide +kernel), List.mem_of_getElem? (i := 1418) (by decide +kernel), List.mem_of_getElem? (i := 1419) (by decide +kernel)⟩
theorem lw_p89 : lw_okq (⟨"FairDrawsModel", "fails", "(II)Z"⟩, 22) := ⟨⟨by decide +kernel, by decide +kernel⟩, List.mem_of_getElem? (i := 915) (by decide +kernel), List.mem_of_getElem? (i := 1424) (by decide +kernel), List.mem_of_getElem? (i := 1425) (by decide +kernel)⟩
theorem lw_p90 : lw_okq (⟨"FairDrawsModel", "readsWindow", "()Z"⟩, 22) := ⟨⟨by decide +kernel, by decide +kernel⟩, List.mem_of_getElem? (i := 915) (by decide +kernel), List.mem_of_getElem? (i := 1428) (by decide +kernel), List.mem_of_getElem? (i := 1429) (by decide +kernel)⟩
theorem lw_p91 : lw_okq (⟨"FairDrawsModel", "readsSeed", "()Z"⟩, 22) := ⟨⟨by decide +kernel, by decide +kernel⟩, List.mem_of_getElem? (i := 915) (by decide +kernel), List.mem_of_getElem? (i := 1432) (by decide +kernel), List.mem_of_getElem? (i := 1433) (by decide +kernel)⟩
theorem lw_p92 : lw_okq (⟨"FairDrawsModel", "readsWait", "(I)Z"⟩, 22) := ⟨⟨by decide +kernel, by decide +kernel⟩, List.mem_of_getElem? (i := 915) (by decide +kernel), List.mem_of_getElem? (i := 1437) (by decide +kernel), List.mem_of_getElem? (i := 1438) (by decide +kernel)⟩
theorem lw_p93 : lw_okq (⟨"FairDrawsModel", "readsItem", "(IZ)Z"⟩, 22) := ⟨⟨by decide +kernel, by decide +kernel⟩, List.mem_of_getElem? (i := 915) (by decide +kernel), List.mem_of_getElem? (i := 1442) (by decide +kernel), List.mem_of_getElem? (i := 1443) (by decide +kernel)⟩
theorem lw_p94 : lw_okq (⟨"FairDrawsModel", "readsLabel", "()Z"⟩, 22) := ⟨⟨by decide +kernel, by decide +kernel⟩, List.mem_of_getElem? (i := 915) (by decide +kernel), List.mem_of_getElem? (i := 1446) (by decide +kernel), List.mem_of_getElem? (i := 1447) (by decide +kernel)⟩
theorem lw_p95 : lw_okq (⟨"FairDrawsModel", "isExpired", "(I)Z"⟩, 22) := ⟨⟨by decide +kernel, by decide +kernel⟩, List.mem_of_getElem? (i := 915) (by decide +kernel), List.mem_of_getElem? (i := 1471) (by decide +kernel), List.mem_of_getElem? (i := 1472) (by decide +kernel)⟩
def lw_privs_6 : List (MethodName × Nat) := [(⟨"FairDrawsModel", "spellWait", "(I)V"⟩, 22), (⟨"FairDrawsModel", "laysFour", "(I)V"⟩, 22), (⟨"FairDrawsModel", "readsAll", "()Z"⟩, 22), (⟨"FairDrawsModel", "readsStatement", "()Z"⟩, 22), (⟨"FairDrawsModel", "nextByte", "()I"⟩, 22), (⟨"FairDrawsModel", "byteAt", "(I)I"⟩, 22), (⟨"FairDrawsModel", "takesWord", "(Ljava/lang/String;)Z"⟩, 22), (⟨"FairDrawsModel", "readsSize", "()Z"⟩, 22), (⟨"FairDrawsModel", "readsNumber", "(II)Z"⟩, 22), (⟨"FairDrawsModel", "fails", "(II)Z"⟩, 22), (⟨"FairDrawsModel", "readsWindow", "()Z"⟩, 22), (⟨"FairDrawsModel", "readsSeed", "()Z"⟩, 22), (⟨"FairDrawsModel", "readsWait", "(I)Z"⟩, 22), (⟨"FairDrawsModel", "readsItem", "(IZ)Z"⟩, 22), (⟨"FairDrawsModel", "readsLabel", "()Z"⟩, 22), (⟨"FairDrawsModel", "isExpired", "(I)Z"⟩, 22)]
theorem lw_r6 : ∀ q ∈ lw_privs_6, lw_okq q := List.forall_mem_cons.mpr ⟨lw_p80, List.forall_mem_cons.mpr ⟨lw_p81, List.forall_mem_cons.mpr ⟨lw_p82, List.forall_mem_cons.mpr ⟨lw_p83, List.forall_mem_cons.mpr ⟨lw_p84, List.forall_mem_cons.mpr ⟨lw_p85, List.forall_mem_cons.mpr ⟨lw_p86, List.forall_mem_cons.mpr ⟨lw_p87, List.forall_mem_cons.mpr ⟨lw_p88, List.forall_mem_cons.mpr ⟨lw_p89, List.forall_mem_cons.mpr ⟨lw_p90, List.forall_mem_cons.mpr ⟨lw_p91, List.forall_mem_cons.mpr ⟨lw_p92, List.forall_mem_cons.mpr ⟨lw_p93, List.forall_mem_cons.mpr ⟨lw_p94, List.forall_mem_cons.mpr ⟨lw_p95, fun _ h => absurd h List.not_mem_nil⟩⟩⟩⟩⟩⟩⟩⟩⟩⟩⟩⟩⟩⟩⟩⟩
theorem lw_p96 : lw_okq (⟨"FairDrawsModel", "kindsOf", "(II)I"⟩, 22) := ⟨⟨by decide +kernel, by decide +kernel⟩, List.mem_of_getElem? (i := 915) (by decide +kernel), List.mem_of_getElem? (i := 1483) (by decide +kernel), List.mem_of_getElem? (i := 1484) (by decide +kernel)⟩
theorem lw_p97 : lw_okq (⟨"FairDrawsModel", "labelSet", "(I)I"⟩, 22) := ⟨⟨by decide +kernel, by decide +kernel⟩, List.mem_of_getElem? (i := 915) (by decide +kernel), List.mem_of_getElem? (i := 1495) (by decide +kernel), List.mem_of_getElem? (i := 1496) (by decide +kernel)⟩
theorem lw_p98 : lw_okq (⟨"FairDrawsModel", "cameIn", "(II)I"⟩, 22) := ⟨⟨by decide +kernel, by decide +kernel⟩, List.mem_of_getElem? (i := 915) (by decide +kernel), List.mem_of_getElem? (i := 1503) (by decide +kernel), List.mem_of_getElem? (i := 1504) (by decide +kernel)⟩
def lw_privs_7 : List (MethodName × Nat) := [(⟨"FairDrawsModel", "kindsOf", "(II)I"⟩, 22), (⟨"FairDrawsModel", "labelSet", "(I)I"⟩, 22), (⟨"FairDrawsModel", "cameIn", "(II)I"⟩, 22)]
theorem lw_r7 : ∀ q ∈ lw_privs_7, lw_okq q := List.forall_mem_cons.mpr ⟨lw_p96, List.forall_mem_cons.mpr ⟨lw_p97, List.forall_mem_cons.mpr ⟨lw_p98, fun _ h => absurd h List.not_mem_nil⟩⟩⟩
def lw_privs : List (MethodName × Nat) := lw_privs_1 ++ (lw_privs_2 ++ (lw_privs_3 ++ (lw_privs_4 ++ (lw_privs_5 ++ (lw_privs_6 ++ (lw_privs_7))))))
def lw_tbl : List Cond := k2_sels lw_privs ++ tables_1
theorem lw_privs_ok : ∀ q ∈ lw_privs, lw_okq q := by
  show ∀ q ∈ lw_privs_1 ++ (lw_privs_2 ++ (lw_privs_3 ++ (lw_privs_4 ++ (lw_privs_5 ++ (lw_privs_6 ++ (lw_privs_7)))))), lw_okq q
  exact List.forall_mem_append.mpr ⟨lw_r1, List.forall_mem_append.mpr ⟨lw_r2, List.forall_mem_append.mpr ⟨lw_r3, List.forall_mem_append.mpr ⟨lw_r4, List.forall_mem_append.mpr ⟨lw_r5, List.forall_mem_append.mpr ⟨lw_r6, lw_r7⟩⟩⟩⟩⟩⟩
end
section
def RX0 : String := "FairDraws$History"
def TX0 : u_T := fun k => match k with
  | 0 => ("FairDraws$History", "rows", "[LFairDraws$State;", true)
  | 1 => ("FairDraws$History", "next", "I", false)
  | _ => ("FairDraws$History", "length", "I", false)
def tyX0 : Nat → FieldType := fun k => match k with
  | 0 => .array (.object "FairDraws$State")
  | 1 => .int
  | _ => .int
abbrev wsX00 : List Cond := u_ws RX0 TX0 3
theorem nmX0 : ∀ a, a < 3 → ∀ b, b < 3 → a ≠ b → (TX0 a).2.1 ≠ (TX0 b).2.1 := by decide +kernel
theorem tyX0_ok : ∀ k, k < 3 → parseFieldDescriptor (TX0 k).2.2.1 = some (tyX0 k) := by decide +kernel
abbrev cX0_init : ByteArray := prog_2_method_1_code
def yX0_init : MethodName := ⟨RX0, "<init>", "()V"⟩
abbrev cX0_add : ByteArray := prog_2_method_2_code
def yX0_add : MethodName := ⟨RX0, "add", "(LFairDraws$State;)V"⟩
abbrev cX0_restore : ByteArray := prog_2_method_3_code
def yX0_restore : MethodName := ⟨RX0, "restore", "(LFairDraws$State;)Z"⟩
abbrev cX0_clear : ByteArray := prog_2_method_4_code
def yX0_clear : MethodName := ⟨RX0, "clear", "()V"⟩
def RX1 : String := "FairDraws$Keys"
def TX1 : u_T := fun k => match k with
  | 0 => ("FairDraws$Keys", "left", "[J", true)
  | _ => ("FairDraws$Keys", "right", "[J", true)
def tyX1 : Nat → FieldType := fun k => match k with
  | 0 => .array .long
  | _ => .array .long
abbrev wsX10 : List Cond := u_ws RX1 TX1 2
theorem nmX1 : ∀ a, a < 2 → ∀ b, b < 2 → a ≠ b → (TX1 a).2.1 ≠ (TX1 b).2.1 := by decide +kernel
theorem tyX1_ok : ∀ k, k < 2 → parseFieldDescriptor (TX1 k).2.2.1 = some (tyX1 k) := by decide +kernel
abbrev cX1_init : ByteArray := prog_3_method_1_code
def yX1_init : MethodName := ⟨RX1, "<init>", "()V"⟩
abbrev cX1_compare : ByteArray := prog_3_method_2_code
def yX1_compare : MethodName := ⟨RX1, "compare", "(IIII)I"⟩
abbrev cX1_isPart : ByteArray := prog_3_method_3_code
def yX1_isPart : MethodName := ⟨RX1, "isPart", "(IIII)Z"⟩
abbrev cX1_setToOne : ByteArray := prog_3_method_4_code
def yX1_setToOne : MethodName := ⟨RX1, "setToOne", "([J)V"⟩
abbrev cX1_multiply : ByteArray := prog_3_method_5_code
def yX1_multiply : MethodName := ⟨RX1, "multiply", "([JII)V"⟩
abbrev cX1_compareRows : ByteArray := prog_3_method_6_code
def yX1_compareRows : MethodName := ⟨RX1, "compareRows", "()I"⟩
def RX2 : String := "FairDraws$Sampler"
def TX2 : u_T := fun k => match k with
  | 0 => ("FairDraws$Sampler", "found", "[I", true)
  | 1 => ("FairDraws$Sampler", "ofLabel", "[I", true)
  | 2 => ("FairDraws$Sampler", "n", "I", false)
  | 3 => ("FairDraws$Sampler", "set", "I", false)
  | 4 => ("FairDraws$Sampler", "most", "I", false)
  | 5 => ("FairDraws$Sampler", "tick", "I", false)
  | 6 => ("FairDraws$Sampler", "upTo", "I", false)
  | 7 => ("FairDraws$Sampler", "leftOut", "I", false)
  | _ => ("FairDraws$Sampler", "cap", "I", false)
def tyX2 : Nat → FieldType := fun k => match k with
  | 0 => .array .int
  | 1 => .array .int
  | 2 => .int
  | 3 => .int
  | 4 => .int
  | 5 => .int
  | 6 => .int
  | 7 => .int
  | _ => .int
abbrev wsX20 : List Cond := u_ws RX2 TX2 9
theorem nmX2 : ∀ a, a < 9 → ∀ b, b < 9 → a ≠ b → (TX2 a).2.1 ≠ (TX2 b).2.1 := by decide +kernel
theorem tyX2_ok : ∀ k, k < 9 → parseFieldDescriptor (TX2 k).2.2.1 = some (tyX2 k) := by decide +kernel
abbrev cX2_init : ByteArray := prog_4_method_1_code
def yX2_init : MethodName := ⟨RX2, "<init>", "()V"⟩
abbrev cX2_take : ByteArray := prog_4_method_2_code
def yX2_take : MethodName := ⟨RX2, "take", "(LFairDraws$State;I)V"⟩
abbrev cX2_ask : ByteArray := prog_4_method_3_code
def yX2_ask : MethodName := ⟨RX2, "ask", "(LFairDraws$State;I)V"⟩
abbrev cX2_fill : ByteArray := prog_4_method_4_code
def yX2_fill : MethodName := ⟨RX2, "fill", "(LFairDraws$State;)V"⟩
abbrev cX2_isAskedFor : ByteArray := prog_4_method_5_code
def yX2_isAskedFor : MethodName := ⟨RX2, "isAskedFor", "(LFairDraws$State;I)Z"⟩
abbrev cX2_kth : ByteArray := prog_4_method_6_code
def yX2_kth : MethodName := ⟨RX2, "kth", "(I)I"⟩
abbrev cX2_lastOne : ByteArray := prog_4_method_7_code
def yX2_lastOne : MethodName := ⟨RX2, "lastOne", "()I"⟩
abbrev cX2_placeOf : ByteArray := prog_4_method_8_code
def yX2_placeOf : MethodName := ⟨RX2, "placeOf", "(I)I"⟩
abbrev cX2_isLike : ByteArray := prog_4_method_9_code
def yX2_isLike : MethodName := ⟨RX2, "isLike", "(LFairDraws$Sampler;)Z"⟩
def RX3 : String := "FairDraws$State"
def TX3 : u_T := fun k => match k with
  | 0 => ("FairDraws$State", "keys", "LFairDraws$Keys;", true)
  | 1 => ("FairDraws$State", "shardOf", "[I", true)
  | 2 => ("FairDraws$State", "labelOf", "[I", true)
  | 3 => ("FairDraws$State", "weightOf", "[I", true)
  | 4 => ("FairDraws$State", "lotOf", "[I", true)
  | 5 => ("FairDraws$State", "timeOf", "[I", true)
  | 6 => ("FairDraws$State", "isDropped", "[Z", true)
  | 7 => ("FairDraws$State", "ranked", "[I", true)
  | 8 => ("FairDraws$State", "sizes", "[I", true)
  | 9 => ("FairDraws$State", "windows", "[I", true)
  | 10 => ("FairDraws$State", "came", "I", false)
  | 11 => ("FairDraws$State", "tick", "I", false)
  | _ => ("FairDraws$State", "seed", "I", false)
def tyX3 : Nat → FieldType := fun k => match k with
  | 0 => .object "FairDraws$Keys"
  | 1 => .array .int
  | 2 => .array .int
  | 3 => .array .int
  | 4 => .array .int
  | 5 => .array .int
  | 6 => .array .boolean
  | 7 => .array .int
  | 8 => .array .int
  | 9 => .array .int
  | 10 => .int
  | 11 => .int
  | _ => .int
abbrev wsX30 : List Cond := u_ws RX3 TX3 13
theorem nmX3 : ∀ a, a < 13 → ∀ b, b < 13 → a ≠ b → (TX3 a).2.1 ≠ (TX3 b).2.1 := by decide +kernel
theorem tyX3_ok : ∀ k, k < 13 → parseFieldDescriptor (TX3 k).2.2.1 = some (tyX3 k) := by decide +kernel
abbrev cX3_init : ByteArray := prog_5_method_1_code
def yX3_init : MethodName := ⟨RX3, "<init>", "()V"⟩
abbrev cX3_reset : ByteArray := prog_5_method_2_code
def yX3_reset : MethodName := ⟨RX3, "reset", "()V"⟩
abbrev cX3_copyFrom : ByteArray := prog_5_method_3_code
def yX3_copyFrom : MethodName := ⟨RX3, "copyFrom", "(LFairDraws$State;)V"⟩
abbrev cX3_hasItem : ByteArray := prog_5_method_4_code
def yX3_hasItem : MethodName := ⟨RX3, "hasItem", "(I)Z"⟩
abbrev cX3_hasUndropped : ByteArray := prog_5_method_5_code
def yX3_hasUndropped : MethodName := ⟨RX3, "hasUndropped", "(I)Z"⟩
abbrev cX3_drawLot : ByteArray := prog_5_method_6_code
def yX3_drawLot : MethodName := ⟨RX3, "drawLot", "()I"⟩
abbrev cX3_addRanked : ByteArray := prog_5_method_7_code
def yX3_addRanked : MethodName := ⟨RX3, "addRanked", "(IIII)I"⟩
abbrev cX3_add : ByteArray := prog_5_method_8_code
def yX3_add : MethodName := ⟨RX3, "add", "(IIII)I"⟩
abbrev cX3_rankAll : ByteArray := prog_5_method_9_code
def yX3_rankAll : MethodName := ⟨RX3, "rankAll", "()V"⟩
abbrev cX3_rank : ByteArray := prog_5_method_10_code
def yX3_rank : MethodName := ⟨RX3, "rank", "(I)V"⟩
abbrev cX3_isAhead : ByteArray := prog_5_method_11_code
def yX3_isAhead : MethodName := ⟨RX3, "isAhead", "(II)Z"⟩
abbrev cX3_wouldBeAhead : ByteArray := prog_5_method_12_code
def yX3_wouldBeAhead : MethodName := ⟨RX3, "wouldBeAhead", "(III)Z"⟩
abbrev cX3_compareKeys : ByteArray := prog_5_method_13_code
def yX3_compareKeys : MethodName := ⟨RX3, "compareKeys", "(II)I"⟩
abbrev cX3_compareToKey : ByteArray := prog_5_method_14_code
def yX3_compareToKey : MethodName := ⟨RX3, "compareToKey", "(III)I"⟩
abbrev cX3_isPartOfKey : ByteArray := prog_5_method_15_code
def yX3_isPartOfKey : MethodName := ⟨RX3, "isPartOfKey", "(III)Z"⟩
abbrev cX3_isAlive : ByteArray := prog_5_method_16_code
def yX3_isAlive : MethodName := ⟨RX3, "isAlive", "(I)Z"⟩
abbrev cX3_isAliveAt : ByteArray := prog_5_method_17_code
def yX3_isAliveAt : MethodName := ⟨RX3, "isAliveAt", "(II)Z"⟩
abbrev cX3_isUndroppedOf : ByteArray := prog_5_method_18_code
def yX3_isUndroppedOf : MethodName := ⟨RX3, "isUndroppedOf", "(III)Z"⟩
abbrev cX3_isAliveOf : ByteArray := prog_5_method_19_code
def yX3_isAliveOf : MethodName := ⟨RX3, "isAliveOf", "(III)Z"⟩
abbrev cX3_countUndropped : ByteArray := prog_5_method_20_code
def yX3_countUndropped : MethodName := ⟨RX3, "countUndropped", "(II)I"⟩
abbrev cX3_countUndroppedBetween : ByteArray := prog_5_method_21_code
def yX3_countUndroppedBetween : MethodName := ⟨RX3, "countUndroppedBetween", "(II)I"⟩
abbrev cX3_countAlive : ByteArray := prog_5_method_22_code
def yX3_countAlive : MethodName := ⟨RX3, "countAlive", "(II)I"⟩
abbrev cX3_weightAlive : ByteArray := prog_5_method_23_code
def yX3_weightAlive : MethodName := ⟨RX3, "weightAlive", "(II)I"⟩
def RX4 : String := "FairDraws$Tape"
def TX4 : u_T := fun k => match k with
  | 0 => ("FairDraws$Tape", "bytes", "[I", true)
  | 1 => ("FairDraws$Tape", "draft", "LFairDraws$State;", true)
  | 2 => ("FairDraws$Tape", "length", "I", false)
  | 3 => ("FairDraws$Tape", "at", "I", false)
  | _ => ("FairDraws$Tape", "fault", "I", false)
def tyX4 : Nat → FieldType := fun k => match k with
  | 0 => .array .int
  | 1 => .object "FairDraws$State"
  | 2 => .int
  | 3 => .int
  | _ => .int
abbrev wsX40 : List Cond := u_ws RX4 TX4 5
theorem nmX4 : ∀ a, a < 5 → ∀ b, b < 5 → a ≠ b → (TX4 a).2.1 ≠ (TX4 b).2.1 := by decide +kernel
theorem tyX4_ok : ∀ k, k < 5 → parseFieldDescriptor (TX4 k).2.2.1 = some (tyX4 k) := by decide +kernel
abbrev cX4_init : ByteArray := prog_6_method_1_code
def yX4_init : MethodName := ⟨RX4, "<init>", "()V"⟩
abbrev cX4_append : ByteArray := prog_6_method_2_code
def yX4_append : MethodName := ⟨RX4, "append", "(I)V"⟩
abbrev cX4_read : ByteArray := prog_6_method_3_code
def yX4_read : MethodName := ⟨RX4, "read", "()I"⟩
abbrev cX4_readStatement : ByteArray := prog_6_method_4_code
def yX4_readStatement : MethodName := ⟨RX4, "readStatement", "()V"⟩
abbrev cX4_readSize : ByteArray := prog_6_method_5_code
def yX4_readSize : MethodName := ⟨RX4, "readSize", "()V"⟩
abbrev cX4_readWindow : ByteArray := prog_6_method_6_code
def yX4_readWindow : MethodName := ⟨RX4, "readWindow", "()V"⟩
abbrev cX4_readSeed : ByteArray := prog_6_method_7_code
def yX4_readSeed : MethodName := ⟨RX4, "readSeed", "()V"⟩
abbrev cX4_readWait : ByteArray := prog_6_method_8_code
def yX4_readWait : MethodName := ⟨RX4, "readWait", "(I)V"⟩
abbrev cX4_readItems : ByteArray := prog_6_method_9_code
def yX4_readItems : MethodName := ⟨RX4, "readItems", "(I)V"⟩
abbrev cX4_readKey : ByteArray := prog_6_method_10_code
def yX4_readKey : MethodName := ⟨RX4, "readKey", "(I)V"⟩
abbrev cX4_number : ByteArray := prog_6_method_11_code
def yX4_number : MethodName := ⟨RX4, "number", "(II)I"⟩
abbrev cX4_label : ByteArray := prog_6_method_12_code
def yX4_label : MethodName := ⟨RX4, "label", "()I"⟩
abbrev cX4_takes : ByteArray := prog_6_method_13_code
def yX4_takes : MethodName := ⟨RX4, "takes", "(Ljava/lang/String;)Z"⟩
abbrev cX4_skipBlanks : ByteArray := prog_6_method_14_code
def yX4_skipBlanks : MethodName := ⟨RX4, "skipBlanks", "()V"⟩
abbrev cX4_isLetter : ByteArray := prog_6_method_15_code
def yX4_isLetter : MethodName := ⟨RX4, "isLetter", "(I)Z"⟩
abbrev cX4_meet : ByteArray := prog_6_method_16_code
def yX4_meet : MethodName := ⟨RX4, "meet", "(II)V"⟩
def RX5 : String := "FairDraws$Teller"
def TX5 : u_T := fun k => match k with
  | 0 => ("FairDraws$Teller", "wanted", "I", false)
  | 1 => ("FairDraws$Teller", "heard", "I", false)
  | _ => ("FairDraws$Teller", "length", "I", false)
def tyX5 : Nat → FieldType := fun k => match k with
  | 0 => .int
  | 1 => .int
  | _ => .int
abbrev wsX50 : List Cond := u_ws RX5 TX5 3
theorem nmX5 : ∀ a, a < 3 → ∀ b, b < 3 → a ≠ b → (TX5 a).2.1 ≠ (TX5 b).2.1 := by decide +kernel
theorem tyX5_ok : ∀ k, k < 3 → parseFieldDescriptor (TX5 k).2.2.1 = some (tyX5 k) := by decide +kernel
abbrev cX5_init : ByteArray := prog_7_method_1_code
def yX5_init : MethodName := ⟨RX5, "<init>", "()V"⟩
abbrev cX5_kth : ByteArray := prog_7_method_2_code
def yX5_kth : MethodName := ⟨RX5, "kth", "(LFairDraws$State;I)I"⟩
abbrev cX5_tellShards : ByteArray := prog_7_method_3_code
def yX5_tellShards : MethodName := ⟨RX5, "tellShards", "(LFairDraws$State;)V"⟩
abbrev cX5_tellItem : ByteArray := prog_7_method_4_code
def yX5_tellItem : MethodName := ⟨RX5, "tellItem", "(LFairDraws$State;I)V"⟩
abbrev cX5_tellWaits : ByteArray := prog_7_method_5_code
def yX5_tellWaits : MethodName := ⟨RX5, "tellWaits", "(I)V"⟩
abbrev cX5_tellWord : ByteArray := prog_7_method_6_code
def yX5_tellWord : MethodName := ⟨RX5, "tellWord", "(Ljava/lang/String;)V"⟩
abbrev cX5_tellNumber : ByteArray := prog_7_method_7_code
def yX5_tellNumber : MethodName := ⟨RX5, "tellNumber", "(I)V"⟩
abbrev cX5_tellByte : ByteArray := prog_7_method_8_code
def yX5_tellByte : MethodName := ⟨RX5, "tellByte", "(I)V"⟩
def RX6 : String := "FairDraws"
def TX6 : u_T := fun k => match k with
  | 0 => ("FairDraws", "state", "LFairDraws$State;", true)
  | 1 => ("FairDraws", "history", "LFairDraws$History;", true)
  | 2 => ("FairDraws", "tape", "LFairDraws$Tape;", true)
  | 3 => ("FairDraws", "shelves", "[LFairDraws$State;", true)
  | 4 => ("FairDraws", "sampler", "LFairDraws$Sampler;", true)
  | 5 => ("FairDraws", "secondSampler", "LFairDraws$Sampler;", true)
  | 6 => ("FairDraws", "teller", "LFairDraws$Teller;", true)
  | _ => ("FairDraws", "keptShelves", "I", false)
def tyX6 : Nat → FieldType := fun k => match k with
  | 0 => .object "FairDraws$State"
  | 1 => .object "FairDraws$History"
  | 2 => .object "FairDraws$Tape"
  | 3 => .array (.object "FairDraws$State")
  | 4 => .object "FairDraws$Sampler"
  | 5 => .object "FairDraws$Sampler"
  | 6 => .object "FairDraws$Teller"
  | _ => .int
abbrev wsX60 : List Cond := u_ws RX6 TX6 8
theorem nmX6 : ∀ a, a < 8 → ∀ b, b < 8 → a ≠ b → (TX6 a).2.1 ≠ (TX6 b).2.1 := by decide +kernel
theorem tyX6_ok : ∀ k, k < 8 → parseFieldDescriptor (TX6 k).2.2.1 = some (tyX6 k) := by decide +kernel
abbrev cX6_init : ByteArray := prog_1_method_1_code
def yX6_init : MethodName := ⟨RX6, "<init>", "()V"⟩
abbrev cX6_feed : ByteArray := prog_1_method_2_code
def yX6_feed : MethodName := ⟨RX6, "feed", "(IIIII)I"⟩
abbrev cX6_end : ByteArray := prog_1_method_3_code
def yX6_end : MethodName := ⟨RX6, "end", "(I)I"⟩
abbrev cX6_tell : ByteArray := prog_1_method_4_code
def yX6_tell : MethodName := ⟨RX6, "tell", "()I"⟩
abbrev cX6_come : ByteArray := prog_1_method_5_code
def yX6_come : MethodName := ⟨RX6, "come", "(III)I"⟩
abbrev cX6_put : ByteArray := prog_1_method_6_code
def yX6_put : MethodName := ⟨RX6, "put", "(IIII)I"⟩
abbrev cX6_pass : ByteArray := prog_1_method_7_code
def yX6_pass : MethodName := ⟨RX6, "pass", "(I)I"⟩
abbrev cX6_size : ByteArray := prog_1_method_8_code
def yX6_size : MethodName := ⟨RX6, "size", "(II)I"⟩
abbrev cX6_window : ByteArray := prog_1_method_9_code
def yX6_window : MethodName := ⟨RX6, "window", "(II)I"⟩
abbrev cX6_weigh : ByteArray := prog_1_method_10_code
def yX6_weigh : MethodName := ⟨RX6, "weigh", "(II)I"⟩
abbrev cX6_again : ByteArray := prog_1_method_11_code
def yX6_again : MethodName := ⟨RX6, "again", "(I)I"⟩
abbrev cX6_drop : ByteArray := prog_1_method_12_code
def yX6_drop : MethodName := ⟨RX6, "drop", "(I)I"⟩
abbrev cX6_move : ByteArray := prog_1_method_13_code
def yX6_move : MethodName := ⟨RX6, "move", "(II)I"⟩
abbrev cX6_merge : ByteArray := prog_1_method_14_code
def yX6_merge : MethodName := ⟨RX6, "merge", "(II)I"⟩
abbrev cX6_rename : ByteArray := prog_1_method_15_code
def yX6_rename : MethodName := ⟨RX6, "rename", "(II)I"⟩
abbrev cX6_thin : ByteArray := prog_1_method_16_code
def yX6_thin : MethodName := ⟨RX6, "thin", "(I)I"⟩
abbrev cX6_swap : ByteArray := prog_1_method_17_code
def yX6_swap : MethodName := ⟨RX6, "swap", "(II)I"⟩
abbrev cX6_weighAll : ByteArray := prog_1_method_18_code
def yX6_weighAll : MethodName := ⟨RX6, "weighAll", "(II)I"⟩
abbrev cX6_split : ByteArray := prog_1_method_19_code
def yX6_split : MethodName := ⟨RX6, "split", "(III)I"⟩
abbrev cX6_purge : ByteArray := prog_1_method_20_code
def yX6_purge : MethodName := ⟨RX6, "purge", "()I"⟩
abbrev cX6_seed : ByteArray := prog_1_method_21_code
def yX6_seed : MethodName := ⟨RX6, "seed", "(I)I"⟩
abbrev cX6_moveAll : ByteArray := prog_1_method_22_code
def yX6_moveAll : MethodName := ⟨RX6, "moveAll", "(III)I"⟩
abbrev cX6_undo : ByteArray := prog_1_method_23_code
def yX6_undo : MethodName := ⟨RX6, "undo", "()I"⟩
abbrev cX6_keep : ByteArray := prog_1_method_24_code
def yX6_keep : MethodName := ⟨RX6, "keep", "(I)I"⟩
abbrev cX6_back : ByteArray := prog_1_method_25_code
def yX6_back : MethodName := ⟨RX6, "back", "(I)I"⟩
abbrev cX6_of : ByteArray := prog_1_method_26_code
def yX6_of : MethodName := ⟨RX6, "of", "(II)I"⟩
abbrev cX6_order : ByteArray := prog_1_method_27_code
def yX6_order : MethodName := ⟨RX6, "order", "(II)I"⟩
abbrev cX6_part : ByteArray := prog_1_method_28_code
def yX6_part : MethodName := ⟨RX6, "part", "(II)I"⟩
abbrev cX6_lifeOf : ByteArray := prog_1_method_29_code
def yX6_lifeOf : MethodName := ⟨RX6, "lifeOf", "(I)I"⟩
abbrev cX6_aheadInSample : ByteArray := prog_1_method_30_code
def yX6_aheadInSample : MethodName := ⟨RX6, "aheadInSample", "(I)I"⟩
abbrev cX6_aheadOfAlive : ByteArray := prog_1_method_31_code
def yX6_aheadOfAlive : MethodName := ⟨RX6, "aheadOfAlive", "(I)I"⟩
abbrev cX6_sample : ByteArray := prog_1_method_32_code
def yX6_sample : MethodName := ⟨RX6, "sample", "(II)I"⟩
abbrev cX6_merged : ByteArray := prog_1_method_33_code
def yX6_merged : MethodName := ⟨RX6, "merged", "(III)I"⟩
abbrev cX6_partOf : ByteArray := prog_1_method_34_code
def yX6_partOf : MethodName := ⟨RX6, "partOf", "(III)I"⟩
abbrev cX6_capped : ByteArray := prog_1_method_35_code
def yX6_capped : MethodName := ⟨RX6, "capped", "(III)I"⟩
abbrev cX6_last : ByteArray := prog_1_method_36_code
def yX6_last : MethodName := ⟨RX6, "last", "(I)I"⟩
abbrev cX6_takeMerged : ByteArray := prog_1_method_37_code
def yX6_takeMerged : MethodName := ⟨RX6, "takeMerged", "(II)V"⟩
abbrev cX6_lastOfFull : ByteArray := prog_1_method_38_code
def yX6_lastOfFull : MethodName := ⟨RX6, "lastOfFull", "(I)I"⟩
abbrev cX6_needs : ByteArray := prog_1_method_39_code
def yX6_needs : MethodName := ⟨RX6, "needs", "(II)I"⟩
abbrev cX6_heavy : ByteArray := prog_1_method_40_code
def yX6_heavy : MethodName := ⟨RX6, "heavy", "(II)I"⟩
abbrev cX6_skip : ByteArray := prog_1_method_41_code
def yX6_skip : MethodName := ⟨RX6, "skip", "(II)I"⟩
abbrev cX6_lots : ByteArray := prog_1_method_42_code
def yX6_lots : MethodName := ⟨RX6, "lots", "(II)I"⟩
abbrev cX6_nextLot : ByteArray := prog_1_method_43_code
def yX6_nextLot : MethodName := ⟨RX6, "nextLot", "(I)I"⟩
abbrev cX6_leastLotForSample : ByteArray := prog_1_method_44_code
def yX6_leastLotForSample : MethodName := ⟨RX6, "leastLotForSample", "(II)I"⟩
abbrev cX6_leastLotAhead : ByteArray := prog_1_method_45_code
def yX6_leastLotAhead : MethodName := ⟨RX6, "leastLotAhead", "(II)I"⟩
abbrev cX6_kinds : ByteArray := prog_1_method_46_code
def yX6_kinds : MethodName := ⟨RX6, "kinds", "(II)I"⟩
abbrev cX6_sizeForKinds : ByteArray := prog_1_method_47_code
def yX6_sizeForKinds : MethodName := ⟨RX6, "sizeForKinds", "(II)I"⟩
abbrev cX6_shared : ByteArray := prog_1_method_48_code
def yX6_shared : MethodName := ⟨RX6, "shared", "(II)I"⟩
abbrev cX6_kindsBySize : ByteArray := prog_1_method_49_code
def yX6_kindsBySize : MethodName := ⟨RX6, "kindsBySize", "(II)I"⟩
abbrev cX6_without : ByteArray := prog_1_method_50_code
def yX6_without : MethodName := ⟨RX6, "without", "(II)I"⟩
abbrev cX6_expired : ByteArray := prog_1_method_51_code
def yX6_expired : MethodName := ⟨RX6, "expired", "(II)I"⟩
abbrev cX6_busiest : ByteArray := prog_1_method_52_code
def yX6_busiest : MethodName := ⟨RX6, "busiest", "(II)I"⟩
abbrev cX6_weightFor : ByteArray := prog_1_method_53_code
def yX6_weightFor : MethodName := ⟨RX6, "weightFor", "(I)I"⟩
abbrev cX6_sizeFor : ByteArray := prog_1_method_54_code
def yX6_sizeFor : MethodName := ⟨RX6, "sizeFor", "(I)I"⟩
abbrev cX6_windowFor : ByteArray := prog_1_method_55_code
def yX6_windowFor : MethodName := ⟨RX6, "windowFor", "(I)I"⟩
abbrev cX6_later : ByteArray := prog_1_method_56_code
def yX6_later : MethodName := ⟨RX6, "later", "(III)I"⟩
abbrev cX6_enters : ByteArray := prog_1_method_57_code
def yX6_enters : MethodName := ⟨RX6, "enters", "(I)I"⟩
abbrev cX6_changes : ByteArray := prog_1_method_58_code
def yX6_changes : MethodName := ⟨RX6, "changes", "(I)I"⟩
abbrev cX6_takeWithout : ByteArray := prog_1_method_59_code
def yX6_takeWithout : MethodName := ⟨RX6, "takeWithout", "(I)V"⟩
abbrev cX6_rivalTime : ByteArray := prog_1_method_60_code
def yX6_rivalTime : MethodName := ⟨RX6, "rivalTime", "(I)I"⟩
abbrev cX6_then : ByteArray := prog_1_method_61_code
def yX6_then : MethodName := ⟨RX6, "then", "(II)I"⟩
abbrev cX6_played : ByteArray := prog_1_method_62_code
def yX6_played : MethodName := ⟨RX6, "played", "(II)I"⟩
abbrev cX6_outBy : ByteArray := prog_1_method_63_code
def yX6_outBy : MethodName := ⟨RX6, "outBy", "(I)I"⟩
abbrev cX6_askThen : ByteArray := prog_1_method_64_code
def yX6_askThen : MethodName := ⟨RX6, "askThen", "(I)V"⟩
abbrev cX6_putOutBy : ByteArray := prog_1_method_65_code
def yX6_putOutBy : MethodName := ⟨RX6, "putOutBy", "(I)I"⟩
abbrev cX6_labels : ByteArray := prog_1_method_66_code
def yX6_labels : MethodName := ⟨RX6, "labels", "(III)I"⟩
abbrev cX6_total : ByteArray := prog_1_method_67_code
def yX6_total : MethodName := ⟨RX6, "total", "(II)I"⟩
abbrev cX6_mode : ByteArray := prog_1_method_68_code
def yX6_mode : MethodName := ⟨RX6, "mode", "(I)I"⟩
abbrev cX6_unlike : ByteArray := prog_1_method_69_code
def yX6_unlike : MethodName := ⟨RX6, "unlike", "(II)I"⟩
abbrev cX6_same : ByteArray := prog_1_method_70_code
def yX6_same : MethodName := ⟨RX6, "same", "(II)I"⟩
abbrev cX6_told : ByteArray := prog_1_method_71_code
def yX6_told : MethodName := ⟨RX6, "told", "(I)I"⟩
abbrev cX6_digest : ByteArray := prog_1_method_72_code
def yX6_digest : MethodName := ⟨RX6, "digest", "()J"⟩
abbrev cX6_count : ByteArray := prog_1_method_73_code
def yX6_count : MethodName := ⟨RX6, "count", "(I)I"⟩
abbrev cX6_weightOfSample : ByteArray := prog_1_method_74_code
def yX6_weightOfSample : MethodName := ⟨RX6, "weightOfSample", "(I)I"⟩
abbrev cX6_isWithin : ByteArray := prog_1_method_75_code
def yX6_isWithin : MethodName := ⟨RX6, "isWithin", "(III)Z"⟩
abbrev cX6_isShard : ByteArray := prog_1_method_76_code
def yX6_isShard : MethodName := ⟨RX6, "isShard", "(I)Z"⟩
abbrev cX6_isSet : ByteArray := prog_1_method_77_code
def yX6_isSet : MethodName := ⟨RX6, "isSet", "(I)Z"⟩
abbrev cX6_isLabel : ByteArray := prog_1_method_78_code
def yX6_isLabel : MethodName := ⟨RX6, "isLabel", "(I)Z"⟩
abbrev cX6_isWeight : ByteArray := prog_1_method_79_code
def yX6_isWeight : MethodName := ⟨RX6, "isWeight", "(I)Z"⟩
abbrev cX6_isLot : ByteArray := prog_1_method_80_code
def yX6_isLot : MethodName := ⟨RX6, "isLot", "(I)Z"⟩
abbrev cX6_isShelf : ByteArray := prog_1_method_81_code
def yX6_isShelf : MethodName := ⟨RX6, "isShelf", "(I)Z"⟩
abbrev cX6_isKept : ByteArray := prog_1_method_82_code
def yX6_isKept : MethodName := ⟨RX6, "isKept", "(I)Z"⟩
abbrev cX6_seedOfNextLot : ByteArray := prog_1_method_83_code
def yX6_seedOfNextLot : MethodName := ⟨RX6, "seedOfNextLot", "(I)I"⟩
abbrev cX6_lotOfSeed : ByteArray := prog_1_method_84_code
def yX6_lotOfSeed : MethodName := ⟨RX6, "lotOfSeed", "(I)I"⟩
def RX7 : String := "FairDrawsModel"
def TX7 : u_T := fun k => match k with
  | 0 => ("FairDrawsModel", "now", "[I", true)
  | 1 => ("FairDrawsModel", "was", "[I", true)
  | 2 => ("FairDrawsModel", "undone", "I", false)
  | 3 => ("FairDrawsModel", "kept", "[I", true)
  | 4 => ("FairDrawsModel", "isKept", "[Z", true)
  | 5 => ("FairDrawsModel", "one", "[I", true)
  | 6 => ("FairDrawsModel", "other", "[I", true)
  | 7 => ("FairDrawsModel", "row", "[I", true)
  | 8 => ("FairDrawsModel", "rows", "I", false)
  | 9 => ("FairDrawsModel", "ranked", "[I", true)
  | 10 => ("FairDrawsModel", "isRanked", "Z", false)
  | 11 => ("FairDrawsModel", "saved", "[I", true)
  | 12 => ("FairDrawsModel", "often", "[I", true)
  | 13 => ("FairDrawsModel", "aside", "[I", true)
  | 14 => ("FairDrawsModel", "spelt", "I", false)
  | 15 => ("FairDrawsModel", "wanted", "I", false)
  | 16 => ("FairDrawsModel", "found", "I", false)
  | 17 => ("FairDrawsModel", "tape", "[B", true)
  | 18 => ("FairDrawsModel", "taped", "I", false)
  | 19 => ("FairDrawsModel", "spot", "I", false)
  | 20 => ("FairDrawsModel", "wrong", "I", false)
  | _ => ("FairDrawsModel", "number", "I", false)
def tyX7 : Nat → FieldType := fun k => match k with
  | 0 => .array .int
  | 1 => .array .int
  | 2 => .int
  | 3 => .array .int
  | 4 => .array .boolean
  | 5 => .array .int
  | 6 => .array .int
  | 7 => .array .int
  | 8 => .int
  | 9 => .array .int
  | 10 => .boolean
  | 11 => .array .int
  | 12 => .array .int
  | 13 => .array .int
  | 14 => .int
  | 15 => .int
  | 16 => .int
  | 17 => .array .byte
  | 18 => .int
  | 19 => .int
  | 20 => .int
  | _ => .int
abbrev wsX70 : List Cond := u_ws RX7 TX7 22
theorem nmX7 : ∀ a, a < 22 → ∀ b, b < 22 → a ≠ b → (TX7 a).2.1 ≠ (TX7 b).2.1 := by decide +kernel
theorem tyX7_ok : ∀ k, k < 22 → parseFieldDescriptor (TX7 k).2.2.1 = some (tyX7 k) := by decide +kernel
abbrev cX7_init : ByteArray := prog_9_method_1_code
def yX7_init : MethodName := ⟨RX7, "<init>", "()V"⟩
abbrev cX7_in : ByteArray := prog_9_method_2_code
def yX7_in : MethodName := ⟨RX7, "in", "(JJJ)Z"⟩
abbrev cX7_begins : ByteArray := prog_9_method_3_code
def yX7_begins : MethodName := ⟨RX7, "begins", "([I)V"⟩
abbrev cX7_isShard : ByteArray := prog_9_method_4_code
def yX7_isShard : MethodName := ⟨RX7, "isShard", "(I)Z"⟩
abbrev cX7_isItem : ByteArray := prog_9_method_5_code
def yX7_isItem : MethodName := ⟨RX7, "isItem", "(I)Z"⟩
abbrev cX7_item : ByteArray := prog_9_method_6_code
def yX7_item : MethodName := ⟨RX7, "item", "(II)I"⟩
abbrev cX7_shardOf : ByteArray := prog_9_method_7_code
def yX7_shardOf : MethodName := ⟨RX7, "shardOf", "(I)I"⟩
abbrev cX7_isDropped : ByteArray := prog_9_method_8_code
def yX7_isDropped : MethodName := ⟨RX7, "isDropped", "(I)Z"⟩
abbrev cX7_isThere : ByteArray := prog_9_method_9_code
def yX7_isThere : MethodName := ⟨RX7, "isThere", "(I)Z"⟩
abbrev cX7_powers : ByteArray := prog_9_method_10_code
def yX7_powers : MethodName := ⟨RX7, "powers", "([IIIII)V"⟩
abbrev cX7_times : ByteArray := prog_9_method_11_code
def yX7_times : MethodName := ⟨RX7, "times", "([III)I"⟩
abbrev cX7_compared : ByteArray := prog_9_method_12_code
def yX7_compared : MethodName := ⟨RX7, "compared", "()I"⟩
abbrev cX7_comparedKeys : ByteArray := prog_9_method_13_code
def yX7_comparedKeys : MethodName := ⟨RX7, "comparedKeys", "(IIII)I"⟩
abbrev cX7_isAhead : ByteArray := prog_9_method_14_code
def yX7_isAhead : MethodName := ⟨RX7, "isAhead", "(IIII)Z"⟩
abbrev cX7_areInOrder : ByteArray := prog_9_method_15_code
def yX7_areInOrder : MethodName := ⟨RX7, "areInOrder", "(II)Z"⟩
abbrev cX7_order : ByteArray := prog_9_method_16_code
def yX7_order : MethodName := ⟨RX7, "order", "(II)I"⟩
abbrev cX7_isNoMore : ByteArray := prog_9_method_17_code
def yX7_isNoMore : MethodName := ⟨RX7, "isNoMore", "(III)Z"⟩
abbrev cX7_part : ByteArray := prog_9_method_18_code
def yX7_part : MethodName := ⟨RX7, "part", "(II)I"⟩
abbrev cX7_isAliveAt : ByteArray := prog_9_method_19_code
def yX7_isAliveAt : MethodName := ⟨RX7, "isAliveAt", "(III)Z"⟩
abbrev cX7_isAlive : ByteArray := prog_9_method_20_code
def yX7_isAlive : MethodName := ⟨RX7, "isAlive", "(I)Z"⟩
abbrev cX7_begins_ : ByteArray := prog_9_method_21_code
def yX7_begins_ : MethodName := ⟨RX7, "begins", "()V"⟩
abbrev cX7_ranks : ByteArray := prog_9_method_22_code
def yX7_ranks : MethodName := ⟨RX7, "ranks", "()V"⟩
abbrev cX7_comesIn : ByteArray := prog_9_method_23_code
def yX7_comesIn : MethodName := ⟨RX7, "comesIn", "(I)V"⟩
abbrev cX7_cuts : ByteArray := prog_9_method_24_code
def yX7_cuts : MethodName := ⟨RX7, "cuts", "(I)V"⟩
abbrev cX7_lays : ByteArray := prog_9_method_25_code
def yX7_lays : MethodName := ⟨RX7, "lays", "(IIII)V"⟩
abbrev cX7_laysAlive : ByteArray := prog_9_method_26_code
def yX7_laysAlive : MethodName := ⟨RX7, "laysAlive", "(I)V"⟩
abbrev cX7_laysSample : ByteArray := prog_9_method_27_code
def yX7_laysSample : MethodName := ⟨RX7, "laysSample", "(I)V"⟩
abbrev cX7_placeOf : ByteArray := prog_9_method_28_code
def yX7_placeOf : MethodName := ⟨RX7, "placeOf", "(I)I"⟩
abbrev cX7_toldOf : ByteArray := prog_9_method_29_code
def yX7_toldOf : MethodName := ⟨RX7, "toldOf", "(I)I"⟩
abbrev cX7_of : ByteArray := prog_9_method_30_code
def yX7_of : MethodName := ⟨RX7, "of", "(II)I"⟩
abbrev cX7_sample : ByteArray := prog_9_method_31_code
def yX7_sample : MethodName := ⟨RX7, "sample", "(II)I"⟩
abbrev cX7_laysMerged : ByteArray := prog_9_method_32_code
def yX7_laysMerged : MethodName := ⟨RX7, "laysMerged", "(II)Z"⟩
abbrev cX7_merged : ByteArray := prog_9_method_33_code
def yX7_merged : MethodName := ⟨RX7, "merged", "(III)I"⟩
abbrev cX7_partOf : ByteArray := prog_9_method_34_code
def yX7_partOf : MethodName := ⟨RX7, "partOf", "(III)I"⟩
abbrev cX7_labelled : ByteArray := prog_9_method_35_code
def yX7_labelled : MethodName := ⟨RX7, "labelled", "(I)I"⟩
abbrev cX7_capped : ByteArray := prog_9_method_36_code
def yX7_capped : MethodName := ⟨RX7, "capped", "(III)I"⟩
abbrev cX7_last : ByteArray := prog_9_method_37_code
def yX7_last : MethodName := ⟨RX7, "last", "(I)I"⟩
abbrev cX7_wouldBeIn : ByteArray := prog_9_method_38_code
def yX7_wouldBeIn : MethodName := ⟨RX7, "wouldBeIn", "(III)Z"⟩
abbrev cX7_needs : ByteArray := prog_9_method_39_code
def yX7_needs : MethodName := ⟨RX7, "needs", "(II)I"⟩
abbrev cX7_heavy : ByteArray := prog_9_method_40_code
def yX7_heavy : MethodName := ⟨RX7, "heavy", "(II)I"⟩
abbrev cX7_drawn : ByteArray := prog_9_method_41_code
def yX7_drawn : MethodName := ⟨RX7, "drawn", "([I)I"⟩
abbrev cX7_skip : ByteArray := prog_9_method_42_code
def yX7_skip : MethodName := ⟨RX7, "skip", "(II)I"⟩
abbrev cX7_weightFor : ByteArray := prog_9_method_43_code
def yX7_weightFor : MethodName := ⟨RX7, "weightFor", "(I)I"⟩
abbrev cX7_sizeFor : ByteArray := prog_9_method_44_code
def yX7_sizeFor : MethodName := ⟨RX7, "sizeFor", "(I)I"⟩
abbrev cX7_windowFor : ByteArray := prog_9_method_45_code
def yX7_windowFor : MethodName := ⟨RX7, "windowFor", "(I)I"⟩
abbrev cX7_lessWindow : ByteArray := prog_9_method_46_code
def yX7_lessWindow : MethodName := ⟨RX7, "lessWindow", "(II)I"⟩
abbrev cX7_later : ByteArray := prog_9_method_47_code
def yX7_later : MethodName := ⟨RX7, "later", "(III)I"⟩
abbrev cX7_enters : ByteArray := prog_9_method_48_code
def yX7_enters : MethodName := ⟨RX7, "enters", "(I)I"⟩
abbrev cX7_nextDeath : ByteArray := prog_9_method_49_code
def yX7_nextDeath : MethodName := ⟨RX7, "nextDeath", "(II)I"⟩
abbrev cX7_changes : ByteArray := prog_9_method_50_code
def yX7_changes : MethodName := ⟨RX7, "changes", "(I)I"⟩
abbrev cX7_laysThen : ByteArray := prog_9_method_51_code
def yX7_laysThen : MethodName := ⟨RX7, "laysThen", "(IZ)V"⟩
abbrev cX7_then : ByteArray := prog_9_method_52_code
def yX7_then : MethodName := ⟨RX7, "then", "(II)I"⟩
abbrev cX7_putsOut : ByteArray := prog_9_method_53_code
def yX7_putsOut : MethodName := ⟨RX7, "putsOut", "(II)Z"⟩
abbrev cX7_played : ByteArray := prog_9_method_54_code
def yX7_played : MethodName := ⟨RX7, "played", "(II)I"⟩
abbrev cX7_outBy : ByteArray := prog_9_method_55_code
def yX7_outBy : MethodName := ⟨RX7, "outBy", "(I)I"⟩
abbrev cX7_labels : ByteArray := prog_9_method_56_code
def yX7_labels : MethodName := ⟨RX7, "labels", "(III)I"⟩
abbrev cX7_weights : ByteArray := prog_9_method_57_code
def yX7_weights : MethodName := ⟨RX7, "weights", "()I"⟩
abbrev cX7_thereIn : ByteArray := prog_9_method_58_code
def yX7_thereIn : MethodName := ⟨RX7, "thereIn", "(I)I"⟩
abbrev cX7_total : ByteArray := prog_9_method_59_code
def yX7_total : MethodName := ⟨RX7, "total", "(II)I"⟩
abbrev cX7_mode : ByteArray := prog_9_method_60_code
def yX7_mode : MethodName := ⟨RX7, "mode", "(I)I"⟩
abbrev cX7_unlike : ByteArray := prog_9_method_61_code
def yX7_unlike : MethodName := ⟨RX7, "unlike", "(II)I"⟩
abbrev cX7_exchanges : ByteArray := prog_9_method_62_code
def yX7_exchanges : MethodName := ⟨RX7, "exchanges", "([II)V"⟩
abbrev cX7_putsAside : ByteArray := prog_9_method_63_code
def yX7_putsAside : MethodName := ⟨RX7, "putsAside", "()V"⟩
abbrev cX7_same : ByteArray := prog_9_method_64_code
def yX7_same : MethodName := ⟨RX7, "same", "(II)I"⟩
abbrev cX7_keepsAct : ByteArray := prog_9_method_65_code
def yX7_keepsAct : MethodName := ⟨RX7, "keepsAct", "()V"⟩
abbrev cX7_sets : ByteArray := prog_9_method_66_code
def yX7_sets : MethodName := ⟨RX7, "sets", "(III)V"⟩
abbrev cX7_comesNew : ByteArray := prog_9_method_67_code
def yX7_comesNew : MethodName := ⟨RX7, "comesNew", "(IIII)I"⟩
abbrev cX7_come : ByteArray := prog_9_method_68_code
def yX7_come : MethodName := ⟨RX7, "come", "(III)I"⟩
abbrev cX7_put : ByteArray := prog_9_method_69_code
def yX7_put : MethodName := ⟨RX7, "put", "(IIII)I"⟩
abbrev cX7_pass : ByteArray := prog_9_method_70_code
def yX7_pass : MethodName := ⟨RX7, "pass", "(I)I"⟩
abbrev cX7_becomes : ByteArray := prog_9_method_71_code
def yX7_becomes : MethodName := ⟨RX7, "becomes", "(II)I"⟩
abbrev cX7_size : ByteArray := prog_9_method_72_code
def yX7_size : MethodName := ⟨RX7, "size", "(II)I"⟩
abbrev cX7_window : ByteArray := prog_9_method_73_code
def yX7_window : MethodName := ⟨RX7, "window", "(II)I"⟩
abbrev cX7_weigh : ByteArray := prog_9_method_74_code
def yX7_weigh : MethodName := ⟨RX7, "weigh", "(II)I"⟩
abbrev cX7_again : ByteArray := prog_9_method_75_code
def yX7_again : MethodName := ⟨RX7, "again", "(I)I"⟩
abbrev cX7_drop : ByteArray := prog_9_method_76_code
def yX7_drop : MethodName := ⟨RX7, "drop", "(I)I"⟩
abbrev cX7_move : ByteArray := prog_9_method_77_code
def yX7_move : MethodName := ⟨RX7, "move", "(II)I"⟩
abbrev cX7_merge : ByteArray := prog_9_method_78_code
def yX7_merge : MethodName := ⟨RX7, "merge", "(II)I"⟩
abbrev cX7_rename : ByteArray := prog_9_method_79_code
def yX7_rename : MethodName := ⟨RX7, "rename", "(II)I"⟩
abbrev cX7_thin : ByteArray := prog_9_method_80_code
def yX7_thin : MethodName := ⟨RX7, "thin", "(I)I"⟩
abbrev cX7_seed : ByteArray := prog_9_method_81_code
def yX7_seed : MethodName := ⟨RX7, "seed", "(I)I"⟩
abbrev cX7_undo : ByteArray := prog_9_method_82_code
def yX7_undo : MethodName := ⟨RX7, "undo", "()I"⟩
abbrev cX7_keep : ByteArray := prog_9_method_83_code
def yX7_keep : MethodName := ⟨RX7, "keep", "(I)I"⟩
abbrev cX7_back : ByteArray := prog_9_method_84_code
def yX7_back : MethodName := ⟨RX7, "back", "(I)I"⟩
abbrev cX7_spell : ByteArray := prog_9_method_85_code
def yX7_spell : MethodName := ⟨RX7, "spell", "(I)V"⟩
abbrev cX7_spellNumber : ByteArray := prog_9_method_86_code
def yX7_spellNumber : MethodName := ⟨RX7, "spellNumber", "(I)V"⟩
abbrev cX7_spells : ByteArray := prog_9_method_87_code
def yX7_spells : MethodName := ⟨RX7, "spells", "(Ljava/lang/String;)V"⟩
abbrev cX7_spellsOn : ByteArray := prog_9_method_88_code
def yX7_spellsOn : MethodName := ⟨RX7, "spellsOn", "(I)V"⟩
abbrev cX7_spellWait : ByteArray := prog_9_method_89_code
def yX7_spellWait : MethodName := ⟨RX7, "spellWait", "(I)V"⟩
abbrev cX7_spellAll : ByteArray := prog_9_method_90_code
def yX7_spellAll : MethodName := ⟨RX7, "spellAll", "()V"⟩
abbrev cX7_told : ByteArray := prog_9_method_91_code
def yX7_told : MethodName := ⟨RX7, "told", "(I)I"⟩
abbrev cX7_digest : ByteArray := prog_9_method_92_code
def yX7_digest : MethodName := ⟨RX7, "digest", "()J"⟩
abbrev cX7_count : ByteArray := prog_9_method_93_code
def yX7_count : MethodName := ⟨RX7, "count", "(I)I"⟩
abbrev cX7_laysFour : ByteArray := prog_9_method_94_code
def yX7_laysFour : MethodName := ⟨RX7, "laysFour", "(I)V"⟩
abbrev cX7_feed : ByteArray := prog_9_method_95_code
def yX7_feed : MethodName := ⟨RX7, "feed", "(IIIII)I"⟩
abbrev cX7_end : ByteArray := prog_9_method_96_code
def yX7_end : MethodName := ⟨RX7, "end", "(I)I"⟩
abbrev cX7_byteAt : ByteArray := prog_9_method_97_code
def yX7_byteAt : MethodName := ⟨RX7, "byteAt", "(I)I"⟩
abbrev cX7_nextByte : ByteArray := prog_9_method_98_code
def yX7_nextByte : MethodName := ⟨RX7, "nextByte", "()I"⟩
abbrev cX7_fails : ByteArray := prog_9_method_99_code
def yX7_fails : MethodName := ⟨RX7, "fails", "(II)Z"⟩
abbrev cX7_takesWord : ByteArray := prog_9_method_100_code
def yX7_takesWord : MethodName := ⟨RX7, "takesWord", "(Ljava/lang/String;)Z"⟩
abbrev cX7_readsNumber : ByteArray := prog_9_method_101_code
def yX7_readsNumber : MethodName := ⟨RX7, "readsNumber", "(II)Z"⟩
abbrev cX7_readsLabel : ByteArray := prog_9_method_102_code
def yX7_readsLabel : MethodName := ⟨RX7, "readsLabel", "()Z"⟩
abbrev cX7_readsSize : ByteArray := prog_9_method_103_code
def yX7_readsSize : MethodName := ⟨RX7, "readsSize", "()Z"⟩
abbrev cX7_readsWindow : ByteArray := prog_9_method_104_code
def yX7_readsWindow : MethodName := ⟨RX7, "readsWindow", "()Z"⟩
abbrev cX7_readsSeed : ByteArray := prog_9_method_105_code
def yX7_readsSeed : MethodName := ⟨RX7, "readsSeed", "()Z"⟩
abbrev cX7_readsWait : ByteArray := prog_9_method_106_code
def yX7_readsWait : MethodName := ⟨RX7, "readsWait", "(I)Z"⟩
abbrev cX7_readsItem : ByteArray := prog_9_method_107_code
def yX7_readsItem : MethodName := ⟨RX7, "readsItem", "(IZ)Z"⟩
abbrev cX7_readsStatement : ByteArray := prog_9_method_108_code
def yX7_readsStatement : MethodName := ⟨RX7, "readsStatement", "()Z"⟩
abbrev cX7_readsAll : ByteArray := prog_9_method_109_code
def yX7_readsAll : MethodName := ⟨RX7, "readsAll", "()Z"⟩
abbrev cX7_tell : ByteArray := prog_9_method_110_code
def yX7_tell : MethodName := ⟨RX7, "tell", "()I"⟩
abbrev cX7_swap : ByteArray := prog_9_method_111_code
def yX7_swap : MethodName := ⟨RX7, "swap", "(II)I"⟩
abbrev cX7_heavier : ByteArray := prog_9_method_112_code
def yX7_heavier : MethodName := ⟨RX7, "heavier", "(II)I"⟩
abbrev cX7_weighAll : ByteArray := prog_9_method_113_code
def yX7_weighAll : MethodName := ⟨RX7, "weighAll", "(II)I"⟩
abbrev cX7_split : ByteArray := prog_9_method_114_code
def yX7_split : MethodName := ⟨RX7, "split", "(III)I"⟩
abbrev cX7_isExpired : ByteArray := prog_9_method_115_code
def yX7_isExpired : MethodName := ⟨RX7, "isExpired", "(I)Z"⟩
abbrev cX7_purge : ByteArray := prog_9_method_116_code
def yX7_purge : MethodName := ⟨RX7, "purge", "()I"⟩
abbrev cX7_lots : ByteArray := prog_9_method_117_code
def yX7_lots : MethodName := ⟨RX7, "lots", "(II)I"⟩
abbrev cX7_kindsOf : ByteArray := prog_9_method_118_code
def yX7_kindsOf : MethodName := ⟨RX7, "kindsOf", "(II)I"⟩
abbrev cX7_kinds : ByteArray := prog_9_method_119_code
def yX7_kinds : MethodName := ⟨RX7, "kinds", "(II)I"⟩
abbrev cX7_sizeForKinds : ByteArray := prog_9_method_120_code
def yX7_sizeForKinds : MethodName := ⟨RX7, "sizeForKinds", "(II)I"⟩
abbrev cX7_labelSet : ByteArray := prog_9_method_121_code
def yX7_labelSet : MethodName := ⟨RX7, "labelSet", "(I)I"⟩
abbrev cX7_shared : ByteArray := prog_9_method_122_code
def yX7_shared : MethodName := ⟨RX7, "shared", "(II)I"⟩
abbrev cX7_cameIn : ByteArray := prog_9_method_123_code
def yX7_cameIn : MethodName := ⟨RX7, "cameIn", "(II)I"⟩
abbrev cX7_busiest : ByteArray := prog_9_method_124_code
def yX7_busiest : MethodName := ⟨RX7, "busiest", "(II)I"⟩
abbrev cX7_without : ByteArray := prog_9_method_125_code
def yX7_without : MethodName := ⟨RX7, "without", "(II)I"⟩
abbrev cX7_nextLot : ByteArray := prog_9_method_126_code
def yX7_nextLot : MethodName := ⟨RX7, "nextLot", "(I)I"⟩
abbrev cX7_expired : ByteArray := prog_9_method_127_code
def yX7_expired : MethodName := ⟨RX7, "expired", "(II)I"⟩
def RJ6 : String := "java/lang/Integer"
def TJ6 : u_T := fun k => match k with
  | _ => ("", "", "", false)
def tyJ6 : Nat → FieldType := fun k => match k with
  | _ => .int
abbrev wsJ60 : List Cond := u_ws RJ6 TJ6 0
theorem nmJ6 : ∀ a, a < 0 → ∀ b, b < 0 → a ≠ b → (TJ6 a).2.1 ≠ (TJ6 b).2.1 := by decide +kernel
theorem tyJ6_ok : ∀ k, k < 0 → parseFieldDescriptor (TJ6 k).2.2.1 = some (tyJ6 k) := by decide +kernel
abbrev cJ6_compare_7cf53 : ByteArray := prog_10_method_40_code
def yJ6_compare_7cf53 : MethodName := ⟨RJ6, "compare", "(II)I"⟩
def RJ13 : String := "java/lang/Long"
def TJ13 : u_T := fun k => match k with
  | _ => ("", "", "", false)
def tyJ13 : Nat → FieldType := fun k => match k with
  | _ => .int
abbrev wsJ130 : List Cond := u_ws RJ13 TJ13 0
theorem nmJ13 : ∀ a, a < 0 → ∀ b, b < 0 → a ≠ b → (TJ13 a).2.1 ≠ (TJ13 b).2.1 := by decide +kernel
theorem tyJ13_ok : ∀ k, k < 0 → parseFieldDescriptor (TJ13 k).2.2.1 = some (tyJ13 k) := by decide +kernel
abbrev cJ13_compare_74951 : ByteArray := prog_11_method_42_code
def yJ13_compare_74951 : MethodName := ⟨RJ13, "compare", "(JJ)I"⟩
def RJ9 : String := "java/lang/Math"
def TJ9 : u_T := fun k => match k with
  | _ => ("", "", "", false)
def tyJ9 : Nat → FieldType := fun k => match k with
  | _ => .int
abbrev wsJ90 : List Cond := u_ws RJ9 TJ9 0
theorem nmJ9 : ∀ a, a < 0 → ∀ b, b < 0 → a ≠ b → (TJ9 a).2.1 ≠ (TJ9 b).2.1 := by decide +kernel
theorem tyJ9_ok : ∀ k, k < 0 → parseFieldDescriptor (TJ9 k).2.2.1 = some (tyJ9 k) := by decide +kernel
abbrev cJ9_abs_0f7a4 : ByteArray := prog_12_method_59_code
def yJ9_abs_0f7a4 : MethodName := ⟨RJ9, "abs", "(I)I"⟩
abbrev cJ9_min_7cf53 : ByteArray := prog_12_method_69_code
def yJ9_min_7cf53 : MethodName := ⟨RJ9, "min", "(II)I"⟩
def RJ0 : String := "java/lang/String"
def TJ0 : u_T := fun k => match k with
  | _ => ("", "", "", false)
def tyJ0 : Nat → FieldType := fun k => match k with
  | _ => .int
abbrev wsJ00 : List Cond := u_ws RJ0 TJ0 0
theorem nmJ0 : ∀ a, a < 0 → ∀ b, b < 0 → a ≠ b → (TJ0 a).2.1 ≠ (TJ0 b).2.1 := by decide +kernel
theorem tyJ0_ok : ∀ k, k < 0 → parseFieldDescriptor (TJ0 k).2.2.1 = some (tyJ0 k) := by decide +kernel
abbrev cJ0_length_8abf5 : ByteArray := prog_13_method_54_code
def yJ0_length_8abf5 : MethodName := ⟨RJ0, "length", "()I"⟩
abbrev cJ0_charAt_5068e : ByteArray := prog_13_method_56_code
def yJ0_charAt_5068e : MethodName := ⟨RJ0, "charAt", "(I)C"⟩
abbrev cJ0_coder_7d493 : ByteArray := prog_13_method_152_code
def yJ0_coder_7d493 : MethodName := ⟨RJ0, "coder", "()B"⟩
abbrev cJ0_isLatin1_aae02 : ByteArray := prog_13_method_154_code
def yJ0_isLatin1_aae02 : MethodName := ⟨RJ0, "isLatin1", "()Z"⟩
abbrev cJ0_checkIndex_df160 : ByteArray := prog_13_method_155_code
def yJ0_checkIndex_df160 : MethodName := ⟨RJ0, "checkIndex", "(II)V"⟩
def RJ1 : String := "java/lang/StringLatin1"
def TJ1 : u_T := fun k => match k with
  | _ => ("", "", "", false)
def tyJ1 : Nat → FieldType := fun k => match k with
  | _ => .int
abbrev wsJ10 : List Cond := u_ws RJ1 TJ1 0
theorem nmJ1 : ∀ a, a < 0 → ∀ b, b < 0 → a ≠ b → (TJ1 a).2.1 ≠ (TJ1 b).2.1 := by decide +kernel
theorem tyJ1_ok : ∀ k, k < 0 → parseFieldDescriptor (TJ1 k).2.2.1 = some (tyJ1 k) := by decide +kernel
abbrev cJ1_charAt_3b067 : ByteArray := prog_14_method_2_code
def yJ1_charAt_3b067 : MethodName := ⟨RJ1, "charAt", "([BI)C"⟩
def RJ2 : String := "java/lang/StringUTF16"
def TJ2 : u_T := fun k => match k with
  | _ => ("", "", "", false)
def tyJ2 : Nat → FieldType := fun k => match k with
  | _ => .int
abbrev wsJ20 : List Cond := u_ws RJ2 TJ2 0
theorem nmJ2 : ∀ a, a < 0 → ∀ b, b < 0 → a ≠ b → (TJ2 a).2.1 ≠ (TJ2 b).2.1 := by decide +kernel
theorem tyJ2_ok : ∀ k, k < 0 → parseFieldDescriptor (TJ2 k).2.2.1 = some (tyJ2 k) := by decide +kernel
abbrev cJ2_getChar_3b067 : ByteArray := prog_15_method_5_code
def yJ2_getChar_3b067 : MethodName := ⟨RJ2, "getChar", "([BI)C"⟩
abbrev cJ2_length_9d52b : ByteArray := prog_15_method_6_code
def yJ2_length_9d52b : MethodName := ⟨RJ2, "length", "([B)I"⟩
abbrev cJ2_charAt_3b067 : ByteArray := prog_15_method_83_code
def yJ2_charAt_3b067 : MethodName := ⟨RJ2, "charAt", "([BI)C"⟩
abbrev cJ2_checkIndex_2214a : ByteArray := prog_15_method_91_code
def yJ2_checkIndex_2214a : MethodName := ⟨RJ2, "checkIndex", "(I[B)V"⟩
def RJ3 : String := "jdk/internal/util/Preconditions"
def TJ3 : u_T := fun k => match k with
  | _ => ("", "", "", false)
def tyJ3 : Nat → FieldType := fun k => match k with
  | _ => .int
abbrev wsJ30 : List Cond := u_ws RJ3 TJ3 0
theorem nmJ3 : ∀ a, a < 0 → ∀ b, b < 0 → a ≠ b → (TJ3 a).2.1 ≠ (TJ3 b).2.1 := by decide +kernel
theorem tyJ3_ok : ∀ k, k < 0 → parseFieldDescriptor (TJ3 k).2.2.1 = some (tyJ3 k) := by decide +kernel
abbrev cJ3_checkIndex_8e157 : ByteArray := prog_16_method_11_code
def yJ3_checkIndex_8e157 : MethodName := ⟨RJ3, "checkIndex", "(IILjava/util/function/BiFunction;)I"⟩
def RL : String := "FairDrawsLaw"
abbrev cL_law : ByteArray := code
def yL_law : MethodName := ⟨RL, "law", "([I)Z"⟩
abbrev vwCl : List vw_C := [(RX0, TX0, 3), (RX1, TX1, 2), (RX2, TX2, 9), (RX3, TX3, 13), (RX4, TX4, 5), (RX5, TX5, 3), (RX6, TX6, 8), (RX7, TX7, 22)]
/-- the words that a method may ask of the tables: all that keep -/
def WS : List Cond := lw_tbl.filter goodWord
theorem ws_of {w : Cond} (h : w ∈ lw_tbl) (hg : goodWord w = true) : w ∈ WS := List.mem_filter.mpr ⟨h, hg⟩
theorem ws_good : ∀ w ∈ WS, (w.onTables && w.keeps) = true ∨ ∃ ty, w = .arrayClass ty := fun w h => good_of_word (List.mem_filter.mp h).2
theorem ws_in : ∀ w ∈ WS, w ∈ lw_tbl := fun w h => (List.mem_filter.mp h).1
theorem tb_in {w : Cond} (h : w ∈ tables_1) : w ∈ lw_tbl := List.mem_append_right _ h
theorem wm1 {w : Cond} (i : Nat) (h : tables_1_1[i]? = some w) (hg : goodWord w = true) : w ∈ WS := ws_of (tb_in (show w ∈ tables_1 from List.mem_append_left _ (List.mem_of_getElem? h))) hg
theorem wm2 {w : Cond} (i : Nat) (h : tables_1_2[i]? = some w) (hg : goodWord w = true) : w ∈ WS := ws_of (tb_in (show w ∈ tables_1 from List.mem_append_right _ (List.mem_append_left _ (List.mem_of_getElem? h)))) hg
theorem wm3 {w : Cond} (i : Nat) (h : tables_1_3[i]? = some w) (hg : goodWord w = true) : w ∈ WS := ws_of (tb_in (show w ∈ tables_1 from List.mem_append_right _ (List.mem_append_right _ (List.mem_append_left _ (List.mem_of_getElem? h))))) hg
theorem wm4 {w : Cond} (i : Nat) (h : tables_1_4[i]? = some w) (hg : goodWord w = true) : w ∈ WS := ws_of (tb_in (show w ∈ tables_1 from List.mem_append_right _ (List.mem_append_right _ (List.mem_append_right _ (List.mem_append_left _ (List.mem_of_getElem? h)))))) hg
theorem wm5 {w : Cond} (i : Nat) (h : tables_1_5[i]? = some w) (hg : goodWord w = true) : w ∈ WS := ws_of (tb_in (show w ∈ tables_1 from List.mem_append_right _ (List.mem_append_right _ (List.mem_append_right _ (List.mem_append_right _ (List.mem_append_left _ (List.mem_of_getElem? h))))))) hg
theorem wm6 {w : Cond} (i : Nat) (h : tables_1_6[i]? = some w) (hg : goodWord w = true) : w ∈ WS := ws_of (tb_in (show w ∈ tables_1 from List.mem_append_right _ (List.mem_append_right _ (List.mem_append_right _ (List.mem_append_right _ (List.mem_append_right _ (List.mem_append_left _ (List.mem_of_getElem? h)))))))) hg
theorem wm7 {w : Cond} (i : Nat) (h : tables_1_7[i]? = some w) (hg : goodWord w = true) : w ∈ WS := ws_of (tb_in (show w ∈ tables_1 from List.mem_append_right _ (List.mem_append_right _ (List.mem_append_right _ (List.mem_append_right _ (List.mem_append_right _ (List.mem_append_right _ (List.mem_of_getElem? h)))))))) hg
theorem ws1 {y : MethodName} {q : Nat} (i : Nat) (h : lw_privs_1[i]? = some (y, q)) : Cond.selects y.cls y y ∈ WS := ws_of (List.mem_append_left _ (List.mem_map.mpr ⟨(y, q), (show (y, q) ∈ lw_privs from List.mem_append_left _ (List.mem_of_getElem? h)), rfl⟩)) rfl
theorem ws2 {y : MethodName} {q : Nat} (i : Nat) (h : lw_privs_2[i]? = some (y, q)) : Cond.selects y.cls y y ∈ WS := ws_of (List.mem_append_left _ (List.mem_map.mpr ⟨(y, q), (show (y, q) ∈ lw_privs from List.mem_append_right _ (List.mem_append_left _ (List.mem_of_getElem? h))), rfl⟩)) rfl
theorem ws3 {y : MethodName} {q : Nat} (i : Nat) (h : lw_privs_3[i]? = some (y, q)) : Cond.selects y.cls y y ∈ WS := ws_of (List.mem_append_left _ (List.mem_map.mpr ⟨(y, q), (show (y, q) ∈ lw_privs from List.mem_append_right _ (List.mem_append_right _ (List.mem_append_left _ (List.mem_of_getElem? h)))), rfl⟩)) rfl
theorem ws4 {y : MethodName} {q : Nat} (i : Nat) (h : lw_privs_4[i]? = some (y, q)) : Cond.selects y.cls y y ∈ WS := ws_of (List.mem_append_left _ (List.mem_map.mpr ⟨(y, q), (show (y, q) ∈ lw_privs from List.mem_append_right _ (List.mem_append_right _ (List.mem_append_right _ (List.mem_append_left _ (List.mem_of_getElem? h))))), rfl⟩)) rfl
theorem ws5 {y : MethodName} {q : Nat} (i : Nat) (h : lw_privs_5[i]? = some (y, q)) : Cond.selects y.cls y y ∈ WS := ws_of (List.mem_append_left _ (List.mem_map.mpr ⟨(y, q), (show (y, q) ∈ lw_privs from List.mem_append_right _ (List.mem_append_right _ (List.mem_append_right _ (List.mem_append_right _ (List.mem_append_left _ (List.mem_of_getElem? h)))))), rfl⟩)) rfl
theorem ws6 {y : MethodName} {q : Nat} (i : Nat) (h : lw_privs_6[i]? = some (y, q)) : Cond.selects y.cls y y ∈ WS := ws_of (List.mem_append_left _ (List.mem_map.mpr ⟨(y, q), (show (y, q) ∈ lw_privs from List.mem_append_right _ (List.mem_append_right _ (List.mem_append_right _ (List.mem_append_right _ (List.mem_append_right _ (List.mem_append_left _ (List.mem_of_getElem? h))))))), rfl⟩)) rfl
theorem ws7 {y : MethodName} {q : Nat} (i : Nat) (h : lw_privs_7[i]? = some (y, q)) : Cond.selects y.cls y y ∈ WS := ws_of (List.mem_append_left _ (List.mem_map.mpr ⟨(y, q), (show (y, q) ∈ lw_privs from List.mem_append_right _ (List.mem_append_right _ (List.mem_append_right _ (List.mem_append_right _ (List.mem_append_right _ (List.mem_append_right _ (List.mem_of_getElem? h))))))), rfl⟩)) rfl
theorem inX0 : ∀ w ∈ wsX00, w ∈ WS := List.forall_mem_cons.mpr ⟨wm1 136 rfl rfl, List.forall_mem_cons.mpr ⟨wm1 138 rfl rfl, List.forall_mem_cons.mpr ⟨wm1 140 rfl rfl, fun _ h => absurd h List.not_mem_nil⟩⟩⟩
theorem inX1 : ∀ w ∈ wsX10, w ∈ WS := List.forall_mem_cons.mpr ⟨wm1 38 rfl rfl, List.forall_mem_cons.mpr ⟨wm1 40 rfl rfl, fun _ h => absurd h List.not_mem_nil⟩⟩
theorem inX2 : ∀ w ∈ wsX20, w ∈ WS := List.forall_mem_cons.mpr ⟨wm1 193 rfl rfl, List.forall_mem_cons.mpr ⟨wm1 195 rfl rfl, List.forall_mem_cons.mpr ⟨wm1 197 rfl rfl, List.forall_mem_cons.mpr ⟨wm1 199 rfl rfl, List.forall_mem_cons.mpr ⟨wm1 201 rfl rfl, List.forall_mem_cons.mpr ⟨wm1 203 rfl rfl, List.forall_mem_cons.mpr ⟨wm1 205 rfl rfl, List.forall_mem_cons.mpr ⟨wm1 207 rfl rfl, List.forall_mem_cons.mpr ⟨wm1 209 rfl rfl, fun _ h => absurd h List.not_mem_nil⟩⟩⟩⟩⟩⟩⟩⟩⟩
theorem inX3 : ∀ w ∈ wsX30, w ∈ WS := List.forall_mem_cons.mpr ⟨wm1 94 rfl rfl, List.forall_mem_cons.mpr ⟨wm1 96 rfl rfl, List.forall_mem_cons.mpr ⟨wm1 98 rfl rfl, List.forall_mem_cons.mpr ⟨wm1 100 rfl rfl, List.forall_mem_cons.mpr ⟨wm1 102 rfl rfl, List.forall_mem_cons.mpr ⟨wm1 104 rfl rfl, List.forall_mem_cons.mpr ⟨wm1 106 rfl rfl, List.forall_mem_cons.mpr ⟨wm1 108 rfl rfl, List.forall_mem_cons.mpr ⟨wm1 110 rfl rfl, List.forall_mem_cons.mpr ⟨wm1 112 rfl rfl, List.forall_mem_cons.mpr ⟨wm1 114 rfl rfl, List.forall_mem_cons.mpr ⟨wm1 116 rfl rfl, List.forall_mem_cons.mpr ⟨wm1 118 rfl rfl, fun _ h => absurd h List.not_mem_nil⟩⟩⟩⟩⟩⟩⟩⟩⟩⟩⟩⟩⟩
theorem inX4 : ∀ w ∈ wsX40, w ∈ WS := List.forall_mem_cons.mpr ⟨wm1 158 rfl rfl, List.forall_mem_cons.mpr ⟨wm1 160 rfl rfl, List.forall_mem_cons.mpr ⟨wm1 162 rfl rfl, List.forall_mem_cons.mpr ⟨wm1 164 rfl rfl, List.forall_mem_cons.mpr ⟨wm1 166 rfl rfl, fun _ h => absurd h List.not_mem_nil⟩⟩⟩⟩⟩
theorem inX5 : ∀ w ∈ wsX50, w ∈ WS := List.forall_mem_cons.mpr ⟨wm1 221 rfl rfl, List.forall_mem_cons.mpr ⟨wm1 223 rfl rfl, List.forall_mem_cons.mpr ⟨wm1 225 rfl rfl, fun _ h => absurd h List.not_mem_nil⟩⟩⟩
theorem inX6 : ∀ w ∈ wsX60, w ∈ WS := List.forall_mem_cons.mpr ⟨wm1 236 rfl rfl, List.forall_mem_cons.mpr ⟨wm1 238 rfl rfl, List.forall_mem_cons.mpr ⟨wm2 0 rfl rfl, List.forall_mem_cons.mpr ⟨wm2 2 rfl rfl, List.forall_mem_cons.mpr ⟨wm2 4 rfl rfl, List.forall_mem_cons.mpr ⟨wm2 6 rfl rfl, List.forall_mem_cons.mpr ⟨wm2 8 rfl rfl, List.forall_mem_cons.mpr ⟨wm2 10 rfl rfl, fun _ h => absurd h List.not_mem_nil⟩⟩⟩⟩⟩⟩⟩⟩
theorem inX7 : ∀ w ∈ wsX70, w ∈ WS := List.forall_mem_cons.mpr ⟨wm4 225 rfl rfl, List.forall_mem_cons.mpr ⟨wm4 227 rfl rfl, List.forall_mem_cons.mpr ⟨wm4 229 rfl rfl, List.forall_mem_cons.mpr ⟨wm4 231 rfl rfl, List.forall_mem_cons.mpr ⟨wm4 233 rfl rfl, List.forall_mem_cons.mpr ⟨wm4 235 rfl rfl, List.forall_mem_cons.mpr ⟨wm4 237 rfl rfl, List.forall_mem_cons.mpr ⟨wm4 239 rfl rfl, List.forall_mem_cons.mpr ⟨wm5 1 rfl rfl, List.forall_mem_cons.mpr ⟨wm5 3 rfl rfl, List.forall_mem_cons.mpr ⟨wm5 5 rfl rfl, List.forall_mem_cons.mpr ⟨wm5 7 rfl rfl, List.forall_mem_cons.mpr ⟨wm5 9 rfl rfl, List.forall_mem_cons.mpr ⟨wm5 11 rfl rfl, List.forall_mem_cons.mpr ⟨wm5 13 rfl rfl, List.forall_mem_cons.mpr ⟨wm5 15 rfl rfl, List.forall_mem_cons.mpr ⟨wm5 17 rfl rfl, List.forall_mem_cons.mpr ⟨wm5 19 rfl rfl, List.forall_mem_cons.mpr ⟨wm5 21 rfl rfl, List.forall_mem_cons.mpr ⟨wm5 23 rfl rfl, List.forall_mem_cons.mpr ⟨wm5 25 rfl rfl, List.forall_mem_cons.mpr ⟨wm5 27 rfl rfl, fun _ h => absurd h List.not_mem_nil⟩⟩⟩⟩⟩⟩⟩⟩⟩⟩⟩⟩⟩⟩⟩⟩⟩⟩⟩⟩⟩⟩
end
section
/-! the walk over a small machine of whole numbers: values, memory, layout -/
abbrev xV : Type := Int ⊕ (Int ⊕ Nat)
abbrev xI (z : Int) : xV := Sum.inl z
abbrev xL (z : Int) : xV := Sum.inr (Sum.inl z)
abbrev xR (k : Nat) : xV := Sum.inr (Sum.inr k)
abbrev i32 (z : Int) : Prop := -2147483648 ≤ z ∧ z < 2147483648
abbrev i64 (z : Int) : Prop := -9223372036854775808 ≤ z ∧ z < 9223372036854775808
def xc (σ : Nat → Nat) (v : xV) : Value := match v with
  | .inl z => .int (Int32.ofInt z)
  | .inr (.inl z) => .long (Int64.ofInt z)
  | .inr (.inr k) => .ref (σ k)
def xk (v : xV) : Prop := match v with
  | .inl z => i32 z
  | .inr (.inl z) => i64 z
  | .inr (.inr _) => True
def xcat (v : xV) : Nat := match v with
  | .inl _ => 1
  | .inr (.inl _) => 2
  | .inr (.inr _) => 1
abbrev xM : Type := Nat → Nat → Int
/-- a cell's kind (0..7: an object of that class; 8 bytes, 9 ints, 10 longs, 11 booleans, 12 States), its length, its references -/
abbrev xT : Type := Nat → Nat × Nat × (Nat → Option Nat)
def xN (ci : Nat) : Nat := [3, 2, 9, 13, 5, 3, 8, 22].getD ci 0
def xB (ci j : Nat) : Bool := ([[true, false, false], [true, true], [true, true, false, false, false, false, false, false, false], [true, true, true, true, true, true, true, true, true, true, false, false, false], [true, true, false, false, false], [false, false, false], [true, true, true, true, true, true, true, false], [true, true, false, true, true, true, true, true, false, true, false, true, true, true, false, false, false, true, false, false, false, false]].getD ci []).getD j false
def xo (σ : Nat → Nat) (ci : Nat) (r : Nat → Option Nat) (f : Nat → Int) : List Value := (List.range (xN ci)).map fun j => if xB ci j = true then va_rf ((r j).map σ) else .int (Int32.ofInt (f j))
def xe (σ : Nat → Nat) (cy : Nat → ClassId) (t : Nat × Nat × (Nat → Option Nat)) (f : Nat → Int) : va_E :=
  if t.1 < 8 then .inr (t.1, xo σ t.1 t.2.2 f)
  else if t.1 = 10 then .inl (cy 10, t.2.1, .inr (.inl fun j => Int64.ofInt (f j)))
  else if t.1 = 12 then .inl (cy 12, t.2.1, .inr (.inr (.inr (.inr fun j => (t.2.2 j).map σ))))
  else .inl (cy t.1, t.2.1, .inl fun j => Int32.ofInt (f j))
/-- where cells lie (the strings' too, from 1000000 on, their bytes from 2000000 on), the arrays' classes, the first cell, the classes -/
abbrev xD : Type := (Nat → Nat) × (Nat → ClassId) × Nat × va_G
def xw (D : xD) (n : Nat) (T : xT) (M : xM) : va_W := (List.range n).map fun k => (D.1 k, xe D.1 D.2.1 (T k) (M k))
def xA (B : Nat) : Nat → Prop := fun q => B ≤ q
def xr (T : xT) (M : xM) : Prop := ∀ k j, ((T k).1 = 10 → i64 (M k j)) ∧ (¬ (T k).1 = 10 → i32 (M k j))
def xty (cy : Nat → ClassId) : List (ClassId × FieldType) := [(cy 8, .byte), (cy 9, .int), (cy 10, .long), (cy 11, .boolean), (cy 12, .object "FairDraws$State")]
/-- memory written: one slot; a cell's row; a reference of the layout; a new cell of the layout -/
def xst (M : xM) (k j : Nat) (z : Int) : xM := fun a => if a = k then (fun b => if b = j then z else M k b) else M a
def xsr (M : xM) (k : Nat) (f : Nat → Int) : xM := fun a => if a = k then f else M a
def xTr (T : xT) (k j b : Nat) : xT := fun a => if a = k then ((T k).1, (T k).2.1, fun i => if i = j then some b else (T k).2.2 i) else T a
def xTn (T : xT) (k c len : Nat) : xT := fun a => if a = k then (c, len, fun _ => none) else T a
theorem xst_eq (M : xM) (k j : Nat) (z : Int) (a b : Nat) : xst M k j z a b = if a = k ∧ b = j then z else M a b := by
  unfold xst
  by_cases h : a = k
  · subst h
    by_cases h2 : b = j <;> simp [h2]
  · simp [h]
theorem x_toInt {z : Int} (h : i32 z) : (Int32.ofInt z).toInt = z := by
  rw [Int32.toInt_ofInt]
  have h1 := h.1
  have h2 := h.2
  have h3 : (Int32.size : Int) = 4294967296 := rfl
  exact Int.bmod_eq_of_le (by omega) (by omega)
theorem x_toInt64 {z : Int} (h : i64 z) : (Int64.ofInt z).toInt = z := by
  rw [Int64.toInt_ofInt]
  have h1 := h.1
  have h2 := h.2
  have h3 : (Int64.size : Int) = 18446744073709551616 := rfl
  exact Int.bmod_eq_of_le (by omega) (by omega)
theorem x_lt {x y : Int} (hx : i32 x) (hy : i32 y) : (Int32.ofInt x < Int32.ofInt y) ↔ x < y := by
  rw [Int32.lt_iff_toInt_lt, x_toInt hx, x_toInt hy]
theorem x_le {x y : Int} (hx : i32 x) (hy : i32 y) : (Int32.ofInt x ≤ Int32.ofInt y) ↔ x ≤ y := by
  rw [Int32.le_iff_toInt_le, x_toInt hx, x_toInt hy]
theorem x_eq {x y : Int} (hx : i32 x) (hy : i32 y) : (Int32.ofInt x = Int32.ofInt y) ↔ x = y := by
  rw [← Int32.toInt_inj, x_toInt hx, x_toInt hy]
theorem x_lt64 {x y : Int} (hx : i64 x) (hy : i64 y) : (Int64.ofInt x < Int64.ofInt y) ↔ x < y := by
  rw [Int64.lt_iff_toInt_lt, x_toInt64 hx, x_toInt64 hy]
theorem x_eq64 {x y : Int} (hx : i64 x) (hy : i64 y) : (Int64.ofInt x = Int64.ofInt y) ↔ x = y := by
  rw [← Int64.toInt_inj, x_toInt64 hx, x_toInt64 hy]
theorem x_nat {z : Int} (h : i32 z) : (Int32.ofInt z).toNatClampNeg = z.toNat := by
  show (Int32.ofInt z).toInt.toNat = z.toNat
  rw [x_toInt h]
theorem x_in {z : Int} {n : Nat} (h : i32 z) (h0 : 0 ≤ z) (h1 : z < n) : vp_in (Int32.ofInt z) n := by
  rw [vp_in_iff, x_toInt h]
  exact ⟨h0, h1⟩
theorem xcat_eq (σ : Nat → Nat) (v : xV) : (xc σ v).category = xcat v := by
  rcases v with z | z | z <;> rfl
theorem xw_get {D : xD} {n k : Nat} {T : xT} {M : xM} (h : k < n) : (xw D n T M)[k]? = some (D.1 k, xe D.1 D.2.1 (T k) (M k)) := by
  simp [xw, List.getElem?_map, List.getElem?_range, h]
theorem xw_set {D : xD} {n k : Nat} {T T' : xT} {M M' : xM} (h : k < n) (hT : ∀ a, a ≠ k → T' a = T a) (hM : ∀ a, a ≠ k → M' a = M a) : (xw D n T M).set k (D.1 k, xe D.1 D.2.1 (T' k) (M' k)) = xw D n T' M' := by
  apply List.ext_getElem?
  intro i
  by_cases hi : i < n
  · by_cases hk : i = k
    · subst hk
      rw [List.getElem?_set_self (by simp [xw]; exact hi), xw_get hi]
    · rw [List.getElem?_set_ne (Ne.symm hk), xw_get hi, xw_get hi, hT i hk, hM i hk]
  · rw [List.getElem?_eq_none (by simp [xw]; omega), List.getElem?_eq_none (by simp [xw]; omega)]
theorem xw_push {D : xD} {n : Nat} {T T' : xT} {M M' : xM} (hT : ∀ a, a < n → T' a = T a) (hM : ∀ a, a < n → M' a = M a) : xw D n T M ++ [(D.1 n, xe D.1 D.2.1 (T' n) (M' n))] = xw D (n + 1) T' M' := by
  unfold xw
  rw [List.range_succ, List.map_append]
  congr 1
  apply List.map_congr_left
  intro k hk
  have := List.mem_range.mp hk
  rw [hT k this, hM k this]
end
section
/-! links to private members of nest mates; the String constants with their bytes -/
def xnF : List (String × Nat × String × String × String) := [("FairDraws$Teller", 72, "FairDraws$State", "shardOf", "[I"), ("FairDraws$Sampler", 67, "FairDraws$State", "shardOf", "[I"), ("FairDraws", 133, "FairDraws$State", "shardOf", "[I"), ("FairDraws$Teller", 78, "FairDraws$State", "labelOf", "[I"), ("FairDraws$Sampler", 60, "FairDraws$State", "labelOf", "[I"), ("FairDraws", 147, "FairDraws$State", "labelOf", "[I"), ("FairDraws$Teller", 81, "FairDraws$State", "weightOf", "[I"), ("FairDraws", 123, "FairDraws$State", "weightOf", "[I"), ("FairDraws$Teller", 84, "FairDraws$State", "lotOf", "[I"), ("FairDraws", 126, "FairDraws$State", "lotOf", "[I"), ("FairDraws$Teller", 34, "FairDraws$State", "timeOf", "[I"), ("FairDraws", 190, "FairDraws$State", "timeOf", "[I"), ("FairDraws$Teller", 30, "FairDraws$State", "isDropped", "[Z"), ("FairDraws", 129, "FairDraws$State", "isDropped", "[Z"), ("FairDraws$Sampler", 57, "FairDraws$State", "ranked", "[I"), ("FairDraws$Sampler", 33, "FairDraws$State", "sizes", "[I"), ("FairDraws$Teller", 62, "FairDraws$State", "sizes", "[I"), ("FairDraws$Tape", 84, "FairDraws$State", "sizes", "[I"), ("FairDraws", 113, "FairDraws$State", "sizes", "[I"), ("FairDraws$Teller", 67, "FairDraws$State", "windows", "[I"), ("FairDraws$Tape", 87, "FairDraws$State", "windows", "[I"), ("FairDraws", 117, "FairDraws$State", "windows", "[I"), ("FairDraws$Teller", 25, "FairDraws$State", "came", "I"), ("FairDraws$Sampler", 54, "FairDraws$State", "came", "I"), ("FairDraws", 83, "FairDraws$State", "came", "I"), ("FairDraws$Tape", 103, "FairDraws$State", "came", "I"), ("FairDraws$Teller", 46, "FairDraws$State", "tick", "I"), ("FairDraws$Sampler", 41, "FairDraws$State", "tick", "I"), ("FairDraws", 109, "FairDraws$State", "tick", "I"), ("FairDraws$Tape", 93, "FairDraws$State", "tick", "I"), ("FairDraws$Teller", 55, "FairDraws$State", "seed", "I"), ("FairDraws$Tape", 91, "FairDraws$State", "seed", "I"), ("FairDraws", 173, "FairDraws$State", "seed", "I"), ("FairDraws", 180, "FairDraws$History", "length", "I"), ("FairDraws", 70, "FairDraws$Tape", "draft", "LFairDraws$State;"), ("FairDraws", 55, "FairDraws$Tape", "length", "I"), ("FairDraws", 227, "FairDraws$Sampler", "found", "[I"), ("FairDraws", 260, "FairDraws$Sampler", "ofLabel", "[I"), ("FairDraws", 154, "FairDraws$Sampler", "n", "I"), ("FairDraws", 236, "FairDraws$Sampler", "set", "I"), ("FairDraws", 211, "FairDraws$Sampler", "most", "I"), ("FairDraws", 275, "FairDraws$Sampler", "tick", "I"), ("FairDraws", 289, "FairDraws$Sampler", "upTo", "I"), ("FairDraws", 276, "FairDraws$Sampler", "leftOut", "I"), ("FairDraws", 230, "FairDraws$Sampler", "cap", "I")]
def xnM : List (String × Nat × MethodName) := [("FairDraws$State", 11, ⟨"FairDraws$Keys", "<init>", "()V"⟩), ("FairDraws", 25, ⟨"FairDraws$Tape", "<init>", "()V"⟩), ("FairDraws", 36, ⟨"FairDraws$Sampler", "<init>", "()V"⟩), ("FairDraws", 46, ⟨"FairDraws$Teller", "<init>", "()V"⟩), ("FairDraws$Tape", 113, ⟨"FairDraws", "isWithin", "(III)Z"⟩), ("FairDraws$State", 68, ⟨"FairDraws", "seedOfNextLot", "(I)I"⟩), ("FairDraws$State", 72, ⟨"FairDraws", "lotOfSeed", "(I)I"⟩), ("FairDraws$State", 60, ⟨"FairDraws", "isWithin", "(III)Z"⟩)]
def xStr : List (String × Nat × String × List Int) := [("FairDraws$Tape", 45, "size", [115, 105, 122, 101]), ("FairDraws$Tape", 54, "window", [119, 105, 110, 100, 111, 119]), ("FairDraws$Tape", 59, "seed", [115, 101, 101, 100]), ("FairDraws$Tape", 64, "wait", [119, 97, 105, 116]), ("FairDraws$Tape", 70, "item", [105, 116, 101, 109]), ("FairDraws$Tape", 101, "times", [116, 105, 109, 101, 115]), ("FairDraws$Tape", 75, "key", [107, 101, 121]), ("FairDraws$Teller", 60, "size", [115, 105, 122, 101]), ("FairDraws$Teller", 65, "window", [119, 105, 110, 100, 111, 119]), ("FairDraws$Teller", 87, "wait", [119, 97, 105, 116]), ("FairDraws$Teller", 70, "key", [107, 101, 121]), ("FairDraws$Teller", 49, "seed", [115, 101, 101, 100]), ("FairDrawsModel", 264, "size", [115, 105, 122, 101]), ("FairDrawsModel", 266, "window", [119, 105, 110, 100, 111, 119]), ("FairDrawsModel", 255, "wait", [119, 97, 105, 116]), ("FairDrawsModel", 271, "key", [107, 101, 121]), ("FairDrawsModel", 273, "seed", [115, 101, 101, 100]), ("FairDrawsModel", 339, "item", [105, 116, 101, 109]), ("FairDrawsModel", 322, "times", [116, 105, 109, 101, 115])]
def xES (D : xD) (U : State) : Prop :=
  (∀ (i : Nat) (q : String × Nat × String × List Int), xStr[i]? = some q → vk_R q.1 q.2.1 q.2.2.1 (D.1 (1000000 + i)) U ∧ va_O "java/lang/String" (D.1 (1000000 + i)) (xA D.2.2.1) U U.heap ∧ va_OF "java/lang/String" "coder" "B" (.int 0) (D.1 (1000000 + i)) (xA D.2.2.1) U U.heap ∧ va_OF "java/lang/String" "value" "[B" (.ref (D.1 (2000000 + i))) (D.1 (1000000 + i)) (xA D.2.2.1) U U.heap ∧ va_T .byte (D.1 (2000000 + i)) q.2.2.2.length (fun j => .int (Int32.ofInt (q.2.2.2.getD j 0))) (xA D.2.2.1) U U.heap)
  ∧ va_Z "java/lang/String" "COMPACT_STRINGS" "Z" (.int 1) (xA D.2.2.1) U U.heap ∧ va_Zq "jdk/internal/util/Preconditions" "SIOOBE_FORMATTER" "Ljava/util/function/BiFunction;" (xA D.2.2.1) U U.heap
/-- what a state's tables and its old cells say, whoever asks -/
def xE (D : xD) (U : State) : Prop :=
  (∀ k, k < 1000000 → D.1 k = D.2.2.1 + k) ∧ va_K D.2.2.2 vwCl (xty D.2.1) U ∧ (∀ q ∈ xnF, va_Nw (.fieldLinkNest q.1 q.2.1 q.2.2.1 q.2.2.2.1 q.2.2.2.2 "FairDraws") U) ∧ (∀ q ∈ xnM, va_Nw (.methodLinkNest q.1 q.2.1 q.2.2 "FairDraws") U) ∧ va_AO "FairDraws$State" U ∧ xES D U
theorem xE.same {D : xD} {u U : State} (hv : U.vm = u.vm) (hh : U.heap = u.heap) (h : xE D u) : xE D U := by
  obtain ⟨h1, h2, h3, h4, h0, h5, h6, h7⟩ := h
  have ha : u.vm.Alike U.vm := by rw [hv]; exact Vm.Alike.refl _
  refine ⟨h1, va_K.moved ha h2, fun q hq => va_Nw.same rfl hv.symm (h3 q hq), fun q hq => va_Nw.same rfl hv.symm (h4 q hq), va_AO.moved ha h0, fun i q hq => ?_, ?_, ?_⟩
  · obtain ⟨a1, a2, a3, a4, a5⟩ := h5 i q hq
    rw [hh]
    exact ⟨vk_R.same hv a1, a2.moved ha, a3.moved ha, a4.moved ha, a5.moved ha⟩
  · rw [hh]; exact h6.moved ha
  · rw [hh]; exact h7.moved ha
theorem xE.at {D : xD} {s U : State} {H : Heap} {locs : List Loc} (h : xE D s) (hS : va_S (xA D.2.2.1) s.heap H locs) (hh : U.heap = H) (hW : s.WarmedH U.vm) : xE D U := by
  obtain ⟨h1, h2, h3, h4, h0, h5, h6, h7⟩ := h
  have ha : s.vm.Alike U.vm := hW.alike
  subst hh
  refine ⟨h1, va_K.moved ha h2, fun q hq => va_Nw.warmF hW (h3 q hq), fun q hq => va_Nw.warmM hW (h4 q hq), va_AO.moved ha h0, fun i q hq => ?_, (h6.moved ha).kept hS.2.1, (h7.moved ha).kept hS.2.1⟩
  obtain ⟨a1, a2, a3, a4, a5⟩ := h5 i q hq
  exact ⟨vk_R.warm hW a1, (a2.moved ha).kept hS.2.1, (a3.moved ha).kept hS.2.1, (a4.moved ha).kept hS.2.1, (a5.moved ha).kept hS.2.1⟩
abbrev xKt : Type := Program × Launch × Env × Room × State × MethodId × Array Value × List Frame × Method × Code × (State → Prop)
abbrev xΓ : Type := xD × xKt
def xH (D : xD) (s : State) (n : Nat) (T : xT) (M : xM) (H : Heap) (locs : List Loc) : Prop :=
  va_P D.2.2.2 vwCl (xw D n T M) H ∧ va_D (xA D.2.2.1) (xw D n T M) ∧ va_S (xA D.2.2.1) s.heap H locs ∧ xr T M ∧ H.size = D.2.2.1 + n
def xX (Γ : xΓ) (cells slots n : Nat) (T : xT) (pc : Nat) (L : List (Nat × xV)) (st : List xV) (M : xM) : Prop := match Γ with
  | (D, p, l, e, R, s, m, args, below, meth, c, Q) => ∀ (ls : Array Slot) (H : Heap) (locs : List Loc), lv_has ls c.maxLocals (L.map fun q => (q.1, xc D.1 q.2)) → (∀ q ∈ L, xk q.2) → (∀ v ∈ st, xk v) → xH D s n T M H locs → W p l e R s m args below meth c H locs cells slots Q (F0 m pc ls (st.map (xc D.1)))
/-- what holds all along a method's walk: the machine, its code, its own class, the words, its room -/
def xG (Γ : xΓ) (own : String) (cc : ByteArray) (nL fr lo mc ms : Nat) : Prop := match Γ with
  | (D, p, _, _, R, s, m, args, _, _, c, _) => p.tables.exec = Jvm.exec ∧ c.code = cc ∧ c.maxLocals = nL ∧ s.vm.findClass own = some m.cls ∧ (∀ w ∈ WS, w.before args s = true) ∧ xE D s ∧ D.2.2.1 ≤ s.heap.size ∧ R = { frames := fr, cells := mc, slots := ms, locals := lo }
theorem x_iconst {Γ : xΓ} {own : String} {cc : ByteArray} {nL fr lo mc ms : Nat} (G : xG Γ own cc nL fr lo mc ms) {cells slots n pc : Nat} {T : xT} {L : List (Nat × xV)} {st : List xV} {M : xM} {z : Int} (hz : i32 z) (hd : decode cc pc = .ok (.iconst z, 1)) (k : xX Γ cells slots n T (pc + 1) L (xI z :: st) M) : xX Γ cells slots n T pc L st M := by
  obtain ⟨D, p, l, e, R, s, m, args, below, meth, c, Q⟩ := Γ
  obtain ⟨hx, hb, hml, hown, hts, hE, hB, hR⟩ := G
  intro ls H locs hl hL hs hH
  exact lv_iconst (v := Int32.ofInt z) hx hb hd rfl (k ls H locs hl hL (List.forall_mem_cons.mpr ⟨hz, hs⟩) hH)
theorem x_bipush {Γ : xΓ} {own : String} {cc : ByteArray} {nL fr lo mc ms : Nat} (G : xG Γ own cc nL fr lo mc ms) {cells slots n pc : Nat} {T : xT} {L : List (Nat × xV)} {st : List xV} {M : xM} {z : Int} (hz : -128 ≤ z ∧ z < 128) (hd : decode cc pc = .ok (.bipush z, 2)) (k : xX Γ cells slots n T (pc + 2) L (xI z :: st) M) : xX Γ cells slots n T pc L st M := by
  obtain ⟨D, p, l, e, R, s, m, args, below, meth, c, Q⟩ := Γ
  obtain ⟨hx, hb, hml, hown, hts, hE, hB, hR⟩ := G
  intro ls H locs hl hL hs hH
  refine lv_bipush (v := Int32.ofInt z) hx hb hd ?_ (k ls H locs hl hL (List.forall_mem_cons.mpr ⟨by show i32 z; omega, hs⟩) hH)
  apply Int32.toInt_inj.mp
  rw [Int8.toInt_toInt32, Int8.toInt_ofInt, x_toInt (by omega)]
  exact Int.bmod_eq_of_le (by simp; omega) (by simp; omega)
theorem x_sipush {Γ : xΓ} {own : String} {cc : ByteArray} {nL fr lo mc ms : Nat} (G : xG Γ own cc nL fr lo mc ms) {cells slots n pc : Nat} {T : xT} {L : List (Nat × xV)} {st : List xV} {M : xM} {z : Int} (hz : -32768 ≤ z ∧ z < 32768) (hd : decode cc pc = .ok (.sipush z, 3)) (k : xX Γ cells slots n T (pc + 3) L (xI z :: st) M) : xX Γ cells slots n T pc L st M := by
  obtain ⟨D, p, l, e, R, s, m, args, below, meth, c, Q⟩ := Γ
  obtain ⟨hx, hb, hml, hown, hts, hE, hB, hR⟩ := G
  intro ls H locs hl hL hs hH
  refine lv_sipush (v := Int32.ofInt z) hx hb hd ?_ (k ls H locs hl hL (List.forall_mem_cons.mpr ⟨by show i32 z; omega, hs⟩) hH)
  apply Int32.toInt_inj.mp
  rw [Int16.toInt_toInt32, Int16.toInt_ofInt, x_toInt (by omega)]
  exact Int.bmod_eq_of_le (by simp; omega) (by simp; omega)
theorem x_lconst {Γ : xΓ} {own : String} {cc : ByteArray} {nL fr lo mc ms : Nat} (G : xG Γ own cc nL fr lo mc ms) {cells slots n pc : Nat} {T : xT} {L : List (Nat × xV)} {st : List xV} {M : xM} {z : Fin 2} (hd : decode cc pc = .ok (.lconst z, 1)) (k : xX Γ cells slots n T (pc + 1) L (xL (z.val : Int) :: st) M) : xX Γ cells slots n T pc L st M := by
  obtain ⟨D, p, l, e, R, s, m, args, below, meth, c, Q⟩ := Γ
  obtain ⟨hx, hb, hml, hown, hts, hE, hB, hR⟩ := G
  intro ls H locs hl hL hs hH
  have hz := z.isLt
  exact lv_lconst (v := Int64.ofInt (z.val : Int)) hx hb hd (by apply Int64.toInt_inj.mp; rw [x_toInt64 (by omega)]; exact lN_toInt (by omega)) (k ls H locs hl hL (List.forall_mem_cons.mpr ⟨by show i64 _; omega, hs⟩) hH)
theorem x_ldc {Γ : xΓ} {own : String} {cc : ByteArray} {nL fr lo mc ms : Nat} (G : xG Γ own cc nL fr lo mc ms) {cells slots n pc : Nat} {T : xT} {L : List (Nat × xV)} {st : List xV} {M : xM} {idx : Nat} {z : Int} (hz : i32 z) (hw : Cond.constant own idx (Int32.ofInt z) ∈ WS) (hd : decode cc pc = .ok (.ldc idx, 2)) (k : xX Γ cells slots n T (pc + 2) L (xI z :: st) M) : xX Γ cells slots n T pc L st M := by
  obtain ⟨D, p, l, e, R, s, m, args, below, meth, c, Q⟩ := Γ
  obtain ⟨hx, hb, hml, hown, hts, hE, hB, hR⟩ := G
  intro ls H locs hl hL hs hH
  exact lv_ldc (v := Int32.ofInt z) hx hb hown (hts _ hw) hd (k ls H locs hl hL (List.forall_mem_cons.mpr ⟨hz, hs⟩) hH)
theorem x_ldc2 {Γ : xΓ} {own : String} {cc : ByteArray} {nL fr lo mc ms : Nat} (G : xG Γ own cc nL fr lo mc ms) {cells slots n pc : Nat} {T : xT} {L : List (Nat × xV)} {st : List xV} {M : xM} {idx : Nat} {z : Int} (hz : i64 z) (hw : Cond.constantLong own idx (Int64.ofInt z) ∈ WS) (hd : decode cc pc = .ok (.ldc2_w idx, 3)) (k : xX Γ cells slots n T (pc + 3) L (xL z :: st) M) : xX Γ cells slots n T pc L st M := by
  obtain ⟨D, p, l, e, R, s, m, args, below, meth, c, Q⟩ := Γ
  obtain ⟨hx, hb, hml, hown, hts, hE, hB, hR⟩ := G
  intro ls H locs hl hL hs hH
  exact lv_ldc2 (v := Int64.ofInt z) hx hb hown (hts _ hw) hd (k ls H locs hl hL (List.forall_mem_cons.mpr ⟨hz, hs⟩) hH)
theorem xl_at {σ : Nat → Nat} {L : List (Nat × xV)} {j i : Nat} {v : xV} (h : L[j]? = some (i, v)) : (L.map fun q => (q.1, xc σ q.2))[j]? = some (i, xc σ v) := by
  rw [List.getElem?_map, h]; rfl
theorem xl_ok {L : List (Nat × xV)} {j i : Nat} {v : xV} (hL : ∀ q ∈ L, xk q.2) (h : L[j]? = some (i, v)) : xk v := hL (i, v) (List.mem_of_getElem? h)
theorem x_iload_n {Γ : xΓ} {own : String} {cc : ByteArray} {nL fr lo mc ms : Nat} (G : xG Γ own cc nL fr lo mc ms) {cells slots n pc : Nat} {T : xT} {L : List (Nat × xV)} {st : List xV} {M : xM} {q : Fin 4} {i : Nat} {x : Int} (j : Nat) (hi : (q : Nat) = i) (hj : L[j]? = some (i, xI x)) (hd : decode cc pc = .ok (.iload_n q, 1)) (k : xX Γ cells slots n T (pc + 1) L (xI x :: st) M) : xX Γ cells slots n T pc L st M := by
  obtain ⟨D, p, l, e, R, s, m, args, below, meth, c, Q⟩ := Γ
  obtain ⟨hx, hb, hml, hown, hts, hE, hB, hR⟩ := G
  intro ls H locs hl hL hs hH
  exact lv_iload_n hx hb hd hi (lv_at hl j (xl_at hj)) (k ls H locs hl hL (List.forall_mem_cons.mpr ⟨xl_ok hL hj, hs⟩) hH)
theorem x_iload {Γ : xΓ} {own : String} {cc : ByteArray} {nL fr lo mc ms : Nat} (G : xG Γ own cc nL fr lo mc ms) {cells slots n pc : Nat} {T : xT} {L : List (Nat × xV)} {st : List xV} {M : xM} {i : Nat} {x : Int} (j : Nat) (hj : L[j]? = some (i, xI x)) (hd : decode cc pc = .ok (.iload i, 2)) (k : xX Γ cells slots n T (pc + 2) L (xI x :: st) M) : xX Γ cells slots n T pc L st M := by
  obtain ⟨D, p, l, e, R, s, m, args, below, meth, c, Q⟩ := Γ
  obtain ⟨hx, hb, hml, hown, hts, hE, hB, hR⟩ := G
  intro ls H locs hl hL hs hH
  exact lv_iload hx hb hd (lv_at hl j (xl_at hj)) (k ls H locs hl hL (List.forall_mem_cons.mpr ⟨xl_ok hL hj, hs⟩) hH)
theorem x_lload_n {Γ : xΓ} {own : String} {cc : ByteArray} {nL fr lo mc ms : Nat} (G : xG Γ own cc nL fr lo mc ms) {cells slots n pc : Nat} {T : xT} {L : List (Nat × xV)} {st : List xV} {M : xM} {q : Fin 4} {i : Nat} {x : Int} (j : Nat) (hi : (q : Nat) = i) (hj : L[j]? = some (i, xL x)) (hd : decode cc pc = .ok (.lload_n q, 1)) (k : xX Γ cells slots n T (pc + 1) L (xL x :: st) M) : xX Γ cells slots n T pc L st M := by
  obtain ⟨D, p, l, e, R, s, m, args, below, meth, c, Q⟩ := Γ
  obtain ⟨hx, hb, hml, hown, hts, hE, hB, hR⟩ := G
  intro ls H locs hl hL hs hH
  exact lv_lload_n hx hb hd hi (lv_at hl j (xl_at hj)) (k ls H locs hl hL (List.forall_mem_cons.mpr ⟨xl_ok hL hj, hs⟩) hH)
theorem x_lload {Γ : xΓ} {own : String} {cc : ByteArray} {nL fr lo mc ms : Nat} (G : xG Γ own cc nL fr lo mc ms) {cells slots n pc : Nat} {T : xT} {L : List (Nat × xV)} {st : List xV} {M : xM} {i : Nat} {x : Int} (j : Nat) (hj : L[j]? = some (i, xL x)) (hd : decode cc pc = .ok (.lload i, 2)) (k : xX Γ cells slots n T (pc + 2) L (xL x :: st) M) : xX Γ cells slots n T pc L st M := by
  obtain ⟨D, p, l, e, R, s, m, args, below, meth, c, Q⟩ := Γ
  obtain ⟨hx, hb, hml, hown, hts, hE, hB, hR⟩ := G
  intro ls H locs hl hL hs hH
  exact lv_lload hx hb hd (lv_at hl j (xl_at hj)) (k ls H locs hl hL (List.forall_mem_cons.mpr ⟨xl_ok hL hj, hs⟩) hH)
theorem x_aload_n {Γ : xΓ} {own : String} {cc : ByteArray} {nL fr lo mc ms : Nat} (G : xG Γ own cc nL fr lo mc ms) {cells slots n pc : Nat} {T : xT} {L : List (Nat × xV)} {st : List xV} {M : xM} {q : Fin 4} {i : Nat} {x : Nat} (j : Nat) (hi : (q : Nat) = i) (hj : L[j]? = some (i, xR x)) (hd : decode cc pc = .ok (.aload_n q, 1)) (k : xX Γ cells slots n T (pc + 1) L (xR x :: st) M) : xX Γ cells slots n T pc L st M := by
  obtain ⟨D, p, l, e, R, s, m, args, below, meth, c, Q⟩ := Γ
  obtain ⟨hx, hb, hml, hown, hts, hE, hB, hR⟩ := G
  intro ls H locs hl hL hs hH
  exact lv_aload_n hx hb hd hi (lv_at hl j (xl_at hj)) (k ls H locs hl hL (List.forall_mem_cons.mpr ⟨xl_ok hL hj, hs⟩) hH)
theorem x_aload {Γ : xΓ} {own : String} {cc : ByteArray} {nL fr lo mc ms : Nat} (G : xG Γ own cc nL fr lo mc ms) {cells slots n pc : Nat} {T : xT} {L : List (Nat × xV)} {st : List xV} {M : xM} {i : Nat} {x : Nat} (j : Nat) (hj : L[j]? = some (i, xR x)) (hd : decode cc pc = .ok (.aload i, 2)) (k : xX Γ cells slots n T (pc + 2) L (xR x :: st) M) : xX Γ cells slots n T pc L st M := by
  obtain ⟨D, p, l, e, R, s, m, args, below, meth, c, Q⟩ := Γ
  obtain ⟨hx, hb, hml, hown, hts, hE, hB, hR⟩ := G
  intro ls H locs hl hL hs hH
  exact lv_aload hx hb hd (lv_at hl j (xl_at hj)) (k ls H locs hl hL (List.forall_mem_cons.mpr ⟨xl_ok hL hj, hs⟩) hH)
theorem xl_f1 {σ : Nat → Nat} {L : List (Nat × xV)} {i : Nat} : (L.map fun q => (q.1, xc σ q.2)).filter (fun q => !(q.1 == i) && !(q.1 + 1 == i && q.2.category == 2)) = (L.filter (fun q => !(q.1 == i) && !(q.1 + 1 == i && xcat q.2 == 2))).map fun q => (q.1, xc σ q.2) := by
  rw [List.filter_map]
  congr 1
  apply List.filter_congr
  intro q _
  simp [Function.comp, xcat_eq]
theorem xl_f2 {σ : Nat → Nat} {L : List (Nat × xV)} {i : Nat} : (L.map fun q => (q.1, xc σ q.2)).filter (fun q => !(q.1 == i) && (!(q.1 == i + 1) && !(q.1 + 1 == i && q.2.category == 2))) = (L.filter (fun q => !(q.1 == i) && (!(q.1 == i + 1) && !(q.1 + 1 == i && xcat q.2 == 2)))).map fun q => (q.1, xc σ q.2) := by
  rw [List.filter_map]
  congr 1
  apply List.filter_congr
  intro q _
  simp [Function.comp, xcat_eq]
theorem xl_fk {L : List (Nat × xV)} {f : Nat × xV → Bool} {i : Nat} {v : xV} (hL : ∀ q ∈ L, xk q.2) (hv : xk v) : ∀ q ∈ (i, v) :: L.filter f, xk q.2 :=
  List.forall_mem_cons.mpr ⟨hv, fun q hq => hL q (List.mem_filter.mp hq).1⟩
theorem x_istore_n {Γ : xΓ} {own : String} {cc : ByteArray} {nL fr lo mc ms : Nat} (G : xG Γ own cc nL fr lo mc ms) {cells slots n pc : Nat} {T : xT} {L : List (Nat × xV)} {st : List xV} {M : xM} {q : Fin 4} {i : Nat} {x : Int} (L' : List (Nat × xV)) (hi : (q : Nat) = i) (hn : i < nL) (hL' : (i, xI x) :: L.filter (fun q => !(q.1 == i) && !(q.1 + 1 == i && xcat q.2 == 2)) = L') (hd : decode cc pc = .ok (.istore_n q, 1)) (k : xX Γ cells slots n T (pc + 1) L' st M) : xX Γ cells slots n T pc L (xI x :: st) M := by
  obtain ⟨D, p, l, e, R, s, m, args, below, meth, c, Q⟩ := Γ
  obtain ⟨hx, hb, hml, hown, hts, hE, hB, hR⟩ := G
  subst hL'
  intro ls H locs hl hL hs hH
  obtain ⟨hv, hs⟩ := List.forall_mem_cons.mp hs
  exact lv_istore_n hx hb hd hi hl (by rw [hml]; exact hn) (congrArg (List.cons _) xl_f1) (fun ls' hl' => k ls' H locs hl' (xl_fk hL hv) hs hH)
theorem x_istore {Γ : xΓ} {own : String} {cc : ByteArray} {nL fr lo mc ms : Nat} (G : xG Γ own cc nL fr lo mc ms) {cells slots n pc : Nat} {T : xT} {L : List (Nat × xV)} {st : List xV} {M : xM} {i : Nat} {x : Int} (L' : List (Nat × xV)) (hn : i < nL) (hL' : (i, xI x) :: L.filter (fun q => !(q.1 == i) && !(q.1 + 1 == i && xcat q.2 == 2)) = L') (hd : decode cc pc = .ok (.istore i, 2)) (k : xX Γ cells slots n T (pc + 2) L' st M) : xX Γ cells slots n T pc L (xI x :: st) M := by
  obtain ⟨D, p, l, e, R, s, m, args, below, meth, c, Q⟩ := Γ
  obtain ⟨hx, hb, hml, hown, hts, hE, hB, hR⟩ := G
  subst hL'
  intro ls H locs hl hL hs hH
  obtain ⟨hv, hs⟩ := List.forall_mem_cons.mp hs
  exact lv_istore hx hb hd hl (by rw [hml]; exact hn) (congrArg (List.cons _) xl_f1) (fun ls' hl' => k ls' H locs hl' (xl_fk hL hv) hs hH)
theorem x_astore_n {Γ : xΓ} {own : String} {cc : ByteArray} {nL fr lo mc ms : Nat} (G : xG Γ own cc nL fr lo mc ms) {cells slots n pc : Nat} {T : xT} {L : List (Nat × xV)} {st : List xV} {M : xM} {q : Fin 4} {i : Nat} {x : Nat} (L' : List (Nat × xV)) (hi : (q : Nat) = i) (hn : i < nL) (hL' : (i, xR x) :: L.filter (fun q => !(q.1 == i) && !(q.1 + 1 == i && xcat q.2 == 2)) = L') (hd : decode cc pc = .ok (.astore_n q, 1)) (k : xX Γ cells slots n T (pc + 1) L' st M) : xX Γ cells slots n T pc L (xR x :: st) M := by
  obtain ⟨D, p, l, e, R, s, m, args, below, meth, c, Q⟩ := Γ
  obtain ⟨hx, hb, hml, hown, hts, hE, hB, hR⟩ := G
  subst hL'
  intro ls H locs hl hL hs hH
  obtain ⟨hv, hs⟩ := List.forall_mem_cons.mp hs
  exact lv_astore_n hx hb hd hi hl (by rw [hml]; exact hn) (congrArg (List.cons _) xl_f1) (fun ls' hl' => k ls' H locs hl' (xl_fk hL hv) hs hH)
theorem x_astore {Γ : xΓ} {own : String} {cc : ByteArray} {nL fr lo mc ms : Nat} (G : xG Γ own cc nL fr lo mc ms) {cells slots n pc : Nat} {T : xT} {L : List (Nat × xV)} {st : List xV} {M : xM} {i : Nat} {x : Nat} (L' : List (Nat × xV)) (hn : i < nL) (hL' : (i, xR x) :: L.filter (fun q => !(q.1 == i) && !(q.1 + 1 == i && xcat q.2 == 2)) = L') (hd : decode cc pc = .ok (.astore i, 2)) (k : xX Γ cells slots n T (pc + 2) L' st M) : xX Γ cells slots n T pc L (xR x :: st) M := by
  obtain ⟨D, p, l, e, R, s, m, args, below, meth, c, Q⟩ := Γ
  obtain ⟨hx, hb, hml, hown, hts, hE, hB, hR⟩ := G
  subst hL'
  intro ls H locs hl hL hs hH
  obtain ⟨hv, hs⟩ := List.forall_mem_cons.mp hs
  exact lv_astore hx hb hd hl (by rw [hml]; exact hn) (congrArg (List.cons _) xl_f1) (fun ls' hl' => k ls' H locs hl' (xl_fk hL hv) hs hH)
theorem x_lstore_n {Γ : xΓ} {own : String} {cc : ByteArray} {nL fr lo mc ms : Nat} (G : xG Γ own cc nL fr lo mc ms) {cells slots n pc : Nat} {T : xT} {L : List (Nat × xV)} {st : List xV} {M : xM} {q : Fin 4} {i : Nat} {x : Int} (L' : List (Nat × xV)) (hi : (q : Nat) = i) (hn : i + 1 < nL) (hL' : (i, xL x) :: L.filter (fun q => !(q.1 == i) && (!(q.1 == i + 1) && !(q.1 + 1 == i && xcat q.2 == 2))) = L') (hd : decode cc pc = .ok (.lstore_n q, 1)) (k : xX Γ cells slots n T (pc + 1) L' st M) : xX Γ cells slots n T pc L (xL x :: st) M := by
  obtain ⟨D, p, l, e, R, s, m, args, below, meth, c, Q⟩ := Γ
  obtain ⟨hx, hb, hml, hown, hts, hE, hB, hR⟩ := G
  subst hL'
  intro ls H locs hl hL hs hH
  obtain ⟨hv, hs⟩ := List.forall_mem_cons.mp hs
  exact lv_lstore_n hx hb hd hi hl (by rw [hml]; exact hn) (congrArg (List.cons _) xl_f2) (fun ls' hl' => k ls' H locs hl' (xl_fk hL hv) hs hH)
theorem x_lstore {Γ : xΓ} {own : String} {cc : ByteArray} {nL fr lo mc ms : Nat} (G : xG Γ own cc nL fr lo mc ms) {cells slots n pc : Nat} {T : xT} {L : List (Nat × xV)} {st : List xV} {M : xM} {i : Nat} {x : Int} (L' : List (Nat × xV)) (hn : i + 1 < nL) (hL' : (i, xL x) :: L.filter (fun q => !(q.1 == i) && (!(q.1 == i + 1) && !(q.1 + 1 == i && xcat q.2 == 2))) = L') (hd : decode cc pc = .ok (.lstore i, 2)) (k : xX Γ cells slots n T (pc + 2) L' st M) : xX Γ cells slots n T pc L (xL x :: st) M := by
  obtain ⟨D, p, l, e, R, s, m, args, below, meth, c, Q⟩ := Γ
  obtain ⟨hx, hb, hml, hown, hts, hE, hB, hR⟩ := G
  subst hL'
  intro ls H locs hl hL hs hH
  obtain ⟨hv, hs⟩ := List.forall_mem_cons.mp hs
  exact lv_lstore hx hb hd hl (by rw [hml]; exact hn) (congrArg (List.cons _) xl_f2) (fun ls' hl' => k ls' H locs hl' (xl_fk hL hv) hs hH)
theorem x_iinc {Γ : xΓ} {own : String} {cc : ByteArray} {nL fr lo mc ms : Nat} (G : xG Γ own cc nL fr lo mc ms) {cells slots n pc : Nat} {T : xT} {L : List (Nat × xV)} {st : List xV} {M : xM} {i : Nat} {x z : Int} (L' : List (Nat × xV)) (j : Nat) (hj : L[j]? = some (i, xI x)) (hn : i < nL) (ho : i32 (x + z)) (hL' : (i, xI (x + z)) :: L.filter (fun q => !(q.1 == i) && !(q.1 + 1 == i && xcat q.2 == 2)) = L') (hd : decode cc pc = .ok (.iinc i z, 3)) (k : xX Γ cells slots n T (pc + 3) L' st M) : xX Γ cells slots n T pc L st M := by
  obtain ⟨D, p, l, e, R, s, m, args, below, meth, c, Q⟩ := Γ
  obtain ⟨hx, hb, hml, hown, hts, hE, hB, hR⟩ := G
  subst hL'
  intro ls H locs hl hL hs hH
  exact lv_iinc (v := Int32.ofInt (x + z)) hx hb hd hl (xl_at hj) (Int32.ofInt_add x z).symm (by rw [hml]; exact hn) (congrArg (List.cons _) xl_f1) (fun ls' hl' => k ls' H locs hl' (xl_fk hL ho) hs hH)
theorem x_iincW {Γ : xΓ} {own : String} {cc : ByteArray} {nL fr lo mc ms : Nat} (G : xG Γ own cc nL fr lo mc ms) {cells slots n pc : Nat} {T : xT} {L : List (Nat × xV)} {st : List xV} {M : xM} {i : Nat} {x z : Int} (L' : List (Nat × xV)) (j : Nat) (hj : L[j]? = some (i, xI x)) (hn : i < nL) (ho : i32 (x + z)) (hL' : (i, xI (x + z)) :: L.filter (fun q => !(q.1 == i) && !(q.1 + 1 == i && xcat q.2 == 2)) = L') (hd : decode cc pc = .ok (.iinc i z, 6)) (k : xX Γ cells slots n T (pc + 6) L' st M) : xX Γ cells slots n T pc L st M := by
  obtain ⟨D, p, l, e, R, s, m, args, below, meth, c, Q⟩ := Γ
  obtain ⟨hx, hb, hml, hown, hts, hE, hB, hR⟩ := G
  subst hL'
  intro ls H locs hl hL hs hH
  exact lv_iincW (v := Int32.ofInt (x + z)) hx hb hd hl (xl_at hj) (Int32.ofInt_add x z).symm (by rw [hml]; exact hn) (congrArg (List.cons _) xl_f1) (fun ls' hl' => k ls' H locs hl' (xl_fk hL ho) hs hH)
theorem x_iadd {Γ : xΓ} {own : String} {cc : ByteArray} {nL fr lo mc ms : Nat} (G : xG Γ own cc nL fr lo mc ms) {cells slots n pc : Nat} {T : xT} {L : List (Nat × xV)} {st : List xV} {M : xM} {x y : Int} (ho : i32 (x + y)) (hd : decode cc pc = .ok (.iadd, 1)) (k : xX Γ cells slots n T (pc + 1) L (xI (x + y) :: st) M) : xX Γ cells slots n T pc L (xI y :: xI x :: st) M := by
  obtain ⟨D, p, l, e, R, s, m, args, below, meth, c, Q⟩ := Γ
  obtain ⟨hx, hb, hml, hown, hts, hE, hB, hR⟩ := G
  intro ls H locs hl hL hs hH
  obtain ⟨hy, hs⟩ := List.forall_mem_cons.mp hs
  obtain ⟨hxx, hs⟩ := List.forall_mem_cons.mp hs
  refine lv_iadd hx hb hd ?_
  have h9 := k ls H locs hl hL (List.forall_mem_cons.mpr ⟨ho, hs⟩) hH
  rw [List.map_cons] at h9
  rw [← Int32.ofInt_add]
  exact h9
theorem x_isub {Γ : xΓ} {own : String} {cc : ByteArray} {nL fr lo mc ms : Nat} (G : xG Γ own cc nL fr lo mc ms) {cells slots n pc : Nat} {T : xT} {L : List (Nat × xV)} {st : List xV} {M : xM} {x y : Int} (ho : i32 (x - y)) (hd : decode cc pc = .ok (.isub, 1)) (k : xX Γ cells slots n T (pc + 1) L (xI (x - y) :: st) M) : xX Γ cells slots n T pc L (xI y :: xI x :: st) M := by
  obtain ⟨D, p, l, e, R, s, m, args, below, meth, c, Q⟩ := Γ
  obtain ⟨hx, hb, hml, hown, hts, hE, hB, hR⟩ := G
  intro ls H locs hl hL hs hH
  obtain ⟨hy, hs⟩ := List.forall_mem_cons.mp hs
  obtain ⟨hxx, hs⟩ := List.forall_mem_cons.mp hs
  refine lv_isub hx hb hd ?_
  have h9 := k ls H locs hl hL (List.forall_mem_cons.mpr ⟨ho, hs⟩) hH
  rw [List.map_cons] at h9
  rw [← Int32.ofInt_sub]
  exact h9
theorem x_imul {Γ : xΓ} {own : String} {cc : ByteArray} {nL fr lo mc ms : Nat} (G : xG Γ own cc nL fr lo mc ms) {cells slots n pc : Nat} {T : xT} {L : List (Nat × xV)} {st : List xV} {M : xM} {x y : Int} (ho : i32 (x * y)) (hd : decode cc pc = .ok (.imul, 1)) (k : xX Γ cells slots n T (pc + 1) L (xI (x * y) :: st) M) : xX Γ cells slots n T pc L (xI y :: xI x :: st) M := by
  obtain ⟨D, p, l, e, R, s, m, args, below, meth, c, Q⟩ := Γ
  obtain ⟨hx, hb, hml, hown, hts, hE, hB, hR⟩ := G
  intro ls H locs hl hL hs hH
  obtain ⟨hy, hs⟩ := List.forall_mem_cons.mp hs
  obtain ⟨hxx, hs⟩ := List.forall_mem_cons.mp hs
  refine lv_imul hx hb hd ?_
  have h9 := k ls H locs hl hL (List.forall_mem_cons.mpr ⟨ho, hs⟩) hH
  rw [List.map_cons] at h9
  rw [← Int32.ofInt_mul]
  exact h9
theorem x_ladd {Γ : xΓ} {own : String} {cc : ByteArray} {nL fr lo mc ms : Nat} (G : xG Γ own cc nL fr lo mc ms) {cells slots n pc : Nat} {T : xT} {L : List (Nat × xV)} {st : List xV} {M : xM} {x y : Int} (ho : i64 (x + y)) (hd : decode cc pc = .ok (.ladd, 1)) (k : xX Γ cells slots n T (pc + 1) L (xL (x + y) :: st) M) : xX Γ cells slots n T pc L (xL y :: xL x :: st) M := by
  obtain ⟨D, p, l, e, R, s, m, args, below, meth, c, Q⟩ := Γ
  obtain ⟨hx, hb, hml, hown, hts, hE, hB, hR⟩ := G
  intro ls H locs hl hL hs hH
  obtain ⟨hy, hs⟩ := List.forall_mem_cons.mp hs
  obtain ⟨hxx, hs⟩ := List.forall_mem_cons.mp hs
  refine lv_ladd hx hb hd ?_
  have h9 := k ls H locs hl hL (List.forall_mem_cons.mpr ⟨ho, hs⟩) hH
  rw [List.map_cons] at h9
  rw [← Int64.ofInt_add]
  exact h9
theorem x_lsub {Γ : xΓ} {own : String} {cc : ByteArray} {nL fr lo mc ms : Nat} (G : xG Γ own cc nL fr lo mc ms) {cells slots n pc : Nat} {T : xT} {L : List (Nat × xV)} {st : List xV} {M : xM} {x y : Int} (ho : i64 (x - y)) (hd : decode cc pc = .ok (.lsub, 1)) (k : xX Γ cells slots n T (pc + 1) L (xL (x - y) :: st) M) : xX Γ cells slots n T pc L (xL y :: xL x :: st) M := by
  obtain ⟨D, p, l, e, R, s, m, args, below, meth, c, Q⟩ := Γ
  obtain ⟨hx, hb, hml, hown, hts, hE, hB, hR⟩ := G
  intro ls H locs hl hL hs hH
  obtain ⟨hy, hs⟩ := List.forall_mem_cons.mp hs
  obtain ⟨hxx, hs⟩ := List.forall_mem_cons.mp hs
  refine lv_lsub hx hb hd ?_
  have h9 := k ls H locs hl hL (List.forall_mem_cons.mpr ⟨ho, hs⟩) hH
  rw [List.map_cons] at h9
  rw [← Int64.ofInt_sub]
  exact h9
theorem x_lmul {Γ : xΓ} {own : String} {cc : ByteArray} {nL fr lo mc ms : Nat} (G : xG Γ own cc nL fr lo mc ms) {cells slots n pc : Nat} {T : xT} {L : List (Nat × xV)} {st : List xV} {M : xM} {x y : Int} (ho : i64 (x * y)) (hd : decode cc pc = .ok (.lmul, 1)) (k : xX Γ cells slots n T (pc + 1) L (xL (x * y) :: st) M) : xX Γ cells slots n T pc L (xL y :: xL x :: st) M := by
  obtain ⟨D, p, l, e, R, s, m, args, below, meth, c, Q⟩ := Γ
  obtain ⟨hx, hb, hml, hown, hts, hE, hB, hR⟩ := G
  intro ls H locs hl hL hs hH
  obtain ⟨hy, hs⟩ := List.forall_mem_cons.mp hs
  obtain ⟨hxx, hs⟩ := List.forall_mem_cons.mp hs
  refine lv_lmul hx hb hd ?_
  have h9 := k ls H locs hl hL (List.forall_mem_cons.mpr ⟨ho, hs⟩) hH
  rw [List.map_cons] at h9
  rw [← Int64.ofInt_mul]
  exact h9
theorem x_bm64 (z : Int) : Int64.ofInt (Int.bmod z 18446744073709551616) = Int64.ofInt z := by
  apply Int64.toInt_inj.mp
  rw [Int64.toInt_ofInt, Int64.toInt_ofInt]
  exact Int.bmod_bmod
theorem x_bm64r (z : Int) : i64 (Int.bmod z 18446744073709551616) := by
  have h1 := Int.le_bmod (x := z) (m := 18446744073709551616) (by decide)
  have h2 := Int.bmod_lt (x := z) (m := 18446744073709551616) (by decide)
  constructor <;> omega
theorem x_laddW {Γ : xΓ} {own : String} {cc : ByteArray} {nL fr lo mc ms : Nat} (G : xG Γ own cc nL fr lo mc ms) {cells slots n pc : Nat} {T : xT} {L : List (Nat × xV)} {st : List xV} {M : xM} {x y : Int} (hd : decode cc pc = .ok (.ladd, 1)) (k : xX Γ cells slots n T (pc + 1) L (xL (Int.bmod (x + y) 18446744073709551616) :: st) M) : xX Γ cells slots n T pc L (xL y :: xL x :: st) M := by
  obtain ⟨D, p, l, e, R, s, m, args, below, meth, c, Q⟩ := Γ
  obtain ⟨hx, hb, hml, hown, hts, hE, hB, hR⟩ := G
  intro ls H locs hl hL hs hH
  obtain ⟨hy, hs⟩ := List.forall_mem_cons.mp hs
  obtain ⟨hxx, hs⟩ := List.forall_mem_cons.mp hs
  refine lv_ladd hx hb hd ?_
  have h9 := k ls H locs hl hL (List.forall_mem_cons.mpr ⟨x_bm64r _, hs⟩) hH
  rw [List.map_cons] at h9
  rw [← Int64.ofInt_add, ← x_bm64]
  exact h9
theorem x_lmulW {Γ : xΓ} {own : String} {cc : ByteArray} {nL fr lo mc ms : Nat} (G : xG Γ own cc nL fr lo mc ms) {cells slots n pc : Nat} {T : xT} {L : List (Nat × xV)} {st : List xV} {M : xM} {x y : Int} (hd : decode cc pc = .ok (.lmul, 1)) (k : xX Γ cells slots n T (pc + 1) L (xL (Int.bmod (x * y) 18446744073709551616) :: st) M) : xX Γ cells slots n T pc L (xL y :: xL x :: st) M := by
  obtain ⟨D, p, l, e, R, s, m, args, below, meth, c, Q⟩ := Γ
  obtain ⟨hx, hb, hml, hown, hts, hE, hB, hR⟩ := G
  intro ls H locs hl hL hs hH
  obtain ⟨hy, hs⟩ := List.forall_mem_cons.mp hs
  obtain ⟨hxx, hs⟩ := List.forall_mem_cons.mp hs
  refine lv_lmul hx hb hd ?_
  have h9 := k ls H locs hl hL (List.forall_mem_cons.mpr ⟨x_bm64r _, hs⟩) hH
  rw [List.map_cons] at h9
  rw [← Int64.ofInt_mul, ← x_bm64]
  exact h9
theorem x_idiv {Γ : xΓ} {own : String} {cc : ByteArray} {nL fr lo mc ms : Nat} (G : xG Γ own cc nL fr lo mc ms) {cells slots n pc : Nat} {T : xT} {L : List (Nat × xV)} {st : List xV} {M : xM} {x y : Int} (z : Int) (h0 : ¬ Int32.ofInt y = 0) (he : Int32.ofInt x / Int32.ofInt y = Int32.ofInt z) (ho : i32 z) (hd : decode cc pc = .ok (.idiv, 1)) (k : xX Γ cells slots n T (pc + 1) L (xI z :: st) M) : xX Γ cells slots n T pc L (xI y :: xI x :: st) M := by
  obtain ⟨D, p, l, e, R, s, m, args, below, meth, c, Q⟩ := Γ
  obtain ⟨hx, hb, hml, hown, hts, hE, hB, hR⟩ := G
  intro ls H locs hl hL hs hH
  obtain ⟨hy, hs⟩ := List.forall_mem_cons.mp hs
  obtain ⟨hxx, hs⟩ := List.forall_mem_cons.mp hs
  refine lv_idiv hx hb hd h0 ?_
  have h9 := k ls H locs hl hL (List.forall_mem_cons.mpr ⟨ho, hs⟩) hH
  rw [List.map_cons] at h9
  rw [he]
  exact h9
theorem x_irem {Γ : xΓ} {own : String} {cc : ByteArray} {nL fr lo mc ms : Nat} (G : xG Γ own cc nL fr lo mc ms) {cells slots n pc : Nat} {T : xT} {L : List (Nat × xV)} {st : List xV} {M : xM} {x y : Int} (z : Int) (h0 : ¬ Int32.ofInt y = 0) (he : Int32.ofInt x - Int32.ofInt x / Int32.ofInt y * Int32.ofInt y = Int32.ofInt z) (ho : i32 z) (hd : decode cc pc = .ok (.irem, 1)) (k : xX Γ cells slots n T (pc + 1) L (xI z :: st) M) : xX Γ cells slots n T pc L (xI y :: xI x :: st) M := by
  obtain ⟨D, p, l, e, R, s, m, args, below, meth, c, Q⟩ := Γ
  obtain ⟨hx, hb, hml, hown, hts, hE, hB, hR⟩ := G
  intro ls H locs hl hL hs hH
  obtain ⟨hy, hs⟩ := List.forall_mem_cons.mp hs
  obtain ⟨hxx, hs⟩ := List.forall_mem_cons.mp hs
  refine lv_irem hx hb hd h0 ?_
  have h9 := k ls H locs hl hL (List.forall_mem_cons.mpr ⟨ho, hs⟩) hH
  rw [List.map_cons] at h9
  rw [he]
  exact h9
theorem x_iand {Γ : xΓ} {own : String} {cc : ByteArray} {nL fr lo mc ms : Nat} (G : xG Γ own cc nL fr lo mc ms) {cells slots n pc : Nat} {T : xT} {L : List (Nat × xV)} {st : List xV} {M : xM} {x y : Int} (z : Int) (he : Int32.ofInt x &&& Int32.ofInt y = Int32.ofInt z) (ho : i32 z) (hd : decode cc pc = .ok (.iand, 1)) (k : xX Γ cells slots n T (pc + 1) L (xI z :: st) M) : xX Γ cells slots n T pc L (xI y :: xI x :: st) M := by
  obtain ⟨D, p, l, e, R, s, m, args, below, meth, c, Q⟩ := Γ
  obtain ⟨hx, hb, hml, hown, hts, hE, hB, hR⟩ := G
  intro ls H locs hl hL hs hH
  obtain ⟨hy, hs⟩ := List.forall_mem_cons.mp hs
  obtain ⟨hxx, hs⟩ := List.forall_mem_cons.mp hs
  refine lv_iand hx hb hd ?_
  have h9 := k ls H locs hl hL (List.forall_mem_cons.mpr ⟨ho, hs⟩) hH
  rw [List.map_cons] at h9
  rw [he]
  exact h9
theorem x_ior {Γ : xΓ} {own : String} {cc : ByteArray} {nL fr lo mc ms : Nat} (G : xG Γ own cc nL fr lo mc ms) {cells slots n pc : Nat} {T : xT} {L : List (Nat × xV)} {st : List xV} {M : xM} {x y : Int} (z : Int) (he : Int32.ofInt x ||| Int32.ofInt y = Int32.ofInt z) (ho : i32 z) (hd : decode cc pc = .ok (.ior, 1)) (k : xX Γ cells slots n T (pc + 1) L (xI z :: st) M) : xX Γ cells slots n T pc L (xI y :: xI x :: st) M := by
  obtain ⟨D, p, l, e, R, s, m, args, below, meth, c, Q⟩ := Γ
  obtain ⟨hx, hb, hml, hown, hts, hE, hB, hR⟩ := G
  intro ls H locs hl hL hs hH
  obtain ⟨hy, hs⟩ := List.forall_mem_cons.mp hs
  obtain ⟨hxx, hs⟩ := List.forall_mem_cons.mp hs
  refine lv_ior hx hb hd ?_
  have h9 := k ls H locs hl hL (List.forall_mem_cons.mpr ⟨ho, hs⟩) hH
  rw [List.map_cons] at h9
  rw [he]
  exact h9
theorem x_ishl {Γ : xΓ} {own : String} {cc : ByteArray} {nL fr lo mc ms : Nat} (G : xG Γ own cc nL fr lo mc ms) {cells slots n pc : Nat} {T : xT} {L : List (Nat × xV)} {st : List xV} {M : xM} {x y : Int} (z : Int) (he : Int32.ofInt x <<< (Int32.ofInt y &&& 31) = Int32.ofInt z) (ho : i32 z) (hd : decode cc pc = .ok (.ishl, 1)) (k : xX Γ cells slots n T (pc + 1) L (xI z :: st) M) : xX Γ cells slots n T pc L (xI y :: xI x :: st) M := by
  obtain ⟨D, p, l, e, R, s, m, args, below, meth, c, Q⟩ := Γ
  obtain ⟨hx, hb, hml, hown, hts, hE, hB, hR⟩ := G
  intro ls H locs hl hL hs hH
  obtain ⟨hy, hs⟩ := List.forall_mem_cons.mp hs
  obtain ⟨hxx, hs⟩ := List.forall_mem_cons.mp hs
  refine lv_ishl hx hb hd ?_
  have h9 := k ls H locs hl hL (List.forall_mem_cons.mpr ⟨ho, hs⟩) hH
  rw [List.map_cons] at h9
  rw [he]
  exact h9
theorem x_ishr {Γ : xΓ} {own : String} {cc : ByteArray} {nL fr lo mc ms : Nat} (G : xG Γ own cc nL fr lo mc ms) {cells slots n pc : Nat} {T : xT} {L : List (Nat × xV)} {st : List xV} {M : xM} {x y : Int} (z : Int) (he : Int32.ofInt x >>> (Int32.ofInt y &&& 31) = Int32.ofInt z) (ho : i32 z) (hd : decode cc pc = .ok (.ishr, 1)) (k : xX Γ cells slots n T (pc + 1) L (xI z :: st) M) : xX Γ cells slots n T pc L (xI y :: xI x :: st) M := by
  obtain ⟨D, p, l, e, R, s, m, args, below, meth, c, Q⟩ := Γ
  obtain ⟨hx, hb, hml, hown, hts, hE, hB, hR⟩ := G
  intro ls H locs hl hL hs hH
  obtain ⟨hy, hs⟩ := List.forall_mem_cons.mp hs
  obtain ⟨hxx, hs⟩ := List.forall_mem_cons.mp hs
  refine lv_ishr hx hb hd ?_
  have h9 := k ls H locs hl hL (List.forall_mem_cons.mpr ⟨ho, hs⟩) hH
  rw [List.map_cons] at h9
  rw [he]
  exact h9
theorem x_land {Γ : xΓ} {own : String} {cc : ByteArray} {nL fr lo mc ms : Nat} (G : xG Γ own cc nL fr lo mc ms) {cells slots n pc : Nat} {T : xT} {L : List (Nat × xV)} {st : List xV} {M : xM} {x y : Int} (z : Int) (he : Int64.ofInt x &&& Int64.ofInt y = Int64.ofInt z) (ho : i64 z) (hd : decode cc pc = .ok (.land, 1)) (k : xX Γ cells slots n T (pc + 1) L (xL z :: st) M) : xX Γ cells slots n T pc L (xL y :: xL x :: st) M := by
  obtain ⟨D, p, l, e, R, s, m, args, below, meth, c, Q⟩ := Γ
  obtain ⟨hx, hb, hml, hown, hts, hE, hB, hR⟩ := G
  intro ls H locs hl hL hs hH
  obtain ⟨hy, hs⟩ := List.forall_mem_cons.mp hs
  obtain ⟨hxx, hs⟩ := List.forall_mem_cons.mp hs
  refine lv_land hx hb hd ?_
  have h9 := k ls H locs hl hL (List.forall_mem_cons.mpr ⟨ho, hs⟩) hH
  rw [List.map_cons] at h9
  rw [he]
  exact h9
theorem x_lrem {Γ : xΓ} {own : String} {cc : ByteArray} {nL fr lo mc ms : Nat} (G : xG Γ own cc nL fr lo mc ms) {cells slots n pc : Nat} {T : xT} {L : List (Nat × xV)} {st : List xV} {M : xM} {x y : Int} (z : Int) (h0 : ¬ Int64.ofInt y = 0) (he : Int64.ofInt x - Int64.ofInt x / Int64.ofInt y * Int64.ofInt y = Int64.ofInt z) (ho : i64 z) (hd : decode cc pc = .ok (.lrem, 1)) (k : xX Γ cells slots n T (pc + 1) L (xL z :: st) M) : xX Γ cells slots n T pc L (xL y :: xL x :: st) M := by
  obtain ⟨D, p, l, e, R, s, m, args, below, meth, c, Q⟩ := Γ
  obtain ⟨hx, hb, hml, hown, hts, hE, hB, hR⟩ := G
  intro ls H locs hl hL hs hH
  obtain ⟨hy, hs⟩ := List.forall_mem_cons.mp hs
  obtain ⟨hxx, hs⟩ := List.forall_mem_cons.mp hs
  refine lv_lrem hx hb hd h0 ?_
  have h9 := k ls H locs hl hL (List.forall_mem_cons.mpr ⟨ho, hs⟩) hH
  rw [List.map_cons] at h9
  rw [he]
  exact h9
theorem x_lshr {Γ : xΓ} {own : String} {cc : ByteArray} {nL fr lo mc ms : Nat} (G : xG Γ own cc nL fr lo mc ms) {cells slots n pc : Nat} {T : xT} {L : List (Nat × xV)} {st : List xV} {M : xM} {x y : Int} (z : Int) (he : Int64.ofInt x >>> ((Int32.ofInt y).toInt64 &&& 63) = Int64.ofInt z) (ho : i64 z) (hd : decode cc pc = .ok (.lshr, 1)) (k : xX Γ cells slots n T (pc + 1) L (xL z :: st) M) : xX Γ cells slots n T pc L (xI y :: xL x :: st) M := by
  obtain ⟨D, p, l, e, R, s, m, args, below, meth, c, Q⟩ := Γ
  obtain ⟨hx, hb, hml, hown, hts, hE, hB, hR⟩ := G
  intro ls H locs hl hL hs hH
  obtain ⟨hy, hs⟩ := List.forall_mem_cons.mp hs
  obtain ⟨hxx, hs⟩ := List.forall_mem_cons.mp hs
  exact lv_lshr hx hb hd he (k ls H locs hl hL (List.forall_mem_cons.mpr ⟨ho, hs⟩) hH)
theorem x_ineg {Γ : xΓ} {own : String} {cc : ByteArray} {nL fr lo mc ms : Nat} (G : xG Γ own cc nL fr lo mc ms) {cells slots n pc : Nat} {T : xT} {L : List (Nat × xV)} {st : List xV} {M : xM} {x : Int} (ho : i32 (-x)) (hd : decode cc pc = .ok (.ineg, 1)) (k : xX Γ cells slots n T (pc + 1) L (xI (-x) :: st) M) : xX Γ cells slots n T pc L (xI x :: st) M := by
  obtain ⟨D, p, l, e, R, s, m, args, below, meth, c, Q⟩ := Γ
  obtain ⟨hx, hb, hml, hown, hts, hE, hB, hR⟩ := G
  intro ls H locs hl hL hs hH
  obtain ⟨hxx, hs⟩ := List.forall_mem_cons.mp hs
  refine lv_ineg hx hb hd ?_
  have h9 := k ls H locs hl hL (List.forall_mem_cons.mpr ⟨ho, hs⟩) hH
  rw [List.map_cons] at h9
  first | (rw [← Int32.ofInt_neg]; exact h9) | (rw [show (0 : Int32) - Int32.ofInt x = Int32.ofInt (-x) by rw [Int32.ofInt_neg]; simp]; exact h9)
theorem x_i2lE {x : Int} (h : i32 x) : (Int32.ofInt x).toInt64 = Int64.ofInt x := by
  apply Int64.toInt_inj.mp
  rw [Int32.toInt_toInt64, x_toInt h, x_toInt64 (by omega)]
theorem x_i2l {Γ : xΓ} {own : String} {cc : ByteArray} {nL fr lo mc ms : Nat} (G : xG Γ own cc nL fr lo mc ms) {cells slots n pc : Nat} {T : xT} {L : List (Nat × xV)} {st : List xV} {M : xM} {x : Int} (hd : decode cc pc = .ok (.i2l, 1)) (k : xX Γ cells slots n T (pc + 1) L (xL x :: st) M) : xX Γ cells slots n T pc L (xI x :: st) M := by
  obtain ⟨D, p, l, e, R, s, m, args, below, meth, c, Q⟩ := Γ
  obtain ⟨hx, hb, hml, hown, hts, hE, hB, hR⟩ := G
  intro ls H locs hl hL hs hH
  obtain ⟨hxx, hs⟩ := List.forall_mem_cons.mp hs
  have h1 : i32 x := hxx
  exact lv_i2l hx hb hd (x_i2lE h1) (k ls H locs hl hL (List.forall_mem_cons.mpr ⟨by show i64 x; omega, hs⟩) hH)
theorem x_l2iE {x : Int} (h : i32 x) : (Int64.ofInt x).toInt32 = Int32.ofInt x := by
  rw [← x_i2lE h]
  simp
theorem x_l2i {Γ : xΓ} {own : String} {cc : ByteArray} {nL fr lo mc ms : Nat} (G : xG Γ own cc nL fr lo mc ms) {cells slots n pc : Nat} {T : xT} {L : List (Nat × xV)} {st : List xV} {M : xM} {x : Int} (ho : i32 x) (hd : decode cc pc = .ok (.l2i, 1)) (k : xX Γ cells slots n T (pc + 1) L (xI x :: st) M) : xX Γ cells slots n T pc L (xL x :: st) M := by
  obtain ⟨D, p, l, e, R, s, m, args, below, meth, c, Q⟩ := Γ
  obtain ⟨hx, hb, hml, hown, hts, hE, hB, hR⟩ := G
  intro ls H locs hl hL hs hH
  obtain ⟨hxx, hs⟩ := List.forall_mem_cons.mp hs
  exact lv_l2i hx hb hd (x_l2iE ho) (k ls H locs hl hL (List.forall_mem_cons.mpr ⟨ho, hs⟩) hH)
theorem x_i2b {Γ : xΓ} {own : String} {cc : ByteArray} {nL fr lo mc ms : Nat} (G : xG Γ own cc nL fr lo mc ms) {cells slots n pc : Nat} {T : xT} {L : List (Nat × xV)} {st : List xV} {M : xM} {x : Int} (z : Int) (he : (Int32.ofInt x).toInt8.toInt32 = Int32.ofInt z) (ho : i32 z) (hd : decode cc pc = .ok (.i2b, 1)) (k : xX Γ cells slots n T (pc + 1) L (xI z :: st) M) : xX Γ cells slots n T pc L (xI x :: st) M := by
  obtain ⟨D, p, l, e, R, s, m, args, below, meth, c, Q⟩ := Γ
  obtain ⟨hx, hb, hml, hown, hts, hE, hB, hR⟩ := G
  intro ls H locs hl hL hs hH
  obtain ⟨hxx, hs⟩ := List.forall_mem_cons.mp hs
  exact lv_i2b hx hb hd he (k ls H locs hl hL (List.forall_mem_cons.mpr ⟨ho, hs⟩) hH)
theorem x_i2c {Γ : xΓ} {own : String} {cc : ByteArray} {nL fr lo mc ms : Nat} (G : xG Γ own cc nL fr lo mc ms) {cells slots n pc : Nat} {T : xT} {L : List (Nat × xV)} {st : List xV} {M : xM} {x : Int} (z : Int) (he : ((Int32.ofInt x).toUInt32 % 65536).toInt32 = Int32.ofInt z) (ho : i32 z) (hd : decode cc pc = .ok (.i2c, 1)) (k : xX Γ cells slots n T (pc + 1) L (xI z :: st) M) : xX Γ cells slots n T pc L (xI x :: st) M := by
  obtain ⟨D, p, l, e, R, s, m, args, below, meth, c, Q⟩ := Γ
  obtain ⟨hx, hb, hml, hown, hts, hE, hB, hR⟩ := G
  intro ls H locs hl hL hs hH
  obtain ⟨hxx, hs⟩ := List.forall_mem_cons.mp hs
  exact lv_i2c hx hb hd he (k ls H locs hl hL (List.forall_mem_cons.mpr ⟨ho, hs⟩) hH)
theorem x_dup {Γ : xΓ} {own : String} {cc : ByteArray} {nL fr lo mc ms : Nat} (G : xG Γ own cc nL fr lo mc ms) {cells slots n pc : Nat} {T : xT} {L : List (Nat × xV)} {st : List xV} {M : xM} {v : xV} (hv : xcat v = 1) (hd : decode cc pc = .ok (.dup, 1)) (k : xX Γ cells slots n T (pc + 1) L (v :: v :: st) M) : xX Γ cells slots n T pc L (v :: st) M := by
  obtain ⟨D, p, l, e, R, s, m, args, below, meth, c, Q⟩ := Γ
  obtain ⟨hx, hb, hml, hown, hts, hE, hB, hR⟩ := G
  intro ls H locs hl hL hs hH
  exact lv_dup hx hb hd ((xcat_eq _ _).trans hv) (k ls H locs hl hL (List.forall_mem_cons.mpr ⟨(List.forall_mem_cons.mp hs).1, hs⟩) hH)
theorem x_pop {Γ : xΓ} {own : String} {cc : ByteArray} {nL fr lo mc ms : Nat} (G : xG Γ own cc nL fr lo mc ms) {cells slots n pc : Nat} {T : xT} {L : List (Nat × xV)} {st : List xV} {M : xM} {v : xV} (hv : xcat v = 1) (hd : decode cc pc = .ok (.pop, 1)) (k : xX Γ cells slots n T (pc + 1) L st M) : xX Γ cells slots n T pc L (v :: st) M := by
  obtain ⟨D, p, l, e, R, s, m, args, below, meth, c, Q⟩ := Γ
  obtain ⟨hx, hb, hml, hown, hts, hE, hB, hR⟩ := G
  intro ls H locs hl hL hs hH
  exact lv_pop hx hb hd ((xcat_eq _ _).trans hv) (k ls H locs hl hL (List.forall_mem_cons.mp hs).2 hH)
theorem x_dup2 {Γ : xΓ} {own : String} {cc : ByteArray} {nL fr lo mc ms : Nat} (G : xG Γ own cc nL fr lo mc ms) {cells slots n pc : Nat} {T : xT} {L : List (Nat × xV)} {st : List xV} {M : xM} {v w : xV} (hv : xcat v = 1) (hw : xcat w = 1) (hd : decode cc pc = .ok (.dup2, 1)) (k : xX Γ cells slots n T (pc + 1) L (v :: w :: v :: w :: st) M) : xX Γ cells slots n T pc L (v :: w :: st) M := by
  obtain ⟨D, p, l, e, R, s, m, args, below, meth, c, Q⟩ := Γ
  obtain ⟨hx, hb, hml, hown, hts, hE, hB, hR⟩ := G
  intro ls H locs hl hL hs hH
  have h1 := List.forall_mem_cons.mp hs
  have h2 := List.forall_mem_cons.mp h1.2
  exact lv_dup2_11 hx hb hd ((xcat_eq _ _).trans hv) ((xcat_eq _ _).trans hw) (k ls H locs hl hL (List.forall_mem_cons.mpr ⟨h1.1, List.forall_mem_cons.mpr ⟨h2.1, hs⟩⟩) hH)
theorem x_if_eq {Γ : xΓ} {own : String} {cc : ByteArray} {nL fr lo mc ms : Nat} (G : xG Γ own cc nL fr lo mc ms) {cells slots n pc : Nat} {T : xT} {L : List (Nat × xV)} {st : List xV} {M : xM} {x : Int} {off : Int} (tgt : Nat) (ht : (pc : Int) + off = (tgt : Int)) (hd : decode cc pc = .ok (.ifCond .eq off, 3)) (kt : x = 0 → xX Γ cells slots n T tgt L st M) (kf : ¬ x = 0 → xX Γ cells slots n T (pc + 3) L st M) : xX Γ cells slots n T pc L (xI x :: st) M := by
  obtain ⟨D, p, l, e, R, s, m, args, below, meth, c, Q⟩ := Γ
  obtain ⟨hx, hb, hml, hown, hts, hE, hB, hR⟩ := G
  intro ls H locs hl hL hs hH
  obtain ⟨hxx, hs⟩ := List.forall_mem_cons.mp hs
  have hyy : i32 0 := by decide
  have e1 := x_eq hxx hyy
  have e2 := x_lt hxx hyy
  have e3 := x_lt hyy hxx
  have e4 := x_le hxx hyy
  have e5 := x_le hyy hxx
  have e0 : Int32.ofInt 0 = 0 := rfl
  rw [e0] at e1 e2 e3 e4 e5
  refine lv_if_eq (tgt := tgt) hx hb hd ht (fun h => kt ?_ ls H locs hl hL hs hH) (fun h => kf ?_ ls H locs hl hL hs hH)
  · first | exact e1.mp h | exact fun q => h (e1.mpr q) | exact e2.mp h | exact e3.mp h | exact e4.mp h | exact e5.mp h
  · first | exact fun q => h (e1.mpr q) | exact e1.mp (Classical.not_not.mp h) | exact e1.mp h | exact Int.not_lt.mp fun q => h (e2.mpr q) | exact Int.not_lt.mp fun q => h (e3.mpr q) | exact Int.not_le.mp fun q => h (e4.mpr q) | exact Int.not_le.mp fun q => h (e5.mpr q)
theorem x_if_ne {Γ : xΓ} {own : String} {cc : ByteArray} {nL fr lo mc ms : Nat} (G : xG Γ own cc nL fr lo mc ms) {cells slots n pc : Nat} {T : xT} {L : List (Nat × xV)} {st : List xV} {M : xM} {x : Int} {off : Int} (tgt : Nat) (ht : (pc : Int) + off = (tgt : Int)) (hd : decode cc pc = .ok (.ifCond .ne off, 3)) (kt : ¬ x = 0 → xX Γ cells slots n T tgt L st M) (kf : x = 0 → xX Γ cells slots n T (pc + 3) L st M) : xX Γ cells slots n T pc L (xI x :: st) M := by
  obtain ⟨D, p, l, e, R, s, m, args, below, meth, c, Q⟩ := Γ
  obtain ⟨hx, hb, hml, hown, hts, hE, hB, hR⟩ := G
  intro ls H locs hl hL hs hH
  obtain ⟨hxx, hs⟩ := List.forall_mem_cons.mp hs
  have hyy : i32 0 := by decide
  have e1 := x_eq hxx hyy
  have e2 := x_lt hxx hyy
  have e3 := x_lt hyy hxx
  have e4 := x_le hxx hyy
  have e5 := x_le hyy hxx
  have e0 : Int32.ofInt 0 = 0 := rfl
  rw [e0] at e1 e2 e3 e4 e5
  refine lv_if_ne (tgt := tgt) hx hb hd ht (fun h => kt ?_ ls H locs hl hL hs hH) (fun h => kf ?_ ls H locs hl hL hs hH)
  · first | exact e1.mp h | exact fun q => h (e1.mpr q) | exact e2.mp h | exact e3.mp h | exact e4.mp h | exact e5.mp h
  · first | exact fun q => h (e1.mpr q) | exact e1.mp (Classical.not_not.mp h) | exact e1.mp h | exact Int.not_lt.mp fun q => h (e2.mpr q) | exact Int.not_lt.mp fun q => h (e3.mpr q) | exact Int.not_le.mp fun q => h (e4.mpr q) | exact Int.not_le.mp fun q => h (e5.mpr q)
theorem x_if_lt {Γ : xΓ} {own : String} {cc : ByteArray} {nL fr lo mc ms : Nat} (G : xG Γ own cc nL fr lo mc ms) {cells slots n pc : Nat} {T : xT} {L : List (Nat × xV)} {st : List xV} {M : xM} {x : Int} {off : Int} (tgt : Nat) (ht : (pc : Int) + off = (tgt : Int)) (hd : decode cc pc = .ok (.ifCond .lt off, 3)) (kt : x < 0 → xX Γ cells slots n T tgt L st M) (kf : 0 ≤ x → xX Γ cells slots n T (pc + 3) L st M) : xX Γ cells slots n T pc L (xI x :: st) M := by
  obtain ⟨D, p, l, e, R, s, m, args, below, meth, c, Q⟩ := Γ
  obtain ⟨hx, hb, hml, hown, hts, hE, hB, hR⟩ := G
  intro ls H locs hl hL hs hH
  obtain ⟨hxx, hs⟩ := List.forall_mem_cons.mp hs
  have hyy : i32 0 := by decide
  have e1 := x_eq hxx hyy
  have e2 := x_lt hxx hyy
  have e3 := x_lt hyy hxx
  have e4 := x_le hxx hyy
  have e5 := x_le hyy hxx
  have e0 : Int32.ofInt 0 = 0 := rfl
  rw [e0] at e1 e2 e3 e4 e5
  refine lv_if_lt (tgt := tgt) hx hb hd ht (fun h => kt ?_ ls H locs hl hL hs hH) (fun h => kf ?_ ls H locs hl hL hs hH)
  · first | exact e1.mp h | exact fun q => h (e1.mpr q) | exact e2.mp h | exact e3.mp h | exact e4.mp h | exact e5.mp h
  · first | exact fun q => h (e1.mpr q) | exact e1.mp (Classical.not_not.mp h) | exact e1.mp h | exact Int.not_lt.mp fun q => h (e2.mpr q) | exact Int.not_lt.mp fun q => h (e3.mpr q) | exact Int.not_le.mp fun q => h (e4.mpr q) | exact Int.not_le.mp fun q => h (e5.mpr q)
theorem x_if_ge {Γ : xΓ} {own : String} {cc : ByteArray} {nL fr lo mc ms : Nat} (G : xG Γ own cc nL fr lo mc ms) {cells slots n pc : Nat} {T : xT} {L : List (Nat × xV)} {st : List xV} {M : xM} {x : Int} {off : Int} (tgt : Nat) (ht : (pc : Int) + off = (tgt : Int)) (hd : decode cc pc = .ok (.ifCond .ge off, 3)) (kt : 0 ≤ x → xX Γ cells slots n T tgt L st M) (kf : x < 0 → xX Γ cells slots n T (pc + 3) L st M) : xX Γ cells slots n T pc L (xI x :: st) M := by
  obtain ⟨D, p, l, e, R, s, m, args, below, meth, c, Q⟩ := Γ
  obtain ⟨hx, hb, hml, hown, hts, hE, hB, hR⟩ := G
  intro ls H locs hl hL hs hH
  obtain ⟨hxx, hs⟩ := List.forall_mem_cons.mp hs
  have hyy : i32 0 := by decide
  have e1 := x_eq hxx hyy
  have e2 := x_lt hxx hyy
  have e3 := x_lt hyy hxx
  have e4 := x_le hxx hyy
  have e5 := x_le hyy hxx
  have e0 : Int32.ofInt 0 = 0 := rfl
  rw [e0] at e1 e2 e3 e4 e5
  refine lv_if_ge (tgt := tgt) hx hb hd ht (fun h => kt ?_ ls H locs hl hL hs hH) (fun h => kf ?_ ls H locs hl hL hs hH)
  · first | exact e1.mp h | exact fun q => h (e1.mpr q) | exact e2.mp h | exact e3.mp h | exact e4.mp h | exact e5.mp h
  · first | exact fun q => h (e1.mpr q) | exact e1.mp (Classical.not_not.mp h) | exact e1.mp h | exact Int.not_lt.mp fun q => h (e2.mpr q) | exact Int.not_lt.mp fun q => h (e3.mpr q) | exact Int.not_le.mp fun q => h (e4.mpr q) | exact Int.not_le.mp fun q => h (e5.mpr q)
theorem x_if_gt {Γ : xΓ} {own : String} {cc : ByteArray} {nL fr lo mc ms : Nat} (G : xG Γ own cc nL fr lo mc ms) {cells slots n pc : Nat} {T : xT} {L : List (Nat × xV)} {st : List xV} {M : xM} {x : Int} {off : Int} (tgt : Nat) (ht : (pc : Int) + off = (tgt : Int)) (hd : decode cc pc = .ok (.ifCond .gt off, 3)) (kt : 0 < x → xX Γ cells slots n T tgt L st M) (kf : x ≤ 0 → xX Γ cells slots n T (pc + 3) L st M) : xX Γ cells slots n T pc L (xI x :: st) M := by
  obtain ⟨D, p, l, e, R, s, m, args, below, meth, c, Q⟩ := Γ
  obtain ⟨hx, hb, hml, hown, hts, hE, hB, hR⟩ := G
  intro ls H locs hl hL hs hH
  obtain ⟨hxx, hs⟩ := List.forall_mem_cons.mp hs
  have hyy : i32 0 := by decide
  have e1 := x_eq hxx hyy
  have e2 := x_lt hxx hyy
  have e3 := x_lt hyy hxx
  have e4 := x_le hxx hyy
  have e5 := x_le hyy hxx
  have e0 : Int32.ofInt 0 = 0 := rfl
  rw [e0] at e1 e2 e3 e4 e5
  refine lv_if_gt (tgt := tgt) hx hb hd ht (fun h => kt ?_ ls H locs hl hL hs hH) (fun h => kf ?_ ls H locs hl hL hs hH)
  · first | exact e1.mp h | exact fun q => h (e1.mpr q) | exact e2.mp h | exact e3.mp h | exact e4.mp h | exact e5.mp h
  · first | exact fun q => h (e1.mpr q) | exact e1.mp (Classical.not_not.mp h) | exact e1.mp h | exact Int.not_lt.mp fun q => h (e2.mpr q) | exact Int.not_lt.mp fun q => h (e3.mpr q) | exact Int.not_le.mp fun q => h (e4.mpr q) | exact Int.not_le.mp fun q => h (e5.mpr q)
theorem x_if_le {Γ : xΓ} {own : String} {cc : ByteArray} {nL fr lo mc ms : Nat} (G : xG Γ own cc nL fr lo mc ms) {cells slots n pc : Nat} {T : xT} {L : List (Nat × xV)} {st : List xV} {M : xM} {x : Int} {off : Int} (tgt : Nat) (ht : (pc : Int) + off = (tgt : Int)) (hd : decode cc pc = .ok (.ifCond .le off, 3)) (kt : x ≤ 0 → xX Γ cells slots n T tgt L st M) (kf : 0 < x → xX Γ cells slots n T (pc + 3) L st M) : xX Γ cells slots n T pc L (xI x :: st) M := by
  obtain ⟨D, p, l, e, R, s, m, args, below, meth, c, Q⟩ := Γ
  obtain ⟨hx, hb, hml, hown, hts, hE, hB, hR⟩ := G
  intro ls H locs hl hL hs hH
  obtain ⟨hxx, hs⟩ := List.forall_mem_cons.mp hs
  have hyy : i32 0 := by decide
  have e1 := x_eq hxx hyy
  have e2 := x_lt hxx hyy
  have e3 := x_lt hyy hxx
  have e4 := x_le hxx hyy
  have e5 := x_le hyy hxx
  have e0 : Int32.ofInt 0 = 0 := rfl
  rw [e0] at e1 e2 e3 e4 e5
  refine lv_if_le (tgt := tgt) hx hb hd ht (fun h => kt ?_ ls H locs hl hL hs hH) (fun h => kf ?_ ls H locs hl hL hs hH)
  · first | exact e1.mp h | exact fun q => h (e1.mpr q) | exact e2.mp h | exact e3.mp h | exact e4.mp h | exact e5.mp h
  · first | exact fun q => h (e1.mpr q) | exact e1.mp (Classical.not_not.mp h) | exact e1.mp h | exact Int.not_lt.mp fun q => h (e2.mpr q) | exact Int.not_lt.mp fun q => h (e3.mpr q) | exact Int.not_le.mp fun q => h (e4.mpr q) | exact Int.not_le.mp fun q => h (e5.mpr q)
theorem x_icmp_eq {Γ : xΓ} {own : String} {cc : ByteArray} {nL fr lo mc ms : Nat} (G : xG Γ own cc nL fr lo mc ms) {cells slots n pc : Nat} {T : xT} {L : List (Nat × xV)} {st : List xV} {M : xM} {x y : Int} {off : Int} (tgt : Nat) (ht : (pc : Int) + off = (tgt : Int)) (hd : decode cc pc = .ok (.if_icmp .eq off, 3)) (kt : x = y → xX Γ cells slots n T tgt L st M) (kf : ¬ x = y → xX Γ cells slots n T (pc + 3) L st M) : xX Γ cells slots n T pc L (xI y :: xI x :: st) M := by
  obtain ⟨D, p, l, e, R, s, m, args, below, meth, c, Q⟩ := Γ
  obtain ⟨hx, hb, hml, hown, hts, hE, hB, hR⟩ := G
  intro ls H locs hl hL hs hH
  obtain ⟨hyy, hs⟩ := List.forall_mem_cons.mp hs
  obtain ⟨hxx, hs⟩ := List.forall_mem_cons.mp hs
  have e1 := x_eq hxx hyy
  have e2 := x_lt hxx hyy
  have e3 := x_lt hyy hxx
  have e4 := x_le hxx hyy
  have e5 := x_le hyy hxx
  have e0 : Int32.ofInt 0 = 0 := rfl
  skip
  refine lv_icmp_eq (tgt := tgt) hx hb hd ht (fun h => kt ?_ ls H locs hl hL hs hH) (fun h => kf ?_ ls H locs hl hL hs hH)
  · first | exact e1.mp h | exact fun q => h (e1.mpr q) | exact e2.mp h | exact e3.mp h | exact e4.mp h | exact e5.mp h
  · first | exact fun q => h (e1.mpr q) | exact e1.mp (Classical.not_not.mp h) | exact e1.mp h | exact Int.not_lt.mp fun q => h (e2.mpr q) | exact Int.not_lt.mp fun q => h (e3.mpr q) | exact Int.not_le.mp fun q => h (e4.mpr q) | exact Int.not_le.mp fun q => h (e5.mpr q)
theorem x_icmp_ne {Γ : xΓ} {own : String} {cc : ByteArray} {nL fr lo mc ms : Nat} (G : xG Γ own cc nL fr lo mc ms) {cells slots n pc : Nat} {T : xT} {L : List (Nat × xV)} {st : List xV} {M : xM} {x y : Int} {off : Int} (tgt : Nat) (ht : (pc : Int) + off = (tgt : Int)) (hd : decode cc pc = .ok (.if_icmp .ne off, 3)) (kt : ¬ x = y → xX Γ cells slots n T tgt L st M) (kf : x = y → xX Γ cells slots n T (pc + 3) L st M) : xX Γ cells slots n T pc L (xI y :: xI x :: st) M := by
  obtain ⟨D, p, l, e, R, s, m, args, below, meth, c, Q⟩ := Γ
  obtain ⟨hx, hb, hml, hown, hts, hE, hB, hR⟩ := G
  intro ls H locs hl hL hs hH
  obtain ⟨hyy, hs⟩ := List.forall_mem_cons.mp hs
  obtain ⟨hxx, hs⟩ := List.forall_mem_cons.mp hs
  have e1 := x_eq hxx hyy
  have e2 := x_lt hxx hyy
  have e3 := x_lt hyy hxx
  have e4 := x_le hxx hyy
  have e5 := x_le hyy hxx
  have e0 : Int32.ofInt 0 = 0 := rfl
  skip
  refine lv_icmp_ne (tgt := tgt) hx hb hd ht (fun h => kt ?_ ls H locs hl hL hs hH) (fun h => kf ?_ ls H locs hl hL hs hH)
  · first | exact e1.mp h | exact fun q => h (e1.mpr q) | exact e2.mp h | exact e3.mp h | exact e4.mp h | exact e5.mp h
  · first | exact fun q => h (e1.mpr q) | exact e1.mp (Classical.not_not.mp h) | exact e1.mp h | exact Int.not_lt.mp fun q => h (e2.mpr q) | exact Int.not_lt.mp fun q => h (e3.mpr q) | exact Int.not_le.mp fun q => h (e4.mpr q) | exact Int.not_le.mp fun q => h (e5.mpr q)
theorem x_icmp_lt {Γ : xΓ} {own : String} {cc : ByteArray} {nL fr lo mc ms : Nat} (G : xG Γ own cc nL fr lo mc ms) {cells slots n pc : Nat} {T : xT} {L : List (Nat × xV)} {st : List xV} {M : xM} {x y : Int} {off : Int} (tgt : Nat) (ht : (pc : Int) + off = (tgt : Int)) (hd : decode cc pc = .ok (.if_icmp .lt off, 3)) (kt : x < y → xX Γ cells slots n T tgt L st M) (kf : y ≤ x → xX Γ cells slots n T (pc + 3) L st M) : xX Γ cells slots n T pc L (xI y :: xI x :: st) M := by
  obtain ⟨D, p, l, e, R, s, m, args, below, meth, c, Q⟩ := Γ
  obtain ⟨hx, hb, hml, hown, hts, hE, hB, hR⟩ := G
  intro ls H locs hl hL hs hH
  obtain ⟨hyy, hs⟩ := List.forall_mem_cons.mp hs
  obtain ⟨hxx, hs⟩ := List.forall_mem_cons.mp hs
  have e1 := x_eq hxx hyy
  have e2 := x_lt hxx hyy
  have e3 := x_lt hyy hxx
  have e4 := x_le hxx hyy
  have e5 := x_le hyy hxx
  have e0 : Int32.ofInt 0 = 0 := rfl
  skip
  refine lv_icmp_lt (tgt := tgt) hx hb hd ht (fun h => kt ?_ ls H locs hl hL hs hH) (fun h => kf ?_ ls H locs hl hL hs hH)
  · first | exact e1.mp h | exact fun q => h (e1.mpr q) | exact e2.mp h | exact e3.mp h | exact e4.mp h | exact e5.mp h
  · first | exact fun q => h (e1.mpr q) | exact e1.mp (Classical.not_not.mp h) | exact e1.mp h | exact Int.not_lt.mp fun q => h (e2.mpr q) | exact Int.not_lt.mp fun q => h (e3.mpr q) | exact Int.not_le.mp fun q => h (e4.mpr q) | exact Int.not_le.mp fun q => h (e5.mpr q)
theorem x_icmp_ge {Γ : xΓ} {own : String} {cc : ByteArray} {nL fr lo mc ms : Nat} (G : xG Γ own cc nL fr lo mc ms) {cells slots n pc : Nat} {T : xT} {L : List (Nat × xV)} {st : List xV} {M : xM} {x y : Int} {off : Int} (tgt : Nat) (ht : (pc : Int) + off = (tgt : Int)) (hd : decode cc pc = .ok (.if_icmp .ge off, 3)) (kt : y ≤ x → xX Γ cells slots n T tgt L st M) (kf : x < y → xX Γ cells slots n T (pc + 3) L st M) : xX Γ cells slots n T pc L (xI y :: xI x :: st) M := by
  obtain ⟨D, p, l, e, R, s, m, args, below, meth, c, Q⟩ := Γ
  obtain ⟨hx, hb, hml, hown, hts, hE, hB, hR⟩ := G
  intro ls H locs hl hL hs hH
  obtain ⟨hyy, hs⟩ := List.forall_mem_cons.mp hs
  obtain ⟨hxx, hs⟩ := List.forall_mem_cons.mp hs
  have e1 := x_eq hxx hyy
  have e2 := x_lt hxx hyy
  have e3 := x_lt hyy hxx
  have e4 := x_le hxx hyy
  have e5 := x_le hyy hxx
  have e0 : Int32.ofInt 0 = 0 := rfl
  skip
  refine lv_icmp_ge (tgt := tgt) hx hb hd ht (fun h => kt ?_ ls H locs hl hL hs hH) (fun h => kf ?_ ls H locs hl hL hs hH)
  · first | exact e1.mp h | exact fun q => h (e1.mpr q) | exact e2.mp h | exact e3.mp h | exact e4.mp h | exact e5.mp h
  · first | exact fun q => h (e1.mpr q) | exact e1.mp (Classical.not_not.mp h) | exact e1.mp h | exact Int.not_lt.mp fun q => h (e2.mpr q) | exact Int.not_lt.mp fun q => h (e3.mpr q) | exact Int.not_le.mp fun q => h (e4.mpr q) | exact Int.not_le.mp fun q => h (e5.mpr q)
theorem x_icmp_gt {Γ : xΓ} {own : String} {cc : ByteArray} {nL fr lo mc ms : Nat} (G : xG Γ own cc nL fr lo mc ms) {cells slots n pc : Nat} {T : xT} {L : List (Nat × xV)} {st : List xV} {M : xM} {x y : Int} {off : Int} (tgt : Nat) (ht : (pc : Int) + off = (tgt : Int)) (hd : decode cc pc = .ok (.if_icmp .gt off, 3)) (kt : y < x → xX Γ cells slots n T tgt L st M) (kf : x ≤ y → xX Γ cells slots n T (pc + 3) L st M) : xX Γ cells slots n T pc L (xI y :: xI x :: st) M := by
  obtain ⟨D, p, l, e, R, s, m, args, below, meth, c, Q⟩ := Γ
  obtain ⟨hx, hb, hml, hown, hts, hE, hB, hR⟩ := G
  intro ls H locs hl hL hs hH
  obtain ⟨hyy, hs⟩ := List.forall_mem_cons.mp hs
  obtain ⟨hxx, hs⟩ := List.forall_mem_cons.mp hs
  have e1 := x_eq hxx hyy
  have e2 := x_lt hxx hyy
  have e3 := x_lt hyy hxx
  have e4 := x_le hxx hyy
  have e5 := x_le hyy hxx
  have e0 : Int32.ofInt 0 = 0 := rfl
  skip
  refine lv_icmp_gt (tgt := tgt) hx hb hd ht (fun h => kt ?_ ls H locs hl hL hs hH) (fun h => kf ?_ ls H locs hl hL hs hH)
  · first | exact e1.mp h | exact fun q => h (e1.mpr q) | exact e2.mp h | exact e3.mp h | exact e4.mp h | exact e5.mp h
  · first | exact fun q => h (e1.mpr q) | exact e1.mp (Classical.not_not.mp h) | exact e1.mp h | exact Int.not_lt.mp fun q => h (e2.mpr q) | exact Int.not_lt.mp fun q => h (e3.mpr q) | exact Int.not_le.mp fun q => h (e4.mpr q) | exact Int.not_le.mp fun q => h (e5.mpr q)
theorem x_icmp_le {Γ : xΓ} {own : String} {cc : ByteArray} {nL fr lo mc ms : Nat} (G : xG Γ own cc nL fr lo mc ms) {cells slots n pc : Nat} {T : xT} {L : List (Nat × xV)} {st : List xV} {M : xM} {x y : Int} {off : Int} (tgt : Nat) (ht : (pc : Int) + off = (tgt : Int)) (hd : decode cc pc = .ok (.if_icmp .le off, 3)) (kt : x ≤ y → xX Γ cells slots n T tgt L st M) (kf : y < x → xX Γ cells slots n T (pc + 3) L st M) : xX Γ cells slots n T pc L (xI y :: xI x :: st) M := by
  obtain ⟨D, p, l, e, R, s, m, args, below, meth, c, Q⟩ := Γ
  obtain ⟨hx, hb, hml, hown, hts, hE, hB, hR⟩ := G
  intro ls H locs hl hL hs hH
  obtain ⟨hyy, hs⟩ := List.forall_mem_cons.mp hs
  obtain ⟨hxx, hs⟩ := List.forall_mem_cons.mp hs
  have e1 := x_eq hxx hyy
  have e2 := x_lt hxx hyy
  have e3 := x_lt hyy hxx
  have e4 := x_le hxx hyy
  have e5 := x_le hyy hxx
  have e0 : Int32.ofInt 0 = 0 := rfl
  skip
  refine lv_icmp_le (tgt := tgt) hx hb hd ht (fun h => kt ?_ ls H locs hl hL hs hH) (fun h => kf ?_ ls H locs hl hL hs hH)
  · first | exact e1.mp h | exact fun q => h (e1.mpr q) | exact e2.mp h | exact e3.mp h | exact e4.mp h | exact e5.mp h
  · first | exact fun q => h (e1.mpr q) | exact e1.mp (Classical.not_not.mp h) | exact e1.mp h | exact Int.not_lt.mp fun q => h (e2.mpr q) | exact Int.not_lt.mp fun q => h (e3.mpr q) | exact Int.not_le.mp fun q => h (e4.mpr q) | exact Int.not_le.mp fun q => h (e5.mpr q)
theorem x_goto {Γ : xΓ} {own : String} {cc : ByteArray} {nL fr lo mc ms : Nat} (G : xG Γ own cc nL fr lo mc ms) {cells slots n pc : Nat} {T : xT} {L : List (Nat × xV)} {st : List xV} {M : xM} {off : Int} (tgt : Nat) (ht : (pc : Int) + off = (tgt : Int)) (hd : decode cc pc = .ok (.goto off, 3)) (k : xX Γ cells slots n T tgt L st M) : xX Γ cells slots n T pc L st M := by
  obtain ⟨D, p, l, e, R, s, m, args, below, meth, c, Q⟩ := Γ
  obtain ⟨hx, hb, hml, hown, hts, hE, hB, hR⟩ := G
  intro ls H locs hl hL hs hH
  exact lv_goto (tgt := tgt) hx hb hd ht (k ls H locs hl hL hs hH)
theorem x_lcmp {Γ : xΓ} {own : String} {cc : ByteArray} {nL fr lo mc ms : Nat} (G : xG Γ own cc nL fr lo mc ms) {cells slots n pc : Nat} {T : xT} {L : List (Nat × xV)} {st : List xV} {M : xM} {x y : Int} (hd : decode cc pc = .ok (.lcmp, 1)) (k : xX Γ cells slots n T (pc + 1) L (xI (if y < x then 1 else if x = y then 0 else -1) :: st) M) : xX Γ cells slots n T pc L (xL y :: xL x :: st) M := by
  obtain ⟨D, p, l, e, R, s, m, args, below, meth, c, Q⟩ := Γ
  obtain ⟨hx, hb, hml, hown, hts, hE, hB, hR⟩ := G
  intro ls H locs hl hL hs hH
  obtain ⟨hyy, hs⟩ := List.forall_mem_cons.mp hs
  obtain ⟨hxx, hs⟩ := List.forall_mem_cons.mp hs
  have e1 := x_lt64 hyy hxx
  have e2 := x_eq64 hxx hyy
  refine W.lcmp hx hb hd ?_
  have h9 := k ls H locs hl hL (List.forall_mem_cons.mpr ⟨by show i32 _; split <;> (try split) <;> decide, hs⟩) hH
  rw [List.map_cons] at h9
  have e3 : lg_cmp (Int64.ofInt x) (Int64.ofInt y) = Int32.ofInt (if y < x then 1 else if x = y then 0 else -1) := by
    unfold lg_cmp
    by_cases h1 : y < x
    · simp [h1, e1]
    · by_cases h2 : x = y
      · subst h2; simp [h1]
      · simp [h1, h2, e1, e2]
  rw [e3]
  exact h9
theorem x_tabIn {Γ : xΓ} {own : String} {cc : ByteArray} {nL fr lo mc ms : Nat} (G : xG Γ own cc nL fr lo mc ms) {cells slots n pc : Nat} {T : xT} {L : List (Nat × xV)} {st : List xV} {M : xM} {x lo hi dflt off : Int} {offs : Array Int} {len : Nat} (tgt : Nat) (h1 : lo ≤ x) (h2 : x ≤ hi) (ho : offs[(x - lo).toNat]? = some off) (ht : (pc : Int) + off = (tgt : Int)) (hd : decode cc pc = .ok (.tableswitch dflt lo hi offs, len)) (k : xX Γ cells slots n T tgt L st M) : xX Γ cells slots n T pc L (xI x :: st) M := by
  obtain ⟨D, p, l, e, R, s, m, args, below, meth, c, Q⟩ := Γ
  obtain ⟨hx, hb, hml, hown, hts, hE, hB, hR⟩ := G
  intro ls H locs hl hL hs hH
  obtain ⟨hxx, hs⟩ := List.forall_mem_cons.mp hs
  have e := x_toInt (show i32 x from hxx)
  exact lv_tableIn (tgt := tgt) hx hb hd (by rw [e]; omega) (by rw [e]; omega) (by rw [e]; exact ho) ht (k ls H locs hl hL hs hH)
theorem x_tabOut {Γ : xΓ} {own : String} {cc : ByteArray} {nL fr lo mc ms : Nat} (G : xG Γ own cc nL fr lo mc ms) {cells slots n pc : Nat} {T : xT} {L : List (Nat × xV)} {st : List xV} {M : xM} {x lo hi dflt : Int} {offs : Array Int} {len : Nat} (tgt : Nat) (h : x < lo ∨ hi < x) (ht : (pc : Int) + dflt = (tgt : Int)) (hd : decode cc pc = .ok (.tableswitch dflt lo hi offs, len)) (k : xX Γ cells slots n T tgt L st M) : xX Γ cells slots n T pc L (xI x :: st) M := by
  obtain ⟨D, p, l, e, R, s, m, args, below, meth, c, Q⟩ := Γ
  obtain ⟨hx, hb, hml, hown, hts, hE, hB, hR⟩ := G
  intro ls H locs hl hL hs hH
  obtain ⟨hxx, hs⟩ := List.forall_mem_cons.mp hs
  have e := x_toInt (show i32 x from hxx)
  exact lv_tableOut (tgt := tgt) hx hb hd (by rw [e]; exact h) ht (k ls H locs hl hL hs hH)
end
section
/-- what is known of field k of class ci -/
def xFd (ci k : Nat) (ref nm ds : String) (ty : FieldType) (fin : Bool) : Prop :=
  ∃ (C : String) (Tf : u_T) (N : Nat) (ty0 : Nat → FieldType), vwCl[ci]? = some (C, Tf, N) ∧ (∀ w ∈ u_ws C Tf N, w ∈ WS) ∧ k < N ∧ Tf k = (ref, nm, ds, fin) ∧ (∀ k, k < N → parseFieldDescriptor (Tf k).2.2.1 = some (ty0 k)) ∧ (∀ a, a < N → ∀ b, b < N → a ≠ b → (Tf a).2.1 ≠ (Tf b).2.1) ∧ ty0 k = ty ∧ ci < 8 ∧ xN ci = N
/-- a method may link that field by its own pool's entry -/
def xFl (own : String) (idx : Nat) (ref nm ds : String) : Prop := Cond.fieldLink own idx ref nm ds ∈ WS ∨ (own, idx, ref, nm, ds) ∈ xnF
/-- the value of field k of a cell of layout t, whose numbers are f -/
def xfv (ci : Nat) (t : Nat × Nat × (Nat → Option Nat)) (f : Nat → Int) (k : Nat) (v : xV) : Prop := (xB ci k = false ∧ v = xI (f k)) ∨ (xB ci k = true ∧ ∃ b, t.2.2 k = some b ∧ v = xR b)
theorem xo_get {σ : Nat → Nat} {ci k : Nat} {t : Nat × Nat × (Nat → Option Nat)} {f : Nat → Int} {v : xV} (hk : k < xN ci) (h : xfv ci t f k v) : (xo σ ci t.2.2 f)[k]? = some (xc σ v) := by
  unfold xo
  rw [List.getElem?_map, List.getElem?_range hk]
  rcases h with ⟨h1, rfl⟩ | ⟨h1, b, h2, rfl⟩
  · simp [h1, xc]
  · simp [h1, h2, xc, va_rf]
theorem xe_obj {σ : Nat → Nat} {cy : Nat → ClassId} {t : Nat × Nat × (Nat → Option Nat)} {f : Nat → Int} {ci : Nat} (h : t.1 = ci) (hci : ci < 8) : xe σ cy t f = .inr (ci, xo σ ci t.2.2 f) := by
  subst h
  simp [xe, hci]
theorem xr_obj {T : xT} {M : xM} {a k ci : Nat} (hr : xr T M) (hT : (T a).1 = ci) (hci : ci < 8) : i32 (M a k) := (hr a k).2 (by omega)
theorem xfv_ok {T : xT} {M : xM} {a k ci : Nat} {v : xV} (hr : xr T M) (hT : (T a).1 = ci) (hci : ci < 8) (h : xfv ci (T a) (M a) k v) : xk v := by
  rcases h with ⟨-, rfl⟩ | ⟨-, b, -, rfl⟩
  · exact xr_obj hr hT hci
  · exact True.intro
theorem x_get {Γ : xΓ} {own : String} {cc : ByteArray} {nL fr lo mc ms : Nat} (G : xG Γ own cc nL fr lo mc ms) {cells slots n pc : Nat} {T : xT} {L : List (Nat × xV)} {st : List xV} {M : xM} {ci a k idx : Nat} {ref nm ds : String} {ty : FieldType} {fin : Bool} (v : xV) (hf : xFd ci k ref nm ds ty fin) (hl : xFl own idx ref nm ds) (ha : a < n) (hT : (T a).1 = ci) (hv : xfv ci (T a) (M a) k v) (hd : decode cc pc = .ok (.getfield idx, 3)) (kk : xX Γ cells slots n T (pc + 3) L (v :: st) M) : xX Γ cells slots n T pc L (xR a :: st) M := by
  obtain ⟨D, p, l, e, R, s, m, args, below, meth, c, Q⟩ := Γ
  obtain ⟨hx, hb, hml, hown, hts, hE, hB, hR⟩ := G
  obtain ⟨C, Tf, N, ty0, hc, hin, hk, hTk, hty, hnm, hty0, hci, hN⟩ := hf
  intro ls H locs hll hL hs hH
  obtain ⟨hP, hD, hS, hr, hz⟩ := id hH
  have he : (xw D n T M)[a]? = some (D.1 a, .inr (ci, xo D.1 ci (T a).2.2 (M a))) := by rw [xw_get ha, xe_obj hT hci]
  have hvv := xo_get (σ := D.1) (by rw [hN]; exact hk) hv
  have h9 := kk ls H locs hll hL (List.forall_mem_cons.mpr ⟨xfv_ok hr hT hci hv, (List.forall_mem_cons.mp hs).2⟩) hH
  rw [List.map_cons] at h9
  rcases hl with hl | hl
  · exact va_get hx hb hts hin hown hE.2.1 hP a he hc k hk (by rw [hTk]; exact hts _ hl) (by rw [hTk]; exact fun _ h => h) hvv hd h9
  · exact va_getN (host := "FairDraws") hx hb hts hin hown hE.2.1 hP a he hc k hk (by rw [hTk]; exact va_Nw.use rfl (hE.2.2.1 _ hl)) (by rw [hTk]; exact fun _ h => h) hvv hd h9
theorem xo_set {σ : Nat → Nat} {ci k : Nat} {r : Nat → Option Nat} {f : Nat → Int} {z : Int} (hk : k < xN ci) (hB : xB ci k = false) : (xo σ ci r f).set k (.int (Int32.ofInt z)) = xo σ ci r (fun b => if b = k then z else f b) := by
  apply List.ext_getElem?
  intro i
  unfold xo
  by_cases hi : i < xN ci
  · by_cases hk2 : i = k
    · subst hk2
      rw [List.getElem?_set_self (by simp; exact hi)]
      simp [List.getElem?_range hi, hB]
    · rw [List.getElem?_set_ne (Ne.symm hk2)]
      simp [List.getElem?_range hi, hk2]
  · rw [List.getElem?_eq_none (by simp; omega), List.getElem?_eq_none (by simp; omega)]
theorem xo_setr {σ : Nat → Nat} {ci k b : Nat} {r : Nat → Option Nat} {f : Nat → Int} (hk : k < xN ci) (hB : xB ci k = true) : (xo σ ci r f).set k (.ref (σ b)) = xo σ ci (fun i => if i = k then some b else r i) f := by
  apply List.ext_getElem?
  intro i
  unfold xo
  by_cases hi : i < xN ci
  · by_cases hk2 : i = k
    · subst hk2
      rw [List.getElem?_set_self (by simp; exact hi)]
      simp [List.getElem?_range hi, hB, va_rf]
    · rw [List.getElem?_set_ne (Ne.symm hk2)]
      simp [List.getElem?_range hi, hk2]
  · rw [List.getElem?_eq_none (by simp; omega), List.getElem?_eq_none (by simp; omega)]
theorem xo_len {σ : Nat → Nat} {ci : Nat} {r : Nat → Option Nat} {f : Nat → Int} : (xo σ ci r f).length = xN ci := by simp [xo]
theorem xr_st {T : xT} {M : xM} {a k : Nat} {z : Int} (hr : xr T M) (h10 : (T a).1 = 10 → i64 z) (h : ¬ (T a).1 = 10 → i32 z) : xr T (xst M a k z) := by
  intro a2 k2
  rw [xst_eq]
  split
  · rename_i hc
    rw [hc.1]
    exact ⟨h10, h⟩
  · exact hr a2 k2
theorem xst_ne {M : xM} {a k : Nat} {z : Int} : ∀ b, b ≠ a → xst M a k z b = M b := fun b hb => by simp [xst, hb]
theorem xst_self {M : xM} {a k : Nat} {z : Int} : xst M a k z a = fun b => if b = k then z else M a b := by simp [xst]
theorem xH_set {D : xD} {s : State} {n a k9 : Nat} {T T' : xT} {M M' : xM} {H H1 : Heap} {locs : List Loc} (hH : xH D s n T M H locs) (ha : a < n) (z : H1.size = H.size) (oq : ∀ q : Nat, q ≠ D.1 a → H1[q]? = H[q]?) (hat : va_at D.2.2.2 vwCl (D.1 a, xe D.1 D.2.1 (T' a) (M' a)) H1) (hT : ∀ b, b ≠ a → T' b = T b) (hM : ∀ b, b ≠ a → M' b = M b) (hr : xr T' M') : xH D s n T' M' H1 (locs ++ [⟨D.1 a, k9⟩]) := by
  obtain ⟨hP, hD, hS, -, hz⟩ := hH
  refine ⟨?_, ?_, hS.put z oq (hD.2 a _ (xw_get ha)), hr, by rw [z]; exact hz⟩
  · rw [← xw_set ha hT hM]
    exact hP.set hD (xw_get ha) hat oq
  · rw [← xw_set ha hT hM]
    exact hD.set (xw_get ha)
/-- a field's cell, as the machine has it -/
theorem x_cell {D : xD} {n a ci : Nat} {T : xT} {M : xM} {H : Heap} {C : String} {Tf : u_T} {N : Nat} (hP : va_P D.2.2.2 vwCl (xw D n T M) H) (ha : a < n) (hT : (T a).1 = ci) (hci : ci < 8) (hc : vwCl[ci]? = some (C, Tf, N)) : t_OB (D.1 a) (D.2.2.2.1 ci) N (D.2.2.2.2 ci) H (vp_V (xo D.1 ci (T a).2.2 (M a))) := by
  have h := hP a _ (xw_get ha)
  rw [xe_obj hT hci] at h
  obtain ⟨r, h1, h2⟩ := h
  have hr : r = (C, Tf, N) := Option.some.inj (h1.symm.trans hc)
  subst hr
  exact h2
theorem x_put {Γ : xΓ} {own : String} {cc : ByteArray} {nL fr lo mc ms : Nat} (G : xG Γ own cc nL fr lo mc ms) {cells slots n pc : Nat} {T : xT} {L : List (Nat × xV)} {st : List xV} {M : xM} {ci a k idx : Nat} {ref nm ds : String} {z : Int} (hf : xFd ci k ref nm ds .int false) (hl : xFl own idx ref nm ds) (ha : a < n) (hT : (T a).1 = ci) (hB2 : xB ci k = false) (hd : decode cc pc = .ok (.putfield idx, 3)) (kk : xX Γ cells slots n T (pc + 3) L st (xst M a k z)) : xX Γ cells slots n T pc L (xI z :: xR a :: st) M := by
  obtain ⟨D, p, l, e, R, s, m, args, below, meth, c, Q⟩ := Γ
  obtain ⟨hx, hb, hml, hown, hts, hE, hB, hR⟩ := G
  obtain ⟨C, Tf, N, ty0, hc, hin, hk, hTk, hty, hnm, hty0, hci, hN⟩ := hf
  intro ls H locs hll hL hs hH
  obtain ⟨hz0, hs⟩ := List.forall_mem_cons.mp hs
  obtain ⟨-, hs⟩ := List.forall_mem_cons.mp hs
  have hpd : parseFieldDescriptor (Tf k).2.2.1 = some .int := by rw [hty k hk, hty0]
  have hap := va_apart (own := own) hts hin ty0 hty hnm hE.2.1 hc
  obtain ⟨cell, q1, q2, q3, q4⟩ := x_cell hH.1 ha hT hci hc
  obtain ⟨hS9, hfc, kC, hkC, hkind⟩ := hE.2.1.1 ci _ hc
  obtain ⟨cf, kf, fi, f, hi, hsl⟩ := hS9 k hk
  have hlay := hts _ (hin _ (u_in_lay hk))
  unfold u_lay at hlay
  rw [if_neg (by rw [hTk]; exact Bool.false_ne_true)] at hlay
  have hst := (u_facts hfc hkC (u_lays hts hin hk) hi).1
  have h6 := u_store hfc hkC hkind hlay hi hpd (v := .int (Int32.ofInt z)) (rfl) (rfl)
  have hi2 : s.fieldFound? ref nm ds = some (cf, kf, fi, f) := by
    have hi : s.fieldFound? (Tf k).1 (Tf k).2.1 (Tf k).2.2.1 = some (cf, kf, fi, f) := hi
    rw [hTk] at hi
    exact hi
  have fin : ∀ H' : Heap, H'[D.1 a]? = some (cell.setSlot f.slot (.int (Int32.ofInt z))) → H'.size = H.size → (∀ q, q ≠ D.1 a → H'[q]? = H[q]?) → W p l e R s m args below meth c H' (locs ++ [⟨D.1 a, f.slot⟩]) cells slots Q (F0 m (pc + 3) ls (st.map (xc D.1))) := by
    intro H' e1 e2 e3
    refine kk ls H' _ hll hL hs (xH_set (T' := T) hH ha e2 e3 ?_ (fun _ _ => rfl) xst_ne (xr_st hH.2.2.2.1 (fun h => by omega) (fun _ => hz0)))
    rw [xe_obj hT hci, xst_self, ← xo_set (by rw [hN]; exact hk) hB2]
    rw [hsl] at e1
    exact ⟨_, hc, t_OB.to (V := updV (vp_V (xo D.1 ci (T a).2.2 (M a))) k (.int (Int32.ofInt z))) ⟨_, e1, q2, q3, t_set q4 hap hk _⟩ (fun j _ => vp_updV_set (by rw [xo_len, hN]; exact hk) _ j)⟩
  rcases hl with hl | hl
  · exact W.putK hx hb (f := f) ⟨hown, hts _ hl, ⟨_, _, _, hi2⟩, hst⟩ (by rw [q2]; exact h6) q1 q3 (by rw [hsl]; exact k2_hasslot (q4 k hk)) rfl rfl hd fin
  · exact va_WputK (host := "FairDraws") hx hb (f := f) hown (va_Nw.use rfl (hE.2.2.1 _ hl)) hi2 hst (by rw [q2]; exact h6) q1 q3 (by rw [hsl]; exact k2_hasslot (q4 k hk)) rfl rfl hd fin
theorem x_putz {Γ : xΓ} {own : String} {cc : ByteArray} {nL fr lo mc ms : Nat} (G : xG Γ own cc nL fr lo mc ms) {cells slots n pc : Nat} {T : xT} {L : List (Nat × xV)} {st : List xV} {M : xM} {ci a k idx : Nat} {ref nm ds : String} {z : Int} (hz1 : z = 0 ∨ z = 1) (hf : xFd ci k ref nm ds .boolean false) (hl : xFl own idx ref nm ds) (ha : a < n) (hT : (T a).1 = ci) (hB2 : xB ci k = false) (hd : decode cc pc = .ok (.putfield idx, 3)) (kk : xX Γ cells slots n T (pc + 3) L st (xst M a k z)) : xX Γ cells slots n T pc L (xI z :: xR a :: st) M := by
  obtain ⟨D, p, l, e, R, s, m, args, below, meth, c, Q⟩ := Γ
  obtain ⟨hx, hb, hml, hown, hts, hE, hB, hR⟩ := G
  obtain ⟨C, Tf, N, ty0, hc, hin, hk, hTk, hty, hnm, hty0, hci, hN⟩ := hf
  intro ls H locs hll hL hs hH
  obtain ⟨hz0, hs⟩ := List.forall_mem_cons.mp hs
  obtain ⟨-, hs⟩ := List.forall_mem_cons.mp hs
  have hpd : parseFieldDescriptor (Tf k).2.2.1 = some .boolean := by rw [hty k hk, hty0]
  have hap := va_apart (own := own) hts hin ty0 hty hnm hE.2.1 hc
  obtain ⟨cell, q1, q2, q3, q4⟩ := x_cell hH.1 ha hT hci hc
  obtain ⟨hS9, hfc, kC, hkC, hkind⟩ := hE.2.1.1 ci _ hc
  obtain ⟨cf, kf, fi, f, hi, hsl⟩ := hS9 k hk
  have hlay := hts _ (hin _ (u_in_lay hk))
  unfold u_lay at hlay
  rw [if_neg (by rw [hTk]; exact Bool.false_ne_true)] at hlay
  have hst := (u_facts hfc hkC (u_lays hts hin hk) hi).1
  have h6 := u_store hfc hkC hkind hlay hi hpd (v := .int (Int32.ofInt z)) (by rcases hz1 with rfl | rfl <;> rfl) (by rcases hz1 with rfl | rfl <;> rfl)
  have hi2 : s.fieldFound? ref nm ds = some (cf, kf, fi, f) := by
    have hi : s.fieldFound? (Tf k).1 (Tf k).2.1 (Tf k).2.2.1 = some (cf, kf, fi, f) := hi
    rw [hTk] at hi
    exact hi
  have fin : ∀ H' : Heap, H'[D.1 a]? = some (cell.setSlot f.slot (.int (Int32.ofInt z))) → H'.size = H.size → (∀ q, q ≠ D.1 a → H'[q]? = H[q]?) → W p l e R s m args below meth c H' (locs ++ [⟨D.1 a, f.slot⟩]) cells slots Q (F0 m (pc + 3) ls (st.map (xc D.1))) := by
    intro H' e1 e2 e3
    refine kk ls H' _ hll hL hs (xH_set (T' := T) hH ha e2 e3 ?_ (fun _ _ => rfl) xst_ne (xr_st hH.2.2.2.1 (fun h => by omega) (fun _ => hz0)))
    rw [xe_obj hT hci, xst_self, ← xo_set (by rw [hN]; exact hk) hB2]
    rw [hsl] at e1
    exact ⟨_, hc, t_OB.to (V := updV (vp_V (xo D.1 ci (T a).2.2 (M a))) k (.int (Int32.ofInt z))) ⟨_, e1, q2, q3, t_set q4 hap hk _⟩ (fun j _ => vp_updV_set (by rw [xo_len, hN]; exact hk) _ j)⟩
  rcases hl with hl | hl
  · exact W.putK hx hb (f := f) ⟨hown, hts _ hl, ⟨_, _, _, hi2⟩, hst⟩ (by rw [q2]; exact h6) q1 q3 (by rw [hsl]; exact k2_hasslot (q4 k hk)) rfl rfl hd fin
  · exact va_WputK (host := "FairDraws") hx hb (f := f) hown (va_Nw.use rfl (hE.2.2.1 _ hl)) hi2 hst (by rw [q2]; exact h6) q1 q3 (by rw [hsl]; exact k2_hasslot (q4 k hk)) rfl rfl hd fin
theorem xr_Tr {T : xT} {M : xM} {a k b : Nat} (h : xr T M) : xr (xTr T a k b) M := by
  intro q j
  have h8 : (xTr T a k b q).1 = (T q).1 := by
    by_cases hq : q = a
    · subst hq; simp [xTr]
    · simp [xTr, hq]
  rw [h8]
  exact h q j
def xIsInit (Γ : xΓ) : Prop := match Γ with
  | (_, _, _, _, _, _, _, _, _, meth, _, _) => meth.name = "<init>"
theorem x_putr {Γ : xΓ} {own : String} {cc : ByteArray} {nL fr lo mc ms : Nat} (G : xG Γ own cc nL fr lo mc ms) {cells slots n pc : Nat} {T : xT} {L : List (Nat × xV)} {st : List xV} {M : xM} (hinit : xIsInit Γ) {ci a b k idx : Nat} {ref nm ds : String} {ty : FieldType} (hf : xFd ci k ref nm ds ty true) (href : ref = own) (hty1 : ∀ q : Nat, narrow ty (.ref q) = .ref q ∧ fits ty (.ref q) = true) (hl : Cond.fieldLink own idx ref nm ds ∈ WS) (ha : a < n) (hT : (T a).1 = ci) (hB2 : xB ci k = true) (hd : decode cc pc = .ok (.putfield idx, 3)) (kk : xX Γ cells slots n (xTr T a k b) (pc + 3) L st M) : xX Γ cells slots n T pc L (xR b :: xR a :: st) M := by
  obtain ⟨D, p, l, e, R, s, m, args, below, meth, c, Q⟩ := Γ
  obtain ⟨hx, hb, hml, hown, hts, hE, hB, hR⟩ := G
  have hinit : meth.name = "<init>" := hinit
  obtain ⟨C, Tf, N, ty0, hc, hin, hk, hTk, hty, hnm, hty0, hci, hN⟩ := hf
  intro ls H locs hll hL hs hH
  obtain ⟨-, hs⟩ := List.forall_mem_cons.mp hs
  obtain ⟨-, hs⟩ := List.forall_mem_cons.mp hs
  have hpd : parseFieldDescriptor (Tf k).2.2.1 = some ty := by rw [hty k hk, hty0]
  have hap := va_apart (own := own) hts hin ty0 hty hnm hE.2.1 hc
  obtain ⟨cell, q1, q2, q3, q4⟩ := x_cell hH.1 ha hT hci hc
  obtain ⟨hS9, hfc, kC, hkC, hkind⟩ := hE.2.1.1 ci _ hc
  obtain ⟨cf, kf, fi, f, hi, hsl⟩ := hS9 k hk
  have hlay := hts _ (hin _ (u_in_lay hk))
  unfold u_lay at hlay
  rw [if_pos (by rw [hTk])] at hlay
  have hst := (u_facts hfc hkC (u_lays hts hin hk) hi).1
  have hcf : m.cls = cf := by
    obtain ⟨_, _, c', _, _, _, -, -, hf', -, -, -, hown2, -⟩ := Cond.laysFinal_spec hlay
    have e1 : c' = cf := by have := hi.symm.trans hf'; simp at this; exact this.1.symm
    rw [hTk, href] at hown2
    rw [← e1]; exact Option.some.inj (hown.symm.trans hown2)
  have h6 := u_fits hfc hkC hkind (Or.inr hlay) hi hpd (v := .ref (D.1 b)) (hty1 _).1 (hty1 _).2
  have hi2 : s.fieldFound? ref nm ds = some (cf, kf, fi, f) := by
    have hi : s.fieldFound? (Tf k).1 (Tf k).2.1 (Tf k).2.2.1 = some (cf, kf, fi, f) := hi
    rw [hTk] at hi
    exact hi
  refine W.putFinK hx hb hown (hts _ hl) hi2 hst hcf hinit (by rw [q2]; exact h6) q1 q3 (by rw [hsl]; exact k2_hasslot (q4 k hk)) rfl rfl hd fun H' e1 e2 e3 => ?_
  have hT2 : (xTr T a k b a).1 = ci := by simp [xTr, hT]
  refine kk ls H' _ hll hL hs (xH_set (T' := xTr T a k b) (M' := M) hH ha e2 e3 ?_ (fun q hq => by simp [xTr, hq]) (fun _ _ => rfl) ?_)
  · rw [xe_obj hT2 hci]
    have h7 : (xTr T a k b a).2.2 = fun i => if i = k then some b else (T a).2.2 i := by simp [xTr]
    rw [h7, ← xo_setr (by rw [hN]; exact hk) hB2]
    rw [hsl] at e1
    exact ⟨_, hc, t_OB.to (V := updV (vp_V (xo D.1 ci (T a).2.2 (M a))) k (.ref (D.1 b))) ⟨_, e1, q2, q3, t_set q4 hap hk _⟩ (fun j _ => vp_updV_set (by rw [xo_len, hN]; exact hk) _ j)⟩
  · exact xr_Tr hH.2.2.2.1
theorem xe_arr {σ : Nat → Nat} {cy : Nat → ClassId} {t : Nat × Nat × (Nat → Option Nat)} {f : Nat → Int} {c : Nat} (h : t.1 = c) (h1 : ¬ c < 8) (h2 : ¬ c = 10) (h3 : ¬ c = 12) : xe σ cy t f = .inl (cy c, t.2.1, .inl fun j => Int32.ofInt (f j)) := by
  subst h
  simp [xe, h1, h2, h3]
theorem xe_arrL {σ : Nat → Nat} {cy : Nat → ClassId} {t : Nat × Nat × (Nat → Option Nat)} {f : Nat → Int} (h : t.1 = 10) : xe σ cy t f = .inl (cy 10, t.2.1, .inr (.inl fun j => Int64.ofInt (f j))) := by
  simp [xe, h]
theorem xe_arrR {σ : Nat → Nat} {cy : Nat → ClassId} {t : Nat × Nat × (Nat → Option Nat)} {f : Nat → Int} (h : t.1 = 12) : xe σ cy t f = .inl (cy 12, t.2.1, .inr (.inr (.inr (.inr fun j => (t.2.2 j).map σ)))) := by
  simp [xe, h]
theorem xnarb {v : Int} (hv : -128 ≤ v ∧ v < 128) : narrow .byte (.int (Int32.ofInt v)) = .int (Int32.ofInt v) := by
  show Value.int _ = _
  congr 1
  apply Int32.toInt_inj.mp
  rw [x_toInt (by omega), Int8.toInt_toInt32, Int32.toInt_toInt8, x_toInt (by omega)]
  exact Int.bmod_eq_of_le (by simp; omega) (by simp; omega)
theorem x_iald {Γ : xΓ} {own : String} {cc : ByteArray} {nL fr lo mc ms : Nat} (G : xG Γ own cc nL fr lo mc ms) {cells slots n pc : Nat} {T : xT} {L : List (Nat × xV)} {st : List xV} {M : xM} {a : Nat} {i : Int} (ha : a < n) (hT : (T a).1 = 9) (h0 : 0 ≤ i) (h1 : i < (T a).2.1) (hd : decode cc pc = .ok (.iaload, 1)) (kk : xX Γ cells slots n T (pc + 1) L (xI (M a i.toNat) :: st) M) : xX Γ cells slots n T pc L (xI i :: xR a :: st) M := by
  obtain ⟨D, p, l, e, R, s, m, args, below, meth, c, Q⟩ := Γ
  obtain ⟨hx, hb, hml, hown, hts, hE, hB, hR⟩ := G
  intro ls H locs hll hL hs hH
  obtain ⟨hi, hs⟩ := List.forall_mem_cons.mp hs
  obtain ⟨-, hs⟩ := List.forall_mem_cons.mp hs
  have he : (xw D n T M)[a]? = some (D.1 a, .inl (D.2.1 9, (T a).2.1, .inl fun j => Int32.ofInt (M a j))) := by rw [xw_get ha, xe_arr hT (by decide) (by decide) (by decide)]
  have h9 := kk ls H locs hll hL (List.forall_mem_cons.mpr ⟨(hH.2.2.2.1 a i.toNat).2 (by omega), hs⟩) hH
  rw [List.map_cons] at h9
  refine va_iald hx hb hE.2.1 hH.1 a 1 he rfl (x_in hi h0 h1) hd ?_
  try dsimp only
  rw [x_nat hi]
  exact h9
theorem x_iast {Γ : xΓ} {own : String} {cc : ByteArray} {nL fr lo mc ms : Nat} (G : xG Γ own cc nL fr lo mc ms) {cells slots n pc : Nat} {T : xT} {L : List (Nat × xV)} {st : List xV} {M : xM} {a : Nat} {i v : Int} (ha : a < n) (hT : (T a).1 = 9) (h0 : 0 ≤ i) (h1 : i < (T a).2.1) (hd : decode cc pc = .ok (.iastore, 1)) (kk : xX Γ cells slots n T (pc + 1) L st (xst M a i.toNat v)) : xX Γ cells slots n T pc L (xI v :: xI i :: xR a :: st) M := by
  obtain ⟨D, p, l, e, R, s, m, args, below, meth, c, Q⟩ := Γ
  obtain ⟨hx, hb, hml, hown, hts, hE, hB, hR⟩ := G
  intro ls H locs hll hL hs hH
  obtain ⟨hv0, hs⟩ := List.forall_mem_cons.mp hs
  obtain ⟨hi, hs⟩ := List.forall_mem_cons.mp hs
  obtain ⟨-, hs⟩ := List.forall_mem_cons.mp hs
  have he : (xw D n T M)[a]? = some (D.1 a, .inl (D.2.1 9, (T a).2.1, .inl fun j => Int32.ofInt (M a j))) := by rw [xw_get ha, xe_arr hT (by decide) (by decide) (by decide)]
  refine W.iast hx hb (hH.1 a _ he) ((hE.2.1.2 1 _ rfl).1 (T a).2.1 (fun j => .int (Int32.ofInt (M a j)))) (fun q => by cases q) (by show ¬ (Int32.ofInt i < 0 ∨ (arrV _ _ _).slots.size ≤ _); rw [arrV_size]; exact x_in hi h0 h1) rfl rfl hd fun H1 e z oq => ?_
  refine kk ls H1 _ hll hL hs (xH_set (T' := T) hH ha z oq ?_ (fun _ _ => rfl) xst_ne (xr_st hH.2.2.2.1 (fun h => by omega) (fun _ => hv0)))
  rw [xe_arr hT (by decide) (by decide) (by decide), xst_self]
  show H1[D.1 a]? = some (vp_cell _ _)
  rw [e, x_nat hi]
  rw [vp_cell_i, vp_cell_i, arrV_store]
  congr 2
  funext q
  by_cases hq : q = i.toNat
  · subst hq
    simp [updV]
  · simp [updV, hq]
theorem x_bald {Γ : xΓ} {own : String} {cc : ByteArray} {nL fr lo mc ms : Nat} (G : xG Γ own cc nL fr lo mc ms) {cells slots n pc : Nat} {T : xT} {L : List (Nat × xV)} {st : List xV} {M : xM} {a : Nat} {i : Int} (ha : a < n) (hT : (T a).1 = 8) (h0 : 0 ≤ i) (h1 : i < (T a).2.1) (hd : decode cc pc = .ok (.baload, 1)) (kk : xX Γ cells slots n T (pc + 1) L (xI (M a i.toNat) :: st) M) : xX Γ cells slots n T pc L (xI i :: xR a :: st) M := by
  obtain ⟨D, p, l, e, R, s, m, args, below, meth, c, Q⟩ := Γ
  obtain ⟨hx, hb, hml, hown, hts, hE, hB, hR⟩ := G
  intro ls H locs hll hL hs hH
  obtain ⟨hi, hs⟩ := List.forall_mem_cons.mp hs
  obtain ⟨-, hs⟩ := List.forall_mem_cons.mp hs
  have he : (xw D n T M)[a]? = some (D.1 a, .inl (D.2.1 8, (T a).2.1, .inl fun j => Int32.ofInt (M a j))) := by rw [xw_get ha, xe_arr hT (by decide) (by decide) (by decide)]
  have h9 := kk ls H locs hll hL (List.forall_mem_cons.mpr ⟨(hH.2.2.2.1 a i.toNat).2 (by omega), hs⟩) hH
  rw [List.map_cons] at h9
  refine va_bald hx hb hE.2.1 hH.1 a 0 he rfl (x_in hi h0 h1) hd ?_
  try dsimp only
  rw [x_nat hi]
  exact h9
theorem x_bast {Γ : xΓ} {own : String} {cc : ByteArray} {nL fr lo mc ms : Nat} (G : xG Γ own cc nL fr lo mc ms) {cells slots n pc : Nat} {T : xT} {L : List (Nat × xV)} {st : List xV} {M : xM} {a : Nat} {i v : Int} (hv : -128 ≤ v ∧ v < 128) (ha : a < n) (hT : (T a).1 = 8) (h0 : 0 ≤ i) (h1 : i < (T a).2.1) (hd : decode cc pc = .ok (.bastore, 1)) (kk : xX Γ cells slots n T (pc + 1) L st (xst M a i.toNat v)) : xX Γ cells slots n T pc L (xI v :: xI i :: xR a :: st) M := by
  obtain ⟨D, p, l, e, R, s, m, args, below, meth, c, Q⟩ := Γ
  obtain ⟨hx, hb, hml, hown, hts, hE, hB, hR⟩ := G
  intro ls H locs hll hL hs hH
  obtain ⟨hv0, hs⟩ := List.forall_mem_cons.mp hs
  obtain ⟨hi, hs⟩ := List.forall_mem_cons.mp hs
  obtain ⟨-, hs⟩ := List.forall_mem_cons.mp hs
  have he : (xw D n T M)[a]? = some (D.1 a, .inl (D.2.1 8, (T a).2.1, .inl fun j => Int32.ofInt (M a j))) := by rw [xw_get ha, xe_arr hT (by decide) (by decide) (by decide)]
  refine W.bast hx hb (hH.1 a _ he) ((hE.2.1.2 0 _ rfl).1 (T a).2.1 (fun j => .int (Int32.ofInt (M a j)))) (fun q => by cases q) (by show ¬ (Int32.ofInt i < 0 ∨ (arrV _ _ _).slots.size ≤ _); rw [arrV_size]; exact x_in hi h0 h1) rfl rfl hd fun H1 e z oq => ?_
  refine kk ls H1 _ hll hL hs (xH_set (T' := T) hH ha z oq ?_ (fun _ _ => rfl) xst_ne (xr_st hH.2.2.2.1 (fun h => by omega) (fun _ => hv0)))
  rw [xe_arr hT (by decide) (by decide) (by decide), xst_self]
  show H1[D.1 a]? = some (vp_cell _ _)
  rw [e, x_nat hi]
  rw [vp_cell_i, vp_cell_i, arrV_store]
  congr 2
  funext q
  by_cases hq : q = i.toNat
  · subst hq
    simp [updV]
    exact xnarb hv
  · simp [updV, hq]
theorem x_zald {Γ : xΓ} {own : String} {cc : ByteArray} {nL fr lo mc ms : Nat} (G : xG Γ own cc nL fr lo mc ms) {cells slots n pc : Nat} {T : xT} {L : List (Nat × xV)} {st : List xV} {M : xM} {a : Nat} {i : Int} (ha : a < n) (hT : (T a).1 = 11) (h0 : 0 ≤ i) (h1 : i < (T a).2.1) (hd : decode cc pc = .ok (.baload, 1)) (kk : xX Γ cells slots n T (pc + 1) L (xI (M a i.toNat) :: st) M) : xX Γ cells slots n T pc L (xI i :: xR a :: st) M := by
  obtain ⟨D, p, l, e, R, s, m, args, below, meth, c, Q⟩ := Γ
  obtain ⟨hx, hb, hml, hown, hts, hE, hB, hR⟩ := G
  intro ls H locs hll hL hs hH
  obtain ⟨hi, hs⟩ := List.forall_mem_cons.mp hs
  obtain ⟨-, hs⟩ := List.forall_mem_cons.mp hs
  have he : (xw D n T M)[a]? = some (D.1 a, .inl (D.2.1 11, (T a).2.1, .inl fun j => Int32.ofInt (M a j))) := by rw [xw_get ha, xe_arr hT (by decide) (by decide) (by decide)]
  have h9 := kk ls H locs hll hL (List.forall_mem_cons.mpr ⟨(hH.2.2.2.1 a i.toNat).2 (by omega), hs⟩) hH
  rw [List.map_cons] at h9
  refine va_zald hx hb hE.2.1 hH.1 a 3 he rfl (x_in hi h0 h1) hd ?_
  try dsimp only
  rw [x_nat hi]
  exact h9
theorem x_zast {Γ : xΓ} {own : String} {cc : ByteArray} {nL fr lo mc ms : Nat} (G : xG Γ own cc nL fr lo mc ms) {cells slots n pc : Nat} {T : xT} {L : List (Nat × xV)} {st : List xV} {M : xM} {a : Nat} {i v : Int} (hv : v = 0 ∨ v = 1) (ha : a < n) (hT : (T a).1 = 11) (h0 : 0 ≤ i) (h1 : i < (T a).2.1) (hd : decode cc pc = .ok (.bastore, 1)) (kk : xX Γ cells slots n T (pc + 1) L st (xst M a i.toNat v)) : xX Γ cells slots n T pc L (xI v :: xI i :: xR a :: st) M := by
  obtain ⟨D, p, l, e, R, s, m, args, below, meth, c, Q⟩ := Γ
  obtain ⟨hx, hb, hml, hown, hts, hE, hB, hR⟩ := G
  intro ls H locs hll hL hs hH
  obtain ⟨hv0, hs⟩ := List.forall_mem_cons.mp hs
  obtain ⟨hi, hs⟩ := List.forall_mem_cons.mp hs
  obtain ⟨-, hs⟩ := List.forall_mem_cons.mp hs
  have he : (xw D n T M)[a]? = some (D.1 a, .inl (D.2.1 11, (T a).2.1, .inl fun j => Int32.ofInt (M a j))) := by rw [xw_get ha, xe_arr hT (by decide) (by decide) (by decide)]
  refine W.zast hx hb (hH.1 a _ he) ((hE.2.1.2 3 _ rfl).1 (T a).2.1 (fun j => .int (Int32.ofInt (M a j)))) (fun q => by cases q) (by show ¬ (Int32.ofInt i < 0 ∨ (arrV _ _ _).slots.size ≤ _); rw [arrV_size]; exact x_in hi h0 h1) rfl rfl hd fun H1 e z oq => ?_
  refine kk ls H1 _ hll hL hs (xH_set (T' := T) hH ha z oq ?_ (fun _ _ => rfl) xst_ne (xr_st hH.2.2.2.1 (fun h => by omega) (fun _ => hv0)))
  rw [xe_arr hT (by decide) (by decide) (by decide), xst_self]
  show H1[D.1 a]? = some (vp_cell _ _)
  rw [e, x_nat hi]
  rw [vp_cell_i, vp_cell_i, arrV_store]
  congr 2
  funext q
  by_cases hq : q = i.toNat
  · subst hq
    rcases hv with rfl | rfl <;> simp [updV] <;> rfl
  · simp [updV, hq]
theorem x_lald {Γ : xΓ} {own : String} {cc : ByteArray} {nL fr lo mc ms : Nat} (G : xG Γ own cc nL fr lo mc ms) {cells slots n pc : Nat} {T : xT} {L : List (Nat × xV)} {st : List xV} {M : xM} {a : Nat} {i : Int} (ha : a < n) (hT : (T a).1 = 10) (h0 : 0 ≤ i) (h1 : i < (T a).2.1) (hd : decode cc pc = .ok (.laload, 1)) (kk : xX Γ cells slots n T (pc + 1) L (xL (M a i.toNat) :: st) M) : xX Γ cells slots n T pc L (xI i :: xR a :: st) M := by
  obtain ⟨D, p, l, e, R, s, m, args, below, meth, c, Q⟩ := Γ
  obtain ⟨hx, hb, hml, hown, hts, hE, hB, hR⟩ := G
  intro ls H locs hll hL hs hH
  obtain ⟨hi, hs⟩ := List.forall_mem_cons.mp hs
  obtain ⟨-, hs⟩ := List.forall_mem_cons.mp hs
  have he : (xw D n T M)[a]? = some (D.1 a, .inl (D.2.1 10, (T a).2.1, .inr (.inl fun j => Int64.ofInt (M a j)))) := by rw [xw_get ha, xe_arrL hT]
  have h9 := kk ls H locs hll hL (List.forall_mem_cons.mpr ⟨(hH.2.2.2.1 a i.toNat).1 hT, hs⟩) hH
  rw [List.map_cons] at h9
  refine va_lald hx hb hE.2.1 hH.1 a 2 he rfl (x_in hi h0 h1) hd ?_
  try dsimp only
  rw [x_nat hi]
  exact h9
theorem x_last {Γ : xΓ} {own : String} {cc : ByteArray} {nL fr lo mc ms : Nat} (G : xG Γ own cc nL fr lo mc ms) {cells slots n pc : Nat} {T : xT} {L : List (Nat × xV)} {st : List xV} {M : xM} {a : Nat} {i v : Int} (ha : a < n) (hT : (T a).1 = 10) (h0 : 0 ≤ i) (h1 : i < (T a).2.1) (hd : decode cc pc = .ok (.lastore, 1)) (kk : xX Γ cells slots n T (pc + 1) L st (xst M a i.toNat v)) : xX Γ cells slots n T pc L (xL v :: xI i :: xR a :: st) M := by
  obtain ⟨D, p, l, e, R, s, m, args, below, meth, c, Q⟩ := Γ
  obtain ⟨hx, hb, hml, hown, hts, hE, hB, hR⟩ := G
  intro ls H locs hll hL hs hH
  obtain ⟨hv0, hs⟩ := List.forall_mem_cons.mp hs
  obtain ⟨hi, hs⟩ := List.forall_mem_cons.mp hs
  obtain ⟨-, hs⟩ := List.forall_mem_cons.mp hs
  have he : (xw D n T M)[a]? = some (D.1 a, .inl (D.2.1 10, (T a).2.1, .inr (.inl fun j => Int64.ofInt (M a j)))) := by rw [xw_get ha, xe_arrL hT]
  refine W.last hx hb (hH.1 a _ he) ((hE.2.1.2 2 _ rfl).1 (T a).2.1 (fun j => .long (Int64.ofInt (M a j)))) (fun q => by cases q) (by show ¬ (Int32.ofInt i < 0 ∨ (arrV _ _ _).slots.size ≤ _); rw [arrV_size]; exact x_in hi h0 h1) rfl rfl hd fun H1 e z oq => ?_
  refine kk ls H1 _ hll hL hs (xH_set (T' := T) hH ha z oq ?_ (fun _ _ => rfl) xst_ne (xr_st hH.2.2.2.1 (fun _ => hv0) (fun h => absurd hT h)))
  rw [xe_arrL hT, xst_self]
  show H1[D.1 a]? = some (vp_cell _ _)
  rw [e, x_nat hi]
  rw [vp_cell_l, vp_cell_l, arrV_store]
  congr 2
  funext q
  by_cases hq : q = i.toNat
  · subst hq
    simp [updV]
  · simp [updV, hq]
theorem x_aald {Γ : xΓ} {own : String} {cc : ByteArray} {nL fr lo mc ms : Nat} (G : xG Γ own cc nL fr lo mc ms) {cells slots n pc : Nat} {T : xT} {L : List (Nat × xV)} {st : List xV} {M : xM} {a b : Nat} {i : Int} (ha : a < n) (hT : (T a).1 = 12) (h0 : 0 ≤ i) (h1 : i < (T a).2.1) (hb9 : (T a).2.2 i.toNat = some b) (hd : decode cc pc = .ok (.aaload, 1)) (kk : xX Γ cells slots n T (pc + 1) L (xR b :: st) M) : xX Γ cells slots n T pc L (xI i :: xR a :: st) M := by
  obtain ⟨D, p, l, e, R, s, m, args, below, meth, c, Q⟩ := Γ
  obtain ⟨hx, hb, hml, hown, hts, hE, hB, hR⟩ := G
  intro ls H locs hll hL hs hH
  obtain ⟨hi, hs⟩ := List.forall_mem_cons.mp hs
  obtain ⟨-, hs⟩ := List.forall_mem_cons.mp hs
  have he : (xw D n T M)[a]? = some (D.1 a, .inl (D.2.1 12, (T a).2.1, .inr (.inr (.inr (.inr fun j => ((T a).2.2 j).map D.1))))) := by rw [xw_get ha, xe_arrR hT]
  have h9 := kk ls H locs hll hL (List.forall_mem_cons.mpr ⟨True.intro, hs⟩) hH
  rw [List.map_cons] at h9
  refine va_aldq hx hb hE.2.1 hH.1 a 4 he rfl (x_in hi h0 h1) hd ?_
  try dsimp only
  rw [x_nat hi, hb9]
  exact h9
theorem x_aast {Γ : xΓ} {own : String} {cc : ByteArray} {nL fr lo mc ms : Nat} (G : xG Γ own cc nL fr lo mc ms) {cells slots n pc : Nat} {T : xT} {L : List (Nat × xV)} {st : List xV} {M : xM} {a b : Nat} {i : Int} (ha : a < n) (hb8 : b < n) (hTb : (T b).1 = 3) (hT : (T a).1 = 12) (h0 : 0 ≤ i) (h1 : i < (T a).2.1) (hd : decode cc pc = .ok (.aastore, 1)) (kk : xX Γ cells slots n (xTr T a i.toNat b) (pc + 1) L st M) : xX Γ cells slots n T pc L (xR b :: xI i :: xR a :: st) M := by
  obtain ⟨D, p, l, e, R, s, m, args, below, meth, c, Q⟩ := Γ
  obtain ⟨hx, hb, hml, hown, hts, hE, hB, hR⟩ := G
  intro ls H locs hll hL hs hH
  obtain ⟨-, hs⟩ := List.forall_mem_cons.mp hs
  obtain ⟨hi, hs⟩ := List.forall_mem_cons.mp hs
  obtain ⟨-, hs⟩ := List.forall_mem_cons.mp hs
  have he : (xw D n T M)[a]? = some (D.1 a, .inl (D.2.1 12, (T a).2.1, .inr (.inr (.inr (.inr fun j => ((T a).2.2 j).map D.1))))) := by rw [xw_get ha, xe_arrR hT]
  obtain ⟨cellV, g1, g2, g3, -⟩ := x_cell (C := RX3) (Tf := TX3) (N := 13) hH.1 hb8 hTb (by decide) rfl
  have hcls := (hE.2.1.1 3 (RX3, TX3, 13) rfl).2
  obtain ⟨kA, comp, k1, k2, k3, -⟩ := (hE.2.1.2 4 _ rfl).2
  have hcomp : comp = D.2.2.2.1 3 := Option.some.inj (k3.symm.trans hcls.1)
  subst hcomp
  obtain ⟨kC, hkC, -⟩ := id hcls.2
  have hin := x_in hi h0 h1
  refine W.aast hx hb (hH.1 a _ he) (fun q h => by cases h) (fun h => by cases h) k1 k2 rfl hkC ⟨fun q => hin (Or.inl q), by show _ < (arrV _ _ _).slots.size; rw [arrV_size]; exact Nat.not_le.mp fun q => hin (Or.inr q)⟩ g1 (fun q h => by rw [g3] at h; cases h) (by rw [g2]; exact hkC) (by rw [g2]; exact va_assign hcls) rfl rfl hd fun H1 e z oq => ?_
  have hT2 : (xTr T a i.toNat b a).1 = 12 := by simp [xTr, hT]
  refine kk ls H1 _ hll hL hs (xH_set (T' := xTr T a i.toNat b) (M' := M) hH ha z oq ?_ (fun q hq => by simp [xTr, hq]) (fun _ _ => rfl) (xr_Tr hH.2.2.2.1))
  rw [xe_arrR hT2]
  show H1[D.1 a]? = some (vp_cell _ _)
  rw [e, x_nat hi]
  have h7 : (xTr T a i.toNat b a).2.1 = (T a).2.1 := by simp [xTr]
  rw [h7, vp_cell_q, vp_cell_q, arrV_store]
  congr 2
  funext q
  by_cases hq : q = i.toNat
  · subst hq
    simp [updV, xTr, va_rf]
  · simp [updV, xTr, hq]
theorem x_alen {Γ : xΓ} {own : String} {cc : ByteArray} {nL fr lo mc ms : Nat} (G : xG Γ own cc nL fr lo mc ms) {cells slots n pc : Nat} {T : xT} {L : List (Nat × xV)} {st : List xV} {M : xM} {a cl : Nat} (t0 : Nat) {ty : FieldType} (ha : a < n) (hT : (T a).1 = cl) (h8 : ¬ cl < 8) (ht : ∀ cy : Nat → ClassId, (xty cy)[t0]? = some (cy cl, ty)) (hlen : (T a).2.1 < 2147483648) (hd : decode cc pc = .ok (.arraylength, 1)) (kk : xX Γ cells slots n T (pc + 1) L (xI ((T a).2.1 : Int) :: st) M) : xX Γ cells slots n T pc L (xR a :: st) M := by
  obtain ⟨D, p, l, e, R, s, m, args, below, meth, c, Q⟩ := Γ
  obtain ⟨hx, hb, hml, hown, hts, hE, hB, hR⟩ := G
  intro ls H locs hll hL hs hH
  have h9 := kk ls H locs hll hL (List.forall_mem_cons.mpr ⟨by show i32 _; omega, (List.forall_mem_cons.mp hs).2⟩) hH
  rw [List.map_cons] at h9
  have hv : Int32.ofNat (T a).2.1 = Int32.ofInt ((T a).2.1 : Int) := by
    apply Int32.toInt_inj.mp
    rw [x_toInt (by omega)]
    exact nI_toInt hlen
  by_cases hc1 : cl = 10
  · subst hc1
    exact va_alen (x := ((T a).2.1, .inr (.inl fun j => Int64.ofInt (M a j)))) hx hb hE.2.1 hH.1 a t0 (by rw [xw_get ha, xe_arrL hT]) (ht _) hv hd h9
  · by_cases hc2 : cl = 12
    · subst hc2
      exact va_alen (x := ((T a).2.1, .inr (.inr (.inr (.inr fun j => ((T a).2.2 j).map D.1))))) hx hb hE.2.1 hH.1 a t0 (by rw [xw_get ha, xe_arrR hT]) (ht _) hv hd h9
    · exact va_alen (x := ((T a).2.1, .inl fun j => Int32.ofInt (M a j))) hx hb hE.2.1 hH.1 a t0 (by rw [xw_get ha, xe_arr hT h8 hc1 hc2]) (ht _) hv hd h9
end
section
abbrev xY : Type := MethodName × ByteArray × Nat × Option FieldType
abbrev xPt : Type := Option xV → Nat → xT → xM → Prop
/-- a method's start and end, over the small machine -/
def xPc (D : xD) (as : List xV) (n : Nat) (T : xT) (M : xM) : Array Value → State → Prop := fun v U => v = (as.map (xc D.1)).toArray ∧ (∀ a ∈ as, xk a) ∧ va_P D.2.2.2 vwCl (xw D n T M) U.heap ∧ va_D (xA D.2.2.1) (xw D n T M) ∧ xr T M ∧ U.heap.size = D.2.2.1 + n ∧ xE D U
def xQc (D : xD) (P : xPt) : Array Value → State → Outcome → State → Prop := fun _ s o t => (∃ (r : Option xV) (n : Nat) (T : xT) (M : xM), o = .returned (r.map (xc D.1)) ∧ (∀ v, r = some v → xk v) ∧ P r n T M ∧ va_P D.2.2.2 vwCl (xw D n T M) t.heap ∧ va_D (xA D.2.2.1) (xw D n T M) ∧ xr T M ∧ t.heap.size = D.2.2.1 + n) ∧ va_F (xA D.2.2.1) s t
/-- method y (code, locals, answer's type), called on as over the memory M, ends with P; fr frames, lo words of locals, mc cells, ms slots are enough -/
def xC (D : xD) (l : Launch) (y : xY) (fr lo mc ms : Nat) (as : List xV) (n : Nat) (T : xT) (M : xM) (P : xPt) : Prop :=
  Met l y.1 (Cond.code y.1 y.2.1 y.2.2.1 y.2.2.2 :: WS) { frames := fr, cells := mc, slots := ms, locals := lo } (xPc D as n T M) (xQc D P) mc ms (xA D.2.2.1)
def xYb (y : xY) (np : Nat) : Prop := Cond.code y.1 y.2.1 y.2.2.1 y.2.2.2 ∈ WS ∧ Cond.initialized y.1.cls ∈ WS ∧ (y.1.cls ≠ "java/lang/invoke/MethodHandle" ∧ y.1.cls ≠ "java/lang/invoke/VarHandle" ∧ (parseMethodDescriptor y.1.desc).map (fun d => d.parameters.length) = some np)
def xMl (own : String) (idx : Nat) (y : MethodName) : Prop := Cond.methodLink own idx y ∈ WS ∨ (own, idx, y) ∈ xnM
theorem xC.mono {D : xD} {l : Launch} {y : xY} {fr lo mc ms : Nat} {as : List xV} {n : Nat} {T : xT} {M : xM} {P P' : xPt} (h : xC D l y fr lo mc ms as n T M P) (hP : ∀ r n2 T2 M2, P r n2 T2 M2 → P' r n2 T2 M2) : xC D l y fr lo mc ms as n T M P' := by
  unfold xC Met MetFree at h ⊢
  intro p e h1 h2 h3 s m args below h4 h5 h6 h7
  obtain ⟨k, o, g1, g2, g3, ⟨⟨r, n2, T2, M2, q1, q2, q3, q4⟩, q5⟩, g5⟩ := h p e h1 h2 h3 s m args below h4 h5 h6 h7
  exact ⟨k, o, g1, g2, g3, ⟨⟨r, n2, T2, M2, q1, q2, hP _ _ _ _ q3, q4⟩, q5⟩, g5⟩
theorem xgood {y : xY} {np : Nat} (h : xYb y np) : GoodIn WS (Cond.code y.1 y.2.1 y.2.2.1 y.2.2.2 :: WS) := by
  intro w hw
  rcases List.mem_cons.mp hw with rfl | hw
  · exact ⟨h.1, Or.inl rfl⟩
  · exact ⟨hw, ws_good w hw⟩
theorem xblind {D : xD} {as : List xV} {n : Nat} {T : xT} {M : xM} : FrameBlind (xPc D as n T M) := by
  intro a U g mk h
  obtain ⟨h1, h2, h3, h4, h5, h6, h7⟩ := h
  exact ⟨h1, h2, h3, h4, h5, h6, xE.same rfl rfl h7⟩
theorem xpre {D : xD} {s : State} {n : Nat} {T : xT} {M : xM} {H : Heap} {locs : List Loc} {as : List xV} (hE : xE D s) (hH : xH D s n T M H locs) (has : ∀ a ∈ as, xk a) : ∀ U : State, U.heap = H → s.WarmedH U.vm → xPc D as n T M (as.map (xc D.1)).toArray U := by
  intro U hU hW
  obtain ⟨h1, h2, h3, h4, h5⟩ := hH
  exact ⟨rfl, has, by rw [hU]; exact h1, h2, h4, by rw [hU]; exact h5, hE.at h3 hU hW⟩
section XGO
variable {p : Program} {l : Launch} {e : Env} {R : Room} {s : State} {m : MethodId} {args : Array Value} {below : List Frame} {meth : Method} {c : Code} {H : Heap} {locs : List Loc} {cells slots : Nat} {Q : State → Prop}
theorem x_goon {D : xD} {n pc mc2 ms2 : Nat} {T : xT} {M : xM} {P : xPt} {ls : Array Slot} {st0 rest : List Value} {a : Array Value} (hr : va_Run p l e R s m args below meth c H locs cells slots mc2 ms2 (F0 m pc ls st0) rest (xQc D P a) (xA D.2.2.1)) (hH : xH D s n T M H locs)
    (kk : ∀ (r : Option xV) (n2 : Nat) (T2 : xT) (M2 : xM) (H1 : Heap) (locs1 : List Loc), (∀ v, r = some v → xk v) → P r n2 T2 M2 → xH D s n2 T2 M2 H1 locs1 → W p l e R s m args below meth c H1 locs1 (cells + mc2) (slots + ms2) Q (F0 m (pc + 3) ls ((r.map (xc D.1)).toList ++ rest))) : W p l e R s m args below meth c H locs cells slots Q (F0 m pc ls st0) := by
  intro T9 hT X
  obtain ⟨v, st₀, t, T', L, h0, X', hL, e1, e2, ⟨⟨r, n2, T2, M2, hv, hrk, hp, hP1, hD1, hr1, hz1⟩, hz, hk⟩, st⟩ := hr T9 hT X
  cases hv
  rw [h0] at hz hk
  obtain ⟨-, -, hS, -, -⟩ := hH
  obtain ⟨t2, a1, b1⟩ := kk r n2 T2 M2 T'.heap (locs ++ L) hrk hp ⟨by rw [e1]; exact hP1, hD1, ⟨Nat.le_trans hS.1 (by rw [e1]; exact hz), fun q h1 h2 => by rw [e1, hk q (Nat.lt_of_lt_of_le h1 hS.1) h2]; exact hS.2.1 q h1 h2, fun q hq => by
      rcases List.mem_append.mp hq with h | h
      · exact hS.2.2 q h
      · exact hL q h⟩, hr1, by rw [e1]; exact hz1⟩ T' rfl X'
  exact ⟨t2, st t2 a1, b1⟩
end XGO
theorem xst_split {σ : Nat → Nat} {as st : List xV} : (as.reverse ++ st).map (xc σ) = (as.map (xc σ)).reverse ++ st.map (xc σ) := by
  rw [List.map_append, List.map_reverse]
theorem xroom {m : MethodId} {pc : Nat} {ls : Array Slot} {σ : Nat → Nat} {st : List xV} {st0 : List Value} (h : (st.map xcat).sum ≤ 8) : 2 * (F0 m pc ls st0).monitorRoom + ((st.map (xc σ)).map fun v => v.category).sum ≤ 8 := by
  have e : (st.map (xc σ)).map (fun v => v.category) = st.map xcat := by
    rw [List.map_map]
    exact List.map_congr_left fun v _ => xcat_eq σ v
  have := lv_room (m := m) (pc := pc) (ls := ls) (rest := st0) (st := st.map (xc σ)) (by rw [e]; exact h)
  exact this
theorem xk_app {as st : List xV} (h : ∀ v ∈ as.reverse ++ st, xk v) : (∀ v ∈ as, xk v) ∧ ∀ v ∈ st, xk v :=
  ⟨fun v hv => h v (List.mem_append_left _ (List.mem_reverse.mpr hv)), fun v hv => h v (List.mem_append_right _ hv)⟩
theorem xk_res {r : Option xV} {st : List xV} (hr : ∀ v, r = some v → xk v) (hs : ∀ v ∈ st, xk v) : ∀ v ∈ r.toList ++ st, xk v := by
  intro v hv
  rcases List.mem_append.mp hv with h | h
  · cases r with
    | none => cases h
    | some w =>
      rw [show v = w from List.mem_singleton.mp h]
      exact hr w rfl
  · exact hs v h
theorem xm_res {σ : Nat → Nat} {r : Option xV} {st : List xV} : (r.toList ++ st).map (xc σ) = (r.map (xc σ)).toList ++ st.map (xc σ) := by
  cases r <;> rfl
theorem x_callS {Γ : xΓ} {own : String} {cc : ByteArray} {nL fr lo mc ms : Nat} (G : xG Γ own cc nL fr lo mc ms) {cells slots n pc : Nat} {T : xT} {L : List (Nat × xV)} {st : List xV} {M : xM} {y : xY} {np idx fr2 lo2 mc2 ms2 : Nat} {as : List xV} {P : xPt} (hy : xYb y np) (hsta : Cond.static y.1 ∈ WS) (hlk : xMl own idx y.1) (hnp : as.length = np) (hC : xC Γ.1 Γ.2.2.1 y fr2 lo2 mc2 ms2 as n T M P) (hRo : fr2 + 1 ≤ fr ∧ 8 + (y.2.2.1 + 11) + lo2 ≤ lo) (hCe : cells + mc2 ≤ mc ∧ slots + ms2 ≤ ms) (hcat : (st.map xcat).sum ≤ 8) (hd : decode cc pc = .ok (.invokestatic idx, 3)) (kk : ∀ r n2 T2 M2, P r n2 T2 M2 → xX Γ (cells + mc2) (slots + ms2) n2 T2 (pc + 3) L (r.toList ++ st) M2) : xX Γ cells slots n T pc L (as.reverse ++ st) M := by
  obtain ⟨D, p, l, e, R, s, m, args, below, meth, c, Q⟩ := Γ
  obtain ⟨hx, hb, hml, hown, hts, hE, hB, hR⟩ := G
  intro ls H locs hl hL hs hH
  have hs := xk_app hs
  rw [xst_split]
  have hm : as.map (xc D.1) = as.map (xc D.1) := rfl
  have hlen : (as.map (xc D.1)).length = np := by rw [List.length_map]; exact hnp
  have hPre : PreS s H (xPc D as n T M) (as.map (xc D.1)) := ⟨xblind, xpre hE hH hs.1⟩
  have hRm : ({ frames := fr2, cells := mc2, slots := ms2, locals := lo2 } : Room).frames + 1 ≤ R.frames ∧ 8 + (y.2.2.1 + 11) + ({ frames := fr2, cells := mc2, slots := ms2, locals := lo2 } : Room).locals ≤ R.locals := by rw [hR]; exact hRo
  have hcs : cells + mc2 ≤ R.cells ∧ slots + ms2 ≤ R.slots := by rw [hR]; exact hCe
  have hrun : va_Run p l e R s m args below meth c H locs cells slots mc2 ms2 (F0 m pc ls ((as.map (xc D.1)).reverse ++ st.map (xc D.1))) (st.map (xc D.1)) (xQc D P (as.map (xc D.1)).toArray) (xA D.2.2.1) := by
    rcases hlk with hlk | hlk
    · exact va_runS ⟨hx, hb, hml, hown, hts⟩ hC ⟨callB_of np hts (xgood hy) rfl rfl rfl (hts _ hy.2.1) (hts _ hlk) hy.2.2 hRm, hts _ hsta⟩ hPre rfl hlen (by rw [← hml]; exact hl.1) rfl (xroom hcat) hd hcs
    · exact va_runSN (host := "FairDraws") ⟨hx, hb, hml, hown, hts⟩ hC ⟨va_cnB np hts (xgood hy) rfl rfl rfl (hE.2.2.2.1 _ hlk) (hts _ hy.2.1) hy.2.2 hRm, hts _ hsta, True.intro⟩ hPre rfl hlen (by rw [← hml]; exact hl.1) rfl (xroom hcat) hd hcs
  refine x_goon (n := n) (T := T) (M := M) (P := P) hrun hH fun r n2 T2 M2 H1 locs1 hrk hp hH1 => ?_
  have h9 := kk r n2 T2 M2 hp ls H1 locs1 hl hL (xk_res hrk hs.2) hH1
  rw [xm_res] at h9
  exact h9
theorem x_callV {Γ : xΓ} {own : String} {cc : ByteArray} {nL fr lo mc ms : Nat} (G : xG Γ own cc nL fr lo mc ms) {cells slots n pc : Nat} {T : xT} {L : List (Nat × xV)} {st : List xV} {M : xM} {y : xY} {np idx fr2 lo2 mc2 ms2 : Nat} {as : List xV} {P : xPt} {ci a : Nat} {Tf : u_T} {N : Nat} (hvc : vwCl[ci]? = some (y.1.cls, Tf, N)) (hci : ci < 8) (ha : a < n) (hT : (T a).1 = ci) (hy : xYb y np) (hins : Cond.instanceMethod y.1 ∈ WS) (hsel : Cond.selects y.1.cls y.1 y.1 ∈ WS) (hlk : xMl own idx y.1) (hnp : as.length = np) (hC : xC Γ.1 Γ.2.2.1 y fr2 lo2 mc2 ms2 (xR a :: as) n T M P) (hRo : fr2 + 1 ≤ fr ∧ 8 + (y.2.2.1 + 11) + lo2 ≤ lo) (hCe : cells + mc2 ≤ mc ∧ slots + ms2 ≤ ms) (hcat : (st.map xcat).sum ≤ 8) (hd : decode cc pc = .ok (.invokevirtual idx, 3)) (kk : ∀ r n2 T2 M2, P r n2 T2 M2 → xX Γ (cells + mc2) (slots + ms2) n2 T2 (pc + 3) L (r.toList ++ st) M2) : xX Γ cells slots n T pc L (as.reverse ++ xR a :: st) M := by
  obtain ⟨D, p, l, e, R, s, m, args, below, meth, c, Q⟩ := Γ
  obtain ⟨hx, hb, hml, hown, hts, hE, hB, hR⟩ := G
  intro ls H locs hl hL hs hH
  have hs := xk_app hs
  have hs : (∀ v ∈ as, xk v) ∧ ∀ v ∈ st, xk v := ⟨hs.1, (List.forall_mem_cons.mp hs.2).2⟩
  rw [xst_split]
  have hlen : (as.map (xc D.1)).length = np := by rw [List.length_map]; exact hnp
  have hRec : ∃ cellB : Cell, H[D.1 a]? = some cellB ∧ cellB.vm.isStatics = false ∧ s.vm.findClass y.1.cls = some cellB.cls := va_recv hE.2.1 hH.1 (q0 := a) hvc (by rw [xw_get ha, xe_obj hT hci])
  have hPre : PreV s H y.1.cls (D.1 a) (xPc D (xR a :: as) n T M) (as.map (xc D.1)) := ⟨xblind, hRec, xpre hE hH (List.forall_mem_cons.mpr ⟨True.intro, hs.1⟩)⟩
  have hRm : ({ frames := fr2, cells := mc2, slots := ms2, locals := lo2 } : Room).frames + 1 ≤ R.frames ∧ 8 + (y.2.2.1 + 11) + ({ frames := fr2, cells := mc2, slots := ms2, locals := lo2 } : Room).locals ≤ R.locals := by rw [hR]; exact hRo
  have hcs : cells + mc2 ≤ R.cells ∧ slots + ms2 ≤ R.slots := by rw [hR]; exact hCe
  have hrun : va_Run p l e R s m args below meth c H locs cells slots mc2 ms2 (F0 m pc ls ((as.map (xc D.1)).reverse ++ (xR a :: st).map (xc D.1))) (st.map (xc D.1)) (xQc D P (Value.ref (D.1 a) :: as.map (xc D.1)).toArray) (xA D.2.2.1) := by
    rcases hlk with hlk | hlk
    · exact va_runV ⟨hx, hb, hml, hown, hts⟩ hC ⟨callB_of np hts (xgood hy) rfl rfl rfl (hts _ hy.2.1) (hts _ hlk) hy.2.2 hRm, hts _ hins, hts _ hsel⟩ hPre rfl hlen (by rw [← hml]; exact hl.1) rfl (xroom hcat) hd hcs
    · exact va_runVN (host := "FairDraws") ⟨hx, hb, hml, hown, hts⟩ hC ⟨va_cnB np hts (xgood hy) rfl rfl rfl (hE.2.2.2.1 _ hlk) (hts _ hy.2.1) hy.2.2 hRm, hts _ hins, hts _ hsel⟩ hPre rfl hlen (by rw [← hml]; exact hl.1) rfl (xroom hcat) hd hcs
  refine x_goon (n := n) (T := T) (M := M) (P := P) hrun hH fun r n2 T2 M2 H1 locs1 hrk hp hH1 => ?_
  have h9 := kk r n2 T2 M2 hp ls H1 locs1 hl hL (xk_res hrk hs.2) hH1
  rw [xm_res] at h9
  exact h9
theorem x_callI {Γ : xΓ} {own : String} {cc : ByteArray} {nL fr lo mc ms : Nat} (G : xG Γ own cc nL fr lo mc ms) {cells slots n pc : Nat} {T : xT} {L : List (Nat × xV)} {st : List xV} {M : xM} {y : xY} {np idx fr2 lo2 mc2 ms2 : Nat} {as : List xV} {P : xPt} {a : Nat} (hy : xYb y np) (hins : Cond.instanceMethod y.1 ∈ WS) (hini : y.1.name = "<init>") (hret : y.2.2.2 = none) (hlk : xMl own idx y.1) (hnp : as.length = np) (hC : xC Γ.1 Γ.2.2.1 y fr2 lo2 mc2 ms2 (xR a :: as) n T M P) (hRo : fr2 + 1 ≤ fr ∧ 8 + (y.2.2.1 + 11) + lo2 ≤ lo) (hCe : cells + mc2 ≤ mc ∧ slots + ms2 ≤ ms) (hcat : (st.map xcat).sum ≤ 8) (hd : decode cc pc = .ok (.invokespecial idx, 3)) (kk : ∀ r n2 T2 M2, P r n2 T2 M2 → xX Γ (cells + mc2) (slots + ms2) n2 T2 (pc + 3) L (r.toList ++ st) M2) : xX Γ cells slots n T pc L (as.reverse ++ xR a :: st) M := by
  obtain ⟨D, p, l, e, R, s, m, args, below, meth, c, Q⟩ := Γ
  obtain ⟨hx, hb, hml, hown, hts, hE, hB, hR⟩ := G
  obtain ⟨y1, y2, y3, y4⟩ := y
  subst hret
  intro ls H locs hl hL hs hH
  have hs := xk_app hs
  have hs : (∀ v ∈ as, xk v) ∧ ∀ v ∈ st, xk v := ⟨hs.1, (List.forall_mem_cons.mp hs.2).2⟩
  rw [xst_split]
  have hlen : (as.map (xc D.1)).length = np := by rw [List.length_map]; exact hnp
  have hPre : PreS s H (xPc D (xR a :: as) n T M) (Value.ref (D.1 a) :: as.map (xc D.1)) := ⟨xblind, xpre hE hH (List.forall_mem_cons.mpr ⟨True.intro, hs.1⟩)⟩
  have hRm : ({ frames := fr2, cells := mc2, slots := ms2, locals := lo2 } : Room).frames + 1 ≤ R.frames ∧ 8 + (y3 + 11) + ({ frames := fr2, cells := mc2, slots := ms2, locals := lo2 } : Room).locals ≤ R.locals := by rw [hR]; exact hRo
  have hcs : cells + mc2 ≤ R.cells ∧ slots + ms2 ≤ R.slots := by rw [hR]; exact hCe
  have hrun : va_Run p l e R s m args below meth c H locs cells slots mc2 ms2 (F0 m pc ls ((as.map (xc D.1)).reverse ++ (xR a :: st).map (xc D.1))) (st.map (xc D.1)) (xQc D P (Value.ref (D.1 a) :: as.map (xc D.1)).toArray) (xA D.2.2.1) := by
    rcases hlk with hlk | hlk
    · exact va_runI ⟨hx, hb, hml, hown, hts⟩ hC ⟨callB_of np hts (xgood hy) rfl rfl rfl (hts _ hy.2.1) (hts _ hlk) hy.2.2 hRm, hini, hts _ hins⟩ hPre rfl hlen (by rw [← hml]; exact hl.1) rfl (xroom hcat) hd hcs
    · exact va_runIN (host := "FairDraws") ⟨hx, hb, hml, hown, hts⟩ hC ⟨va_cnB np hts (xgood hy) rfl rfl rfl (hE.2.2.2.1 _ hlk) (hts _ hy.2.1) hy.2.2 hRm, hini, hts _ hins⟩ hPre rfl hlen (by rw [← hml]; exact hl.1) rfl (xroom hcat) hd hcs
  refine x_goon (n := n) (T := T) (M := M) (P := P) hrun hH fun r n2 T2 M2 H1 locs1 hrk hp hH1 => ?_
  have h9 := kk r n2 T2 M2 hp ls H1 locs1 hl hL (xk_res hrk hs.2) hH1
  rw [xm_res] at h9
  exact h9
/-- the end that a method's walk is after -/
def xRt (Γ : xΓ) (P : xPt) (ret : Option FieldType) (mc ms : Nat) : Prop := match Γ with
  | (D, _, _, _, _, s, _, args, below, meth, _, Q) => Q = MQ below (xQc D P) args s mc ms (xA D.2.2.1) ∧ meth.sig.returnType = ret ∧ meth.locks = false
theorem x_widen {Γ : xΓ} {cells slots mc ms n pc : Nat} {T : xT} {L : List (Nat × xV)} {st : List xV} {M : xM} (h1 : cells ≤ mc) (h2 : slots ≤ ms) (k : xX Γ mc ms n T pc L st M) : xX Γ cells slots n T pc L st M := by
  obtain ⟨D, p, l, e, R, s, m, args, below, meth, c, Q⟩ := Γ
  intro ls H locs hl hL hs hH
  exact W.widen h1 h2 (k ls H locs hl hL hs hH)
theorem x_iret {Γ : xΓ} {own : String} {cc : ByteArray} {nL fr lo mc ms : Nat} (G : xG Γ own cc nL fr lo mc ms) {n pc : Nat} {T : xT} {L : List (Nat × xV)} {M : xM} {z : Int} {P : xPt} (Rt : xRt Γ P (some .int) mc ms) (hd : decode cc pc = .ok (.ireturn, 1)) (hP : P (some (xI z)) n T M) : xX Γ mc ms n T pc L [xI z] M := by
  obtain ⟨D, p, l, e, R, s, m, args, below, meth, c, Q⟩ := Γ
  obtain ⟨hx, hb, hml, hown, hts, hE, hB, hR⟩ := G
  obtain ⟨rfl, hr, hlocks⟩ := Rt
  intro ls H locs hl hL hs hH
  exact W.iret hx hb hr (fun t ht _ => ⟨⟨some (xI z), n, T, M, rfl, by intro v hv; cases hv; exact hs _ List.mem_cons_self, hP, by rw [ht]; exact hH.1, hH.2.1, hH.2.2.2.1, by rw [ht]; exact hH.2.2.2.2⟩, hH.2.2.1.F ht⟩) hH.2.2.1.2.2 hd hlocks
theorem x_zret {Γ : xΓ} {own : String} {cc : ByteArray} {nL fr lo mc ms : Nat} (G : xG Γ own cc nL fr lo mc ms) {n pc : Nat} {T : xT} {L : List (Nat × xV)} {M : xM} {z : Int} (hz : z = 0 ∨ z = 1) {P : xPt} (Rt : xRt Γ P (some .boolean) mc ms) (hd : decode cc pc = .ok (.ireturn, 1)) (hP : P (some (xI z)) n T M) : xX Γ mc ms n T pc L [xI z] M := by
  obtain ⟨D, p, l, e, R, s, m, args, below, meth, c, Q⟩ := Γ
  obtain ⟨hx, hb, hml, hown, hts, hE, hB, hR⟩ := G
  obtain ⟨rfl, hr, hlocks⟩ := Rt
  intro ls H locs hl hL hs hH
  exact W.zret (ty := .boolean) hx hb hr (by rcases hz with rfl | rfl <;> rfl) (fun t ht _ => ⟨⟨some (xI z), n, T, M, rfl, by intro v hv; cases hv; exact hs _ List.mem_cons_self, hP, by rw [ht]; exact hH.1, hH.2.1, hH.2.2.2.1, by rw [ht]; exact hH.2.2.2.2⟩, hH.2.2.1.F ht⟩) hH.2.2.1.2.2 hd hlocks
theorem x_nret {Γ : xΓ} {own : String} {cc : ByteArray} {nL fr lo mc ms : Nat} (G : xG Γ own cc nL fr lo mc ms) {n pc : Nat} {T : xT} {L : List (Nat × xV)} {M : xM} {z : Int} {ty : FieldType} (hz : narrow ty (.int (Int32.ofInt z)) = .int (Int32.ofInt z)) {P : xPt} (Rt : xRt Γ P (some ty) mc ms) (hd : decode cc pc = .ok (.ireturn, 1)) (hP : P (some (xI z)) n T M) : xX Γ mc ms n T pc L [xI z] M := by
  obtain ⟨D, p, l, e, R, s, m, args, below, meth, c, Q⟩ := Γ
  obtain ⟨hx, hb, hml, hown, hts, hE, hB, hR⟩ := G
  obtain ⟨rfl, hr, hlocks⟩ := Rt
  intro ls H locs hl hL hs hH
  exact W.zret (ty := ty) hx hb hr hz (fun t ht _ => ⟨⟨some (xI z), n, T, M, rfl, by intro v hv; cases hv; exact hs _ List.mem_cons_self, hP, by rw [ht]; exact hH.1, hH.2.1, hH.2.2.2.1, by rw [ht]; exact hH.2.2.2.2⟩, hH.2.2.1.F ht⟩) hH.2.2.1.2.2 hd hlocks
theorem x_lret {Γ : xΓ} {own : String} {cc : ByteArray} {nL fr lo mc ms : Nat} (G : xG Γ own cc nL fr lo mc ms) {n pc : Nat} {T : xT} {L : List (Nat × xV)} {M : xM} {z : Int} {P : xPt} (Rt : xRt Γ P (some .long) mc ms) (hd : decode cc pc = .ok (.lreturn, 1)) (hP : P (some (xL z)) n T M) : xX Γ mc ms n T pc L [xL z] M := by
  obtain ⟨D, p, l, e, R, s, m, args, below, meth, c, Q⟩ := Γ
  obtain ⟨hx, hb, hml, hown, hts, hE, hB, hR⟩ := G
  obtain ⟨rfl, hr, hlocks⟩ := Rt
  intro ls H locs hl hL hs hH
  exact W.lret hx hb hr (fun t ht _ => ⟨⟨some (xL z), n, T, M, rfl, by intro v hv; cases hv; exact hs _ List.mem_cons_self, hP, by rw [ht]; exact hH.1, hH.2.1, hH.2.2.2.1, by rw [ht]; exact hH.2.2.2.2⟩, hH.2.2.1.F ht⟩) hH.2.2.1.2.2 hd hlocks
theorem x_vret {Γ : xΓ} {own : String} {cc : ByteArray} {nL fr lo mc ms : Nat} (G : xG Γ own cc nL fr lo mc ms) {n pc : Nat} {T : xT} {L : List (Nat × xV)} {M : xM}  {P : xPt} (Rt : xRt Γ P none mc ms) (hd : decode cc pc = .ok (.return_, 1)) (hP : P (none) n T M) : xX Γ mc ms n T pc L [] M := by
  obtain ⟨D, p, l, e, R, s, m, args, below, meth, c, Q⟩ := Γ
  obtain ⟨hx, hb, hml, hown, hts, hE, hB, hR⟩ := G
  obtain ⟨rfl, hr, hlocks⟩ := Rt
  intro ls H locs hl hL hs hH
  exact W.vret hx hb hr (fun t ht _ => ⟨⟨none, n, T, M, rfl, (by intro v hv; cases hv), hP, by rw [ht]; exact hH.1, hH.2.1, hH.2.2.2.1, by rw [ht]; exact hH.2.2.2.2⟩, hH.2.2.1.F ht⟩) hH.2.2.1.2.2 hd hlocks
def xargs : Nat → List xV → List (Nat × xV)
  | _, [] => []
  | i, v :: vs => (i, v) :: xargs (if xcat v = 2 then i + 2 else i + 1) vs
theorem xargs_eq (σ : Nat → Nat) : ∀ (as : List xV) (i : Nat), lv_args i (as.map (xc σ)) = (xargs i as).map fun q => (q.1, xc σ q.2)
  | [], _ => rfl
  | v :: vs, i => by
    simp only [List.map_cons, lv_args, xargs, xcat_eq]
    rw [xargs_eq σ vs]
theorem xargs_ok : ∀ (as : List xV) (i : Nat), (∀ a ∈ as, xk a) → ∀ q ∈ xargs i as, xk q.2
  | [], _, _ => fun q hq => by cases hq
  | v :: vs, i, h => by
    obtain ⟨h1, h2⟩ := List.forall_mem_cons.mp h
    exact List.forall_mem_cons.mpr ⟨h1, xargs_ok vs _ h2⟩
theorem xsl_len (σ : Nat → Nat) : ∀ as : List xV, (lg_sl (as.map (xc σ))).length = (as.map xcat).sum
  | [] => rfl
  | v :: vs => by
    have h := xsl_len σ vs
    unfold lg_sl at h ⊢
    rw [List.map_cons, List.flatMap_cons, List.length_append, h, List.map_cons, List.sum_cons, xcat_eq]
    congr 1
    rcases v with z | z | z <;> rfl
/-- a contract out of the walk of the method's body -/
theorem x_met {D : xD} {l : Launch} (y : xY) {fr lo mc ms : Nat} {as : List xV} {n : Nat} {T : xT} {M : xM} {P : xPt} (hy : plainName y.1.cls = true) (hw : (as.map xcat).sum ≤ y.2.2.1)
    (body : ∀ Γ : xΓ, xG Γ y.1.cls y.2.1 y.2.2.1 fr lo mc ms → xRt Γ P y.2.2.2 mc ms → (y.1.name = "<init>" → xIsInit Γ) → xX Γ 0 0 n T 0 (xargs 0 as) [] M) : xC D l y fr lo mc ms as n T M P := by
  refine Met.ofW (cc := y.2.1) (maxL := y.2.2.1) (ret := y.2.2.2) hy rfl ?_
  intro p e s m args below meth c s₁ B hml hv
  obtain ⟨rfl, hak, hP, hD, hr, hz, hE⟩ := hv
  have hts := atoms_spec (ws := Cond.code y.1 y.2.1 y.2.2.1 y.2.2.2 :: WS) B.pre
  have hown : s.vm.findClass y.1.cls = some m.cls := findClass_of_methodNamed B.named
  have hl := lv_entry (as.map (xc D.1)) (n := y.2.2.1) (by rw [xsl_len]; exact hw)
  rw [lg_entry_eq]
  rw [xargs_eq] at hl
  refine body (D, p, l, e, _, s, m, _, below, meth, c, _) ⟨B.exec, B.bytes, hml, hown, fun w hw => hts w (List.mem_cons_of_mem _ hw), hE, by rw [hz]; exact Nat.le_add_right _ _, rfl⟩ ⟨rfl, B.returns, B.notSynchronized⟩ (fun h => by
    show meth.name = "<init>"
    rw [(name_of_methodNamed B.named B.method).1]; exact h) _ _ _ (by rw [hml]; exact hl) (xargs_ok as 0 hak) (fun v hv => by cases hv) ⟨hP, hD, va_S.rf, hr, hz⟩
end
section
theorem xH_push {D : xD} {s : State} {n k len : Nat} {T : xT} {M : xM} {H H1 : Heap} {locs : List Loc} (hH : xH D s n T M H locs) (hσ : ∀ k, k < 1000000 → D.1 k = D.2.2.1 + k) (hn : n < 1000000) (z1 : H1.size = H.size + 1) (o1 : ∀ q : Nat, q < H.size → H1[q]? = H[q]?) (hat : va_at D.2.2.2 vwCl (D.1 n, xe D.1 D.2.1 (k, len, fun _ => none) (fun _ => 0)) H1) : xH D s (n + 1) (xTn T n k len) (xsr M n fun _ => 0) H1 locs := by
  obtain ⟨hP, hD, hS, hr, hz⟩ := hH
  have hq : D.1 n = H.size := by rw [hσ n hn, hz]
  have hT1 : ∀ a, a < n → xTn T n k len a = T a := fun a h => by simp [xTn, Nat.ne_of_lt h]
  have hM1 : ∀ a, a < n → xsr M n (fun _ => 0) a = M a := fun a h => by simp [xsr, Nat.ne_of_lt h]
  have hT2 : xTn T n k len n = (k, len, fun _ => none) := by simp [xTn]
  have hM2 : xsr M n (fun _ => 0) n = fun _ => 0 := by simp [xsr]
  have hk : ∀ (k : Nat) (x : Nat × va_E), (xw D n T M)[k]? = some x → H1[x.1]? = H[x.1]? := fun k x hx => o1 x.1 ((hP k x hx).lt)
  have hA : xA D.2.2.1 (D.1 n) := by rw [hq, hz]; exact Nat.le_add_right _ _
  refine ⟨?_, ?_, ⟨Nat.le_trans hS.1 (by omega), fun x h1 h2 => (o1 x (Nat.lt_of_lt_of_le h1 hS.1)).trans (hS.2.1 x h1 h2), hS.2.2⟩, ?_, by rw [z1, hz]; omega⟩
  · rw [← xw_push hT1 hM1, hT2, hM2]
    refine (hP.kept hk).app (fun k x hx => ?_)
    have hz : k < 1 := (List.getElem?_eq_some_iff.mp hx).1
    rw [show k = 0 by omega] at hx
    cases hx
    exact hat
  · rw [← xw_push hT1 hM1, hT2, hM2]
    exact hD.push hP hq hA
  · intro a j
    by_cases ha : a = n
    · subst ha
      rw [hM2]
      exact ⟨fun _ => (by decide : i64 0), fun _ => (by decide : i32 0)⟩
    · have e1 : xTn T n k len a = T a := by simp [xTn, ha]
      have e2 : xsr M n (fun _ => 0) a = M a := by simp [xsr, ha]
      rw [e1, e2]
      exact hr a j
/-- what is known of class ci, to make an object of it -/
def xCd (ci : Nat) (C : String) (N : Nat) : Prop := ∃ (Tf : u_T) (ty0 : Nat → FieldType), vwCl[ci]? = some (C, Tf, N) ∧ (∀ w ∈ u_ws C Tf N, w ∈ WS) ∧ (∀ k, k < N → parseFieldDescriptor (Tf k).2.2.1 = some (ty0 k)) ∧ (∀ (σ : Nat → Nat) (j : Nat), j < N → defaultValue (ty0 j) = vp_V (xo σ ci (fun _ => none) (fun _ => 0)) j) ∧ ci < 8 ∧ Cond.instantiable C N ∈ WS ∧ Cond.initialized C ∈ WS
theorem x_new {Γ : xΓ} {own : String} {cc : ByteArray} {nL fr lo mc ms : Nat} (G : xG Γ own cc nL fr lo mc ms) {cells slots n pc : Nat} {T : xT} {L : List (Nat × xV)} {st : List xV} {M : xM} {ci idx N : Nat} {C : String} (hC : xCd ci C N) (w1 : Cond.classLink own idx C ∈ WS) (hn : n < 1000000) (hCe : cells + 1 ≤ mc ∧ slots + N ≤ ms) (hd : decode cc pc = .ok (.new idx, 3)) (kk : xX Γ (cells + 1) (slots + N) (n + 1) (xTn T n ci 0) (pc + 3) L (xR n :: st) (xsr M n fun _ => 0)) : xX Γ cells slots n T pc L st M := by
  obtain ⟨D, p, l, e, R, s, m, args, below, meth, c, Q⟩ := Γ
  obtain ⟨hx, hb, hml, hown, hts, hE, hB, hR⟩ := G
  obtain ⟨Tf, ty0, hc, hin, hty, hdef, hci, w2, w3⟩ := hC
  intro ls H locs hll hL hs hH
  have hKn := hE.2.1.1 ci _ hc
  refine W.newcK hx hb hown (hts _ w1) (hts _ w2) (hts _ w3) rfl hd (by rw [hR]; exact hCe.1) (by rw [hR]; exact hCe.2) hKn.2.1 rfl fun H1 kC hkC e1 z1 o1 => ?_
  have hq : D.1 n = H.size := by rw [hE.1 n hn, hH.2.2.2.2]
  have h9 := kk ls H1 locs hll hL (List.forall_mem_cons.mpr ⟨True.intro, hs⟩) (xH_push hH hE.1 hn z1 o1 (by
    rw [xe_obj rfl hci]
    exact ⟨_, hc, by rw [hq]; exact (u_born ty0 hts hin hKn hkC e1 hty).to (fun j hj => hdef D.1 j hj)⟩))
  rw [List.map_cons, show xc D.1 (xR n) = .ref H.size from by rw [← hq]; rfl] at h9
  exact h9
theorem x_newi {Γ : xΓ} {own : String} {cc : ByteArray} {nL fr lo mc ms : Nat} (G : xG Γ own cc nL fr lo mc ms) {cells slots n pc : Nat} {T : xT} {L : List (Nat × xV)} {st : List xV} {M : xM} {z : Int} {N : Nat} (hz : z = N) (hN : N ≤ 100000) (w1 : Cond.arrayClass .int ∈ WS) (hn : n < 1000000) (hCe : cells + 1 ≤ mc ∧ slots + N ≤ ms) (hd : decode cc pc = .ok (.newarray .int, 2)) (kk : xX Γ (cells + 1) (slots + N) (n + 1) (xTn T n 9 N) (pc + 2) L (xR n :: st) (xsr M n fun _ => 0)) : xX Γ cells slots n T pc L (xI z :: st) M := by
  obtain ⟨D, p, l, e, R, s, m, args, below, meth, c, Q⟩ := Γ
  obtain ⟨hx, hb, hml, hown, hts, hE, hB, hR⟩ := G
  subst hz
  intro ls H locs hll hL hs hH
  obtain ⟨hv, hs⟩ := List.forall_mem_cons.mp hs
  have hv : i32 (N : Int) := hv
  have hq : D.1 n = H.size := by rw [hE.1 n hn, hH.2.2.2.2]
  refine va_newaK (atype := .int) hx hb (hts _ w1) rfl hd rfl (n := Int32.ofInt N) (N := N) (by
    intro h
    have := (x_lt hv (y := 0) (by decide)).mp h
    omega) (by rw [x_nat hv]; rfl) (by
    show N * componentBytes .int ≤ _
    have : componentBytes .int ≤ 8 := by decide
    have := Nat.mul_le_mul_left N this
    omega) (by rw [hR]; exact hCe.1) (by rw [hR]; exact hCe.2) rfl fun H1 cA e1 z1 o1 hAr hNm => ?_
  have hcA : D.2.1 9 = cA := by
    have h2 : s.vm.findClass ("[" ++ (FieldType.toString .int)) = some (D.2.1 9) := (hE.2.1.2 1 _ rfl).2
    exact Option.some.inj (h2.symm.trans hNm)
  have h9 := kk ls H1 locs hll hL (List.forall_mem_cons.mpr ⟨True.intro, hs⟩) (xH_push hH hE.1 hn z1 o1 (by
    rw [xe_arr (c := 9) rfl (by decide) (by decide) (by decide)]
    show H1[D.1 n]? = some (vp_cell _ _)
    rw [hq, e1, vp_cell_i, hcA]
    rfl))
  rw [List.map_cons, show xc D.1 (xR n) = .ref H.size from by rw [← hq]; rfl] at h9
  exact h9
theorem x_newb {Γ : xΓ} {own : String} {cc : ByteArray} {nL fr lo mc ms : Nat} (G : xG Γ own cc nL fr lo mc ms) {cells slots n pc : Nat} {T : xT} {L : List (Nat × xV)} {st : List xV} {M : xM} {z : Int} {N : Nat} (hz : z = N) (hN : N ≤ 100000) (w1 : Cond.arrayClass .byte ∈ WS) (hn : n < 1000000) (hCe : cells + 1 ≤ mc ∧ slots + N ≤ ms) (hd : decode cc pc = .ok (.newarray .byte, 2)) (kk : xX Γ (cells + 1) (slots + N) (n + 1) (xTn T n 8 N) (pc + 2) L (xR n :: st) (xsr M n fun _ => 0)) : xX Γ cells slots n T pc L (xI z :: st) M := by
  obtain ⟨D, p, l, e, R, s, m, args, below, meth, c, Q⟩ := Γ
  obtain ⟨hx, hb, hml, hown, hts, hE, hB, hR⟩ := G
  subst hz
  intro ls H locs hll hL hs hH
  obtain ⟨hv, hs⟩ := List.forall_mem_cons.mp hs
  have hv : i32 (N : Int) := hv
  have hq : D.1 n = H.size := by rw [hE.1 n hn, hH.2.2.2.2]
  refine va_newaK (atype := .byte) hx hb (hts _ w1) rfl hd rfl (n := Int32.ofInt N) (N := N) (by
    intro h
    have := (x_lt hv (y := 0) (by decide)).mp h
    omega) (by rw [x_nat hv]; rfl) (by
    show N * componentBytes .byte ≤ _
    have : componentBytes .byte ≤ 8 := by decide
    have := Nat.mul_le_mul_left N this
    omega) (by rw [hR]; exact hCe.1) (by rw [hR]; exact hCe.2) rfl fun H1 cA e1 z1 o1 hAr hNm => ?_
  have hcA : D.2.1 8 = cA := by
    have h2 : s.vm.findClass ("[" ++ (FieldType.toString .byte)) = some (D.2.1 8) := (hE.2.1.2 0 _ rfl).2
    exact Option.some.inj (h2.symm.trans hNm)
  have h9 := kk ls H1 locs hll hL (List.forall_mem_cons.mpr ⟨True.intro, hs⟩) (xH_push hH hE.1 hn z1 o1 (by
    rw [xe_arr (c := 8) rfl (by decide) (by decide) (by decide)]
    show H1[D.1 n]? = some (vp_cell _ _)
    rw [hq, e1, vp_cell_i, hcA]
    rfl))
  rw [List.map_cons, show xc D.1 (xR n) = .ref H.size from by rw [← hq]; rfl] at h9
  exact h9
theorem x_newz {Γ : xΓ} {own : String} {cc : ByteArray} {nL fr lo mc ms : Nat} (G : xG Γ own cc nL fr lo mc ms) {cells slots n pc : Nat} {T : xT} {L : List (Nat × xV)} {st : List xV} {M : xM} {z : Int} {N : Nat} (hz : z = N) (hN : N ≤ 100000) (w1 : Cond.arrayClass .boolean ∈ WS) (hn : n < 1000000) (hCe : cells + 1 ≤ mc ∧ slots + N ≤ ms) (hd : decode cc pc = .ok (.newarray .boolean, 2)) (kk : xX Γ (cells + 1) (slots + N) (n + 1) (xTn T n 11 N) (pc + 2) L (xR n :: st) (xsr M n fun _ => 0)) : xX Γ cells slots n T pc L (xI z :: st) M := by
  obtain ⟨D, p, l, e, R, s, m, args, below, meth, c, Q⟩ := Γ
  obtain ⟨hx, hb, hml, hown, hts, hE, hB, hR⟩ := G
  subst hz
  intro ls H locs hll hL hs hH
  obtain ⟨hv, hs⟩ := List.forall_mem_cons.mp hs
  have hv : i32 (N : Int) := hv
  have hq : D.1 n = H.size := by rw [hE.1 n hn, hH.2.2.2.2]
  refine va_newaK (atype := .boolean) hx hb (hts _ w1) rfl hd rfl (n := Int32.ofInt N) (N := N) (by
    intro h
    have := (x_lt hv (y := 0) (by decide)).mp h
    omega) (by rw [x_nat hv]; rfl) (by
    show N * componentBytes .boolean ≤ _
    have : componentBytes .boolean ≤ 8 := by decide
    have := Nat.mul_le_mul_left N this
    omega) (by rw [hR]; exact hCe.1) (by rw [hR]; exact hCe.2) rfl fun H1 cA e1 z1 o1 hAr hNm => ?_
  have hcA : D.2.1 11 = cA := by
    have h2 : s.vm.findClass ("[" ++ (FieldType.toString .boolean)) = some (D.2.1 11) := (hE.2.1.2 3 _ rfl).2
    exact Option.some.inj (h2.symm.trans hNm)
  have h9 := kk ls H1 locs hll hL (List.forall_mem_cons.mpr ⟨True.intro, hs⟩) (xH_push hH hE.1 hn z1 o1 (by
    rw [xe_arr (c := 11) rfl (by decide) (by decide) (by decide)]
    show H1[D.1 n]? = some (vp_cell _ _)
    rw [hq, e1, vp_cell_i, hcA]
    rfl))
  rw [List.map_cons, show xc D.1 (xR n) = .ref H.size from by rw [← hq]; rfl] at h9
  exact h9
theorem x_newl {Γ : xΓ} {own : String} {cc : ByteArray} {nL fr lo mc ms : Nat} (G : xG Γ own cc nL fr lo mc ms) {cells slots n pc : Nat} {T : xT} {L : List (Nat × xV)} {st : List xV} {M : xM} {z : Int} {N : Nat} (hz : z = N) (hN : N ≤ 100000) (w1 : Cond.arrayClass .long ∈ WS) (hn : n < 1000000) (hCe : cells + 1 ≤ mc ∧ slots + N ≤ ms) (hd : decode cc pc = .ok (.newarray .long, 2)) (kk : xX Γ (cells + 1) (slots + N) (n + 1) (xTn T n 10 N) (pc + 2) L (xR n :: st) (xsr M n fun _ => 0)) : xX Γ cells slots n T pc L (xI z :: st) M := by
  obtain ⟨D, p, l, e, R, s, m, args, below, meth, c, Q⟩ := Γ
  obtain ⟨hx, hb, hml, hown, hts, hE, hB, hR⟩ := G
  subst hz
  intro ls H locs hll hL hs hH
  obtain ⟨hv, hs⟩ := List.forall_mem_cons.mp hs
  have hv : i32 (N : Int) := hv
  have hq : D.1 n = H.size := by rw [hE.1 n hn, hH.2.2.2.2]
  refine va_newaK (atype := .long) hx hb (hts _ w1) rfl hd rfl (n := Int32.ofInt N) (N := N) (by
    intro h
    have := (x_lt hv (y := 0) (by decide)).mp h
    omega) (by rw [x_nat hv]; rfl) (by
    show N * componentBytes .long ≤ _
    have : componentBytes .long ≤ 8 := by decide
    have := Nat.mul_le_mul_left N this
    omega) (by rw [hR]; exact hCe.1) (by rw [hR]; exact hCe.2) rfl fun H1 cA e1 z1 o1 hAr hNm => ?_
  have hcA : D.2.1 10 = cA := by
    have h2 : s.vm.findClass ("[" ++ (FieldType.toString .long)) = some (D.2.1 10) := (hE.2.1.2 2 _ rfl).2
    exact Option.some.inj (h2.symm.trans hNm)
  have h9 := kk ls H1 locs hll hL (List.forall_mem_cons.mpr ⟨True.intro, hs⟩) (xH_push hH hE.1 hn z1 o1 (by
    rw [xe_arrL rfl]
    show H1[D.1 n]? = some (vp_cell _ _)
    rw [hq, e1, vp_cell_l, hcA]
    rfl))
  rw [List.map_cons, show xc D.1 (xR n) = .ref H.size from by rw [← hq]; rfl] at h9
  exact h9
theorem x_newR {Γ : xΓ} {own : String} {cc : ByteArray} {nL fr lo mc ms : Nat} (G : xG Γ own cc nL fr lo mc ms) {cells slots n pc : Nat} {T : xT} {L : List (Nat × xV)} {st : List xV} {M : xM} {z : Int} {N idx : Nat} (hz : z = N) (hN : N ≤ 100000) (w1 : Cond.classLink own idx "FairDraws$State" ∈ WS) (hn : n < 1000000) (hCe : cells + 1 ≤ mc ∧ slots + N ≤ ms) (hd : decode cc pc = .ok (.anewarray idx, 3)) (kk : xX Γ (cells + 1) (slots + N) (n + 1) (xTn T n 12 N) (pc + 3) L (xR n :: st) (xsr M n fun _ => 0)) : xX Γ cells slots n T pc L (xI z :: st) M := by
  obtain ⟨D, p, l, e, R, s, m, args, below, meth, c, Q⟩ := Γ
  obtain ⟨hx, hb, hml, hown, hts, hE, hB, hR⟩ := G
  subst hz
  intro ls H locs hll hL hs hH
  obtain ⟨hv, hs⟩ := List.forall_mem_cons.mp hs
  have hv : i32 (N : Int) := hv
  have hq : D.1 n = H.size := by rw [hE.1 n hn, hH.2.2.2.2]
  have hnat : (Int32.ofInt N).toNatClampNeg = N := by rw [x_nat hv]; rfl
  refine W.anew hx hb hown (hts _ w1) (va_AO.use hE.2.2.2.2.1) rfl hd rfl (n := Int32.ofInt N) (by
    intro h
    have := (x_lt hv (y := 0) (by decide)).mp h
    omega) (by rw [hnat]; omega) (by rw [hR]; exact hCe.1) (by rw [hR, hnat]; exact hCe.2) fun cA kA comp f1 f2 f3 f4 => ?_
  rw [hnat]
  have hcA : D.2.1 12 = cA := by
    obtain ⟨kA', comp', k1, k2, k3, k4⟩ := (hE.2.1.2 4 _ rfl).2
    exact Option.some.inj (k4.symm.trans f1)
  have h9 := kk ls (H.push { cls := cA, slots := Array.replicate N .null, vm := .none }) locs hll hL (List.forall_mem_cons.mpr ⟨True.intro, hs⟩) (xH_push hH hE.1 hn (by rw [Array.size_push]) (fun q hq => by rw [Array.getElem?_push, if_neg (Nat.ne_of_lt hq)]) (by
    rw [xe_arrR rfl]
    show (H.push _)[D.1 n]? = some (vp_cell _ _)
    rw [hq, vp_cell_q, Array.getElem?_push_size, hcA, arrV_new]
    rfl))
  rw [List.map_cons, show xc D.1 (xR n) = .ref H.size from by rw [← hq]; rfl] at h9
  exact h9
theorem x_objInit {Γ : xΓ} {own : String} {cc : ByteArray} {nL fr lo mc ms : Nat} (G : xG Γ own cc nL fr lo mc ms) {cells slots n pc : Nat} {T : xT} {L : List (Nat × xV)} {st : List xV} {M : xM} {a idx : Nat} (w1 : Cond.methodLink own idx Lib.objectInit ∈ WS) (w2 : Cond.instanceMethod Lib.objectInit ∈ WS) (w3 : Cond.code Lib.objectInit ⟨#[0xb1]⟩ 1 none ∈ WS) (hRo : 1 ≤ fr ∧ 20 ≤ lo) (hcat : (st.map xcat).sum ≤ 8) (hd : decode cc pc = .ok (.invokespecial idx, 3)) (kk : xX Γ cells slots n T (pc + 3) L st M) : xX Γ cells slots n T pc L (xR a :: st) M := by
  obtain ⟨D, p, l, e, R, s, m, args, below, meth, c, Q⟩ := Γ
  obtain ⟨hx, hb, hml, hown, hts, hE, hB, hR⟩ := G
  intro ls H locs hll hL hs hH
  have h8 := xroom (m := m) (pc := pc) (ls := ls) (σ := D.1) (st0 := (xR a :: st).map (xc D.1)) hcat
  exact W.objInit hx hb hown (hts _ w1) (hts _ w2) (hts _ w3) rfl (by rw [hml]; rw [← hml]; exact hll.1) rfl hd (by rw [hR]; exact hRo.1) (by rw [hR]; show _ ≤ lo; omega) (kk ls H locs hll hL (List.forall_mem_cons.mp hs).2 hH)
theorem x_min {Γ : xΓ} {own : String} {cc : ByteArray} {nL fr lo mc ms : Nat} (G : xG Γ own cc nL fr lo mc ms) {cells slots n pc : Nat} {T : xT} {L : List (Nat × xV)} {st : List xV} {M : xM} {x y : Int} {idx : Nat} (w1 : Cond.methodLink own idx Lib.Math.min.name ∈ WS) (w2 : Cond.static Lib.Math.min.name ∈ WS) (w3 : Cond.initialized "java/lang/Math" ∈ WS) (w4 : Cond.code Lib.Math.min.name Lib.Math.min.code 2 (some .int) ∈ WS) (hRo : 1 ≤ fr ∧ 21 ≤ lo) (hCe : cells ≤ mc ∧ slots ≤ ms) (hcat : (st.map xcat).sum ≤ 8) (hd : decode cc pc = .ok (.invokestatic idx, 3)) (kk : xX Γ cells slots n T (pc + 3) L (xI (if y < x then y else x) :: st) M) : xX Γ cells slots n T pc L (xI y :: xI x :: st) M := by
  obtain ⟨D, p, l, e, R, s, m, args, below, meth, c, Q⟩ := Γ
  obtain ⟨hx, hb, hml, hown, hts, hE, hB, hR⟩ := G
  intro ls H locs hll hL hs hH
  obtain ⟨hy, hs⟩ := List.forall_mem_cons.mp hs
  obtain ⟨hxx, hs⟩ := List.forall_mem_cons.mp hs
  have e : (st.map (xc D.1)).map (fun v => v.category) = st.map xcat := by
    rw [List.map_map]
    exact List.map_congr_left fun v _ => xcat_eq D.1 v
  refine va_mmin hx hb hll.1.symm hown (hts _ w1) (hts _ w2) (hts _ w3) (hts _ w4) (by rw [hR]; exact hRo.1) (by rw [hR, e]; show _ ≤ lo; omega) (by rw [hR]; exact hCe.1) (by rw [hR]; exact hCe.2) hd ?_
  have h9 := kk ls H locs hll hL (List.forall_mem_cons.mpr ⟨by split; exact hy; exact hxx, hs⟩) hH
  rw [List.map_cons] at h9
  rw [show (if Int32.ofInt y < Int32.ofInt x then Int32.ofInt y else Int32.ofInt x) = Int32.ofInt (if y < x then y else x) by
    by_cases h : y < x
    · rw [if_pos h, if_pos ((x_lt hy hxx).mpr h)]
    · rw [if_neg h, if_neg (fun q => h ((x_lt hy hxx).mp q))]]
  exact h9
theorem x_abs {Γ : xΓ} {own : String} {cc : ByteArray} {nL fr lo mc ms : Nat} (G : xG Γ own cc nL fr lo mc ms) {cells slots n pc : Nat} {T : xT} {L : List (Nat × xV)} {st : List xV} {M : xM} {x : Int} {idx : Nat} (h0 : -1000000 ≤ x) (w1 : Cond.methodLink own idx Lib.Math.abs.name ∈ WS) (w2 : Cond.static Lib.Math.abs.name ∈ WS) (w3 : Cond.initialized "java/lang/Math" ∈ WS) (w4 : Cond.code Lib.Math.abs.name Lib.Math.abs.code 1 (some .int) ∈ WS) (hRo : 1 ≤ fr ∧ 21 ≤ lo) (hCe : cells ≤ mc ∧ slots ≤ ms) (hcat : (st.map xcat).sum ≤ 8) (hd : decode cc pc = .ok (.invokestatic idx, 3)) (kk : xX Γ cells slots n T (pc + 3) L (xI (if 0 ≤ x then x else -x) :: st) M) : xX Γ cells slots n T pc L (xI x :: st) M := by
  obtain ⟨D, p, l, e, R, s, m, args, below, meth, c, Q⟩ := Γ
  obtain ⟨hx, hb, hml, hown, hts, hE, hB, hR⟩ := G
  intro ls H locs hll hL hs hH
  obtain ⟨hxx, hs⟩ := List.forall_mem_cons.mp hs
  have hxx : i32 x := hxx
  have e : (st.map (xc D.1)).map (fun v => v.category) = st.map xcat := by
    rw [List.map_map]
    exact List.map_congr_left fun v _ => xcat_eq D.1 v
  refine va_mabs hx hb hll.1.symm hown (hts _ w1) (hts _ w2) (hts _ w3) (hts _ w4) (by rw [hR]; exact hRo.1) (by rw [hR, e]; show _ ≤ lo; omega) (by rw [hR]; exact hCe.1) (by rw [hR]; exact hCe.2) hd ?_
  have h9 := kk ls H locs hll hL (List.forall_mem_cons.mpr ⟨by show i32 _; split <;> omega, hs⟩) hH
  rw [List.map_cons] at h9
  rw [show (if (0 : Int32) ≤ Int32.ofInt x then Int32.ofInt x else 0 - Int32.ofInt x) = Int32.ofInt (if 0 ≤ x then x else -x) by
    have h2 := x_le (x := 0) (y := x) (by decide) hxx
    rw [show Int32.ofInt 0 = 0 from rfl] at h2
    by_cases h : 0 ≤ x
    · rw [if_pos h, if_pos (h2.mpr h)]
    · rw [if_neg h, if_neg (fun q => h (h2.mp q)), Int32.ofInt_neg]; simp]
  exact h9
end
section
theorem inst_objInit : Cond.instanceMethod Lib.objectInit ∈ WS := wm1 22 rfl rfl
theorem code_objInit : Cond.code Lib.objectInit ⟨#[0xb1]⟩ 1 none ∈ WS := wm1 23 rfl rfl
theorem stat_min : Cond.static Lib.Math.min.name ∈ WS := wm2 113 rfl rfl
theorem code_min : Cond.code Lib.Math.min.name Lib.Math.min.code 2 (some .int) ∈ WS := wm2 114 rfl rfl
theorem stat_abs : Cond.static Lib.Math.abs.name ∈ WS := wm4 134 rfl rfl
theorem code_abs : Cond.code Lib.Math.abs.name Lib.Math.abs.code 1 (some .int) ∈ WS := wm4 135 rfl rfl
theorem ini_Math : Cond.initialized "java/lang/Math" ∈ WS := wm1 13 rfl rfl
abbrev uX0_init : xY := (yX0_init, cX0_init, 2, none)
theorem hy_X0_init : xYb uX0_init 0 := ⟨wm1 127 rfl rfl, wm1 4 rfl rfl, by decide +kernel⟩
theorem hi_X0_init : Cond.instanceMethod yX0_init ∈ WS := wm1 126 rfl rfl
abbrev uX0_add : xY := (yX0_add, cX0_add, 2, none)
theorem hy_X0_add : xYb uX0_add 1 := ⟨wm2 230 rfl rfl, wm1 4 rfl rfl, by decide +kernel⟩
theorem hi_X0_add : Cond.instanceMethod yX0_add ∈ WS := wm2 228 rfl rfl
theorem hs_X0_add : Cond.selects yX0_add.cls yX0_add yX0_add ∈ WS := wm2 229 rfl rfl
abbrev uX0_restore : xY := (yX0_restore, cX0_restore, 2, (some .boolean))
theorem hy_X0_restore : xYb uX0_restore 1 := ⟨wm3 135 rfl rfl, wm1 4 rfl rfl, by decide +kernel⟩
theorem hi_X0_restore : Cond.instanceMethod yX0_restore ∈ WS := wm3 133 rfl rfl
theorem hs_X0_restore : Cond.selects yX0_restore.cls yX0_restore yX0_restore ∈ WS := wm3 134 rfl rfl
abbrev uX0_clear : xY := (yX0_clear, cX0_clear, 1, none)
theorem hy_X0_clear : xYb uX0_clear 0 := ⟨wm2 212 rfl rfl, wm1 4 rfl rfl, by decide +kernel⟩
theorem hi_X0_clear : Cond.instanceMethod yX0_clear ∈ WS := wm2 210 rfl rfl
theorem hs_X0_clear : Cond.selects yX0_clear.cls yX0_clear yX0_clear ∈ WS := wm2 211 rfl rfl
abbrev uX1_init : xY := (yX1_init, cX1_init, 1, none)
theorem hy_X1_init : xYb uX1_init 0 := ⟨wm1 34 rfl rfl, wm1 3 rfl rfl, by decide +kernel⟩
theorem hi_X1_init : Cond.instanceMethod yX1_init ∈ WS := wm1 33 rfl rfl
abbrev uX1_compare : xY := (yX1_compare, cX1_compare, 6, (some .int))
theorem hy_X1_compare : xYb uX1_compare 4 := ⟨wm2 190 rfl rfl, wm1 3 rfl rfl, by decide +kernel⟩
theorem hi_X1_compare : Cond.instanceMethod yX1_compare ∈ WS := wm2 188 rfl rfl
theorem hs_X1_compare : Cond.selects yX1_compare.cls yX1_compare yX1_compare ∈ WS := wm2 189 rfl rfl
abbrev uX1_isPart : xY := (yX1_isPart, cX1_isPart, 5, (some .boolean))
theorem hy_X1_isPart : xYb uX1_isPart 4 := ⟨wm3 193 rfl rfl, wm1 3 rfl rfl, by decide +kernel⟩
theorem hi_X1_isPart : Cond.instanceMethod yX1_isPart ∈ WS := wm3 191 rfl rfl
theorem hs_X1_isPart : Cond.selects yX1_isPart.cls yX1_isPart yX1_isPart ∈ WS := wm3 192 rfl rfl
abbrev uX1_setToOne : xY := (yX1_setToOne, cX1_setToOne, 2, none)
theorem hy_X1_setToOne : xYb uX1_setToOne 1 := ⟨wm2 197 rfl rfl, wm1 3 rfl rfl, by decide +kernel⟩
theorem ht_X1_setToOne : Cond.static yX1_setToOne ∈ WS := wm2 196 rfl rfl
abbrev uX1_multiply : xY := (yX1_multiply, cX1_multiply, 9, none)
theorem hy_X1_multiply : xYb uX1_multiply 3 := ⟨wm2 200 rfl rfl, wm1 3 rfl rfl, by decide +kernel⟩
theorem ht_X1_multiply : Cond.static yX1_multiply ∈ WS := wm2 199 rfl rfl
abbrev uX1_compareRows : xY := (yX1_compareRows, cX1_compareRows, 2, (some .int))
theorem hy_X1_compareRows : xYb uX1_compareRows 0 := ⟨wm2 205 rfl rfl, wm1 3 rfl rfl, by decide +kernel⟩
theorem hi_X1_compareRows : Cond.instanceMethod yX1_compareRows ∈ WS := wm2 204 rfl rfl
theorem hs_X1_compareRows : Cond.selects yX1_compareRows.cls yX1_compareRows yX1_compareRows ∈ WS := ws1 14 rfl
abbrev uX2_init : xY := (yX2_init, cX2_init, 1, none)
theorem hy_X2_init : xYb uX2_init 0 := ⟨wm1 173 rfl rfl, wm1 6 rfl rfl, by decide +kernel⟩
theorem hi_X2_init : Cond.instanceMethod yX2_init ∈ WS := wm1 172 rfl rfl
abbrev uX2_take : xY := (yX2_take, cX2_take, 3, none)
theorem hy_X2_take : xYb uX2_take 2 := ⟨wm3 72 rfl rfl, wm1 6 rfl rfl, by decide +kernel⟩
theorem hi_X2_take : Cond.instanceMethod yX2_take ∈ WS := wm3 70 rfl rfl
theorem hs_X2_take : Cond.selects yX2_take.cls yX2_take yX2_take ∈ WS := wm3 71 rfl rfl
abbrev uX2_ask : xY := (yX2_ask, cX2_ask, 3, none)
theorem hy_X2_ask : xYb uX2_ask 2 := ⟨wm3 76 rfl rfl, wm1 6 rfl rfl, by decide +kernel⟩
theorem hi_X2_ask : Cond.instanceMethod yX2_ask ∈ WS := wm3 74 rfl rfl
theorem hs_X2_ask : Cond.selects yX2_ask.cls yX2_ask yX2_ask ∈ WS := wm3 75 rfl rfl
abbrev uX2_fill : xY := (yX2_fill, cX2_fill, 5, none)
theorem hy_X2_fill : xYb uX2_fill 1 := ⟨wm3 80 rfl rfl, wm1 6 rfl rfl, by decide +kernel⟩
theorem hi_X2_fill : Cond.instanceMethod yX2_fill ∈ WS := wm3 78 rfl rfl
theorem hs_X2_fill : Cond.selects yX2_fill.cls yX2_fill yX2_fill ∈ WS := wm3 79 rfl rfl
abbrev uX2_isAskedFor : xY := (yX2_isAskedFor, cX2_isAskedFor, 3, (some .boolean))
theorem hy_X2_isAskedFor : xYb uX2_isAskedFor 2 := ⟨wm3 84 rfl rfl, wm1 6 rfl rfl, by decide +kernel⟩
theorem hi_X2_isAskedFor : Cond.instanceMethod yX2_isAskedFor ∈ WS := wm3 83 rfl rfl
theorem hs_X2_isAskedFor : Cond.selects yX2_isAskedFor.cls yX2_isAskedFor yX2_isAskedFor ∈ WS := ws2 0 rfl
abbrev uX2_kth : xY := (yX2_kth, cX2_kth, 2, (some .int))
theorem hy_X2_kth : xYb uX2_kth 1 := ⟨wm3 201 rfl rfl, wm1 6 rfl rfl, by decide +kernel⟩
theorem hi_X2_kth : Cond.instanceMethod yX2_kth ∈ WS := wm3 199 rfl rfl
theorem hs_X2_kth : Cond.selects yX2_kth.cls yX2_kth yX2_kth ∈ WS := wm3 200 rfl rfl
abbrev uX2_lastOne : xY := (yX2_lastOne, cX2_lastOne, 1, (some .int))
theorem hy_X2_lastOne : xYb uX2_lastOne 0 := ⟨wm3 232 rfl rfl, wm1 6 rfl rfl, by decide +kernel⟩
theorem hi_X2_lastOne : Cond.instanceMethod yX2_lastOne ∈ WS := wm3 230 rfl rfl
theorem hs_X2_lastOne : Cond.selects yX2_lastOne.cls yX2_lastOne yX2_lastOne ∈ WS := wm3 231 rfl rfl
abbrev uX2_placeOf : xY := (yX2_placeOf, cX2_placeOf, 3, (some .int))
theorem hy_X2_placeOf : xYb uX2_placeOf 1 := ⟨wm3 92 rfl rfl, wm1 6 rfl rfl, by decide +kernel⟩
theorem hi_X2_placeOf : Cond.instanceMethod yX2_placeOf ∈ WS := wm3 90 rfl rfl
theorem hs_X2_placeOf : Cond.selects yX2_placeOf.cls yX2_placeOf yX2_placeOf ∈ WS := wm3 91 rfl rfl
abbrev uX2_isLike : xY := (yX2_isLike, cX2_isLike, 4, (some .boolean))
theorem hy_X2_isLike : xYb uX2_isLike 1 := ⟨wm4 143 rfl rfl, wm1 6 rfl rfl, by decide +kernel⟩
theorem hi_X2_isLike : Cond.instanceMethod yX2_isLike ∈ WS := wm4 141 rfl rfl
theorem hs_X2_isLike : Cond.selects yX2_isLike.cls yX2_isLike yX2_isLike ∈ WS := wm4 142 rfl rfl
abbrev uX3_init : xY := (yX3_init, cX3_init, 1, none)
theorem hy_X3_init : xYb uX3_init 0 := ⟨wm1 28 rfl rfl, wm1 2 rfl rfl, by decide +kernel⟩
theorem hi_X3_init : Cond.instanceMethod yX3_init ∈ WS := wm1 27 rfl rfl
abbrev uX3_reset : xY := (yX3_reset, cX3_reset, 2, none)
theorem hy_X3_reset : xYb uX3_reset 0 := ⟨wm1 47 rfl rfl, wm1 2 rfl rfl, by decide +kernel⟩
theorem hi_X3_reset : Cond.instanceMethod yX3_reset ∈ WS := wm1 45 rfl rfl
theorem hs_X3_reset : Cond.selects yX3_reset.cls yX3_reset yX3_reset ∈ WS := wm1 46 rfl rfl
abbrev uX3_copyFrom : xY := (yX3_copyFrom, cX3_copyFrom, 3, none)
theorem hy_X3_copyFrom : xYb uX3_copyFrom 1 := ⟨wm2 170 rfl rfl, wm1 2 rfl rfl, by decide +kernel⟩
theorem hi_X3_copyFrom : Cond.instanceMethod yX3_copyFrom ∈ WS := wm2 168 rfl rfl
theorem hs_X3_copyFrom : Cond.selects yX3_copyFrom.cls yX3_copyFrom yX3_copyFrom ∈ WS := wm2 169 rfl rfl
abbrev uX3_hasItem : xY := (yX3_hasItem, cX3_hasItem, 2, (some .boolean))
theorem hy_X3_hasItem : xYb uX3_hasItem 1 := ⟨wm3 30 rfl rfl, wm1 2 rfl rfl, by decide +kernel⟩
theorem hi_X3_hasItem : Cond.instanceMethod yX3_hasItem ∈ WS := wm3 28 rfl rfl
theorem hs_X3_hasItem : Cond.selects yX3_hasItem.cls yX3_hasItem yX3_hasItem ∈ WS := wm3 29 rfl rfl
abbrev uX3_hasUndropped : xY := (yX3_hasUndropped, cX3_hasUndropped, 2, (some .boolean))
theorem hy_X3_hasUndropped : xYb uX3_hasUndropped 1 := ⟨wm3 26 rfl rfl, wm1 2 rfl rfl, by decide +kernel⟩
theorem hi_X3_hasUndropped : Cond.instanceMethod yX3_hasUndropped ∈ WS := wm3 24 rfl rfl
theorem hs_X3_hasUndropped : Cond.selects yX3_hasUndropped.cls yX3_hasUndropped yX3_hasUndropped ∈ WS := wm3 25 rfl rfl
abbrev uX3_drawLot : xY := (yX3_drawLot, cX3_drawLot, 1, (some .int))
theorem hy_X3_drawLot : xYb uX3_drawLot 0 := ⟨wm2 149 rfl rfl, wm1 2 rfl rfl, by decide +kernel⟩
theorem hi_X3_drawLot : Cond.instanceMethod yX3_drawLot ∈ WS := wm2 147 rfl rfl
theorem hs_X3_drawLot : Cond.selects yX3_drawLot.cls yX3_drawLot yX3_drawLot ∈ WS := wm2 148 rfl rfl
abbrev uX3_addRanked : xY := (yX3_addRanked, cX3_addRanked, 6, (some .int))
theorem hy_X3_addRanked : xYb uX3_addRanked 4 := ⟨wm2 237 rfl rfl, wm1 2 rfl rfl, by decide +kernel⟩
theorem hi_X3_addRanked : Cond.instanceMethod yX3_addRanked ∈ WS := wm2 235 rfl rfl
theorem hs_X3_addRanked : Cond.selects yX3_addRanked.cls yX3_addRanked yX3_addRanked ∈ WS := wm2 236 rfl rfl
abbrev uX3_add : xY := (yX3_add, cX3_add, 6, (some .int))
theorem hy_X3_add : xYb uX3_add 4 := ⟨wm2 161 rfl rfl, wm1 2 rfl rfl, by decide +kernel⟩
theorem hi_X3_add : Cond.instanceMethod yX3_add ∈ WS := wm2 159 rfl rfl
theorem hs_X3_add : Cond.selects yX3_add.cls yX3_add yX3_add ∈ WS := wm2 160 rfl rfl
abbrev uX3_rankAll : xY := (yX3_rankAll, cX3_rankAll, 2, none)
theorem hy_X3_rankAll : xYb uX3_rankAll 0 := ⟨wm2 174 rfl rfl, wm1 2 rfl rfl, by decide +kernel⟩
theorem hi_X3_rankAll : Cond.instanceMethod yX3_rankAll ∈ WS := wm2 172 rfl rfl
theorem hs_X3_rankAll : Cond.selects yX3_rankAll.cls yX3_rankAll yX3_rankAll ∈ WS := wm2 173 rfl rfl
abbrev uX3_rank : xY := (yX3_rank, cX3_rank, 4, none)
theorem hy_X3_rank : xYb uX3_rank 1 := ⟨wm2 178 rfl rfl, wm1 2 rfl rfl, by decide +kernel⟩
theorem hi_X3_rank : Cond.instanceMethod yX3_rank ∈ WS := wm2 177 rfl rfl
theorem hs_X3_rank : Cond.selects yX3_rank.cls yX3_rank yX3_rank ∈ WS := ws1 13 rfl
abbrev uX3_isAhead : xY := (yX3_isAhead, cX3_isAhead, 3, (some .boolean))
theorem hy_X3_isAhead : xYb uX3_isAhead 2 := ⟨wm2 182 rfl rfl, wm1 2 rfl rfl, by decide +kernel⟩
theorem hi_X3_isAhead : Cond.instanceMethod yX3_isAhead ∈ WS := wm2 180 rfl rfl
theorem hs_X3_isAhead : Cond.selects yX3_isAhead.cls yX3_isAhead yX3_isAhead ∈ WS := wm2 181 rfl rfl
abbrev uX3_wouldBeAhead : xY := (yX3_wouldBeAhead, cX3_wouldBeAhead, 5, (some .boolean))
theorem hy_X3_wouldBeAhead : xYb uX3_wouldBeAhead 3 := ⟨wm2 186 rfl rfl, wm1 2 rfl rfl, by decide +kernel⟩
theorem hi_X3_wouldBeAhead : Cond.instanceMethod yX3_wouldBeAhead ∈ WS := wm2 184 rfl rfl
theorem hs_X3_wouldBeAhead : Cond.selects yX3_wouldBeAhead.cls yX3_wouldBeAhead yX3_wouldBeAhead ∈ WS := wm2 185 rfl rfl
abbrev uX3_compareKeys : xY := (yX3_compareKeys, cX3_compareKeys, 3, (some .int))
theorem hy_X3_compareKeys : xYb uX3_compareKeys 2 := ⟨wm3 177 rfl rfl, wm1 2 rfl rfl, by decide +kernel⟩
theorem hi_X3_compareKeys : Cond.instanceMethod yX3_compareKeys ∈ WS := wm3 175 rfl rfl
theorem hs_X3_compareKeys : Cond.selects yX3_compareKeys.cls yX3_compareKeys yX3_compareKeys ∈ WS := wm3 176 rfl rfl
abbrev uX3_compareToKey : xY := (yX3_compareToKey, cX3_compareToKey, 4, (some .int))
theorem hy_X3_compareToKey : xYb uX3_compareToKey 3 := ⟨wm3 181 rfl rfl, wm1 2 rfl rfl, by decide +kernel⟩
theorem hi_X3_compareToKey : Cond.instanceMethod yX3_compareToKey ∈ WS := wm3 179 rfl rfl
theorem hs_X3_compareToKey : Cond.selects yX3_compareToKey.cls yX3_compareToKey yX3_compareToKey ∈ WS := wm3 180 rfl rfl
abbrev uX3_isPartOfKey : xY := (yX3_isPartOfKey, cX3_isPartOfKey, 4, (some .boolean))
theorem hy_X3_isPartOfKey : xYb uX3_isPartOfKey 3 := ⟨wm3 189 rfl rfl, wm1 2 rfl rfl, by decide +kernel⟩
theorem hi_X3_isPartOfKey : Cond.instanceMethod yX3_isPartOfKey ∈ WS := wm3 187 rfl rfl
theorem hs_X3_isPartOfKey : Cond.selects yX3_isPartOfKey.cls yX3_isPartOfKey yX3_isPartOfKey ∈ WS := wm3 188 rfl rfl
abbrev uX3_isAlive : xY := (yX3_isAlive, cX3_isAlive, 2, (some .boolean))
theorem hy_X3_isAlive : xYb uX3_isAlive 1 := ⟨wm3 121 rfl rfl, wm1 2 rfl rfl, by decide +kernel⟩
theorem hi_X3_isAlive : Cond.instanceMethod yX3_isAlive ∈ WS := wm3 119 rfl rfl
theorem hs_X3_isAlive : Cond.selects yX3_isAlive.cls yX3_isAlive yX3_isAlive ∈ WS := wm3 120 rfl rfl
abbrev uX3_isAliveAt : xY := (yX3_isAliveAt, cX3_isAliveAt, 4, (some .boolean))
theorem hy_X3_isAliveAt : xYb uX3_isAliveAt 2 := ⟨wm3 88 rfl rfl, wm1 2 rfl rfl, by decide +kernel⟩
theorem hi_X3_isAliveAt : Cond.instanceMethod yX3_isAliveAt ∈ WS := wm3 86 rfl rfl
theorem hs_X3_isAliveAt : Cond.selects yX3_isAliveAt.cls yX3_isAliveAt yX3_isAliveAt ∈ WS := wm3 87 rfl rfl
abbrev uX3_isUndroppedOf : xY := (yX3_isUndroppedOf, cX3_isUndroppedOf, 4, (some .boolean))
theorem hy_X3_isUndroppedOf : xYb uX3_isUndroppedOf 3 := ⟨wm3 47 rfl rfl, wm1 2 rfl rfl, by decide +kernel⟩
theorem hi_X3_isUndroppedOf : Cond.instanceMethod yX3_isUndroppedOf ∈ WS := wm3 45 rfl rfl
theorem hs_X3_isUndroppedOf : Cond.selects yX3_isUndroppedOf.cls yX3_isUndroppedOf yX3_isUndroppedOf ∈ WS := wm3 46 rfl rfl
abbrev uX3_isAliveOf : xY := (yX3_isAliveOf, cX3_isAliveOf, 4, (some .boolean))
theorem hy_X3_isAliveOf : xYb uX3_isAliveOf 3 := ⟨wm3 117 rfl rfl, wm1 2 rfl rfl, by decide +kernel⟩
theorem hi_X3_isAliveOf : Cond.instanceMethod yX3_isAliveOf ∈ WS := wm3 116 rfl rfl
theorem hs_X3_isAliveOf : Cond.selects yX3_isAliveOf.cls yX3_isAliveOf yX3_isAliveOf ∈ WS := ws2 1 rfl
abbrev uX3_countUndropped : xY := (yX3_countUndropped, cX3_countUndropped, 5, (some .int))
theorem hy_X3_countUndropped : xYb uX3_countUndropped 2 := ⟨wm3 43 rfl rfl, wm1 2 rfl rfl, by decide +kernel⟩
theorem hi_X3_countUndropped : Cond.instanceMethod yX3_countUndropped ∈ WS := wm3 41 rfl rfl
theorem hs_X3_countUndropped : Cond.selects yX3_countUndropped.cls yX3_countUndropped yX3_countUndropped ∈ WS := wm3 42 rfl rfl
abbrev uX3_countUndroppedBetween : xY := (yX3_countUndroppedBetween, cX3_countUndroppedBetween, 5, (some .int))
theorem hy_X3_countUndroppedBetween : xYb uX3_countUndroppedBetween 2 := ⟨wm4 58 rfl rfl, wm1 2 rfl rfl, by decide +kernel⟩
theorem hi_X3_countUndroppedBetween : Cond.instanceMethod yX3_countUndroppedBetween ∈ WS := wm4 56 rfl rfl
theorem hs_X3_countUndroppedBetween : Cond.selects yX3_countUndroppedBetween.cls yX3_countUndroppedBetween yX3_countUndroppedBetween ∈ WS := wm4 57 rfl rfl
abbrev uX3_countAlive : xY := (yX3_countAlive, cX3_countAlive, 5, (some .int))
theorem hy_X3_countAlive : xYb uX3_countAlive 2 := ⟨wm3 113 rfl rfl, wm1 2 rfl rfl, by decide +kernel⟩
theorem hi_X3_countAlive : Cond.instanceMethod yX3_countAlive ∈ WS := wm3 111 rfl rfl
theorem hs_X3_countAlive : Cond.selects yX3_countAlive.cls yX3_countAlive yX3_countAlive ∈ WS := wm3 112 rfl rfl
abbrev uX3_weightAlive : xY := (yX3_weightAlive, cX3_weightAlive, 5, (some .int))
theorem hy_X3_weightAlive : xYb uX3_weightAlive 2 := ⟨wm4 116 rfl rfl, wm1 2 rfl rfl, by decide +kernel⟩
theorem hi_X3_weightAlive : Cond.instanceMethod yX3_weightAlive ∈ WS := wm4 114 rfl rfl
theorem hs_X3_weightAlive : Cond.selects yX3_weightAlive.cls yX3_weightAlive yX3_weightAlive ∈ WS := wm4 115 rfl rfl
abbrev uX4_init : xY := (yX4_init, cX4_init, 1, none)
theorem hy_X4_init : xYb uX4_init 0 := ⟨wm1 147 rfl rfl, wm1 5 rfl rfl, by decide +kernel⟩
theorem hi_X4_init : Cond.instanceMethod yX4_init ∈ WS := wm1 146 rfl rfl
abbrev uX4_append : xY := (yX4_append, cX4_append, 3, none)
theorem hy_X4_append : xYb uX4_append 1 := ⟨wm2 20 rfl rfl, wm1 5 rfl rfl, by decide +kernel⟩
theorem hi_X4_append : Cond.instanceMethod yX4_append ∈ WS := wm2 18 rfl rfl
theorem hs_X4_append : Cond.selects yX4_append.cls yX4_append yX4_append ∈ WS := wm2 19 rfl rfl
abbrev uX4_read : xY := (yX4_read, cX4_read, 2, (some .int))
theorem hy_X4_read : xYb uX4_read 0 := ⟨wm2 35 rfl rfl, wm1 5 rfl rfl, by decide +kernel⟩
theorem hi_X4_read : Cond.instanceMethod yX4_read ∈ WS := wm2 33 rfl rfl
theorem hs_X4_read : Cond.selects yX4_read.cls yX4_read yX4_read ∈ WS := wm2 34 rfl rfl
abbrev uX4_readStatement : xY := (yX4_readStatement, cX4_readStatement, 2, none)
theorem hy_X4_readStatement : xYb uX4_readStatement 0 := ⟨wm2 40 rfl rfl, wm1 5 rfl rfl, by decide +kernel⟩
theorem hi_X4_readStatement : Cond.instanceMethod yX4_readStatement ∈ WS := wm2 39 rfl rfl
theorem hs_X4_readStatement : Cond.selects yX4_readStatement.cls yX4_readStatement yX4_readStatement ∈ WS := ws1 0 rfl
abbrev uX4_readSize : xY := (yX4_readSize, cX4_readSize, 3, none)
theorem hy_X4_readSize : xYb uX4_readSize 0 := ⟨wm2 106 rfl rfl, wm1 5 rfl rfl, by decide +kernel⟩
theorem hi_X4_readSize : Cond.instanceMethod yX4_readSize ∈ WS := wm2 105 rfl rfl
theorem hs_X4_readSize : Cond.selects yX4_readSize.cls yX4_readSize yX4_readSize ∈ WS := ws1 4 rfl
abbrev uX4_readWindow : xY := (yX4_readWindow, cX4_readWindow, 3, none)
theorem hy_X4_readWindow : xYb uX4_readWindow 0 := ⟨wm2 123 rfl rfl, wm1 5 rfl rfl, by decide +kernel⟩
theorem hi_X4_readWindow : Cond.instanceMethod yX4_readWindow ∈ WS := wm2 122 rfl rfl
theorem hs_X4_readWindow : Cond.selects yX4_readWindow.cls yX4_readWindow yX4_readWindow ∈ WS := ws1 7 rfl
abbrev uX4_readSeed : xY := (yX4_readSeed, cX4_readSeed, 2, none)
theorem hy_X4_readSeed : xYb uX4_readSeed 0 := ⟨wm2 128 rfl rfl, wm1 5 rfl rfl, by decide +kernel⟩
theorem hi_X4_readSeed : Cond.instanceMethod yX4_readSeed ∈ WS := wm2 127 rfl rfl
theorem hs_X4_readSeed : Cond.selects yX4_readSeed.cls yX4_readSeed yX4_readSeed ∈ WS := ws1 8 rfl
abbrev uX4_readWait : xY := (yX4_readWait, cX4_readWait, 3, none)
theorem hy_X4_readWait : xYb uX4_readWait 1 := ⟨wm2 134 rfl rfl, wm1 5 rfl rfl, by decide +kernel⟩
theorem hi_X4_readWait : Cond.instanceMethod yX4_readWait ∈ WS := wm2 133 rfl rfl
theorem hs_X4_readWait : Cond.selects yX4_readWait.cls yX4_readWait yX4_readWait ∈ WS := ws1 9 rfl
abbrev uX4_readItems : xY := (yX4_readItems, cX4_readItems, 7, none)
theorem hy_X4_readItems : xYb uX4_readItems 1 := ⟨wm2 140 rfl rfl, wm1 5 rfl rfl, by decide +kernel⟩
theorem hi_X4_readItems : Cond.instanceMethod yX4_readItems ∈ WS := wm2 139 rfl rfl
theorem hs_X4_readItems : Cond.selects yX4_readItems.cls yX4_readItems yX4_readItems ∈ WS := ws1 10 rfl
abbrev uX4_readKey : xY := (yX4_readKey, cX4_readKey, 6, none)
theorem hy_X4_readKey : xYb uX4_readKey 1 := ⟨wm2 166 rfl rfl, wm1 5 rfl rfl, by decide +kernel⟩
theorem hi_X4_readKey : Cond.instanceMethod yX4_readKey ∈ WS := wm2 165 rfl rfl
theorem hs_X4_readKey : Cond.selects yX4_readKey.cls yX4_readKey yX4_readKey ∈ WS := ws1 12 rfl
abbrev uX4_number : xY := (yX4_number, cX4_number, 5, (some .int))
theorem hy_X4_number : xYb uX4_number 2 := ⟨wm2 110 rfl rfl, wm1 5 rfl rfl, by decide +kernel⟩
theorem hi_X4_number : Cond.instanceMethod yX4_number ∈ WS := wm2 109 rfl rfl
theorem hs_X4_number : Cond.selects yX4_number.cls yX4_number yX4_number ∈ WS := ws1 5 rfl
abbrev uX4_label : xY := (yX4_label, cX4_label, 2, (some .int))
theorem hy_X4_label : xYb uX4_label 0 := ⟨wm2 144 rfl rfl, wm1 5 rfl rfl, by decide +kernel⟩
theorem hi_X4_label : Cond.instanceMethod yX4_label ∈ WS := wm2 143 rfl rfl
theorem hs_X4_label : Cond.selects yX4_label.cls yX4_label yX4_label ∈ WS := ws1 11 rfl
abbrev uX4_takes : xY := (yX4_takes, cX4_takes, 4, (some .boolean))
theorem hy_X4_takes : xYb uX4_takes 1 := ⟨wm2 49 rfl rfl, wm1 5 rfl rfl, by decide +kernel⟩
theorem hi_X4_takes : Cond.instanceMethod yX4_takes ∈ WS := wm2 48 rfl rfl
theorem hs_X4_takes : Cond.selects yX4_takes.cls yX4_takes yX4_takes ∈ WS := ws1 2 rfl
abbrev uX4_skipBlanks : xY := (yX4_skipBlanks, cX4_skipBlanks, 1, none)
theorem hy_X4_skipBlanks : xYb uX4_skipBlanks 0 := ⟨wm2 44 rfl rfl, wm1 5 rfl rfl, by decide +kernel⟩
theorem hi_X4_skipBlanks : Cond.instanceMethod yX4_skipBlanks ∈ WS := wm2 43 rfl rfl
theorem hs_X4_skipBlanks : Cond.selects yX4_skipBlanks.cls yX4_skipBlanks yX4_skipBlanks ∈ WS := ws1 1 rfl
abbrev uX4_isLetter : xY := (yX4_isLetter, cX4_isLetter, 2, (some .boolean))
theorem hy_X4_isLetter : xYb uX4_isLetter 1 := ⟨wm2 63 rfl rfl, wm1 5 rfl rfl, by decide +kernel⟩
theorem hi_X4_isLetter : Cond.instanceMethod yX4_isLetter ∈ WS := wm2 62 rfl rfl
theorem hs_X4_isLetter : Cond.selects yX4_isLetter.cls yX4_isLetter yX4_isLetter ∈ WS := ws1 3 rfl
abbrev uX4_meet : xY := (yX4_meet, cX4_meet, 3, none)
theorem hy_X4_meet : xYb uX4_meet 2 := ⟨wm2 118 rfl rfl, wm1 5 rfl rfl, by decide +kernel⟩
theorem hi_X4_meet : Cond.instanceMethod yX4_meet ∈ WS := wm2 117 rfl rfl
theorem hs_X4_meet : Cond.selects yX4_meet.cls yX4_meet yX4_meet ∈ WS := ws1 6 rfl
abbrev uX5_init : xY := (yX5_init, cX5_init, 1, none)
theorem hy_X5_init : xYb uX5_init 0 := ⟨wm1 216 rfl rfl, wm1 7 rfl rfl, by decide +kernel⟩
theorem hi_X5_init : Cond.instanceMethod yX5_init ∈ WS := wm1 215 rfl rfl
abbrev uX5_kth : xY := (yX5_kth, cX5_kth, 5, (some .int))
theorem hy_X5_kth : xYb uX5_kth 2 := ⟨wm4 151 rfl rfl, wm1 7 rfl rfl, by decide +kernel⟩
theorem hi_X5_kth : Cond.instanceMethod yX5_kth ∈ WS := wm4 149 rfl rfl
theorem hs_X5_kth : Cond.selects yX5_kth.cls yX5_kth yX5_kth ∈ WS := wm4 150 rfl rfl
abbrev uX5_tellShards : xY := (yX5_tellShards, cX5_tellShards, 3, none)
theorem hy_X5_tellShards : xYb uX5_tellShards 1 := ⟨wm4 155 rfl rfl, wm1 7 rfl rfl, by decide +kernel⟩
theorem hi_X5_tellShards : Cond.instanceMethod yX5_tellShards ∈ WS := wm4 154 rfl rfl
theorem hs_X5_tellShards : Cond.selects yX5_tellShards.cls yX5_tellShards yX5_tellShards ∈ WS := ws3 0 rfl
abbrev uX5_tellItem : xY := (yX5_tellItem, cX5_tellItem, 3, none)
theorem hy_X5_tellItem : xYb uX5_tellItem 2 := ⟨wm4 181 rfl rfl, wm1 7 rfl rfl, by decide +kernel⟩
theorem hi_X5_tellItem : Cond.instanceMethod yX5_tellItem ∈ WS := wm4 180 rfl rfl
theorem hs_X5_tellItem : Cond.selects yX5_tellItem.cls yX5_tellItem yX5_tellItem ∈ WS := ws3 5 rfl
abbrev uX5_tellWaits : xY := (yX5_tellWaits, cX5_tellWaits, 3, none)
theorem hy_X5_tellWaits : xYb uX5_tellWaits 1 := ⟨wm4 175 rfl rfl, wm1 7 rfl rfl, by decide +kernel⟩
theorem hi_X5_tellWaits : Cond.instanceMethod yX5_tellWaits ∈ WS := wm4 174 rfl rfl
theorem hs_X5_tellWaits : Cond.selects yX5_tellWaits.cls yX5_tellWaits yX5_tellWaits ∈ WS := ws3 4 rfl
abbrev uX5_tellWord : xY := (yX5_tellWord, cX5_tellWord, 3, none)
theorem hy_X5_tellWord : xYb uX5_tellWord 1 := ⟨wm4 160 rfl rfl, wm1 7 rfl rfl, by decide +kernel⟩
theorem hi_X5_tellWord : Cond.instanceMethod yX5_tellWord ∈ WS := wm4 159 rfl rfl
theorem hs_X5_tellWord : Cond.selects yX5_tellWord.cls yX5_tellWord yX5_tellWord ∈ WS := ws3 1 rfl
abbrev uX5_tellNumber : xY := (yX5_tellNumber, cX5_tellNumber, 3, none)
theorem hy_X5_tellNumber : xYb uX5_tellNumber 1 := ⟨wm4 170 rfl rfl, wm1 7 rfl rfl, by decide +kernel⟩
theorem hi_X5_tellNumber : Cond.instanceMethod yX5_tellNumber ∈ WS := wm4 169 rfl rfl
theorem hs_X5_tellNumber : Cond.selects yX5_tellNumber.cls yX5_tellNumber yX5_tellNumber ∈ WS := ws3 3 rfl
abbrev uX5_tellByte : xY := (yX5_tellByte, cX5_tellByte, 2, none)
theorem hy_X5_tellByte : xYb uX5_tellByte 1 := ⟨wm4 164 rfl rfl, wm1 7 rfl rfl, by decide +kernel⟩
theorem hi_X5_tellByte : Cond.instanceMethod yX5_tellByte ∈ WS := wm4 163 rfl rfl
theorem hs_X5_tellByte : Cond.selects yX5_tellByte.cls yX5_tellByte yX5_tellByte ∈ WS := ws3 2 rfl
abbrev uX6_init : xY := (yX6_init, cX6_init, 2, none)
theorem hy_X6_init : xYb uX6_init 0 := ⟨wm1 20 rfl rfl, wm1 1 rfl rfl, by decide +kernel⟩
theorem hi_X6_init : Cond.instanceMethod yX6_init ∈ WS := wm1 19 rfl rfl
abbrev uX6_feed : xY := (yX6_feed, cX6_feed, 6, (some .int))
theorem hy_X6_feed : xYb uX6_feed 5 := ⟨wm2 16 rfl rfl, wm1 1 rfl rfl, by decide +kernel⟩
theorem hi_X6_feed : Cond.instanceMethod yX6_feed ∈ WS := wm2 14 rfl rfl
theorem hs_X6_feed : Cond.selects yX6_feed.cls yX6_feed yX6_feed ∈ WS := wm2 15 rfl rfl
abbrev uX6_end : xY := (yX6_end, cX6_end, 2, (some .int))
theorem hy_X6_end : xYb uX6_end 1 := ⟨wm2 24 rfl rfl, wm1 1 rfl rfl, by decide +kernel⟩
theorem hi_X6_end : Cond.instanceMethod yX6_end ∈ WS := wm2 22 rfl rfl
theorem hs_X6_end : Cond.selects yX6_end.cls yX6_end yX6_end ∈ WS := wm2 23 rfl rfl
abbrev uX6_tell : xY := (yX6_tell, cX6_tell, 2, (some .int))
theorem hy_X6_tell : xYb uX6_tell 0 := ⟨wm2 31 rfl rfl, wm1 1 rfl rfl, by decide +kernel⟩
theorem hi_X6_tell : Cond.instanceMethod yX6_tell ∈ WS := wm2 29 rfl rfl
theorem hs_X6_tell : Cond.selects yX6_tell.cls yX6_tell yX6_tell ∈ WS := wm2 30 rfl rfl
abbrev uX6_come : xY := (yX6_come, cX6_come, 4, (some .int))
theorem hy_X6_come : xYb uX6_come 3 := ⟨wm2 217 rfl rfl, wm1 1 rfl rfl, by decide +kernel⟩
theorem hi_X6_come : Cond.instanceMethod yX6_come ∈ WS := wm2 215 rfl rfl
theorem hs_X6_come : Cond.selects yX6_come.cls yX6_come yX6_come ∈ WS := wm2 216 rfl rfl
abbrev uX6_put : xY := (yX6_put, cX6_put, 5, (some .int))
theorem hy_X6_put : xYb uX6_put 4 := ⟨wm3 2 rfl rfl, wm1 1 rfl rfl, by decide +kernel⟩
theorem hi_X6_put : Cond.instanceMethod yX6_put ∈ WS := wm3 0 rfl rfl
theorem hs_X6_put : Cond.selects yX6_put.cls yX6_put yX6_put ∈ WS := wm3 1 rfl rfl
abbrev uX6_pass : xY := (yX6_pass, cX6_pass, 2, (some .int))
theorem hy_X6_pass : xYb uX6_pass 1 := ⟨wm3 9 rfl rfl, wm1 1 rfl rfl, by decide +kernel⟩
theorem hi_X6_pass : Cond.instanceMethod yX6_pass ∈ WS := wm3 7 rfl rfl
theorem hs_X6_pass : Cond.selects yX6_pass.cls yX6_pass yX6_pass ∈ WS := wm3 8 rfl rfl
abbrev uX6_size : xY := (yX6_size, cX6_size, 4, (some .int))
theorem hy_X6_size : xYb uX6_size 2 := ⟨wm3 14 rfl rfl, wm1 1 rfl rfl, by decide +kernel⟩
theorem hi_X6_size : Cond.instanceMethod yX6_size ∈ WS := wm3 12 rfl rfl
theorem hs_X6_size : Cond.selects yX6_size.cls yX6_size yX6_size ∈ WS := wm3 13 rfl rfl
abbrev uX6_window : xY := (yX6_window, cX6_window, 4, (some .int))
theorem hy_X6_window : xYb uX6_window 2 := ⟨wm3 18 rfl rfl, wm1 1 rfl rfl, by decide +kernel⟩
theorem hi_X6_window : Cond.instanceMethod yX6_window ∈ WS := wm3 16 rfl rfl
theorem hs_X6_window : Cond.selects yX6_window.cls yX6_window yX6_window ∈ WS := wm3 17 rfl rfl
abbrev uX6_weigh : xY := (yX6_weigh, cX6_weigh, 4, (some .int))
theorem hy_X6_weigh : xYb uX6_weigh 2 := ⟨wm3 22 rfl rfl, wm1 1 rfl rfl, by decide +kernel⟩
theorem hi_X6_weigh : Cond.instanceMethod yX6_weigh ∈ WS := wm3 20 rfl rfl
theorem hs_X6_weigh : Cond.selects yX6_weigh.cls yX6_weigh yX6_weigh ∈ WS := wm3 21 rfl rfl
abbrev uX6_again : xY := (yX6_again, cX6_again, 3, (some .int))
theorem hy_X6_again : xYb uX6_again 1 := ⟨wm3 35 rfl rfl, wm1 1 rfl rfl, by decide +kernel⟩
theorem hi_X6_again : Cond.instanceMethod yX6_again ∈ WS := wm3 33 rfl rfl
theorem hs_X6_again : Cond.selects yX6_again.cls yX6_again yX6_again ∈ WS := wm3 34 rfl rfl
abbrev uX6_drop : xY := (yX6_drop, cX6_drop, 2, (some .int))
theorem hy_X6_drop : xYb uX6_drop 1 := ⟨wm3 39 rfl rfl, wm1 1 rfl rfl, by decide +kernel⟩
theorem hi_X6_drop : Cond.instanceMethod yX6_drop ∈ WS := wm3 37 rfl rfl
theorem hs_X6_drop : Cond.selects yX6_drop.cls yX6_drop yX6_drop ∈ WS := wm3 38 rfl rfl
abbrev uX6_move : xY := (yX6_move, cX6_move, 4, (some .int))
theorem hy_X6_move : xYb uX6_move 2 := ⟨wm3 51 rfl rfl, wm1 1 rfl rfl, by decide +kernel⟩
theorem hi_X6_move : Cond.instanceMethod yX6_move ∈ WS := wm3 49 rfl rfl
theorem hs_X6_move : Cond.selects yX6_move.cls yX6_move yX6_move ∈ WS := wm3 50 rfl rfl
abbrev uX6_merge : xY := (yX6_merge, cX6_merge, 3, (some .int))
theorem hy_X6_merge : xYb uX6_merge 2 := ⟨wm3 55 rfl rfl, wm1 1 rfl rfl, by decide +kernel⟩
theorem hi_X6_merge : Cond.instanceMethod yX6_merge ∈ WS := wm3 53 rfl rfl
theorem hs_X6_merge : Cond.selects yX6_merge.cls yX6_merge yX6_merge ∈ WS := wm3 54 rfl rfl
abbrev uX6_rename : xY := (yX6_rename, cX6_rename, 5, (some .int))
theorem hy_X6_rename : xYb uX6_rename 2 := ⟨wm3 64 rfl rfl, wm1 1 rfl rfl, by decide +kernel⟩
theorem hi_X6_rename : Cond.instanceMethod yX6_rename ∈ WS := wm3 62 rfl rfl
theorem hs_X6_rename : Cond.selects yX6_rename.cls yX6_rename yX6_rename ∈ WS := wm3 63 rfl rfl
abbrev uX6_thin : xY := (yX6_thin, cX6_thin, 4, (some .int))
theorem hy_X6_thin : xYb uX6_thin 1 := ⟨wm3 68 rfl rfl, wm1 1 rfl rfl, by decide +kernel⟩
theorem hi_X6_thin : Cond.instanceMethod yX6_thin ∈ WS := wm3 66 rfl rfl
theorem hs_X6_thin : Cond.selects yX6_thin.cls yX6_thin yX6_thin ∈ WS := wm3 67 rfl rfl
abbrev uX6_swap : xY := (yX6_swap, cX6_swap, 4, (some .int))
theorem hy_X6_swap : xYb uX6_swap 2 := ⟨wm3 96 rfl rfl, wm1 1 rfl rfl, by decide +kernel⟩
theorem hi_X6_swap : Cond.instanceMethod yX6_swap ∈ WS := wm3 94 rfl rfl
theorem hs_X6_swap : Cond.selects yX6_swap.cls yX6_swap yX6_swap ∈ WS := wm3 95 rfl rfl
abbrev uX6_weighAll : xY := (yX6_weighAll, cX6_weighAll, 5, (some .int))
theorem hy_X6_weighAll : xYb uX6_weighAll 2 := ⟨wm3 100 rfl rfl, wm1 1 rfl rfl, by decide +kernel⟩
theorem hi_X6_weighAll : Cond.instanceMethod yX6_weighAll ∈ WS := wm3 98 rfl rfl
theorem hs_X6_weighAll : Cond.selects yX6_weighAll.cls yX6_weighAll yX6_weighAll ∈ WS := wm3 99 rfl rfl
abbrev uX6_split : xY := (yX6_split, cX6_split, 4, (some .int))
theorem hy_X6_split : xYb uX6_split 3 := ⟨wm3 105 rfl rfl, wm1 1 rfl rfl, by decide +kernel⟩
theorem hi_X6_split : Cond.instanceMethod yX6_split ∈ WS := wm3 103 rfl rfl
theorem hs_X6_split : Cond.selects yX6_split.cls yX6_split yX6_split ∈ WS := wm3 104 rfl rfl
abbrev uX6_purge : xY := (yX6_purge, cX6_purge, 3, (some .int))
theorem hy_X6_purge : xYb uX6_purge 0 := ⟨wm3 109 rfl rfl, wm1 1 rfl rfl, by decide +kernel⟩
theorem hi_X6_purge : Cond.instanceMethod yX6_purge ∈ WS := wm3 107 rfl rfl
theorem hs_X6_purge : Cond.selects yX6_purge.cls yX6_purge yX6_purge ∈ WS := wm3 108 rfl rfl
abbrev uX6_seed : xY := (yX6_seed, cX6_seed, 3, (some .int))
theorem hy_X6_seed : xYb uX6_seed 1 := ⟨wm3 127 rfl rfl, wm1 1 rfl rfl, by decide +kernel⟩
theorem hi_X6_seed : Cond.instanceMethod yX6_seed ∈ WS := wm3 125 rfl rfl
theorem hs_X6_seed : Cond.selects yX6_seed.cls yX6_seed yX6_seed ∈ WS := wm3 126 rfl rfl
abbrev uX6_moveAll : xY := (yX6_moveAll, cX6_moveAll, 6, (some .int))
theorem hy_X6_moveAll : xYb uX6_moveAll 3 := ⟨wm3 59 rfl rfl, wm1 1 rfl rfl, by decide +kernel⟩
theorem hi_X6_moveAll : Cond.instanceMethod yX6_moveAll ∈ WS := wm3 58 rfl rfl
theorem hs_X6_moveAll : Cond.selects yX6_moveAll.cls yX6_moveAll yX6_moveAll ∈ WS := ws1 15 rfl
abbrev uX6_undo : xY := (yX6_undo, cX6_undo, 1, (some .int))
theorem hy_X6_undo : xYb uX6_undo 0 := ⟨wm3 131 rfl rfl, wm1 1 rfl rfl, by decide +kernel⟩
theorem hi_X6_undo : Cond.instanceMethod yX6_undo ∈ WS := wm3 129 rfl rfl
theorem hs_X6_undo : Cond.selects yX6_undo.cls yX6_undo yX6_undo ∈ WS := wm3 130 rfl rfl
abbrev uX6_keep : xY := (yX6_keep, cX6_keep, 2, (some .int))
theorem hy_X6_keep : xYb uX6_keep 1 := ⟨wm3 139 rfl rfl, wm1 1 rfl rfl, by decide +kernel⟩
theorem hi_X6_keep : Cond.instanceMethod yX6_keep ∈ WS := wm3 137 rfl rfl
theorem hs_X6_keep : Cond.selects yX6_keep.cls yX6_keep yX6_keep ∈ WS := wm3 138 rfl rfl
abbrev uX6_back : xY := (yX6_back, cX6_back, 2, (some .int))
theorem hy_X6_back : xYb uX6_back 1 := ⟨wm3 146 rfl rfl, wm1 1 rfl rfl, by decide +kernel⟩
theorem hi_X6_back : Cond.instanceMethod yX6_back ∈ WS := wm3 144 rfl rfl
theorem hs_X6_back : Cond.selects yX6_back.cls yX6_back yX6_back ∈ WS := wm3 145 rfl rfl
abbrev uX6_of : xY := (yX6_of, cX6_of, 3, (some .int))
theorem hy_X6_of : xYb uX6_of 2 := ⟨wm3 154 rfl rfl, wm1 1 rfl rfl, by decide +kernel⟩
theorem hi_X6_of : Cond.instanceMethod yX6_of ∈ WS := wm3 152 rfl rfl
theorem hs_X6_of : Cond.selects yX6_of.cls yX6_of yX6_of ∈ WS := wm3 153 rfl rfl
abbrev uX6_order : xY := (yX6_order, cX6_order, 4, (some .int))
theorem hy_X6_order : xYb uX6_order 2 := ⟨wm3 173 rfl rfl, wm1 1 rfl rfl, by decide +kernel⟩
theorem hi_X6_order : Cond.instanceMethod yX6_order ∈ WS := wm3 171 rfl rfl
theorem hs_X6_order : Cond.selects yX6_order.cls yX6_order yX6_order ∈ WS := wm3 172 rfl rfl
abbrev uX6_part : xY := (yX6_part, cX6_part, 5, (some .int))
theorem hy_X6_part : xYb uX6_part 2 := ⟨wm3 185 rfl rfl, wm1 1 rfl rfl, by decide +kernel⟩
theorem hi_X6_part : Cond.instanceMethod yX6_part ∈ WS := wm3 183 rfl rfl
theorem hs_X6_part : Cond.selects yX6_part.cls yX6_part yX6_part ∈ WS := wm3 184 rfl rfl
abbrev uX6_lifeOf : xY := (yX6_lifeOf, cX6_lifeOf, 2, (some .int))
theorem hy_X6_lifeOf : xYb uX6_lifeOf 1 := ⟨wm3 159 rfl rfl, wm1 1 rfl rfl, by decide +kernel⟩
theorem hi_X6_lifeOf : Cond.instanceMethod yX6_lifeOf ∈ WS := wm3 158 rfl rfl
theorem hs_X6_lifeOf : Cond.selects yX6_lifeOf.cls yX6_lifeOf yX6_lifeOf ∈ WS := ws2 3 rfl
abbrev uX6_aheadInSample : xY := (yX6_aheadInSample, cX6_aheadInSample, 3, (some .int))
theorem hy_X6_aheadInSample : xYb uX6_aheadInSample 1 := ⟨wm3 163 rfl rfl, wm1 1 rfl rfl, by decide +kernel⟩
theorem hi_X6_aheadInSample : Cond.instanceMethod yX6_aheadInSample ∈ WS := wm3 162 rfl rfl
theorem hs_X6_aheadInSample : Cond.selects yX6_aheadInSample.cls yX6_aheadInSample yX6_aheadInSample ∈ WS := ws2 4 rfl
abbrev uX6_aheadOfAlive : xY := (yX6_aheadOfAlive, cX6_aheadOfAlive, 3, (some .int))
theorem hy_X6_aheadOfAlive : xYb uX6_aheadOfAlive 1 := ⟨wm3 167 rfl rfl, wm1 1 rfl rfl, by decide +kernel⟩
theorem hi_X6_aheadOfAlive : Cond.instanceMethod yX6_aheadOfAlive ∈ WS := wm3 166 rfl rfl
theorem hs_X6_aheadOfAlive : Cond.selects yX6_aheadOfAlive.cls yX6_aheadOfAlive yX6_aheadOfAlive ∈ WS := ws2 5 rfl
abbrev uX6_sample : xY := (yX6_sample, cX6_sample, 3, (some .int))
theorem hy_X6_sample : xYb uX6_sample 2 := ⟨wm3 197 rfl rfl, wm1 1 rfl rfl, by decide +kernel⟩
theorem hi_X6_sample : Cond.instanceMethod yX6_sample ∈ WS := wm3 195 rfl rfl
theorem hs_X6_sample : Cond.selects yX6_sample.cls yX6_sample yX6_sample ∈ WS := wm3 196 rfl rfl
abbrev uX6_merged : xY := (yX6_merged, cX6_merged, 4, (some .int))
theorem hy_X6_merged : xYb uX6_merged 3 := ⟨wm3 205 rfl rfl, wm1 1 rfl rfl, by decide +kernel⟩
theorem hi_X6_merged : Cond.instanceMethod yX6_merged ∈ WS := wm3 203 rfl rfl
theorem hs_X6_merged : Cond.selects yX6_merged.cls yX6_merged yX6_merged ∈ WS := wm3 204 rfl rfl
abbrev uX6_partOf : xY := (yX6_partOf, cX6_partOf, 6, (some .int))
theorem hy_X6_partOf : xYb uX6_partOf 3 := ⟨wm3 216 rfl rfl, wm1 1 rfl rfl, by decide +kernel⟩
theorem hi_X6_partOf : Cond.instanceMethod yX6_partOf ∈ WS := wm3 214 rfl rfl
theorem hs_X6_partOf : Cond.selects yX6_partOf.cls yX6_partOf yX6_partOf ∈ WS := wm3 215 rfl rfl
abbrev uX6_capped : xY := (yX6_capped, cX6_capped, 4, (some .int))
theorem hy_X6_capped : xYb uX6_capped 3 := ⟨wm3 220 rfl rfl, wm1 1 rfl rfl, by decide +kernel⟩
theorem hi_X6_capped : Cond.instanceMethod yX6_capped ∈ WS := wm3 218 rfl rfl
theorem hs_X6_capped : Cond.selects yX6_capped.cls yX6_capped yX6_capped ∈ WS := wm3 219 rfl rfl
abbrev uX6_last : xY := (yX6_last, cX6_last, 2, (some .int))
theorem hy_X6_last : xYb uX6_last 1 := ⟨wm3 224 rfl rfl, wm1 1 rfl rfl, by decide +kernel⟩
theorem hi_X6_last : Cond.instanceMethod yX6_last ∈ WS := wm3 222 rfl rfl
theorem hs_X6_last : Cond.selects yX6_last.cls yX6_last yX6_last ∈ WS := wm3 223 rfl rfl
abbrev uX6_takeMerged : xY := (yX6_takeMerged, cX6_takeMerged, 3, none)
theorem hy_X6_takeMerged : xYb uX6_takeMerged 2 := ⟨wm3 212 rfl rfl, wm1 1 rfl rfl, by decide +kernel⟩
theorem hi_X6_takeMerged : Cond.instanceMethod yX6_takeMerged ∈ WS := wm3 211 rfl rfl
theorem hs_X6_takeMerged : Cond.selects yX6_takeMerged.cls yX6_takeMerged yX6_takeMerged ∈ WS := ws2 6 rfl
abbrev uX6_lastOfFull : xY := (yX6_lastOfFull, cX6_lastOfFull, 2, (some .int))
theorem hy_X6_lastOfFull : xYb uX6_lastOfFull 1 := ⟨wm3 228 rfl rfl, wm1 1 rfl rfl, by decide +kernel⟩
theorem hi_X6_lastOfFull : Cond.instanceMethod yX6_lastOfFull ∈ WS := wm3 227 rfl rfl
theorem hs_X6_lastOfFull : Cond.selects yX6_lastOfFull.cls yX6_lastOfFull yX6_lastOfFull ∈ WS := ws2 7 rfl
abbrev uX6_needs : xY := (yX6_needs, cX6_needs, 4, (some .int))
theorem hy_X6_needs : xYb uX6_needs 2 := ⟨wm3 236 rfl rfl, wm1 1 rfl rfl, by decide +kernel⟩
theorem hi_X6_needs : Cond.instanceMethod yX6_needs ∈ WS := wm3 234 rfl rfl
theorem hs_X6_needs : Cond.selects yX6_needs.cls yX6_needs yX6_needs ∈ WS := wm3 235 rfl rfl
abbrev uX6_heavy : xY := (yX6_heavy, cX6_heavy, 5, (some .int))
theorem hy_X6_heavy : xYb uX6_heavy 2 := ⟨wm4 9 rfl rfl, wm1 1 rfl rfl, by decide +kernel⟩
theorem hi_X6_heavy : Cond.instanceMethod yX6_heavy ∈ WS := wm4 7 rfl rfl
theorem hs_X6_heavy : Cond.selects yX6_heavy.cls yX6_heavy yX6_heavy ∈ WS := wm4 8 rfl rfl
abbrev uX6_skip : xY := (yX6_skip, cX6_skip, 6, (some .int))
theorem hy_X6_skip : xYb uX6_skip 2 := ⟨wm4 13 rfl rfl, wm1 1 rfl rfl, by decide +kernel⟩
theorem hi_X6_skip : Cond.instanceMethod yX6_skip ∈ WS := wm4 11 rfl rfl
theorem hs_X6_skip : Cond.selects yX6_skip.cls yX6_skip yX6_skip ∈ WS := wm4 12 rfl rfl
abbrev uX6_lots : xY := (yX6_lots, cX6_lots, 3, (some .int))
theorem hy_X6_lots : xYb uX6_lots 2 := ⟨wm4 18 rfl rfl, wm1 1 rfl rfl, by decide +kernel⟩
theorem hi_X6_lots : Cond.instanceMethod yX6_lots ∈ WS := wm4 16 rfl rfl
theorem hs_X6_lots : Cond.selects yX6_lots.cls yX6_lots yX6_lots ∈ WS := wm4 17 rfl rfl
abbrev uX6_nextLot : xY := (yX6_nextLot, cX6_nextLot, 4, (some .int))
theorem hy_X6_nextLot : xYb uX6_nextLot 1 := ⟨wm4 22 rfl rfl, wm1 1 rfl rfl, by decide +kernel⟩
theorem hi_X6_nextLot : Cond.instanceMethod yX6_nextLot ∈ WS := wm4 20 rfl rfl
theorem hs_X6_nextLot : Cond.selects yX6_nextLot.cls yX6_nextLot yX6_nextLot ∈ WS := wm4 21 rfl rfl
abbrev uX6_leastLotForSample : xY := (yX6_leastLotForSample, cX6_leastLotForSample, 4, (some .int))
theorem hy_X6_leastLotForSample : xYb uX6_leastLotForSample 2 := ⟨wm4 0 rfl rfl, wm1 1 rfl rfl, by decide +kernel⟩
theorem hi_X6_leastLotForSample : Cond.instanceMethod yX6_leastLotForSample ∈ WS := wm3 239 rfl rfl
theorem hs_X6_leastLotForSample : Cond.selects yX6_leastLotForSample.cls yX6_leastLotForSample yX6_leastLotForSample ∈ WS := ws2 8 rfl
abbrev uX6_leastLotAhead : xY := (yX6_leastLotAhead, cX6_leastLotAhead, 5, (some .int))
theorem hy_X6_leastLotAhead : xYb uX6_leastLotAhead 2 := ⟨wm4 4 rfl rfl, wm1 1 rfl rfl, by decide +kernel⟩
theorem hi_X6_leastLotAhead : Cond.instanceMethod yX6_leastLotAhead ∈ WS := wm4 3 rfl rfl
theorem hs_X6_leastLotAhead : Cond.selects yX6_leastLotAhead.cls yX6_leastLotAhead yX6_leastLotAhead ∈ WS := ws2 9 rfl
abbrev uX6_kinds : xY := (yX6_kinds, cX6_kinds, 3, (some .int))
theorem hy_X6_kinds : xYb uX6_kinds 2 := ⟨wm4 26 rfl rfl, wm1 1 rfl rfl, by decide +kernel⟩
theorem hi_X6_kinds : Cond.instanceMethod yX6_kinds ∈ WS := wm4 24 rfl rfl
theorem hs_X6_kinds : Cond.selects yX6_kinds.cls yX6_kinds yX6_kinds ∈ WS := wm4 25 rfl rfl
abbrev uX6_sizeForKinds : xY := (yX6_sizeForKinds, cX6_sizeForKinds, 4, (some .int))
theorem hy_X6_sizeForKinds : xYb uX6_sizeForKinds 2 := ⟨wm4 34 rfl rfl, wm1 1 rfl rfl, by decide +kernel⟩
theorem hi_X6_sizeForKinds : Cond.instanceMethod yX6_sizeForKinds ∈ WS := wm4 32 rfl rfl
theorem hs_X6_sizeForKinds : Cond.selects yX6_sizeForKinds.cls yX6_sizeForKinds yX6_sizeForKinds ∈ WS := wm4 33 rfl rfl
abbrev uX6_shared : xY := (yX6_shared, cX6_shared, 5, (some .int))
theorem hy_X6_shared : xYb uX6_shared 2 := ⟨wm4 38 rfl rfl, wm1 1 rfl rfl, by decide +kernel⟩
theorem hi_X6_shared : Cond.instanceMethod yX6_shared ∈ WS := wm4 36 rfl rfl
theorem hs_X6_shared : Cond.selects yX6_shared.cls yX6_shared yX6_shared ∈ WS := wm4 37 rfl rfl
abbrev uX6_kindsBySize : xY := (yX6_kindsBySize, cX6_kindsBySize, 5, (some .int))
theorem hy_X6_kindsBySize : xYb uX6_kindsBySize 2 := ⟨wm4 30 rfl rfl, wm1 1 rfl rfl, by decide +kernel⟩
theorem hi_X6_kindsBySize : Cond.instanceMethod yX6_kindsBySize ∈ WS := wm4 29 rfl rfl
theorem hs_X6_kindsBySize : Cond.selects yX6_kindsBySize.cls yX6_kindsBySize yX6_kindsBySize ∈ WS := ws2 10 rfl
abbrev uX6_without : xY := (yX6_without, cX6_without, 3, (some .int))
theorem hy_X6_without : xYb uX6_without 2 := ⟨wm4 42 rfl rfl, wm1 1 rfl rfl, by decide +kernel⟩
theorem hi_X6_without : Cond.instanceMethod yX6_without ∈ WS := wm4 40 rfl rfl
theorem hs_X6_without : Cond.selects yX6_without.cls yX6_without yX6_without ∈ WS := wm4 41 rfl rfl
abbrev uX6_expired : xY := (yX6_expired, cX6_expired, 5, (some .int))
theorem hy_X6_expired : xYb uX6_expired 2 := ⟨wm4 50 rfl rfl, wm1 1 rfl rfl, by decide +kernel⟩
theorem hi_X6_expired : Cond.instanceMethod yX6_expired ∈ WS := wm4 48 rfl rfl
theorem hs_X6_expired : Cond.selects yX6_expired.cls yX6_expired yX6_expired ∈ WS := wm4 49 rfl rfl
abbrev uX6_busiest : xY := (yX6_busiest, cX6_busiest, 8, (some .int))
theorem hy_X6_busiest : xYb uX6_busiest 2 := ⟨wm4 54 rfl rfl, wm1 1 rfl rfl, by decide +kernel⟩
theorem hi_X6_busiest : Cond.instanceMethod yX6_busiest ∈ WS := wm4 52 rfl rfl
theorem hs_X6_busiest : Cond.selects yX6_busiest.cls yX6_busiest yX6_busiest ∈ WS := wm4 53 rfl rfl
abbrev uX6_weightFor : xY := (yX6_weightFor, cX6_weightFor, 3, (some .int))
theorem hy_X6_weightFor : xYb uX6_weightFor 1 := ⟨wm4 62 rfl rfl, wm1 1 rfl rfl, by decide +kernel⟩
theorem hi_X6_weightFor : Cond.instanceMethod yX6_weightFor ∈ WS := wm4 60 rfl rfl
theorem hs_X6_weightFor : Cond.selects yX6_weightFor.cls yX6_weightFor yX6_weightFor ∈ WS := wm4 61 rfl rfl
abbrev uX6_sizeFor : xY := (yX6_sizeFor, cX6_sizeFor, 3, (some .int))
theorem hy_X6_sizeFor : xYb uX6_sizeFor 1 := ⟨wm4 67 rfl rfl, wm1 1 rfl rfl, by decide +kernel⟩
theorem hi_X6_sizeFor : Cond.instanceMethod yX6_sizeFor ∈ WS := wm4 65 rfl rfl
theorem hs_X6_sizeFor : Cond.selects yX6_sizeFor.cls yX6_sizeFor yX6_sizeFor ∈ WS := wm4 66 rfl rfl
abbrev uX6_windowFor : xY := (yX6_windowFor, cX6_windowFor, 4, (some .int))
theorem hy_X6_windowFor : xYb uX6_windowFor 1 := ⟨wm4 71 rfl rfl, wm1 1 rfl rfl, by decide +kernel⟩
theorem hi_X6_windowFor : Cond.instanceMethod yX6_windowFor ∈ WS := wm4 69 rfl rfl
theorem hs_X6_windowFor : Cond.selects yX6_windowFor.cls yX6_windowFor yX6_windowFor ∈ WS := wm4 70 rfl rfl
abbrev uX6_later : xY := (yX6_later, cX6_later, 4, (some .int))
theorem hy_X6_later : xYb uX6_later 3 := ⟨wm4 80 rfl rfl, wm1 1 rfl rfl, by decide +kernel⟩
theorem hi_X6_later : Cond.instanceMethod yX6_later ∈ WS := wm4 78 rfl rfl
theorem hs_X6_later : Cond.selects yX6_later.cls yX6_later yX6_later ∈ WS := wm4 79 rfl rfl
abbrev uX6_enters : xY := (yX6_enters, cX6_enters, 4, (some .int))
theorem hy_X6_enters : xYb uX6_enters 1 := ⟨wm4 84 rfl rfl, wm1 1 rfl rfl, by decide +kernel⟩
theorem hi_X6_enters : Cond.instanceMethod yX6_enters ∈ WS := wm4 82 rfl rfl
theorem hs_X6_enters : Cond.selects yX6_enters.cls yX6_enters yX6_enters ∈ WS := wm4 83 rfl rfl
abbrev uX6_changes : xY := (yX6_changes, cX6_changes, 5, (some .int))
theorem hy_X6_changes : xYb uX6_changes 1 := ⟨wm4 88 rfl rfl, wm1 1 rfl rfl, by decide +kernel⟩
theorem hi_X6_changes : Cond.instanceMethod yX6_changes ∈ WS := wm4 86 rfl rfl
theorem hs_X6_changes : Cond.selects yX6_changes.cls yX6_changes yX6_changes ∈ WS := wm4 87 rfl rfl
abbrev uX6_takeWithout : xY := (yX6_takeWithout, cX6_takeWithout, 2, none)
theorem hy_X6_takeWithout : xYb uX6_takeWithout 1 := ⟨wm4 46 rfl rfl, wm1 1 rfl rfl, by decide +kernel⟩
theorem hi_X6_takeWithout : Cond.instanceMethod yX6_takeWithout ∈ WS := wm4 45 rfl rfl
theorem hs_X6_takeWithout : Cond.selects yX6_takeWithout.cls yX6_takeWithout yX6_takeWithout ∈ WS := ws2 11 rfl
abbrev uX6_rivalTime : xY := (yX6_rivalTime, cX6_rivalTime, 5, (some .int))
theorem hy_X6_rivalTime : xYb uX6_rivalTime 1 := ⟨wm4 75 rfl rfl, wm1 1 rfl rfl, by decide +kernel⟩
theorem hi_X6_rivalTime : Cond.instanceMethod yX6_rivalTime ∈ WS := wm4 74 rfl rfl
theorem hs_X6_rivalTime : Cond.selects yX6_rivalTime.cls yX6_rivalTime yX6_rivalTime ∈ WS := ws2 12 rfl
abbrev uX6_then : xY := (yX6_then, cX6_then, 3, (some .int))
theorem hy_X6_then : xYb uX6_then 2 := ⟨wm4 92 rfl rfl, wm1 1 rfl rfl, by decide +kernel⟩
theorem hi_X6_then : Cond.instanceMethod yX6_then ∈ WS := wm4 90 rfl rfl
theorem hs_X6_then : Cond.selects yX6_then.cls yX6_then yX6_then ∈ WS := wm4 91 rfl rfl
abbrev uX6_played : xY := (yX6_played, cX6_played, 6, (some .int))
theorem hy_X6_played : xYb uX6_played 2 := ⟨wm4 100 rfl rfl, wm1 1 rfl rfl, by decide +kernel⟩
theorem hi_X6_played : Cond.instanceMethod yX6_played ∈ WS := wm4 98 rfl rfl
theorem hs_X6_played : Cond.selects yX6_played.cls yX6_played yX6_played ∈ WS := wm4 99 rfl rfl
abbrev uX6_outBy : xY := (yX6_outBy, cX6_outBy, 3, (some .int))
theorem hy_X6_outBy : xYb uX6_outBy 1 := ⟨wm4 108 rfl rfl, wm1 1 rfl rfl, by decide +kernel⟩
theorem hi_X6_outBy : Cond.instanceMethod yX6_outBy ∈ WS := wm4 106 rfl rfl
theorem hs_X6_outBy : Cond.selects yX6_outBy.cls yX6_outBy yX6_outBy ∈ WS := wm4 107 rfl rfl
abbrev uX6_askThen : xY := (yX6_askThen, cX6_askThen, 2, none)
theorem hy_X6_askThen : xYb uX6_askThen 1 := ⟨wm4 96 rfl rfl, wm1 1 rfl rfl, by decide +kernel⟩
theorem hi_X6_askThen : Cond.instanceMethod yX6_askThen ∈ WS := wm4 95 rfl rfl
theorem hs_X6_askThen : Cond.selects yX6_askThen.cls yX6_askThen yX6_askThen ∈ WS := ws2 13 rfl
abbrev uX6_putOutBy : xY := (yX6_putOutBy, cX6_putOutBy, 3, (some .int))
theorem hy_X6_putOutBy : xYb uX6_putOutBy 1 := ⟨wm4 104 rfl rfl, wm1 1 rfl rfl, by decide +kernel⟩
theorem hi_X6_putOutBy : Cond.instanceMethod yX6_putOutBy ∈ WS := wm4 103 rfl rfl
theorem hs_X6_putOutBy : Cond.selects yX6_putOutBy.cls yX6_putOutBy yX6_putOutBy ∈ WS := ws2 14 rfl
abbrev uX6_labels : xY := (yX6_labels, cX6_labels, 4, (some .int))
theorem hy_X6_labels : xYb uX6_labels 3 := ⟨wm4 112 rfl rfl, wm1 1 rfl rfl, by decide +kernel⟩
theorem hi_X6_labels : Cond.instanceMethod yX6_labels ∈ WS := wm4 110 rfl rfl
theorem hs_X6_labels : Cond.selects yX6_labels.cls yX6_labels yX6_labels ∈ WS := wm4 111 rfl rfl
abbrev uX6_total : xY := (yX6_total, cX6_total, 3, (some .int))
theorem hy_X6_total : xYb uX6_total 2 := ⟨wm4 120 rfl rfl, wm1 1 rfl rfl, by decide +kernel⟩
theorem hi_X6_total : Cond.instanceMethod yX6_total ∈ WS := wm4 118 rfl rfl
theorem hs_X6_total : Cond.selects yX6_total.cls yX6_total yX6_total ∈ WS := wm4 119 rfl rfl
abbrev uX6_mode : xY := (yX6_mode, cX6_mode, 5, (some .int))
theorem hy_X6_mode : xYb uX6_mode 1 := ⟨wm4 128 rfl rfl, wm1 1 rfl rfl, by decide +kernel⟩
theorem hi_X6_mode : Cond.instanceMethod yX6_mode ∈ WS := wm4 126 rfl rfl
theorem hs_X6_mode : Cond.selects yX6_mode.cls yX6_mode yX6_mode ∈ WS := wm4 127 rfl rfl
abbrev uX6_unlike : xY := (yX6_unlike, cX6_unlike, 5, (some .int))
theorem hy_X6_unlike : xYb uX6_unlike 2 := ⟨wm4 132 rfl rfl, wm1 1 rfl rfl, by decide +kernel⟩
theorem hi_X6_unlike : Cond.instanceMethod yX6_unlike ∈ WS := wm4 130 rfl rfl
theorem hs_X6_unlike : Cond.selects yX6_unlike.cls yX6_unlike yX6_unlike ∈ WS := wm4 131 rfl rfl
abbrev uX6_same : xY := (yX6_same, cX6_same, 3, (some .int))
theorem hy_X6_same : xYb uX6_same 2 := ⟨wm4 139 rfl rfl, wm1 1 rfl rfl, by decide +kernel⟩
theorem hi_X6_same : Cond.instanceMethod yX6_same ∈ WS := wm4 137 rfl rfl
theorem hs_X6_same : Cond.selects yX6_same.cls yX6_same yX6_same ∈ WS := wm4 138 rfl rfl
abbrev uX6_told : xY := (yX6_told, cX6_told, 2, (some .int))
theorem hy_X6_told : xYb uX6_told 1 := ⟨wm4 147 rfl rfl, wm1 1 rfl rfl, by decide +kernel⟩
theorem hi_X6_told : Cond.instanceMethod yX6_told ∈ WS := wm4 145 rfl rfl
theorem hs_X6_told : Cond.selects yX6_told.cls yX6_told yX6_told ∈ WS := wm4 146 rfl rfl
abbrev uX6_digest : xY := (yX6_digest, cX6_digest, 4, (some .long))
theorem hy_X6_digest : xYb uX6_digest 0 := ⟨wm4 187 rfl rfl, wm1 1 rfl rfl, by decide +kernel⟩
theorem hi_X6_digest : Cond.instanceMethod yX6_digest ∈ WS := wm4 185 rfl rfl
theorem hs_X6_digest : Cond.selects yX6_digest.cls yX6_digest yX6_digest ∈ WS := wm4 186 rfl rfl
abbrev uX6_count : xY := (yX6_count, cX6_count, 2, (some .int))
theorem hy_X6_count : xYb uX6_count 1 := ⟨wm4 193 rfl rfl, wm1 1 rfl rfl, by decide +kernel⟩
theorem hi_X6_count : Cond.instanceMethod yX6_count ∈ WS := wm4 191 rfl rfl
theorem hs_X6_count : Cond.selects yX6_count.cls yX6_count yX6_count ∈ WS := wm4 192 rfl rfl
abbrev uX6_weightOfSample : xY := (yX6_weightOfSample, cX6_weightOfSample, 4, (some .int))
theorem hy_X6_weightOfSample : xYb uX6_weightOfSample 1 := ⟨wm4 124 rfl rfl, wm1 1 rfl rfl, by decide +kernel⟩
theorem hi_X6_weightOfSample : Cond.instanceMethod yX6_weightOfSample ∈ WS := wm4 123 rfl rfl
theorem hs_X6_weightOfSample : Cond.selects yX6_weightOfSample.cls yX6_weightOfSample yX6_weightOfSample ∈ WS := ws2 15 rfl
abbrev uX6_isWithin : xY := (yX6_isWithin, cX6_isWithin, 3, (some .boolean))
theorem hy_X6_isWithin : xYb uX6_isWithin 3 := ⟨wm2 27 rfl rfl, wm1 1 rfl rfl, by decide +kernel⟩
theorem ht_X6_isWithin : Cond.static yX6_isWithin ∈ WS := wm2 26 rfl rfl
abbrev uX6_isShard : xY := (yX6_isShard, cX6_isShard, 1, (some .boolean))
theorem hy_X6_isShard : xYb uX6_isShard 1 := ⟨wm2 220 rfl rfl, wm1 1 rfl rfl, by decide +kernel⟩
theorem ht_X6_isShard : Cond.static yX6_isShard ∈ WS := wm2 219 rfl rfl
abbrev uX6_isSet : xY := (yX6_isSet, cX6_isSet, 1, (some .boolean))
theorem hy_X6_isSet : xYb uX6_isSet 1 := ⟨wm3 208 rfl rfl, wm1 1 rfl rfl, by decide +kernel⟩
theorem ht_X6_isSet : Cond.static yX6_isSet ∈ WS := wm3 207 rfl rfl
abbrev uX6_isLabel : xY := (yX6_isLabel, cX6_isLabel, 1, (some .boolean))
theorem hy_X6_isLabel : xYb uX6_isLabel 1 := ⟨wm2 223 rfl rfl, wm1 1 rfl rfl, by decide +kernel⟩
theorem ht_X6_isLabel : Cond.static yX6_isLabel ∈ WS := wm2 222 rfl rfl
abbrev uX6_isWeight : xY := (yX6_isWeight, cX6_isWeight, 1, (some .boolean))
theorem hy_X6_isWeight : xYb uX6_isWeight 1 := ⟨wm2 226 rfl rfl, wm1 1 rfl rfl, by decide +kernel⟩
theorem ht_X6_isWeight : Cond.static yX6_isWeight ∈ WS := wm2 225 rfl rfl
abbrev uX6_isLot : xY := (yX6_isLot, cX6_isLot, 1, (some .boolean))
theorem hy_X6_isLot : xYb uX6_isLot 1 := ⟨wm3 5 rfl rfl, wm1 1 rfl rfl, by decide +kernel⟩
theorem ht_X6_isLot : Cond.static yX6_isLot ∈ WS := wm3 4 rfl rfl
abbrev uX6_isShelf : xY := (yX6_isShelf, cX6_isShelf, 1, (some .boolean))
theorem hy_X6_isShelf : xYb uX6_isShelf 1 := ⟨wm3 142 rfl rfl, wm1 1 rfl rfl, by decide +kernel⟩
theorem ht_X6_isShelf : Cond.static yX6_isShelf ∈ WS := wm3 141 rfl rfl
abbrev uX6_isKept : xY := (yX6_isKept, cX6_isKept, 2, (some .boolean))
theorem hy_X6_isKept : xYb uX6_isKept 1 := ⟨wm3 150 rfl rfl, wm1 1 rfl rfl, by decide +kernel⟩
theorem hi_X6_isKept : Cond.instanceMethod yX6_isKept ∈ WS := wm3 149 rfl rfl
theorem hs_X6_isKept : Cond.selects yX6_isKept.cls yX6_isKept yX6_isKept ∈ WS := ws2 2 rfl
abbrev uX6_seedOfNextLot : xY := (yX6_seedOfNextLot, cX6_seedOfNextLot, 3, (some .int))
theorem hy_X6_seedOfNextLot : xYb uX6_seedOfNextLot 1 := ⟨wm2 152 rfl rfl, wm1 1 rfl rfl, by decide +kernel⟩
theorem ht_X6_seedOfNextLot : Cond.static yX6_seedOfNextLot ∈ WS := wm2 151 rfl rfl
abbrev uX6_lotOfSeed : xY := (yX6_lotOfSeed, cX6_lotOfSeed, 1, (some .int))
theorem hy_X6_lotOfSeed : xYb uX6_lotOfSeed 1 := ⟨wm2 156 rfl rfl, wm1 1 rfl rfl, by decide +kernel⟩
theorem ht_X6_lotOfSeed : Cond.static yX6_lotOfSeed ∈ WS := wm2 155 rfl rfl
abbrev uX7_init : xY := (yX7_init, cX7_init, 1, none)
theorem hy_X7_init : xYb uX7_init 0 := ⟨wm4 198 rfl rfl, wm1 8 rfl rfl, by decide +kernel⟩
theorem hi_X7_init : Cond.instanceMethod yX7_init ∈ WS := wm4 197 rfl rfl
abbrev uX7_in : xY := (yX7_in, cX7_in, 6, (some .boolean))
theorem hy_X7_in : xYb uX7_in 3 := ⟨wm5 40 rfl rfl, wm1 8 rfl rfl, by decide +kernel⟩
theorem ht_X7_in : Cond.static yX7_in ∈ WS := wm5 39 rfl rfl
abbrev uX7_begins : xY := (yX7_begins, cX7_begins, 2, none)
theorem hy_X7_begins : xYb uX7_begins 1 := ⟨wm4 202 rfl rfl, wm1 8 rfl rfl, by decide +kernel⟩
theorem ht_X7_begins : Cond.static yX7_begins ∈ WS := wm4 201 rfl rfl
abbrev uX7_isShard : xY := (yX7_isShard, cX7_isShard, 1, (some .boolean))
theorem hy_X7_isShard : xYb uX7_isShard 1 := ⟨wm5 135 rfl rfl, wm1 8 rfl rfl, by decide +kernel⟩
theorem ht_X7_isShard : Cond.static yX7_isShard ∈ WS := wm5 134 rfl rfl
abbrev uX7_isItem : xY := (yX7_isItem, cX7_isItem, 2, (some .boolean))
theorem hy_X7_isItem : xYb uX7_isItem 1 := ⟨wm5 37 rfl rfl, wm1 8 rfl rfl, by decide +kernel⟩
theorem hi_X7_isItem : Cond.instanceMethod yX7_isItem ∈ WS := wm5 36 rfl rfl
theorem hs_X7_isItem : Cond.selects yX7_isItem.cls yX7_isItem yX7_isItem ∈ WS := ws3 6 rfl
abbrev uX7_item : xY := (yX7_item, cX7_item, 3, (some .int))
theorem hy_X7_item : xYb uX7_item 2 := ⟨wm5 44 rfl rfl, wm1 8 rfl rfl, by decide +kernel⟩
theorem hi_X7_item : Cond.instanceMethod yX7_item ∈ WS := wm5 43 rfl rfl
theorem hs_X7_item : Cond.selects yX7_item.cls yX7_item yX7_item ∈ WS := ws3 7 rfl
abbrev uX7_shardOf : xY := (yX7_shardOf, cX7_shardOf, 2, (some .int))
theorem hy_X7_shardOf : xYb uX7_shardOf 1 := ⟨wm5 76 rfl rfl, wm1 8 rfl rfl, by decide +kernel⟩
theorem hi_X7_shardOf : Cond.instanceMethod yX7_shardOf ∈ WS := wm5 75 rfl rfl
theorem hs_X7_shardOf : Cond.selects yX7_shardOf.cls yX7_shardOf yX7_shardOf ∈ WS := ws3 11 rfl
abbrev uX7_isDropped : xY := (yX7_isDropped, cX7_isDropped, 2, (some .boolean))
theorem hy_X7_isDropped : xYb uX7_isDropped 1 := ⟨wm5 80 rfl rfl, wm1 8 rfl rfl, by decide +kernel⟩
theorem hi_X7_isDropped : Cond.instanceMethod yX7_isDropped ∈ WS := wm5 79 rfl rfl
theorem hs_X7_isDropped : Cond.selects yX7_isDropped.cls yX7_isDropped yX7_isDropped ∈ WS := ws3 12 rfl
abbrev uX7_isThere : xY := (yX7_isThere, cX7_isThere, 2, (some .boolean))
theorem hy_X7_isThere : xYb uX7_isThere 1 := ⟨wm6 88 rfl rfl, wm1 8 rfl rfl, by decide +kernel⟩
theorem hi_X7_isThere : Cond.instanceMethod yX7_isThere ∈ WS := wm6 87 rfl rfl
theorem hs_X7_isThere : Cond.selects yX7_isThere.cls yX7_isThere yX7_isThere ∈ WS := ws5 10 rfl
abbrev uX7_powers : xY := (yX7_powers, cX7_powers, 7, none)
theorem hy_X7_powers : xYb uX7_powers 5 := ⟨wm5 51 rfl rfl, wm1 8 rfl rfl, by decide +kernel⟩
theorem ht_X7_powers : Cond.static yX7_powers ∈ WS := wm5 50 rfl rfl
abbrev uX7_times : xY := (yX7_times, cX7_times, 6, (some .int))
theorem hy_X7_times : xYb uX7_times 3 := ⟨wm5 54 rfl rfl, wm1 8 rfl rfl, by decide +kernel⟩
theorem ht_X7_times : Cond.static yX7_times ∈ WS := wm5 53 rfl rfl
abbrev uX7_compared : xY := (yX7_compared, cX7_compared, 2, (some .int))
theorem hy_X7_compared : xYb uX7_compared 0 := ⟨wm5 59 rfl rfl, wm1 8 rfl rfl, by decide +kernel⟩
theorem hi_X7_compared : Cond.instanceMethod yX7_compared ∈ WS := wm5 58 rfl rfl
theorem hs_X7_compared : Cond.selects yX7_compared.cls yX7_compared yX7_compared ∈ WS := ws3 9 rfl
abbrev uX7_comparedKeys : xY := (yX7_comparedKeys, cX7_comparedKeys, 5, (some .int))
theorem hy_X7_comparedKeys : xYb uX7_comparedKeys 4 := ⟨wm5 48 rfl rfl, wm1 8 rfl rfl, by decide +kernel⟩
theorem hi_X7_comparedKeys : Cond.instanceMethod yX7_comparedKeys ∈ WS := wm5 47 rfl rfl
theorem hs_X7_comparedKeys : Cond.selects yX7_comparedKeys.cls yX7_comparedKeys yX7_comparedKeys ∈ WS := ws3 8 rfl
abbrev uX7_isAhead : xY := (yX7_isAhead, cX7_isAhead, 6, (some .boolean))
theorem hy_X7_isAhead : xYb uX7_isAhead 4 := ⟨wm5 112 rfl rfl, wm1 8 rfl rfl, by decide +kernel⟩
theorem hi_X7_isAhead : Cond.instanceMethod yX7_isAhead ∈ WS := wm5 111 rfl rfl
theorem hs_X7_isAhead : Cond.selects yX7_isAhead.cls yX7_isAhead yX7_isAhead ∈ WS := ws4 4 rfl
abbrev uX7_areInOrder : xY := (yX7_areInOrder, cX7_areInOrder, 3, (some .boolean))
theorem hy_X7_areInOrder : xYb uX7_areInOrder 2 := ⟨wm5 108 rfl rfl, wm1 8 rfl rfl, by decide +kernel⟩
theorem hi_X7_areInOrder : Cond.instanceMethod yX7_areInOrder ∈ WS := wm5 107 rfl rfl
theorem hs_X7_areInOrder : Cond.selects yX7_areInOrder.cls yX7_areInOrder yX7_areInOrder ∈ WS := ws4 3 rfl
abbrev uX7_order : xY := (yX7_order, cX7_order, 4, (some .int))
theorem hy_X7_order : xYb uX7_order 2 := ⟨wm5 33 rfl rfl, wm1 8 rfl rfl, by decide +kernel⟩
theorem hi_X7_order : Cond.instanceMethod yX7_order ∈ WS := wm5 31 rfl rfl
theorem hs_X7_order : Cond.selects yX7_order.cls yX7_order yX7_order ∈ WS := wm5 32 rfl rfl
abbrev uX7_isNoMore : xY := (yX7_isNoMore, cX7_isNoMore, 5, (some .boolean))
theorem hy_X7_isNoMore : xYb uX7_isNoMore 3 := ⟨wm5 68 rfl rfl, wm1 8 rfl rfl, by decide +kernel⟩
theorem hi_X7_isNoMore : Cond.instanceMethod yX7_isNoMore ∈ WS := wm5 67 rfl rfl
theorem hs_X7_isNoMore : Cond.selects yX7_isNoMore.cls yX7_isNoMore yX7_isNoMore ∈ WS := ws3 10 rfl
abbrev uX7_part : xY := (yX7_part, cX7_part, 4, (some .int))
theorem hy_X7_part : xYb uX7_part 2 := ⟨wm5 63 rfl rfl, wm1 8 rfl rfl, by decide +kernel⟩
theorem hi_X7_part : Cond.instanceMethod yX7_part ∈ WS := wm5 61 rfl rfl
theorem hs_X7_part : Cond.selects yX7_part.cls yX7_part yX7_part ∈ WS := wm5 62 rfl rfl
abbrev uX7_isAliveAt : xY := (yX7_isAliveAt, cX7_isAliveAt, 4, (some .boolean))
theorem hy_X7_isAliveAt : xYb uX7_isAliveAt 3 := ⟨wm5 88 rfl rfl, wm1 8 rfl rfl, by decide +kernel⟩
theorem hi_X7_isAliveAt : Cond.instanceMethod yX7_isAliveAt ∈ WS := wm5 87 rfl rfl
theorem hs_X7_isAliveAt : Cond.selects yX7_isAliveAt.cls yX7_isAliveAt yX7_isAliveAt ∈ WS := ws3 14 rfl
abbrev uX7_isAlive : xY := (yX7_isAlive, cX7_isAlive, 2, (some .boolean))
theorem hy_X7_isAlive : xYb uX7_isAlive 1 := ⟨wm5 84 rfl rfl, wm1 8 rfl rfl, by decide +kernel⟩
theorem hi_X7_isAlive : Cond.instanceMethod yX7_isAlive ∈ WS := wm5 83 rfl rfl
theorem hs_X7_isAlive : Cond.selects yX7_isAlive.cls yX7_isAlive yX7_isAlive ∈ WS := ws3 13 rfl
abbrev uX7_begins_ : xY := (yX7_begins_, cX7_begins_, 1, none)
theorem hy_X7_begins_ : xYb uX7_begins_ 0 := ⟨wm5 116 rfl rfl, wm1 8 rfl rfl, by decide +kernel⟩
theorem hi_X7_begins_ : Cond.instanceMethod yX7_begins_ ∈ WS := wm5 115 rfl rfl
theorem hs_X7_begins_ : Cond.selects yX7_begins_.cls yX7_begins_ yX7_begins_ ∈ WS := ws4 5 rfl
abbrev uX7_ranks : xY := (yX7_ranks, cX7_ranks, 3, none)
theorem hy_X7_ranks : xYb uX7_ranks 0 := ⟨wm5 104 rfl rfl, wm1 8 rfl rfl, by decide +kernel⟩
theorem hi_X7_ranks : Cond.instanceMethod yX7_ranks ∈ WS := wm5 103 rfl rfl
theorem hs_X7_ranks : Cond.selects yX7_ranks.cls yX7_ranks yX7_ranks ∈ WS := ws4 2 rfl
abbrev uX7_comesIn : xY := (yX7_comesIn, cX7_comesIn, 2, none)
theorem hy_X7_comesIn : xYb uX7_comesIn 1 := ⟨wm5 120 rfl rfl, wm1 8 rfl rfl, by decide +kernel⟩
theorem hi_X7_comesIn : Cond.instanceMethod yX7_comesIn ∈ WS := wm5 119 rfl rfl
theorem hs_X7_comesIn : Cond.selects yX7_comesIn.cls yX7_comesIn yX7_comesIn ∈ WS := ws4 6 rfl
abbrev uX7_cuts : xY := (yX7_cuts, cX7_cuts, 2, none)
theorem hy_X7_cuts : xYb uX7_cuts 1 := ⟨wm5 124 rfl rfl, wm1 8 rfl rfl, by decide +kernel⟩
theorem hi_X7_cuts : Cond.instanceMethod yX7_cuts ∈ WS := wm5 123 rfl rfl
theorem hs_X7_cuts : Cond.selects yX7_cuts.cls yX7_cuts yX7_cuts ∈ WS := ws4 7 rfl
abbrev uX7_lays : xY := (yX7_lays, cX7_lays, 7, none)
theorem hy_X7_lays : xYb uX7_lays 4 := ⟨wm5 100 rfl rfl, wm1 8 rfl rfl, by decide +kernel⟩
theorem hi_X7_lays : Cond.instanceMethod yX7_lays ∈ WS := wm5 99 rfl rfl
theorem hs_X7_lays : Cond.selects yX7_lays.cls yX7_lays yX7_lays ∈ WS := ws4 1 rfl
abbrev uX7_laysAlive : xY := (yX7_laysAlive, cX7_laysAlive, 2, none)
theorem hy_X7_laysAlive : xYb uX7_laysAlive 1 := ⟨wm5 96 rfl rfl, wm1 8 rfl rfl, by decide +kernel⟩
theorem hi_X7_laysAlive : Cond.instanceMethod yX7_laysAlive ∈ WS := wm5 95 rfl rfl
theorem hs_X7_laysAlive : Cond.selects yX7_laysAlive.cls yX7_laysAlive yX7_laysAlive ∈ WS := ws4 0 rfl
abbrev uX7_laysSample : xY := (yX7_laysSample, cX7_laysSample, 2, none)
theorem hy_X7_laysSample : xYb uX7_laysSample 1 := ⟨wm5 92 rfl rfl, wm1 8 rfl rfl, by decide +kernel⟩
theorem hi_X7_laysSample : Cond.instanceMethod yX7_laysSample ∈ WS := wm5 91 rfl rfl
theorem hs_X7_laysSample : Cond.selects yX7_laysSample.cls yX7_laysSample yX7_laysSample ∈ WS := ws3 15 rfl
abbrev uX7_placeOf : xY := (yX7_placeOf, cX7_placeOf, 3, (some .int))
theorem hy_X7_placeOf : xYb uX7_placeOf 1 := ⟨wm5 128 rfl rfl, wm1 8 rfl rfl, by decide +kernel⟩
theorem hi_X7_placeOf : Cond.instanceMethod yX7_placeOf ∈ WS := wm5 127 rfl rfl
theorem hs_X7_placeOf : Cond.selects yX7_placeOf.cls yX7_placeOf yX7_placeOf ∈ WS := ws4 8 rfl
abbrev uX7_toldOf : xY := (yX7_toldOf, cX7_toldOf, 2, (some .int))
theorem hy_X7_toldOf : xYb uX7_toldOf 1 := ⟨wm5 140 rfl rfl, wm1 8 rfl rfl, by decide +kernel⟩
theorem hi_X7_toldOf : Cond.instanceMethod yX7_toldOf ∈ WS := wm5 139 rfl rfl
theorem hs_X7_toldOf : Cond.selects yX7_toldOf.cls yX7_toldOf yX7_toldOf ∈ WS := ws4 9 rfl
abbrev uX7_of : xY := (yX7_of, cX7_of, 3, (some .int))
theorem hy_X7_of : xYb uX7_of 2 := ⟨wm5 72 rfl rfl, wm1 8 rfl rfl, by decide +kernel⟩
theorem hi_X7_of : Cond.instanceMethod yX7_of ∈ WS := wm5 70 rfl rfl
theorem hs_X7_of : Cond.selects yX7_of.cls yX7_of yX7_of ∈ WS := wm5 71 rfl rfl
abbrev uX7_sample : xY := (yX7_sample, cX7_sample, 3, (some .int))
theorem hy_X7_sample : xYb uX7_sample 2 := ⟨wm5 132 rfl rfl, wm1 8 rfl rfl, by decide +kernel⟩
theorem hi_X7_sample : Cond.instanceMethod yX7_sample ∈ WS := wm5 130 rfl rfl
theorem hs_X7_sample : Cond.selects yX7_sample.cls yX7_sample yX7_sample ∈ WS := wm5 131 rfl rfl
abbrev uX7_laysMerged : xY := (yX7_laysMerged, cX7_laysMerged, 5, (some .boolean))
theorem hy_X7_laysMerged : xYb uX7_laysMerged 2 := ⟨wm5 148 rfl rfl, wm1 8 rfl rfl, by decide +kernel⟩
theorem hi_X7_laysMerged : Cond.instanceMethod yX7_laysMerged ∈ WS := wm5 147 rfl rfl
theorem hs_X7_laysMerged : Cond.selects yX7_laysMerged.cls yX7_laysMerged yX7_laysMerged ∈ WS := ws4 10 rfl
abbrev uX7_merged : xY := (yX7_merged, cX7_merged, 4, (some .int))
theorem hy_X7_merged : xYb uX7_merged 3 := ⟨wm5 144 rfl rfl, wm1 8 rfl rfl, by decide +kernel⟩
theorem hi_X7_merged : Cond.instanceMethod yX7_merged ∈ WS := wm5 142 rfl rfl
theorem hs_X7_merged : Cond.selects yX7_merged.cls yX7_merged yX7_merged ∈ WS := wm5 143 rfl rfl
abbrev uX7_partOf : xY := (yX7_partOf, cX7_partOf, 6, (some .int))
theorem hy_X7_partOf : xYb uX7_partOf 3 := ⟨wm5 154 rfl rfl, wm1 8 rfl rfl, by decide +kernel⟩
theorem hi_X7_partOf : Cond.instanceMethod yX7_partOf ∈ WS := wm5 152 rfl rfl
theorem hs_X7_partOf : Cond.selects yX7_partOf.cls yX7_partOf yX7_partOf ∈ WS := wm5 153 rfl rfl
abbrev uX7_labelled : xY := (yX7_labelled, cX7_labelled, 4, (some .int))
theorem hy_X7_labelled : xYb uX7_labelled 1 := ⟨wm5 163 rfl rfl, wm1 8 rfl rfl, by decide +kernel⟩
theorem hi_X7_labelled : Cond.instanceMethod yX7_labelled ∈ WS := wm5 162 rfl rfl
theorem hs_X7_labelled : Cond.selects yX7_labelled.cls yX7_labelled yX7_labelled ∈ WS := ws4 11 rfl
abbrev uX7_capped : xY := (yX7_capped, cX7_capped, 7, (some .int))
theorem hy_X7_capped : xYb uX7_capped 3 := ⟨wm5 158 rfl rfl, wm1 8 rfl rfl, by decide +kernel⟩
theorem hi_X7_capped : Cond.instanceMethod yX7_capped ∈ WS := wm5 156 rfl rfl
theorem hs_X7_capped : Cond.selects yX7_capped.cls yX7_capped yX7_capped ∈ WS := wm5 157 rfl rfl
abbrev uX7_last : xY := (yX7_last, cX7_last, 2, (some .int))
theorem hy_X7_last : xYb uX7_last 1 := ⟨wm5 167 rfl rfl, wm1 8 rfl rfl, by decide +kernel⟩
theorem hi_X7_last : Cond.instanceMethod yX7_last ∈ WS := wm5 165 rfl rfl
theorem hs_X7_last : Cond.selects yX7_last.cls yX7_last yX7_last ∈ WS := wm5 166 rfl rfl
abbrev uX7_wouldBeIn : xY := (yX7_wouldBeIn, cX7_wouldBeIn, 4, (some .boolean))
theorem hy_X7_wouldBeIn : xYb uX7_wouldBeIn 3 := ⟨wm5 176 rfl rfl, wm1 8 rfl rfl, by decide +kernel⟩
theorem hi_X7_wouldBeIn : Cond.instanceMethod yX7_wouldBeIn ∈ WS := wm5 175 rfl rfl
theorem hs_X7_wouldBeIn : Cond.selects yX7_wouldBeIn.cls yX7_wouldBeIn yX7_wouldBeIn ∈ WS := ws4 12 rfl
abbrev uX7_needs : xY := (yX7_needs, cX7_needs, 4, (some .int))
theorem hy_X7_needs : xYb uX7_needs 2 := ⟨wm5 171 rfl rfl, wm1 8 rfl rfl, by decide +kernel⟩
theorem hi_X7_needs : Cond.instanceMethod yX7_needs ∈ WS := wm5 169 rfl rfl
theorem hs_X7_needs : Cond.selects yX7_needs.cls yX7_needs yX7_needs ∈ WS := wm5 170 rfl rfl
abbrev uX7_heavy : xY := (yX7_heavy, cX7_heavy, 4, (some .int))
theorem hy_X7_heavy : xYb uX7_heavy 2 := ⟨wm5 180 rfl rfl, wm1 8 rfl rfl, by decide +kernel⟩
theorem hi_X7_heavy : Cond.instanceMethod yX7_heavy ∈ WS := wm5 178 rfl rfl
theorem hs_X7_heavy : Cond.selects yX7_heavy.cls yX7_heavy yX7_heavy ∈ WS := wm5 179 rfl rfl
abbrev uX7_drawn : xY := (yX7_drawn, cX7_drawn, 3, (some .int))
theorem hy_X7_drawn : xYb uX7_drawn 1 := ⟨wm5 189 rfl rfl, wm1 8 rfl rfl, by decide +kernel⟩
theorem hi_X7_drawn : Cond.instanceMethod yX7_drawn ∈ WS := wm5 188 rfl rfl
theorem hs_X7_drawn : Cond.selects yX7_drawn.cls yX7_drawn yX7_drawn ∈ WS := ws4 13 rfl
abbrev uX7_skip : xY := (yX7_skip, cX7_skip, 5, (some .int))
theorem hy_X7_skip : xYb uX7_skip 2 := ⟨wm5 185 rfl rfl, wm1 8 rfl rfl, by decide +kernel⟩
theorem hi_X7_skip : Cond.instanceMethod yX7_skip ∈ WS := wm5 183 rfl rfl
theorem hs_X7_skip : Cond.selects yX7_skip.cls yX7_skip yX7_skip ∈ WS := wm5 184 rfl rfl
abbrev uX7_weightFor : xY := (yX7_weightFor, cX7_weightFor, 6, (some .int))
theorem hy_X7_weightFor : xYb uX7_weightFor 1 := ⟨wm5 196 rfl rfl, wm1 8 rfl rfl, by decide +kernel⟩
theorem hi_X7_weightFor : Cond.instanceMethod yX7_weightFor ∈ WS := wm5 194 rfl rfl
theorem hs_X7_weightFor : Cond.selects yX7_weightFor.cls yX7_weightFor yX7_weightFor ∈ WS := wm5 195 rfl rfl
abbrev uX7_sizeFor : xY := (yX7_sizeFor, cX7_sizeFor, 2, (some .int))
theorem hy_X7_sizeFor : xYb uX7_sizeFor 1 := ⟨wm5 200 rfl rfl, wm1 8 rfl rfl, by decide +kernel⟩
theorem hi_X7_sizeFor : Cond.instanceMethod yX7_sizeFor ∈ WS := wm5 198 rfl rfl
theorem hs_X7_sizeFor : Cond.selects yX7_sizeFor.cls yX7_sizeFor yX7_sizeFor ∈ WS := wm5 199 rfl rfl
abbrev uX7_windowFor : xY := (yX7_windowFor, cX7_windowFor, 5, (some .int))
theorem hy_X7_windowFor : xYb uX7_windowFor 1 := ⟨wm5 204 rfl rfl, wm1 8 rfl rfl, by decide +kernel⟩
theorem hi_X7_windowFor : Cond.instanceMethod yX7_windowFor ∈ WS := wm5 202 rfl rfl
theorem hs_X7_windowFor : Cond.selects yX7_windowFor.cls yX7_windowFor yX7_windowFor ∈ WS := wm5 203 rfl rfl
abbrev uX7_lessWindow : xY := (yX7_lessWindow, cX7_lessWindow, 6, (some .int))
theorem hy_X7_lessWindow : xYb uX7_lessWindow 2 := ⟨wm5 208 rfl rfl, wm1 8 rfl rfl, by decide +kernel⟩
theorem hi_X7_lessWindow : Cond.instanceMethod yX7_lessWindow ∈ WS := wm5 207 rfl rfl
theorem hs_X7_lessWindow : Cond.selects yX7_lessWindow.cls yX7_lessWindow yX7_lessWindow ∈ WS := ws4 14 rfl
abbrev uX7_later : xY := (yX7_later, cX7_later, 4, (some .int))
theorem hy_X7_later : xYb uX7_later 3 := ⟨wm5 212 rfl rfl, wm1 8 rfl rfl, by decide +kernel⟩
theorem hi_X7_later : Cond.instanceMethod yX7_later ∈ WS := wm5 210 rfl rfl
theorem hs_X7_later : Cond.selects yX7_later.cls yX7_later yX7_later ∈ WS := wm5 211 rfl rfl
abbrev uX7_enters : xY := (yX7_enters, cX7_enters, 6, (some .int))
theorem hy_X7_enters : xYb uX7_enters 1 := ⟨wm5 217 rfl rfl, wm1 8 rfl rfl, by decide +kernel⟩
theorem hi_X7_enters : Cond.instanceMethod yX7_enters ∈ WS := wm5 215 rfl rfl
theorem hs_X7_enters : Cond.selects yX7_enters.cls yX7_enters yX7_enters ∈ WS := wm5 216 rfl rfl
abbrev uX7_nextDeath : xY := (yX7_nextDeath, cX7_nextDeath, 6, (some .int))
theorem hy_X7_nextDeath : xYb uX7_nextDeath 2 := ⟨wm5 221 rfl rfl, wm1 8 rfl rfl, by decide +kernel⟩
theorem hi_X7_nextDeath : Cond.instanceMethod yX7_nextDeath ∈ WS := wm5 220 rfl rfl
theorem hs_X7_nextDeath : Cond.selects yX7_nextDeath.cls yX7_nextDeath yX7_nextDeath ∈ WS := ws4 15 rfl
abbrev uX7_changes : xY := (yX7_changes, cX7_changes, 7, (some .int))
theorem hy_X7_changes : xYb uX7_changes 1 := ⟨wm5 226 rfl rfl, wm1 8 rfl rfl, by decide +kernel⟩
theorem hi_X7_changes : Cond.instanceMethod yX7_changes ∈ WS := wm5 224 rfl rfl
theorem hs_X7_changes : Cond.selects yX7_changes.cls yX7_changes yX7_changes ∈ WS := wm5 225 rfl rfl
abbrev uX7_laysThen : xY := (yX7_laysThen, cX7_laysThen, 4, none)
theorem hy_X7_laysThen : xYb uX7_laysThen 2 := ⟨wm5 234 rfl rfl, wm1 8 rfl rfl, by decide +kernel⟩
theorem hi_X7_laysThen : Cond.instanceMethod yX7_laysThen ∈ WS := wm5 233 rfl rfl
theorem hs_X7_laysThen : Cond.selects yX7_laysThen.cls yX7_laysThen yX7_laysThen ∈ WS := ws5 0 rfl
abbrev uX7_then : xY := (yX7_then, cX7_then, 3, (some .int))
theorem hy_X7_then : xYb uX7_then 2 := ⟨wm5 230 rfl rfl, wm1 8 rfl rfl, by decide +kernel⟩
theorem hi_X7_then : Cond.instanceMethod yX7_then ∈ WS := wm5 228 rfl rfl
theorem hs_X7_then : Cond.selects yX7_then.cls yX7_then yX7_then ∈ WS := wm5 229 rfl rfl
abbrev uX7_putsOut : xY := (yX7_putsOut, cX7_putsOut, 5, (some .boolean))
theorem hy_X7_putsOut : xYb uX7_putsOut 2 := ⟨wm6 2 rfl rfl, wm1 8 rfl rfl, by decide +kernel⟩
theorem hi_X7_putsOut : Cond.instanceMethod yX7_putsOut ∈ WS := wm6 1 rfl rfl
theorem hs_X7_putsOut : Cond.selects yX7_putsOut.cls yX7_putsOut yX7_putsOut ∈ WS := ws5 1 rfl
abbrev uX7_played : xY := (yX7_played, cX7_played, 6, (some .int))
theorem hy_X7_played : xYb uX7_played 2 := ⟨wm5 238 rfl rfl, wm1 8 rfl rfl, by decide +kernel⟩
theorem hi_X7_played : Cond.instanceMethod yX7_played ∈ WS := wm5 236 rfl rfl
theorem hs_X7_played : Cond.selects yX7_played.cls yX7_played yX7_played ∈ WS := wm5 237 rfl rfl
abbrev uX7_outBy : xY := (yX7_outBy, cX7_outBy, 3, (some .int))
theorem hy_X7_outBy : xYb uX7_outBy 1 := ⟨wm6 6 rfl rfl, wm1 8 rfl rfl, by decide +kernel⟩
theorem hi_X7_outBy : Cond.instanceMethod yX7_outBy ∈ WS := wm6 4 rfl rfl
theorem hs_X7_outBy : Cond.selects yX7_outBy.cls yX7_outBy yX7_outBy ∈ WS := wm6 5 rfl rfl
abbrev uX7_labels : xY := (yX7_labels, cX7_labels, 6, (some .int))
theorem hy_X7_labels : xYb uX7_labels 3 := ⟨wm6 10 rfl rfl, wm1 8 rfl rfl, by decide +kernel⟩
theorem hi_X7_labels : Cond.instanceMethod yX7_labels ∈ WS := wm6 8 rfl rfl
theorem hs_X7_labels : Cond.selects yX7_labels.cls yX7_labels yX7_labels ∈ WS := wm6 9 rfl rfl
abbrev uX7_weights : xY := (yX7_weights, cX7_weights, 3, (some .int))
theorem hy_X7_weights : xYb uX7_weights 0 := ⟨wm6 19 rfl rfl, wm1 8 rfl rfl, by decide +kernel⟩
theorem hi_X7_weights : Cond.instanceMethod yX7_weights ∈ WS := wm6 18 rfl rfl
theorem hs_X7_weights : Cond.selects yX7_weights.cls yX7_weights yX7_weights ∈ WS := ws5 2 rfl
abbrev uX7_thereIn : xY := (yX7_thereIn, cX7_thereIn, 4, (some .int))
theorem hy_X7_thereIn : xYb uX7_thereIn 1 := ⟨wm6 23 rfl rfl, wm1 8 rfl rfl, by decide +kernel⟩
theorem hi_X7_thereIn : Cond.instanceMethod yX7_thereIn ∈ WS := wm6 22 rfl rfl
theorem hs_X7_thereIn : Cond.selects yX7_thereIn.cls yX7_thereIn yX7_thereIn ∈ WS := ws5 3 rfl
abbrev uX7_total : xY := (yX7_total, cX7_total, 3, (some .int))
theorem hy_X7_total : xYb uX7_total 2 := ⟨wm6 15 rfl rfl, wm1 8 rfl rfl, by decide +kernel⟩
theorem hi_X7_total : Cond.instanceMethod yX7_total ∈ WS := wm6 13 rfl rfl
theorem hs_X7_total : Cond.selects yX7_total.cls yX7_total yX7_total ∈ WS := wm6 14 rfl rfl
abbrev uX7_mode : xY := (yX7_mode, cX7_mode, 4, (some .int))
theorem hy_X7_mode : xYb uX7_mode 1 := ⟨wm6 27 rfl rfl, wm1 8 rfl rfl, by decide +kernel⟩
theorem hi_X7_mode : Cond.instanceMethod yX7_mode ∈ WS := wm6 25 rfl rfl
theorem hs_X7_mode : Cond.selects yX7_mode.cls yX7_mode yX7_mode ∈ WS := wm6 26 rfl rfl
abbrev uX7_unlike : xY := (yX7_unlike, cX7_unlike, 6, (some .int))
theorem hy_X7_unlike : xYb uX7_unlike 2 := ⟨wm6 31 rfl rfl, wm1 8 rfl rfl, by decide +kernel⟩
theorem hi_X7_unlike : Cond.instanceMethod yX7_unlike ∈ WS := wm6 29 rfl rfl
theorem hs_X7_unlike : Cond.selects yX7_unlike.cls yX7_unlike yX7_unlike ∈ WS := wm6 30 rfl rfl
abbrev uX7_exchanges : xY := (yX7_exchanges, cX7_exchanges, 4, none)
theorem hy_X7_exchanges : xYb uX7_exchanges 2 := ⟨wm6 43 rfl rfl, wm1 8 rfl rfl, by decide +kernel⟩
theorem hi_X7_exchanges : Cond.instanceMethod yX7_exchanges ∈ WS := wm6 42 rfl rfl
theorem hs_X7_exchanges : Cond.selects yX7_exchanges.cls yX7_exchanges yX7_exchanges ∈ WS := ws5 5 rfl
abbrev uX7_putsAside : xY := (yX7_putsAside, cX7_putsAside, 2, none)
theorem hy_X7_putsAside : xYb uX7_putsAside 0 := ⟨wm6 39 rfl rfl, wm1 8 rfl rfl, by decide +kernel⟩
theorem hi_X7_putsAside : Cond.instanceMethod yX7_putsAside ∈ WS := wm6 38 rfl rfl
theorem hs_X7_putsAside : Cond.selects yX7_putsAside.cls yX7_putsAside yX7_putsAside ∈ WS := ws5 4 rfl
abbrev uX7_same : xY := (yX7_same, cX7_same, 6, (some .int))
theorem hy_X7_same : xYb uX7_same 2 := ⟨wm6 35 rfl rfl, wm1 8 rfl rfl, by decide +kernel⟩
theorem hi_X7_same : Cond.instanceMethod yX7_same ∈ WS := wm6 33 rfl rfl
theorem hs_X7_same : Cond.selects yX7_same.cls yX7_same yX7_same ∈ WS := wm6 34 rfl rfl
abbrev uX7_keepsAct : xY := (yX7_keepsAct, cX7_keepsAct, 2, none)
theorem hy_X7_keepsAct : xYb uX7_keepsAct 0 := ⟨wm6 51 rfl rfl, wm1 8 rfl rfl, by decide +kernel⟩
theorem hi_X7_keepsAct : Cond.instanceMethod yX7_keepsAct ∈ WS := wm6 50 rfl rfl
theorem hs_X7_keepsAct : Cond.selects yX7_keepsAct.cls yX7_keepsAct yX7_keepsAct ∈ WS := ws5 6 rfl
abbrev uX7_sets : xY := (yX7_sets, cX7_sets, 4, none)
theorem hy_X7_sets : xYb uX7_sets 3 := ⟨wm6 59 rfl rfl, wm1 8 rfl rfl, by decide +kernel⟩
theorem hi_X7_sets : Cond.instanceMethod yX7_sets ∈ WS := wm6 58 rfl rfl
theorem hs_X7_sets : Cond.selects yX7_sets.cls yX7_sets yX7_sets ∈ WS := ws5 8 rfl
abbrev uX7_comesNew : xY := (yX7_comesNew, cX7_comesNew, 6, (some .int))
theorem hy_X7_comesNew : xYb uX7_comesNew 4 := ⟨wm6 55 rfl rfl, wm1 8 rfl rfl, by decide +kernel⟩
theorem hi_X7_comesNew : Cond.instanceMethod yX7_comesNew ∈ WS := wm6 54 rfl rfl
theorem hs_X7_comesNew : Cond.selects yX7_comesNew.cls yX7_comesNew yX7_comesNew ∈ WS := ws5 7 rfl
abbrev uX7_come : xY := (yX7_come, cX7_come, 4, (some .int))
theorem hy_X7_come : xYb uX7_come 3 := ⟨wm6 47 rfl rfl, wm1 8 rfl rfl, by decide +kernel⟩
theorem hi_X7_come : Cond.instanceMethod yX7_come ∈ WS := wm6 45 rfl rfl
theorem hs_X7_come : Cond.selects yX7_come.cls yX7_come yX7_come ∈ WS := wm6 46 rfl rfl
abbrev uX7_put : xY := (yX7_put, cX7_put, 5, (some .int))
theorem hy_X7_put : xYb uX7_put 4 := ⟨wm6 63 rfl rfl, wm1 8 rfl rfl, by decide +kernel⟩
theorem hi_X7_put : Cond.instanceMethod yX7_put ∈ WS := wm6 61 rfl rfl
theorem hs_X7_put : Cond.selects yX7_put.cls yX7_put yX7_put ∈ WS := wm6 62 rfl rfl
abbrev uX7_pass : xY := (yX7_pass, cX7_pass, 2, (some .int))
theorem hy_X7_pass : xYb uX7_pass 1 := ⟨wm6 67 rfl rfl, wm1 8 rfl rfl, by decide +kernel⟩
theorem hi_X7_pass : Cond.instanceMethod yX7_pass ∈ WS := wm6 65 rfl rfl
theorem hs_X7_pass : Cond.selects yX7_pass.cls yX7_pass yX7_pass ∈ WS := wm6 66 rfl rfl
abbrev uX7_becomes : xY := (yX7_becomes, cX7_becomes, 4, (some .int))
theorem hy_X7_becomes : xYb uX7_becomes 2 := ⟨wm6 76 rfl rfl, wm1 8 rfl rfl, by decide +kernel⟩
theorem hi_X7_becomes : Cond.instanceMethod yX7_becomes ∈ WS := wm6 75 rfl rfl
theorem hs_X7_becomes : Cond.selects yX7_becomes.cls yX7_becomes yX7_becomes ∈ WS := ws5 9 rfl
abbrev uX7_size : xY := (yX7_size, cX7_size, 3, (some .int))
theorem hy_X7_size : xYb uX7_size 2 := ⟨wm6 72 rfl rfl, wm1 8 rfl rfl, by decide +kernel⟩
theorem hi_X7_size : Cond.instanceMethod yX7_size ∈ WS := wm6 70 rfl rfl
theorem hs_X7_size : Cond.selects yX7_size.cls yX7_size yX7_size ∈ WS := wm6 71 rfl rfl
abbrev uX7_window : xY := (yX7_window, cX7_window, 3, (some .int))
theorem hy_X7_window : xYb uX7_window 2 := ⟨wm6 80 rfl rfl, wm1 8 rfl rfl, by decide +kernel⟩
theorem hi_X7_window : Cond.instanceMethod yX7_window ∈ WS := wm6 78 rfl rfl
theorem hs_X7_window : Cond.selects yX7_window.cls yX7_window yX7_window ∈ WS := wm6 79 rfl rfl
abbrev uX7_weigh : xY := (yX7_weigh, cX7_weigh, 3, (some .int))
theorem hy_X7_weigh : xYb uX7_weigh 2 := ⟨wm6 84 rfl rfl, wm1 8 rfl rfl, by decide +kernel⟩
theorem hi_X7_weigh : Cond.instanceMethod yX7_weigh ∈ WS := wm6 82 rfl rfl
theorem hs_X7_weigh : Cond.selects yX7_weigh.cls yX7_weigh yX7_weigh ∈ WS := wm6 83 rfl rfl
abbrev uX7_again : xY := (yX7_again, cX7_again, 3, (some .int))
theorem hy_X7_again : xYb uX7_again 1 := ⟨wm6 92 rfl rfl, wm1 8 rfl rfl, by decide +kernel⟩
theorem hi_X7_again : Cond.instanceMethod yX7_again ∈ WS := wm6 90 rfl rfl
theorem hs_X7_again : Cond.selects yX7_again.cls yX7_again yX7_again ∈ WS := wm6 91 rfl rfl
abbrev uX7_drop : xY := (yX7_drop, cX7_drop, 3, (some .int))
theorem hy_X7_drop : xYb uX7_drop 1 := ⟨wm6 96 rfl rfl, wm1 8 rfl rfl, by decide +kernel⟩
theorem hi_X7_drop : Cond.instanceMethod yX7_drop ∈ WS := wm6 94 rfl rfl
theorem hs_X7_drop : Cond.selects yX7_drop.cls yX7_drop yX7_drop ∈ WS := wm6 95 rfl rfl
abbrev uX7_move : xY := (yX7_move, cX7_move, 3, (some .int))
theorem hy_X7_move : xYb uX7_move 2 := ⟨wm6 100 rfl rfl, wm1 8 rfl rfl, by decide +kernel⟩
theorem hi_X7_move : Cond.instanceMethod yX7_move ∈ WS := wm6 98 rfl rfl
theorem hs_X7_move : Cond.selects yX7_move.cls yX7_move yX7_move ∈ WS := wm6 99 rfl rfl
abbrev uX7_merge : xY := (yX7_merge, cX7_merge, 5, (some .int))
theorem hy_X7_merge : xYb uX7_merge 2 := ⟨wm6 104 rfl rfl, wm1 8 rfl rfl, by decide +kernel⟩
theorem hi_X7_merge : Cond.instanceMethod yX7_merge ∈ WS := wm6 102 rfl rfl
theorem hs_X7_merge : Cond.selects yX7_merge.cls yX7_merge yX7_merge ∈ WS := wm6 103 rfl rfl
abbrev uX7_rename : xY := (yX7_rename, cX7_rename, 5, (some .int))
theorem hy_X7_rename : xYb uX7_rename 2 := ⟨wm6 108 rfl rfl, wm1 8 rfl rfl, by decide +kernel⟩
theorem hi_X7_rename : Cond.instanceMethod yX7_rename ∈ WS := wm6 106 rfl rfl
theorem hs_X7_rename : Cond.selects yX7_rename.cls yX7_rename yX7_rename ∈ WS := wm6 107 rfl rfl
abbrev uX7_thin : xY := (yX7_thin, cX7_thin, 4, (some .int))
theorem hy_X7_thin : xYb uX7_thin 1 := ⟨wm6 112 rfl rfl, wm1 8 rfl rfl, by decide +kernel⟩
theorem hi_X7_thin : Cond.instanceMethod yX7_thin ∈ WS := wm6 110 rfl rfl
theorem hs_X7_thin : Cond.selects yX7_thin.cls yX7_thin yX7_thin ∈ WS := wm6 111 rfl rfl
abbrev uX7_seed : xY := (yX7_seed, cX7_seed, 2, (some .int))
theorem hy_X7_seed : xYb uX7_seed 1 := ⟨wm6 116 rfl rfl, wm1 8 rfl rfl, by decide +kernel⟩
theorem hi_X7_seed : Cond.instanceMethod yX7_seed ∈ WS := wm6 114 rfl rfl
theorem hs_X7_seed : Cond.selects yX7_seed.cls yX7_seed yX7_seed ∈ WS := wm6 115 rfl rfl
abbrev uX7_undo : xY := (yX7_undo, cX7_undo, 1, (some .int))
theorem hy_X7_undo : xYb uX7_undo 0 := ⟨wm6 121 rfl rfl, wm1 8 rfl rfl, by decide +kernel⟩
theorem hi_X7_undo : Cond.instanceMethod yX7_undo ∈ WS := wm6 119 rfl rfl
theorem hs_X7_undo : Cond.selects yX7_undo.cls yX7_undo yX7_undo ∈ WS := wm6 120 rfl rfl
abbrev uX7_keep : xY := (yX7_keep, cX7_keep, 3, (some .int))
theorem hy_X7_keep : xYb uX7_keep 1 := ⟨wm6 125 rfl rfl, wm1 8 rfl rfl, by decide +kernel⟩
theorem hi_X7_keep : Cond.instanceMethod yX7_keep ∈ WS := wm6 123 rfl rfl
theorem hs_X7_keep : Cond.selects yX7_keep.cls yX7_keep yX7_keep ∈ WS := wm6 124 rfl rfl
abbrev uX7_back : xY := (yX7_back, cX7_back, 2, (some .int))
theorem hy_X7_back : xYb uX7_back 1 := ⟨wm6 129 rfl rfl, wm1 8 rfl rfl, by decide +kernel⟩
theorem hi_X7_back : Cond.instanceMethod yX7_back ∈ WS := wm6 127 rfl rfl
theorem hs_X7_back : Cond.selects yX7_back.cls yX7_back yX7_back ∈ WS := wm6 128 rfl rfl
abbrev uX7_spell : xY := (yX7_spell, cX7_spell, 2, none)
theorem hy_X7_spell : xYb uX7_spell 1 := ⟨wm6 146 rfl rfl, wm1 8 rfl rfl, by decide +kernel⟩
theorem hi_X7_spell : Cond.instanceMethod yX7_spell ∈ WS := wm6 145 rfl rfl
theorem hs_X7_spell : Cond.selects yX7_spell.cls yX7_spell yX7_spell ∈ WS := ws5 13 rfl
abbrev uX7_spellNumber : xY := (yX7_spellNumber, cX7_spellNumber, 2, none)
theorem hy_X7_spellNumber : xYb uX7_spellNumber 1 := ⟨wm6 156 rfl rfl, wm1 8 rfl rfl, by decide +kernel⟩
theorem hi_X7_spellNumber : Cond.instanceMethod yX7_spellNumber ∈ WS := wm6 155 rfl rfl
theorem hs_X7_spellNumber : Cond.selects yX7_spellNumber.cls yX7_spellNumber yX7_spellNumber ∈ WS := ws5 15 rfl
abbrev uX7_spells : xY := (yX7_spells, cX7_spells, 3, none)
theorem hy_X7_spells : xYb uX7_spells 1 := ⟨wm6 142 rfl rfl, wm1 8 rfl rfl, by decide +kernel⟩
theorem hi_X7_spells : Cond.instanceMethod yX7_spells ∈ WS := wm6 141 rfl rfl
theorem hs_X7_spells : Cond.selects yX7_spells.cls yX7_spells yX7_spells ∈ WS := ws5 12 rfl
abbrev uX7_spellsOn : xY := (yX7_spellsOn, cX7_spellsOn, 2, none)
theorem hy_X7_spellsOn : xYb uX7_spellsOn 1 := ⟨wm6 152 rfl rfl, wm1 8 rfl rfl, by decide +kernel⟩
theorem hi_X7_spellsOn : Cond.instanceMethod yX7_spellsOn ∈ WS := wm6 151 rfl rfl
theorem hs_X7_spellsOn : Cond.selects yX7_spellsOn.cls yX7_spellsOn yX7_spellsOn ∈ WS := ws5 14 rfl
abbrev uX7_spellWait : xY := (yX7_spellWait, cX7_spellWait, 3, none)
theorem hy_X7_spellWait : xYb uX7_spellWait 1 := ⟨wm6 161 rfl rfl, wm1 8 rfl rfl, by decide +kernel⟩
theorem hi_X7_spellWait : Cond.instanceMethod yX7_spellWait ∈ WS := wm6 160 rfl rfl
theorem hs_X7_spellWait : Cond.selects yX7_spellWait.cls yX7_spellWait yX7_spellWait ∈ WS := ws6 0 rfl
abbrev uX7_spellAll : xY := (yX7_spellAll, cX7_spellAll, 3, none)
theorem hy_X7_spellAll : xYb uX7_spellAll 0 := ⟨wm6 137 rfl rfl, wm1 8 rfl rfl, by decide +kernel⟩
theorem hi_X7_spellAll : Cond.instanceMethod yX7_spellAll ∈ WS := wm6 136 rfl rfl
theorem hs_X7_spellAll : Cond.selects yX7_spellAll.cls yX7_spellAll yX7_spellAll ∈ WS := ws5 11 rfl
abbrev uX7_told : xY := (yX7_told, cX7_told, 2, (some .int))
theorem hy_X7_told : xYb uX7_told 1 := ⟨wm6 133 rfl rfl, wm1 8 rfl rfl, by decide +kernel⟩
theorem hi_X7_told : Cond.instanceMethod yX7_told ∈ WS := wm6 131 rfl rfl
theorem hs_X7_told : Cond.selects yX7_told.cls yX7_told yX7_told ∈ WS := wm6 132 rfl rfl
abbrev uX7_digest : xY := (yX7_digest, cX7_digest, 5, (some .long))
theorem hy_X7_digest : xYb uX7_digest 0 := ⟨wm6 168 rfl rfl, wm1 8 rfl rfl, by decide +kernel⟩
theorem hi_X7_digest : Cond.instanceMethod yX7_digest ∈ WS := wm6 166 rfl rfl
theorem hs_X7_digest : Cond.selects yX7_digest.cls yX7_digest yX7_digest ∈ WS := wm6 167 rfl rfl
abbrev uX7_count : xY := (yX7_count, cX7_count, 5, (some .int))
theorem hy_X7_count : xYb uX7_count 1 := ⟨wm6 174 rfl rfl, wm1 8 rfl rfl, by decide +kernel⟩
theorem hi_X7_count : Cond.instanceMethod yX7_count ∈ WS := wm6 172 rfl rfl
theorem hs_X7_count : Cond.selects yX7_count.cls yX7_count yX7_count ∈ WS := wm6 173 rfl rfl
abbrev uX7_laysFour : xY := (yX7_laysFour, cX7_laysFour, 3, none)
theorem hy_X7_laysFour : xYb uX7_laysFour 1 := ⟨wm6 182 rfl rfl, wm1 8 rfl rfl, by decide +kernel⟩
theorem hi_X7_laysFour : Cond.instanceMethod yX7_laysFour ∈ WS := wm6 181 rfl rfl
theorem hs_X7_laysFour : Cond.selects yX7_laysFour.cls yX7_laysFour yX7_laysFour ∈ WS := ws6 1 rfl
abbrev uX7_feed : xY := (yX7_feed, cX7_feed, 6, (some .int))
theorem hy_X7_feed : xYb uX7_feed 5 := ⟨wm6 178 rfl rfl, wm1 8 rfl rfl, by decide +kernel⟩
theorem hi_X7_feed : Cond.instanceMethod yX7_feed ∈ WS := wm6 176 rfl rfl
theorem hs_X7_feed : Cond.selects yX7_feed.cls yX7_feed yX7_feed ∈ WS := wm6 177 rfl rfl
abbrev uX7_end : xY := (yX7_end, cX7_end, 2, (some .int))
theorem hy_X7_end : xYb uX7_end 1 := ⟨wm6 186 rfl rfl, wm1 8 rfl rfl, by decide +kernel⟩
theorem hi_X7_end : Cond.instanceMethod yX7_end ∈ WS := wm6 184 rfl rfl
theorem hs_X7_end : Cond.selects yX7_end.cls yX7_end yX7_end ∈ WS := wm6 185 rfl rfl
abbrev uX7_byteAt : xY := (yX7_byteAt, cX7_byteAt, 2, (some .int))
theorem hy_X7_byteAt : xYb uX7_byteAt 1 := ⟨wm6 206 rfl rfl, wm1 8 rfl rfl, by decide +kernel⟩
theorem hi_X7_byteAt : Cond.instanceMethod yX7_byteAt ∈ WS := wm6 205 rfl rfl
theorem hs_X7_byteAt : Cond.selects yX7_byteAt.cls yX7_byteAt yX7_byteAt ∈ WS := ws6 5 rfl
abbrev uX7_nextByte : xY := (yX7_nextByte, cX7_nextByte, 1, (some .int))
theorem hy_X7_nextByte : xYb uX7_nextByte 0 := ⟨wm6 202 rfl rfl, wm1 8 rfl rfl, by decide +kernel⟩
theorem hi_X7_nextByte : Cond.instanceMethod yX7_nextByte ∈ WS := wm6 201 rfl rfl
theorem hs_X7_nextByte : Cond.selects yX7_nextByte.cls yX7_nextByte yX7_nextByte ∈ WS := ws6 4 rfl
abbrev uX7_fails : xY := (yX7_fails, cX7_fails, 3, (some .boolean))
theorem hy_X7_fails : xYb uX7_fails 2 := ⟨wm6 226 rfl rfl, wm1 8 rfl rfl, by decide +kernel⟩
theorem hi_X7_fails : Cond.instanceMethod yX7_fails ∈ WS := wm6 225 rfl rfl
theorem hs_X7_fails : Cond.selects yX7_fails.cls yX7_fails yX7_fails ∈ WS := ws6 9 rfl
abbrev uX7_takesWord : xY := (yX7_takesWord, cX7_takesWord, 5, (some .boolean))
theorem hy_X7_takesWord : xYb uX7_takesWord 1 := ⟨wm6 210 rfl rfl, wm1 8 rfl rfl, by decide +kernel⟩
theorem hi_X7_takesWord : Cond.instanceMethod yX7_takesWord ∈ WS := wm6 209 rfl rfl
theorem hs_X7_takesWord : Cond.selects yX7_takesWord.cls yX7_takesWord yX7_takesWord ∈ WS := ws6 6 rfl
abbrev uX7_readsNumber : xY := (yX7_readsNumber, cX7_readsNumber, 4, (some .boolean))
theorem hy_X7_readsNumber : xYb uX7_readsNumber 2 := ⟨wm6 220 rfl rfl, wm1 8 rfl rfl, by decide +kernel⟩
theorem hi_X7_readsNumber : Cond.instanceMethod yX7_readsNumber ∈ WS := wm6 219 rfl rfl
theorem hs_X7_readsNumber : Cond.selects yX7_readsNumber.cls yX7_readsNumber yX7_readsNumber ∈ WS := ws6 8 rfl
abbrev uX7_readsLabel : xY := (yX7_readsLabel, cX7_readsLabel, 2, (some .boolean))
theorem hy_X7_readsLabel : xYb uX7_readsLabel 0 := ⟨wm7 8 rfl rfl, wm1 8 rfl rfl, by decide +kernel⟩
theorem hi_X7_readsLabel : Cond.instanceMethod yX7_readsLabel ∈ WS := wm7 7 rfl rfl
theorem hs_X7_readsLabel : Cond.selects yX7_readsLabel.cls yX7_readsLabel yX7_readsLabel ∈ WS := ws6 14 rfl
abbrev uX7_readsSize : xY := (yX7_readsSize, cX7_readsSize, 2, (some .boolean))
theorem hy_X7_readsSize : xYb uX7_readsSize 0 := ⟨wm6 216 rfl rfl, wm1 8 rfl rfl, by decide +kernel⟩
theorem hi_X7_readsSize : Cond.instanceMethod yX7_readsSize ∈ WS := wm6 215 rfl rfl
theorem hs_X7_readsSize : Cond.selects yX7_readsSize.cls yX7_readsSize yX7_readsSize ∈ WS := ws6 7 rfl
abbrev uX7_readsWindow : xY := (yX7_readsWindow, cX7_readsWindow, 2, (some .boolean))
theorem hy_X7_readsWindow : xYb uX7_readsWindow 0 := ⟨wm6 230 rfl rfl, wm1 8 rfl rfl, by decide +kernel⟩
theorem hi_X7_readsWindow : Cond.instanceMethod yX7_readsWindow ∈ WS := wm6 229 rfl rfl
theorem hs_X7_readsWindow : Cond.selects yX7_readsWindow.cls yX7_readsWindow yX7_readsWindow ∈ WS := ws6 10 rfl
abbrev uX7_readsSeed : xY := (yX7_readsSeed, cX7_readsSeed, 1, (some .boolean))
theorem hy_X7_readsSeed : xYb uX7_readsSeed 0 := ⟨wm6 234 rfl rfl, wm1 8 rfl rfl, by decide +kernel⟩
theorem hi_X7_readsSeed : Cond.instanceMethod yX7_readsSeed ∈ WS := wm6 233 rfl rfl
theorem hs_X7_readsSeed : Cond.selects yX7_readsSeed.cls yX7_readsSeed yX7_readsSeed ∈ WS := ws6 11 rfl
abbrev uX7_readsWait : xY := (yX7_readsWait, cX7_readsWait, 2, (some .boolean))
theorem hy_X7_readsWait : xYb uX7_readsWait 1 := ⟨wm6 239 rfl rfl, wm1 8 rfl rfl, by decide +kernel⟩
theorem hi_X7_readsWait : Cond.instanceMethod yX7_readsWait ∈ WS := wm6 238 rfl rfl
theorem hs_X7_readsWait : Cond.selects yX7_readsWait.cls yX7_readsWait yX7_readsWait ∈ WS := ws6 12 rfl
abbrev uX7_readsItem : xY := (yX7_readsItem, cX7_readsItem, 10, (some .boolean))
theorem hy_X7_readsItem : xYb uX7_readsItem 2 := ⟨wm7 4 rfl rfl, wm1 8 rfl rfl, by decide +kernel⟩
theorem hi_X7_readsItem : Cond.instanceMethod yX7_readsItem ∈ WS := wm7 3 rfl rfl
theorem hs_X7_readsItem : Cond.selects yX7_readsItem.cls yX7_readsItem yX7_readsItem ∈ WS := ws6 13 rfl
abbrev uX7_readsStatement : xY := (yX7_readsStatement, cX7_readsStatement, 3, (some .boolean))
theorem hy_X7_readsStatement : xYb uX7_readsStatement 0 := ⟨wm6 198 rfl rfl, wm1 8 rfl rfl, by decide +kernel⟩
theorem hi_X7_readsStatement : Cond.instanceMethod yX7_readsStatement ∈ WS := wm6 197 rfl rfl
theorem hs_X7_readsStatement : Cond.selects yX7_readsStatement.cls yX7_readsStatement yX7_readsStatement ∈ WS := ws6 3 rfl
abbrev uX7_readsAll : xY := (yX7_readsAll, cX7_readsAll, 2, (some .boolean))
theorem hy_X7_readsAll : xYb uX7_readsAll 0 := ⟨wm6 194 rfl rfl, wm1 8 rfl rfl, by decide +kernel⟩
theorem hi_X7_readsAll : Cond.instanceMethod yX7_readsAll ∈ WS := wm6 193 rfl rfl
theorem hs_X7_readsAll : Cond.selects yX7_readsAll.cls yX7_readsAll yX7_readsAll ∈ WS := ws6 2 rfl
abbrev uX7_tell : xY := (yX7_tell, cX7_tell, 2, (some .int))
theorem hy_X7_tell : xYb uX7_tell 0 := ⟨wm6 190 rfl rfl, wm1 8 rfl rfl, by decide +kernel⟩
theorem hi_X7_tell : Cond.instanceMethod yX7_tell ∈ WS := wm6 188 rfl rfl
theorem hs_X7_tell : Cond.selects yX7_tell.cls yX7_tell yX7_tell ∈ WS := wm6 189 rfl rfl
abbrev uX7_swap : xY := (yX7_swap, cX7_swap, 5, (some .int))
theorem hy_X7_swap : xYb uX7_swap 2 := ⟨wm7 13 rfl rfl, wm1 8 rfl rfl, by decide +kernel⟩
theorem hi_X7_swap : Cond.instanceMethod yX7_swap ∈ WS := wm7 11 rfl rfl
theorem hs_X7_swap : Cond.selects yX7_swap.cls yX7_swap yX7_swap ∈ WS := wm7 12 rfl rfl
abbrev uX7_heavier : xY := (yX7_heavier, cX7_heavier, 2, (some .int))
theorem hy_X7_heavier : xYb uX7_heavier 2 := ⟨wm7 21 rfl rfl, wm1 8 rfl rfl, by decide +kernel⟩
theorem ht_X7_heavier : Cond.static yX7_heavier ∈ WS := wm7 20 rfl rfl
abbrev uX7_weighAll : xY := (yX7_weighAll, cX7_weighAll, 5, (some .int))
theorem hy_X7_weighAll : xYb uX7_weighAll 2 := ⟨wm7 17 rfl rfl, wm1 8 rfl rfl, by decide +kernel⟩
theorem hi_X7_weighAll : Cond.instanceMethod yX7_weighAll ∈ WS := wm7 15 rfl rfl
theorem hs_X7_weighAll : Cond.selects yX7_weighAll.cls yX7_weighAll yX7_weighAll ∈ WS := wm7 16 rfl rfl
abbrev uX7_split : xY := (yX7_split, cX7_split, 6, (some .int))
theorem hy_X7_split : xYb uX7_split 3 := ⟨wm7 25 rfl rfl, wm1 8 rfl rfl, by decide +kernel⟩
theorem hi_X7_split : Cond.instanceMethod yX7_split ∈ WS := wm7 23 rfl rfl
theorem hs_X7_split : Cond.selects yX7_split.cls yX7_split yX7_split ∈ WS := wm7 24 rfl rfl
abbrev uX7_isExpired : xY := (yX7_isExpired, cX7_isExpired, 2, (some .boolean))
theorem hy_X7_isExpired : xYb uX7_isExpired 1 := ⟨wm7 33 rfl rfl, wm1 8 rfl rfl, by decide +kernel⟩
theorem hi_X7_isExpired : Cond.instanceMethod yX7_isExpired ∈ WS := wm7 32 rfl rfl
theorem hs_X7_isExpired : Cond.selects yX7_isExpired.cls yX7_isExpired yX7_isExpired ∈ WS := ws6 15 rfl
abbrev uX7_purge : xY := (yX7_purge, cX7_purge, 3, (some .int))
theorem hy_X7_purge : xYb uX7_purge 0 := ⟨wm7 29 rfl rfl, wm1 8 rfl rfl, by decide +kernel⟩
theorem hi_X7_purge : Cond.instanceMethod yX7_purge ∈ WS := wm7 27 rfl rfl
theorem hs_X7_purge : Cond.selects yX7_purge.cls yX7_purge yX7_purge ∈ WS := wm7 28 rfl rfl
abbrev uX7_lots : xY := (yX7_lots, cX7_lots, 5, (some .int))
theorem hy_X7_lots : xYb uX7_lots 2 := ⟨wm7 37 rfl rfl, wm1 8 rfl rfl, by decide +kernel⟩
theorem hi_X7_lots : Cond.instanceMethod yX7_lots ∈ WS := wm7 35 rfl rfl
theorem hs_X7_lots : Cond.selects yX7_lots.cls yX7_lots yX7_lots ∈ WS := wm7 36 rfl rfl
abbrev uX7_kindsOf : xY := (yX7_kindsOf, cX7_kindsOf, 5, (some .int))
theorem hy_X7_kindsOf : xYb uX7_kindsOf 2 := ⟨wm7 45 rfl rfl, wm1 8 rfl rfl, by decide +kernel⟩
theorem hi_X7_kindsOf : Cond.instanceMethod yX7_kindsOf ∈ WS := wm7 44 rfl rfl
theorem hs_X7_kindsOf : Cond.selects yX7_kindsOf.cls yX7_kindsOf yX7_kindsOf ∈ WS := ws7 0 rfl
abbrev uX7_kinds : xY := (yX7_kinds, cX7_kinds, 3, (some .int))
theorem hy_X7_kinds : xYb uX7_kinds 2 := ⟨wm7 41 rfl rfl, wm1 8 rfl rfl, by decide +kernel⟩
theorem hi_X7_kinds : Cond.instanceMethod yX7_kinds ∈ WS := wm7 39 rfl rfl
theorem hs_X7_kinds : Cond.selects yX7_kinds.cls yX7_kinds yX7_kinds ∈ WS := wm7 40 rfl rfl
abbrev uX7_sizeForKinds : xY := (yX7_sizeForKinds, cX7_sizeForKinds, 4, (some .int))
theorem hy_X7_sizeForKinds : xYb uX7_sizeForKinds 2 := ⟨wm7 49 rfl rfl, wm1 8 rfl rfl, by decide +kernel⟩
theorem hi_X7_sizeForKinds : Cond.instanceMethod yX7_sizeForKinds ∈ WS := wm7 47 rfl rfl
theorem hs_X7_sizeForKinds : Cond.selects yX7_sizeForKinds.cls yX7_sizeForKinds yX7_sizeForKinds ∈ WS := wm7 48 rfl rfl
abbrev uX7_labelSet : xY := (yX7_labelSet, cX7_labelSet, 4, (some .int))
theorem hy_X7_labelSet : xYb uX7_labelSet 1 := ⟨wm7 57 rfl rfl, wm1 8 rfl rfl, by decide +kernel⟩
theorem hi_X7_labelSet : Cond.instanceMethod yX7_labelSet ∈ WS := wm7 56 rfl rfl
theorem hs_X7_labelSet : Cond.selects yX7_labelSet.cls yX7_labelSet yX7_labelSet ∈ WS := ws7 1 rfl
abbrev uX7_shared : xY := (yX7_shared, cX7_shared, 3, (some .int))
theorem hy_X7_shared : xYb uX7_shared 2 := ⟨wm7 53 rfl rfl, wm1 8 rfl rfl, by decide +kernel⟩
theorem hi_X7_shared : Cond.instanceMethod yX7_shared ∈ WS := wm7 51 rfl rfl
theorem hs_X7_shared : Cond.selects yX7_shared.cls yX7_shared yX7_shared ∈ WS := wm7 52 rfl rfl
abbrev uX7_cameIn : xY := (yX7_cameIn, cX7_cameIn, 5, (some .int))
theorem hy_X7_cameIn : xYb uX7_cameIn 2 := ⟨wm7 65 rfl rfl, wm1 8 rfl rfl, by decide +kernel⟩
theorem hi_X7_cameIn : Cond.instanceMethod yX7_cameIn ∈ WS := wm7 64 rfl rfl
theorem hs_X7_cameIn : Cond.selects yX7_cameIn.cls yX7_cameIn yX7_cameIn ∈ WS := ws7 2 rfl
abbrev uX7_busiest : xY := (yX7_busiest, cX7_busiest, 7, (some .int))
theorem hy_X7_busiest : xYb uX7_busiest 2 := ⟨wm7 61 rfl rfl, wm1 8 rfl rfl, by decide +kernel⟩
theorem hi_X7_busiest : Cond.instanceMethod yX7_busiest ∈ WS := wm7 59 rfl rfl
theorem hs_X7_busiest : Cond.selects yX7_busiest.cls yX7_busiest yX7_busiest ∈ WS := wm7 60 rfl rfl
abbrev uX7_without : xY := (yX7_without, cX7_without, 6, (some .int))
theorem hy_X7_without : xYb uX7_without 2 := ⟨wm7 69 rfl rfl, wm1 8 rfl rfl, by decide +kernel⟩
theorem hi_X7_without : Cond.instanceMethod yX7_without ∈ WS := wm7 67 rfl rfl
theorem hs_X7_without : Cond.selects yX7_without.cls yX7_without yX7_without ∈ WS := wm7 68 rfl rfl
abbrev uX7_nextLot : xY := (yX7_nextLot, cX7_nextLot, 5, (some .int))
theorem hy_X7_nextLot : xYb uX7_nextLot 1 := ⟨wm7 73 rfl rfl, wm1 8 rfl rfl, by decide +kernel⟩
theorem hi_X7_nextLot : Cond.instanceMethod yX7_nextLot ∈ WS := wm7 71 rfl rfl
theorem hs_X7_nextLot : Cond.selects yX7_nextLot.cls yX7_nextLot yX7_nextLot ∈ WS := wm7 72 rfl rfl
abbrev uX7_expired : xY := (yX7_expired, cX7_expired, 4, (some .int))
theorem hy_X7_expired : xYb uX7_expired 2 := ⟨wm7 78 rfl rfl, wm1 8 rfl rfl, by decide +kernel⟩
theorem hi_X7_expired : Cond.instanceMethod yX7_expired ∈ WS := wm7 76 rfl rfl
theorem hs_X7_expired : Cond.selects yX7_expired.cls yX7_expired yX7_expired ∈ WS := wm7 77 rfl rfl
abbrev uJ6_compare_7cf53 : xY := (yJ6_compare_7cf53, cJ6_compare_7cf53, 2, (some .int))
theorem hy_J6_compare_7cf53 : xYb uJ6_compare_7cf53 2 := ⟨wm2 193 rfl rfl, wm1 14 rfl rfl, by decide +kernel⟩
theorem ht_J6_compare_7cf53 : Cond.static yJ6_compare_7cf53 ∈ WS := wm2 192 rfl rfl
abbrev uJ13_compare_74951 : xY := (yJ13_compare_74951, cJ13_compare_74951, 4, (some .int))
theorem hy_J13_compare_74951 : xYb uJ13_compare_74951 2 := ⟨wm2 208 rfl rfl, wm1 15 rfl rfl, by decide +kernel⟩
theorem ht_J13_compare_74951 : Cond.static yJ13_compare_74951 ∈ WS := wm2 207 rfl rfl
abbrev uJ0_length_8abf5 : xY := (yJ0_length_8abf5, cJ0_length_8abf5, 1, (some .int))
theorem hy_J0_length_8abf5 : xYb uJ0_length_8abf5 0 := ⟨wm2 53 rfl rfl, wm1 9 rfl rfl, by decide +kernel⟩
theorem hi_J0_length_8abf5 : Cond.instanceMethod yJ0_length_8abf5 ∈ WS := wm2 51 rfl rfl
theorem hs_J0_length_8abf5 : Cond.selects yJ0_length_8abf5.cls yJ0_length_8abf5 yJ0_length_8abf5 ∈ WS := wm2 52 rfl rfl
abbrev uJ0_charAt_5068e : xY := (yJ0_charAt_5068e, cJ0_charAt_5068e, 2, (some .char))
theorem hy_J0_charAt_5068e : xYb uJ0_charAt_5068e 1 := ⟨wm2 68 rfl rfl, wm1 9 rfl rfl, by decide +kernel⟩
theorem hi_J0_charAt_5068e : Cond.instanceMethod yJ0_charAt_5068e ∈ WS := wm2 66 rfl rfl
theorem hs_J0_charAt_5068e : Cond.selects yJ0_charAt_5068e.cls yJ0_charAt_5068e yJ0_charAt_5068e ∈ WS := wm2 67 rfl rfl
abbrev uJ0_coder_7d493 : xY := (yJ0_coder_7d493, cJ0_coder_7d493, 1, (some .byte))
theorem hy_J0_coder_7d493 : xYb uJ0_coder_7d493 0 := ⟨wm2 57 rfl rfl, wm1 9 rfl rfl, by decide +kernel⟩
theorem hi_J0_coder_7d493 : Cond.instanceMethod yJ0_coder_7d493 ∈ WS := wm2 55 rfl rfl
theorem hs_J0_coder_7d493 : Cond.selects yJ0_coder_7d493.cls yJ0_coder_7d493 yJ0_coder_7d493 ∈ WS := wm2 56 rfl rfl
abbrev uJ0_isLatin1_aae02 : xY := (yJ0_isLatin1_aae02, cJ0_isLatin1_aae02, 1, (some .boolean))
theorem hy_J0_isLatin1_aae02 : xYb uJ0_isLatin1_aae02 0 := ⟨wm2 72 rfl rfl, wm1 9 rfl rfl, by decide +kernel⟩
theorem hi_J0_isLatin1_aae02 : Cond.instanceMethod yJ0_isLatin1_aae02 ∈ WS := wm2 70 rfl rfl
theorem hs_J0_isLatin1_aae02 : Cond.selects yJ0_isLatin1_aae02.cls yJ0_isLatin1_aae02 yJ0_isLatin1_aae02 ∈ WS := wm2 71 rfl rfl
abbrev uJ0_checkIndex_df160 : xY := (yJ0_checkIndex_df160, cJ0_checkIndex_df160, 2, none)
theorem hy_J0_checkIndex_df160 : xYb uJ0_checkIndex_df160 2 := ⟨wm2 78 rfl rfl, wm1 9 rfl rfl, by decide +kernel⟩
theorem ht_J0_checkIndex_df160 : Cond.static yJ0_checkIndex_df160 ∈ WS := wm2 77 rfl rfl
abbrev uJ1_charAt_3b067 : xY := (yJ1_charAt_3b067, cJ1_charAt_3b067, 2, (some .char))
theorem hy_J1_charAt_3b067 : xYb uJ1_charAt_3b067 2 := ⟨wm2 75 rfl rfl, wm1 10 rfl rfl, by decide +kernel⟩
theorem ht_J1_charAt_3b067 : Cond.static yJ1_charAt_3b067 ∈ WS := wm2 74 rfl rfl
abbrev uJ2_getChar_3b067 : xY := (yJ2_getChar_3b067, cJ2_getChar_3b067, 2, (some .char))
theorem hy_J2_getChar_3b067 : xYb uJ2_getChar_3b067 2 := ⟨wm2 96 rfl rfl, wm1 12 rfl rfl, by decide +kernel⟩
theorem ht_J2_getChar_3b067 : Cond.static yJ2_getChar_3b067 ∈ WS := wm2 95 rfl rfl
abbrev uJ2_length_9d52b : xY := (yJ2_length_9d52b, cJ2_length_9d52b, 1, (some .int))
theorem hy_J2_length_9d52b : xYb uJ2_length_9d52b 1 := ⟨wm2 92 rfl rfl, wm1 12 rfl rfl, by decide +kernel⟩
theorem ht_J2_length_9d52b : Cond.static yJ2_length_9d52b ∈ WS := wm2 91 rfl rfl
abbrev uJ2_charAt_3b067 : xY := (yJ2_charAt_3b067, cJ2_charAt_3b067, 2, (some .char))
theorem hy_J2_charAt_3b067 : xYb uJ2_charAt_3b067 2 := ⟨wm2 86 rfl rfl, wm1 12 rfl rfl, by decide +kernel⟩
theorem ht_J2_charAt_3b067 : Cond.static yJ2_charAt_3b067 ∈ WS := wm2 85 rfl rfl
abbrev uJ2_checkIndex_2214a : xY := (yJ2_checkIndex_2214a, cJ2_checkIndex_2214a, 2, none)
theorem hy_J2_checkIndex_2214a : xYb uJ2_checkIndex_2214a 2 := ⟨wm2 89 rfl rfl, wm1 12 rfl rfl, by decide +kernel⟩
theorem ht_J2_checkIndex_2214a : Cond.static yJ2_checkIndex_2214a ∈ WS := wm2 88 rfl rfl
abbrev uJ3_checkIndex_8e157 : xY := (yJ3_checkIndex_8e157, cJ3_checkIndex_8e157, 3, (some .int))
theorem hy_J3_checkIndex_8e157 : xYb uJ3_checkIndex_8e157 3 := ⟨wm2 83 rfl rfl, wm1 11 rfl rfl, by decide +kernel⟩
theorem ht_J3_checkIndex_8e157 : Cond.static yJ3_checkIndex_8e157 ∈ WS := wm2 82 rfl rfl
theorem xf0_0 : xFd 0 0 "FairDraws$History" "rows" "[LFairDraws$State;" (.array (.object "FairDraws$State")) true := ⟨RX0, TX0, 3, tyX0, rfl, inX0, by decide, rfl, tyX0_ok, nmX0, rfl, by decide, rfl⟩
theorem xf0_1 : xFd 0 1 "FairDraws$History" "next" "I" .int false := ⟨RX0, TX0, 3, tyX0, rfl, inX0, by decide, rfl, tyX0_ok, nmX0, rfl, by decide, rfl⟩
theorem xf0_2 : xFd 0 2 "FairDraws$History" "length" "I" .int false := ⟨RX0, TX0, 3, tyX0, rfl, inX0, by decide, rfl, tyX0_ok, nmX0, rfl, by decide, rfl⟩
theorem xf1_0 : xFd 1 0 "FairDraws$Keys" "left" "[J" (.array .long) true := ⟨RX1, TX1, 2, tyX1, rfl, inX1, by decide, rfl, tyX1_ok, nmX1, rfl, by decide, rfl⟩
theorem xf1_1 : xFd 1 1 "FairDraws$Keys" "right" "[J" (.array .long) true := ⟨RX1, TX1, 2, tyX1, rfl, inX1, by decide, rfl, tyX1_ok, nmX1, rfl, by decide, rfl⟩
theorem xf2_0 : xFd 2 0 "FairDraws$Sampler" "found" "[I" (.array .int) true := ⟨RX2, TX2, 9, tyX2, rfl, inX2, by decide, rfl, tyX2_ok, nmX2, rfl, by decide, rfl⟩
theorem xf2_1 : xFd 2 1 "FairDraws$Sampler" "ofLabel" "[I" (.array .int) true := ⟨RX2, TX2, 9, tyX2, rfl, inX2, by decide, rfl, tyX2_ok, nmX2, rfl, by decide, rfl⟩
theorem xf2_2 : xFd 2 2 "FairDraws$Sampler" "n" "I" .int false := ⟨RX2, TX2, 9, tyX2, rfl, inX2, by decide, rfl, tyX2_ok, nmX2, rfl, by decide, rfl⟩
theorem xf2_3 : xFd 2 3 "FairDraws$Sampler" "set" "I" .int false := ⟨RX2, TX2, 9, tyX2, rfl, inX2, by decide, rfl, tyX2_ok, nmX2, rfl, by decide, rfl⟩
theorem xf2_4 : xFd 2 4 "FairDraws$Sampler" "most" "I" .int false := ⟨RX2, TX2, 9, tyX2, rfl, inX2, by decide, rfl, tyX2_ok, nmX2, rfl, by decide, rfl⟩
theorem xf2_5 : xFd 2 5 "FairDraws$Sampler" "tick" "I" .int false := ⟨RX2, TX2, 9, tyX2, rfl, inX2, by decide, rfl, tyX2_ok, nmX2, rfl, by decide, rfl⟩
theorem xf2_6 : xFd 2 6 "FairDraws$Sampler" "upTo" "I" .int false := ⟨RX2, TX2, 9, tyX2, rfl, inX2, by decide, rfl, tyX2_ok, nmX2, rfl, by decide, rfl⟩
theorem xf2_7 : xFd 2 7 "FairDraws$Sampler" "leftOut" "I" .int false := ⟨RX2, TX2, 9, tyX2, rfl, inX2, by decide, rfl, tyX2_ok, nmX2, rfl, by decide, rfl⟩
theorem xf2_8 : xFd 2 8 "FairDraws$Sampler" "cap" "I" .int false := ⟨RX2, TX2, 9, tyX2, rfl, inX2, by decide, rfl, tyX2_ok, nmX2, rfl, by decide, rfl⟩
theorem xf3_0 : xFd 3 0 "FairDraws$State" "keys" "LFairDraws$Keys;" (.object "FairDraws$Keys") true := ⟨RX3, TX3, 13, tyX3, rfl, inX3, by decide, rfl, tyX3_ok, nmX3, rfl, by decide, rfl⟩
theorem xf3_1 : xFd 3 1 "FairDraws$State" "shardOf" "[I" (.array .int) true := ⟨RX3, TX3, 13, tyX3, rfl, inX3, by decide, rfl, tyX3_ok, nmX3, rfl, by decide, rfl⟩
theorem xf3_2 : xFd 3 2 "FairDraws$State" "labelOf" "[I" (.array .int) true := ⟨RX3, TX3, 13, tyX3, rfl, inX3, by decide, rfl, tyX3_ok, nmX3, rfl, by decide, rfl⟩
theorem xf3_3 : xFd 3 3 "FairDraws$State" "weightOf" "[I" (.array .int) true := ⟨RX3, TX3, 13, tyX3, rfl, inX3, by decide, rfl, tyX3_ok, nmX3, rfl, by decide, rfl⟩
theorem xf3_4 : xFd 3 4 "FairDraws$State" "lotOf" "[I" (.array .int) true := ⟨RX3, TX3, 13, tyX3, rfl, inX3, by decide, rfl, tyX3_ok, nmX3, rfl, by decide, rfl⟩
theorem xf3_5 : xFd 3 5 "FairDraws$State" "timeOf" "[I" (.array .int) true := ⟨RX3, TX3, 13, tyX3, rfl, inX3, by decide, rfl, tyX3_ok, nmX3, rfl, by decide, rfl⟩
theorem xf3_6 : xFd 3 6 "FairDraws$State" "isDropped" "[Z" (.array .boolean) true := ⟨RX3, TX3, 13, tyX3, rfl, inX3, by decide, rfl, tyX3_ok, nmX3, rfl, by decide, rfl⟩
theorem xf3_7 : xFd 3 7 "FairDraws$State" "ranked" "[I" (.array .int) true := ⟨RX3, TX3, 13, tyX3, rfl, inX3, by decide, rfl, tyX3_ok, nmX3, rfl, by decide, rfl⟩
theorem xf3_8 : xFd 3 8 "FairDraws$State" "sizes" "[I" (.array .int) true := ⟨RX3, TX3, 13, tyX3, rfl, inX3, by decide, rfl, tyX3_ok, nmX3, rfl, by decide, rfl⟩
theorem xf3_9 : xFd 3 9 "FairDraws$State" "windows" "[I" (.array .int) true := ⟨RX3, TX3, 13, tyX3, rfl, inX3, by decide, rfl, tyX3_ok, nmX3, rfl, by decide, rfl⟩
theorem xf3_10 : xFd 3 10 "FairDraws$State" "came" "I" .int false := ⟨RX3, TX3, 13, tyX3, rfl, inX3, by decide, rfl, tyX3_ok, nmX3, rfl, by decide, rfl⟩
theorem xf3_11 : xFd 3 11 "FairDraws$State" "tick" "I" .int false := ⟨RX3, TX3, 13, tyX3, rfl, inX3, by decide, rfl, tyX3_ok, nmX3, rfl, by decide, rfl⟩
theorem xf3_12 : xFd 3 12 "FairDraws$State" "seed" "I" .int false := ⟨RX3, TX3, 13, tyX3, rfl, inX3, by decide, rfl, tyX3_ok, nmX3, rfl, by decide, rfl⟩
theorem xf4_0 : xFd 4 0 "FairDraws$Tape" "bytes" "[I" (.array .int) true := ⟨RX4, TX4, 5, tyX4, rfl, inX4, by decide, rfl, tyX4_ok, nmX4, rfl, by decide, rfl⟩
theorem xf4_1 : xFd 4 1 "FairDraws$Tape" "draft" "LFairDraws$State;" (.object "FairDraws$State") true := ⟨RX4, TX4, 5, tyX4, rfl, inX4, by decide, rfl, tyX4_ok, nmX4, rfl, by decide, rfl⟩
theorem xf4_2 : xFd 4 2 "FairDraws$Tape" "length" "I" .int false := ⟨RX4, TX4, 5, tyX4, rfl, inX4, by decide, rfl, tyX4_ok, nmX4, rfl, by decide, rfl⟩
theorem xf4_3 : xFd 4 3 "FairDraws$Tape" "at" "I" .int false := ⟨RX4, TX4, 5, tyX4, rfl, inX4, by decide, rfl, tyX4_ok, nmX4, rfl, by decide, rfl⟩
theorem xf4_4 : xFd 4 4 "FairDraws$Tape" "fault" "I" .int false := ⟨RX4, TX4, 5, tyX4, rfl, inX4, by decide, rfl, tyX4_ok, nmX4, rfl, by decide, rfl⟩
theorem xf5_0 : xFd 5 0 "FairDraws$Teller" "wanted" "I" .int false := ⟨RX5, TX5, 3, tyX5, rfl, inX5, by decide, rfl, tyX5_ok, nmX5, rfl, by decide, rfl⟩
theorem xf5_1 : xFd 5 1 "FairDraws$Teller" "heard" "I" .int false := ⟨RX5, TX5, 3, tyX5, rfl, inX5, by decide, rfl, tyX5_ok, nmX5, rfl, by decide, rfl⟩
theorem xf5_2 : xFd 5 2 "FairDraws$Teller" "length" "I" .int false := ⟨RX5, TX5, 3, tyX5, rfl, inX5, by decide, rfl, tyX5_ok, nmX5, rfl, by decide, rfl⟩
theorem xf6_0 : xFd 6 0 "FairDraws" "state" "LFairDraws$State;" (.object "FairDraws$State") true := ⟨RX6, TX6, 8, tyX6, rfl, inX6, by decide, rfl, tyX6_ok, nmX6, rfl, by decide, rfl⟩
theorem xf6_1 : xFd 6 1 "FairDraws" "history" "LFairDraws$History;" (.object "FairDraws$History") true := ⟨RX6, TX6, 8, tyX6, rfl, inX6, by decide, rfl, tyX6_ok, nmX6, rfl, by decide, rfl⟩
theorem xf6_2 : xFd 6 2 "FairDraws" "tape" "LFairDraws$Tape;" (.object "FairDraws$Tape") true := ⟨RX6, TX6, 8, tyX6, rfl, inX6, by decide, rfl, tyX6_ok, nmX6, rfl, by decide, rfl⟩
theorem xf6_3 : xFd 6 3 "FairDraws" "shelves" "[LFairDraws$State;" (.array (.object "FairDraws$State")) true := ⟨RX6, TX6, 8, tyX6, rfl, inX6, by decide, rfl, tyX6_ok, nmX6, rfl, by decide, rfl⟩
theorem xf6_4 : xFd 6 4 "FairDraws" "sampler" "LFairDraws$Sampler;" (.object "FairDraws$Sampler") true := ⟨RX6, TX6, 8, tyX6, rfl, inX6, by decide, rfl, tyX6_ok, nmX6, rfl, by decide, rfl⟩
theorem xf6_5 : xFd 6 5 "FairDraws" "secondSampler" "LFairDraws$Sampler;" (.object "FairDraws$Sampler") true := ⟨RX6, TX6, 8, tyX6, rfl, inX6, by decide, rfl, tyX6_ok, nmX6, rfl, by decide, rfl⟩
theorem xf6_6 : xFd 6 6 "FairDraws" "teller" "LFairDraws$Teller;" (.object "FairDraws$Teller") true := ⟨RX6, TX6, 8, tyX6, rfl, inX6, by decide, rfl, tyX6_ok, nmX6, rfl, by decide, rfl⟩
theorem xf6_7 : xFd 6 7 "FairDraws" "keptShelves" "I" .int false := ⟨RX6, TX6, 8, tyX6, rfl, inX6, by decide, rfl, tyX6_ok, nmX6, rfl, by decide, rfl⟩
theorem xf7_0 : xFd 7 0 "FairDrawsModel" "now" "[I" (.array .int) true := ⟨RX7, TX7, 22, tyX7, rfl, inX7, by decide, rfl, tyX7_ok, nmX7, rfl, by decide, rfl⟩
theorem xf7_1 : xFd 7 1 "FairDrawsModel" "was" "[I" (.array .int) true := ⟨RX7, TX7, 22, tyX7, rfl, inX7, by decide, rfl, tyX7_ok, nmX7, rfl, by decide, rfl⟩
theorem xf7_2 : xFd 7 2 "FairDrawsModel" "undone" "I" .int false := ⟨RX7, TX7, 22, tyX7, rfl, inX7, by decide, rfl, tyX7_ok, nmX7, rfl, by decide, rfl⟩
theorem xf7_3 : xFd 7 3 "FairDrawsModel" "kept" "[I" (.array .int) true := ⟨RX7, TX7, 22, tyX7, rfl, inX7, by decide, rfl, tyX7_ok, nmX7, rfl, by decide, rfl⟩
theorem xf7_4 : xFd 7 4 "FairDrawsModel" "isKept" "[Z" (.array .boolean) true := ⟨RX7, TX7, 22, tyX7, rfl, inX7, by decide, rfl, tyX7_ok, nmX7, rfl, by decide, rfl⟩
theorem xf7_5 : xFd 7 5 "FairDrawsModel" "one" "[I" (.array .int) true := ⟨RX7, TX7, 22, tyX7, rfl, inX7, by decide, rfl, tyX7_ok, nmX7, rfl, by decide, rfl⟩
theorem xf7_6 : xFd 7 6 "FairDrawsModel" "other" "[I" (.array .int) true := ⟨RX7, TX7, 22, tyX7, rfl, inX7, by decide, rfl, tyX7_ok, nmX7, rfl, by decide, rfl⟩
theorem xf7_7 : xFd 7 7 "FairDrawsModel" "row" "[I" (.array .int) true := ⟨RX7, TX7, 22, tyX7, rfl, inX7, by decide, rfl, tyX7_ok, nmX7, rfl, by decide, rfl⟩
theorem xf7_8 : xFd 7 8 "FairDrawsModel" "rows" "I" .int false := ⟨RX7, TX7, 22, tyX7, rfl, inX7, by decide, rfl, tyX7_ok, nmX7, rfl, by decide, rfl⟩
theorem xf7_9 : xFd 7 9 "FairDrawsModel" "ranked" "[I" (.array .int) true := ⟨RX7, TX7, 22, tyX7, rfl, inX7, by decide, rfl, tyX7_ok, nmX7, rfl, by decide, rfl⟩
theorem xf7_10 : xFd 7 10 "FairDrawsModel" "isRanked" "Z" .boolean false := ⟨RX7, TX7, 22, tyX7, rfl, inX7, by decide, rfl, tyX7_ok, nmX7, rfl, by decide, rfl⟩
theorem xf7_11 : xFd 7 11 "FairDrawsModel" "saved" "[I" (.array .int) true := ⟨RX7, TX7, 22, tyX7, rfl, inX7, by decide, rfl, tyX7_ok, nmX7, rfl, by decide, rfl⟩
theorem xf7_12 : xFd 7 12 "FairDrawsModel" "often" "[I" (.array .int) true := ⟨RX7, TX7, 22, tyX7, rfl, inX7, by decide, rfl, tyX7_ok, nmX7, rfl, by decide, rfl⟩
theorem xf7_13 : xFd 7 13 "FairDrawsModel" "aside" "[I" (.array .int) true := ⟨RX7, TX7, 22, tyX7, rfl, inX7, by decide, rfl, tyX7_ok, nmX7, rfl, by decide, rfl⟩
theorem xf7_14 : xFd 7 14 "FairDrawsModel" "spelt" "I" .int false := ⟨RX7, TX7, 22, tyX7, rfl, inX7, by decide, rfl, tyX7_ok, nmX7, rfl, by decide, rfl⟩
theorem xf7_15 : xFd 7 15 "FairDrawsModel" "wanted" "I" .int false := ⟨RX7, TX7, 22, tyX7, rfl, inX7, by decide, rfl, tyX7_ok, nmX7, rfl, by decide, rfl⟩
theorem xf7_16 : xFd 7 16 "FairDrawsModel" "found" "I" .int false := ⟨RX7, TX7, 22, tyX7, rfl, inX7, by decide, rfl, tyX7_ok, nmX7, rfl, by decide, rfl⟩
theorem xf7_17 : xFd 7 17 "FairDrawsModel" "tape" "[B" (.array .byte) true := ⟨RX7, TX7, 22, tyX7, rfl, inX7, by decide, rfl, tyX7_ok, nmX7, rfl, by decide, rfl⟩
theorem xf7_18 : xFd 7 18 "FairDrawsModel" "taped" "I" .int false := ⟨RX7, TX7, 22, tyX7, rfl, inX7, by decide, rfl, tyX7_ok, nmX7, rfl, by decide, rfl⟩
theorem xf7_19 : xFd 7 19 "FairDrawsModel" "spot" "I" .int false := ⟨RX7, TX7, 22, tyX7, rfl, inX7, by decide, rfl, tyX7_ok, nmX7, rfl, by decide, rfl⟩
theorem xf7_20 : xFd 7 20 "FairDrawsModel" "wrong" "I" .int false := ⟨RX7, TX7, 22, tyX7, rfl, inX7, by decide, rfl, tyX7_ok, nmX7, rfl, by decide, rfl⟩
theorem xf7_21 : xFd 7 21 "FairDrawsModel" "number" "I" .int false := ⟨RX7, TX7, 22, tyX7, rfl, inX7, by decide, rfl, tyX7_ok, nmX7, rfl, by decide, rfl⟩
theorem xcd0 : xCd 0 RX0 3 := ⟨TX0, tyX0, rfl, inX0, tyX0_ok, fun σ j hj => match j, hj with | 0, _ => rfl | 1, _ => rfl | 2, _ => rfl | (j + 3), h => absurd h (by omega), by decide, wm1 124 rfl rfl, wm1 4 rfl rfl⟩
theorem xcd1 : xCd 1 RX1 2 := ⟨TX1, tyX1, rfl, inX1, tyX1_ok, fun σ j hj => match j, hj with | 0, _ => rfl | 1, _ => rfl | (j + 2), h => absurd h (by omega), by decide, wm1 31 rfl rfl, wm1 3 rfl rfl⟩
theorem xcd2 : xCd 2 RX2 9 := ⟨TX2, tyX2, rfl, inX2, tyX2_ok, fun σ j hj => match j, hj with | 0, _ => rfl | 1, _ => rfl | 2, _ => rfl | 3, _ => rfl | 4, _ => rfl | 5, _ => rfl | 6, _ => rfl | 7, _ => rfl | 8, _ => rfl | (j + 9), h => absurd h (by omega), by decide, wm1 170 rfl rfl, wm1 6 rfl rfl⟩
theorem xcd3 : xCd 3 RX3 13 := ⟨TX3, tyX3, rfl, inX3, tyX3_ok, fun σ j hj => match j, hj with | 0, _ => rfl | 1, _ => rfl | 2, _ => rfl | 3, _ => rfl | 4, _ => rfl | 5, _ => rfl | 6, _ => rfl | 7, _ => rfl | 8, _ => rfl | 9, _ => rfl | 10, _ => rfl | 11, _ => rfl | 12, _ => rfl | (j + 13), h => absurd h (by omega), by decide, wm1 25 rfl rfl, wm1 2 rfl rfl⟩
theorem xcd4 : xCd 4 RX4 5 := ⟨TX4, tyX4, rfl, inX4, tyX4_ok, fun σ j hj => match j, hj with | 0, _ => rfl | 1, _ => rfl | 2, _ => rfl | 3, _ => rfl | 4, _ => rfl | (j + 5), h => absurd h (by omega), by decide, wm1 144 rfl rfl, wm1 5 rfl rfl⟩
theorem xcd5 : xCd 5 RX5 3 := ⟨TX5, tyX5, rfl, inX5, tyX5_ok, fun σ j hj => match j, hj with | 0, _ => rfl | 1, _ => rfl | 2, _ => rfl | (j + 3), h => absurd h (by omega), by decide, wm1 213 rfl rfl, wm1 7 rfl rfl⟩
theorem xcd6 : xCd 6 RX6 8 := ⟨TX6, tyX6, rfl, inX6, tyX6_ok, fun σ j hj => match j, hj with | 0, _ => rfl | 1, _ => rfl | 2, _ => rfl | 3, _ => rfl | 4, _ => rfl | 5, _ => rfl | 6, _ => rfl | 7, _ => rfl | (j + 8), h => absurd h (by omega), by decide, wm1 17 rfl rfl, wm1 1 rfl rfl⟩
theorem xcd7 : xCd 7 RX7 22 := ⟨TX7, tyX7, rfl, inX7, tyX7_ok, fun σ j hj => match j, hj with | 0, _ => rfl | 1, _ => rfl | 2, _ => rfl | 3, _ => rfl | 4, _ => rfl | 5, _ => rfl | 6, _ => rfl | 7, _ => rfl | 8, _ => rfl | 9, _ => rfl | 10, _ => rfl | 11, _ => rfl | 12, _ => rfl | 13, _ => rfl | 14, _ => rfl | 15, _ => rfl | 16, _ => rfl | 17, _ => rfl | 18, _ => rfl | 19, _ => rfl | 20, _ => rfl | 21, _ => rfl | (j + 22), h => absurd h (by omega), by decide, wm4 195 rfl rfl, wm1 8 rfl rfl⟩
theorem cl_L_7 : Cond.classLink RL 7 RX6 ∈ WS := wm1 16 rfl rfl
theorem ml_L_9 : xMl RL 9 yX6_init := Or.inl (wm1 18 rfl rfl)
theorem ml_X6_1 : Cond.methodLink RX6 1 Lib.objectInit ∈ WS := wm1 21 rfl rfl
theorem cl_X6_7 : Cond.classLink RX6 7 RX3 ∈ WS := wm1 24 rfl rfl
theorem ml_X6_9 : xMl RX6 9 yX3_init := Or.inl (wm1 26 rfl rfl)
theorem ml_X3_3 : Cond.methodLink RX3 3 Lib.objectInit ∈ WS := wm1 29 rfl rfl
theorem cl_X3_9 : Cond.classLink RX3 9 RX1 ∈ WS := wm1 30 rfl rfl
theorem ml_X3_11 : xMl RX3 11 yX1_init := Or.inr (by decide +kernel)
theorem ml_X1_5 : Cond.methodLink RX1 5 Lib.objectInit ∈ WS := wm1 35 rfl rfl
theorem lk_X1_11 : xFl RX1 11 "FairDraws$Keys" "left" "[J" := Or.inl (wm1 36 rfl rfl)
theorem lw_X1_11 : Cond.fieldLink RX1 11 "FairDraws$Keys" "left" "[J" ∈ WS := wm1 36 rfl rfl
theorem lk_X1_15 : xFl RX1 15 "FairDraws$Keys" "right" "[J" := Or.inl (wm1 37 rfl rfl)
theorem lw_X1_15 : Cond.fieldLink RX1 15 "FairDraws$Keys" "right" "[J" ∈ WS := wm1 37 rfl rfl
theorem ac_long : Cond.arrayClass .long ∈ WS := wm1 43 rfl rfl
theorem ml_X3_47 : xMl RX3 47 yX3_reset := Or.inl (wm1 44 rfl rfl)
theorem lk_X3_12 : xFl RX3 12 "FairDraws$State" "keys" "LFairDraws$Keys;" := Or.inl (wm1 48 rfl rfl)
theorem lw_X3_12 : Cond.fieldLink RX3 12 "FairDraws$State" "keys" "LFairDraws$Keys;" ∈ WS := wm1 48 rfl rfl
theorem lk_X3_18 : xFl RX3 18 "FairDraws$State" "shardOf" "[I" := Or.inl (wm1 49 rfl rfl)
theorem lw_X3_18 : Cond.fieldLink RX3 18 "FairDraws$State" "shardOf" "[I" ∈ WS := wm1 49 rfl rfl
theorem lk_X5_72 : xFl RX5 72 "FairDraws$State" "shardOf" "[I" := Or.inr (by decide +kernel)
theorem lk_X2_67 : xFl RX2 67 "FairDraws$State" "shardOf" "[I" := Or.inr (by decide +kernel)
theorem lk_X6_133 : xFl RX6 133 "FairDraws$State" "shardOf" "[I" := Or.inr (by decide +kernel)
theorem lk_X3_22 : xFl RX3 22 "FairDraws$State" "labelOf" "[I" := Or.inl (wm1 53 rfl rfl)
theorem lw_X3_22 : Cond.fieldLink RX3 22 "FairDraws$State" "labelOf" "[I" ∈ WS := wm1 53 rfl rfl
theorem lk_X5_78 : xFl RX5 78 "FairDraws$State" "labelOf" "[I" := Or.inr (by decide +kernel)
theorem lk_X2_60 : xFl RX2 60 "FairDraws$State" "labelOf" "[I" := Or.inr (by decide +kernel)
theorem lk_X6_147 : xFl RX6 147 "FairDraws$State" "labelOf" "[I" := Or.inr (by decide +kernel)
theorem lk_X3_25 : xFl RX3 25 "FairDraws$State" "weightOf" "[I" := Or.inl (wm1 57 rfl rfl)
theorem lw_X3_25 : Cond.fieldLink RX3 25 "FairDraws$State" "weightOf" "[I" ∈ WS := wm1 57 rfl rfl
theorem lk_X5_81 : xFl RX5 81 "FairDraws$State" "weightOf" "[I" := Or.inr (by decide +kernel)
theorem lk_X6_123 : xFl RX6 123 "FairDraws$State" "weightOf" "[I" := Or.inr (by decide +kernel)
theorem lk_X3_28 : xFl RX3 28 "FairDraws$State" "lotOf" "[I" := Or.inl (wm1 60 rfl rfl)
theorem lw_X3_28 : Cond.fieldLink RX3 28 "FairDraws$State" "lotOf" "[I" ∈ WS := wm1 60 rfl rfl
theorem lk_X5_84 : xFl RX5 84 "FairDraws$State" "lotOf" "[I" := Or.inr (by decide +kernel)
theorem lk_X6_126 : xFl RX6 126 "FairDraws$State" "lotOf" "[I" := Or.inr (by decide +kernel)
theorem lk_X3_31 : xFl RX3 31 "FairDraws$State" "timeOf" "[I" := Or.inl (wm1 63 rfl rfl)
theorem lw_X3_31 : Cond.fieldLink RX3 31 "FairDraws$State" "timeOf" "[I" ∈ WS := wm1 63 rfl rfl
theorem lk_X5_34 : xFl RX5 34 "FairDraws$State" "timeOf" "[I" := Or.inr (by decide +kernel)
theorem lk_X6_190 : xFl RX6 190 "FairDraws$State" "timeOf" "[I" := Or.inr (by decide +kernel)
theorem lk_X3_34 : xFl RX3 34 "FairDraws$State" "isDropped" "[Z" := Or.inl (wm1 66 rfl rfl)
theorem lw_X3_34 : Cond.fieldLink RX3 34 "FairDraws$State" "isDropped" "[Z" ∈ WS := wm1 66 rfl rfl
theorem lk_X5_30 : xFl RX5 30 "FairDraws$State" "isDropped" "[Z" := Or.inr (by decide +kernel)
theorem lk_X6_129 : xFl RX6 129 "FairDraws$State" "isDropped" "[Z" := Or.inr (by decide +kernel)
theorem lk_X3_38 : xFl RX3 38 "FairDraws$State" "ranked" "[I" := Or.inl (wm1 69 rfl rfl)
theorem lw_X3_38 : Cond.fieldLink RX3 38 "FairDraws$State" "ranked" "[I" ∈ WS := wm1 69 rfl rfl
theorem lk_X2_57 : xFl RX2 57 "FairDraws$State" "ranked" "[I" := Or.inr (by decide +kernel)
theorem lk_X3_41 : xFl RX3 41 "FairDraws$State" "sizes" "[I" := Or.inl (wm1 71 rfl rfl)
theorem lw_X3_41 : Cond.fieldLink RX3 41 "FairDraws$State" "sizes" "[I" ∈ WS := wm1 71 rfl rfl
theorem lk_X2_33 : xFl RX2 33 "FairDraws$State" "sizes" "[I" := Or.inr (by decide +kernel)
theorem lk_X5_62 : xFl RX5 62 "FairDraws$State" "sizes" "[I" := Or.inr (by decide +kernel)
theorem lk_X4_84 : xFl RX4 84 "FairDraws$State" "sizes" "[I" := Or.inr (by decide +kernel)
theorem lk_X6_113 : xFl RX6 113 "FairDraws$State" "sizes" "[I" := Or.inr (by decide +kernel)
theorem lk_X3_44 : xFl RX3 44 "FairDraws$State" "windows" "[I" := Or.inl (wm1 76 rfl rfl)
theorem lw_X3_44 : Cond.fieldLink RX3 44 "FairDraws$State" "windows" "[I" ∈ WS := wm1 76 rfl rfl
theorem lk_X5_67 : xFl RX5 67 "FairDraws$State" "windows" "[I" := Or.inr (by decide +kernel)
theorem lk_X4_87 : xFl RX4 87 "FairDraws$State" "windows" "[I" := Or.inr (by decide +kernel)
theorem lk_X6_117 : xFl RX6 117 "FairDraws$State" "windows" "[I" := Or.inr (by decide +kernel)
theorem lk_X3_50 : xFl RX3 50 "FairDraws$State" "came" "I" := Or.inl (wm1 80 rfl rfl)
theorem lw_X3_50 : Cond.fieldLink RX3 50 "FairDraws$State" "came" "I" ∈ WS := wm1 80 rfl rfl
theorem lk_X5_25 : xFl RX5 25 "FairDraws$State" "came" "I" := Or.inr (by decide +kernel)
theorem lk_X2_54 : xFl RX2 54 "FairDraws$State" "came" "I" := Or.inr (by decide +kernel)
theorem lk_X6_83 : xFl RX6 83 "FairDraws$State" "came" "I" := Or.inr (by decide +kernel)
theorem lk_X4_103 : xFl RX4 103 "FairDraws$State" "came" "I" := Or.inr (by decide +kernel)
theorem lk_X3_54 : xFl RX3 54 "FairDraws$State" "tick" "I" := Or.inl (wm1 85 rfl rfl)
theorem lw_X3_54 : Cond.fieldLink RX3 54 "FairDraws$State" "tick" "I" ∈ WS := wm1 85 rfl rfl
theorem lk_X5_46 : xFl RX5 46 "FairDraws$State" "tick" "I" := Or.inr (by decide +kernel)
theorem lk_X2_41 : xFl RX2 41 "FairDraws$State" "tick" "I" := Or.inr (by decide +kernel)
theorem lk_X6_109 : xFl RX6 109 "FairDraws$State" "tick" "I" := Or.inr (by decide +kernel)
theorem lk_X4_93 : xFl RX4 93 "FairDraws$State" "tick" "I" := Or.inr (by decide +kernel)
theorem lk_X3_57 : xFl RX3 57 "FairDraws$State" "seed" "I" := Or.inl (wm1 90 rfl rfl)
theorem lw_X3_57 : Cond.fieldLink RX3 57 "FairDraws$State" "seed" "I" ∈ WS := wm1 90 rfl rfl
theorem lk_X5_55 : xFl RX5 55 "FairDraws$State" "seed" "I" := Or.inr (by decide +kernel)
theorem lk_X4_91 : xFl RX4 91 "FairDraws$State" "seed" "I" := Or.inr (by decide +kernel)
theorem lk_X6_173 : xFl RX6 173 "FairDraws$State" "seed" "I" := Or.inr (by decide +kernel)
theorem ac_int : Cond.arrayClass .int ∈ WS := wm1 121 rfl rfl
theorem ac_boolean : Cond.arrayClass .boolean ∈ WS := wm1 122 rfl rfl
theorem cl_X6_16 : Cond.classLink RX6 16 RX0 ∈ WS := wm1 123 rfl rfl
theorem ml_X6_18 : xMl RX6 18 yX0_init := Or.inl (wm1 125 rfl rfl)
theorem ml_X0_3 : Cond.methodLink RX0 3 Lib.objectInit ∈ WS := wm1 128 rfl rfl
theorem cl_X0_9 : Cond.classLink RX0 9 RX3 ∈ WS := wm1 129 rfl rfl
theorem ml_X0_24 : xMl RX0 24 yX3_init := Or.inl (wm1 131 rfl rfl)
theorem lk_X0_11 : xFl RX0 11 "FairDraws$History" "rows" "[LFairDraws$State;" := Or.inl (wm1 132 rfl rfl)
theorem lw_X0_11 : Cond.fieldLink RX0 11 "FairDraws$History" "rows" "[LFairDraws$State;" ∈ WS := wm1 132 rfl rfl
theorem lk_X0_17 : xFl RX0 17 "FairDraws$History" "next" "I" := Or.inl (wm1 133 rfl rfl)
theorem lw_X0_17 : Cond.fieldLink RX0 17 "FairDraws$History" "next" "I" ∈ WS := wm1 133 rfl rfl
theorem lk_X0_21 : xFl RX0 21 "FairDraws$History" "length" "I" := Or.inl (wm1 134 rfl rfl)
theorem lw_X0_21 : Cond.fieldLink RX0 21 "FairDraws$History" "length" "I" ∈ WS := wm1 134 rfl rfl
theorem lk_X6_180 : xFl RX6 180 "FairDraws$History" "length" "I" := Or.inr (by decide +kernel)
theorem cl_X6_23 : Cond.classLink RX6 23 RX4 ∈ WS := wm1 143 rfl rfl
theorem ml_X6_25 : xMl RX6 25 yX4_init := Or.inr (by decide +kernel)
theorem ml_X4_3 : Cond.methodLink RX4 3 Lib.objectInit ∈ WS := wm1 148 rfl rfl
theorem cl_X4_15 : Cond.classLink RX4 15 RX3 ∈ WS := wm1 149 rfl rfl
theorem ml_X4_17 : xMl RX4 17 yX3_init := Or.inl (wm1 150 rfl rfl)
theorem lk_X4_9 : xFl RX4 9 "FairDraws$Tape" "bytes" "[I" := Or.inl (wm1 151 rfl rfl)
theorem lw_X4_9 : Cond.fieldLink RX4 9 "FairDraws$Tape" "bytes" "[I" ∈ WS := wm1 151 rfl rfl
theorem lk_X4_18 : xFl RX4 18 "FairDraws$Tape" "draft" "LFairDraws$State;" := Or.inl (wm1 152 rfl rfl)
theorem lw_X4_18 : Cond.fieldLink RX4 18 "FairDraws$Tape" "draft" "LFairDraws$State;" ∈ WS := wm1 152 rfl rfl
theorem lk_X6_70 : xFl RX6 70 "FairDraws$Tape" "draft" "LFairDraws$State;" := Or.inr (by decide +kernel)
theorem lk_X4_22 : xFl RX4 22 "FairDraws$Tape" "length" "I" := Or.inl (wm1 154 rfl rfl)
theorem lw_X4_22 : Cond.fieldLink RX4 22 "FairDraws$Tape" "length" "I" ∈ WS := wm1 154 rfl rfl
theorem lk_X6_55 : xFl RX6 55 "FairDraws$Tape" "length" "I" := Or.inr (by decide +kernel)
theorem lk_X4_29 : xFl RX4 29 "FairDraws$Tape" "at" "I" := Or.inl (wm1 156 rfl rfl)
theorem lw_X4_29 : Cond.fieldLink RX4 29 "FairDraws$Tape" "at" "I" ∈ WS := wm1 156 rfl rfl
theorem lk_X4_32 : xFl RX4 32 "FairDraws$Tape" "fault" "I" := Or.inl (wm1 157 rfl rfl)
theorem lw_X4_32 : Cond.fieldLink RX4 32 "FairDraws$Tape" "fault" "I" ∈ WS := wm1 157 rfl rfl
theorem cl_X6_34 : Cond.classLink RX6 34 RX2 ∈ WS := wm1 169 rfl rfl
theorem ml_X6_36 : xMl RX6 36 yX2_init := Or.inr (by decide +kernel)
theorem ml_X2_3 : Cond.methodLink RX2 3 Lib.objectInit ∈ WS := wm1 174 rfl rfl
theorem lk_X2_9 : xFl RX2 9 "FairDraws$Sampler" "found" "[I" := Or.inl (wm1 175 rfl rfl)
theorem lw_X2_9 : Cond.fieldLink RX2 9 "FairDraws$Sampler" "found" "[I" ∈ WS := wm1 175 rfl rfl
theorem lk_X6_227 : xFl RX6 227 "FairDraws$Sampler" "found" "[I" := Or.inr (by decide +kernel)
theorem lk_X2_15 : xFl RX2 15 "FairDraws$Sampler" "ofLabel" "[I" := Or.inl (wm1 177 rfl rfl)
theorem lw_X2_15 : Cond.fieldLink RX2 15 "FairDraws$Sampler" "ofLabel" "[I" ∈ WS := wm1 177 rfl rfl
theorem lk_X6_260 : xFl RX6 260 "FairDraws$Sampler" "ofLabel" "[I" := Or.inr (by decide +kernel)
theorem lk_X2_18 : xFl RX2 18 "FairDraws$Sampler" "n" "I" := Or.inl (wm1 179 rfl rfl)
theorem lw_X2_18 : Cond.fieldLink RX2 18 "FairDraws$Sampler" "n" "I" ∈ WS := wm1 179 rfl rfl
theorem lk_X6_154 : xFl RX6 154 "FairDraws$Sampler" "n" "I" := Or.inr (by decide +kernel)
theorem lk_X2_30 : xFl RX2 30 "FairDraws$Sampler" "set" "I" := Or.inl (wm1 181 rfl rfl)
theorem lw_X2_30 : Cond.fieldLink RX2 30 "FairDraws$Sampler" "set" "I" ∈ WS := wm1 181 rfl rfl
theorem lk_X6_236 : xFl RX6 236 "FairDraws$Sampler" "set" "I" := Or.inr (by decide +kernel)
theorem lk_X2_38 : xFl RX2 38 "FairDraws$Sampler" "most" "I" := Or.inl (wm1 183 rfl rfl)
theorem lw_X2_38 : Cond.fieldLink RX2 38 "FairDraws$Sampler" "most" "I" ∈ WS := wm1 183 rfl rfl
theorem lk_X6_211 : xFl RX6 211 "FairDraws$Sampler" "most" "I" := Or.inr (by decide +kernel)
theorem lk_X2_44 : xFl RX2 44 "FairDraws$Sampler" "tick" "I" := Or.inl (wm1 185 rfl rfl)
theorem lw_X2_44 : Cond.fieldLink RX2 44 "FairDraws$Sampler" "tick" "I" ∈ WS := wm1 185 rfl rfl
theorem lk_X6_275 : xFl RX6 275 "FairDraws$Sampler" "tick" "I" := Or.inr (by decide +kernel)
theorem lk_X2_45 : xFl RX2 45 "FairDraws$Sampler" "upTo" "I" := Or.inl (wm1 187 rfl rfl)
theorem lw_X2_45 : Cond.fieldLink RX2 45 "FairDraws$Sampler" "upTo" "I" ∈ WS := wm1 187 rfl rfl
theorem lk_X6_289 : xFl RX6 289 "FairDraws$Sampler" "upTo" "I" := Or.inr (by decide +kernel)
theorem lk_X2_48 : xFl RX2 48 "FairDraws$Sampler" "leftOut" "I" := Or.inl (wm1 189 rfl rfl)
theorem lw_X2_48 : Cond.fieldLink RX2 48 "FairDraws$Sampler" "leftOut" "I" ∈ WS := wm1 189 rfl rfl
theorem lk_X6_276 : xFl RX6 276 "FairDraws$Sampler" "leftOut" "I" := Or.inr (by decide +kernel)
theorem lk_X2_51 : xFl RX2 51 "FairDraws$Sampler" "cap" "I" := Or.inl (wm1 191 rfl rfl)
theorem lw_X2_51 : Cond.fieldLink RX2 51 "FairDraws$Sampler" "cap" "I" ∈ WS := wm1 191 rfl rfl
theorem lk_X6_230 : xFl RX6 230 "FairDraws$Sampler" "cap" "I" := Or.inr (by decide +kernel)
theorem cl_X6_44 : Cond.classLink RX6 44 RX5 ∈ WS := wm1 212 rfl rfl
theorem ml_X6_46 : xMl RX6 46 yX5_init := Or.inr (by decide +kernel)
theorem ml_X5_3 : Cond.methodLink RX5 3 Lib.objectInit ∈ WS := wm1 217 rfl rfl
theorem lk_X5_9 : xFl RX5 9 "FairDraws$Teller" "wanted" "I" := Or.inl (wm1 218 rfl rfl)
theorem lw_X5_9 : Cond.fieldLink RX5 9 "FairDraws$Teller" "wanted" "I" ∈ WS := wm1 218 rfl rfl
theorem lk_X5_15 : xFl RX5 15 "FairDraws$Teller" "heard" "I" := Or.inl (wm1 219 rfl rfl)
theorem lw_X5_15 : Cond.fieldLink RX5 15 "FairDraws$Teller" "heard" "I" ∈ WS := wm1 219 rfl rfl
theorem lk_X5_18 : xFl RX5 18 "FairDraws$Teller" "length" "I" := Or.inl (wm1 220 rfl rfl)
theorem lw_X5_18 : Cond.fieldLink RX5 18 "FairDraws$Teller" "length" "I" ∈ WS := wm1 220 rfl rfl
theorem lk_X6_10 : xFl RX6 10 "FairDraws" "state" "LFairDraws$State;" := Or.inl (wm1 228 rfl rfl)
theorem lw_X6_10 : Cond.fieldLink RX6 10 "FairDraws" "state" "LFairDraws$State;" ∈ WS := wm1 228 rfl rfl
theorem lk_X6_19 : xFl RX6 19 "FairDraws" "history" "LFairDraws$History;" := Or.inl (wm1 229 rfl rfl)
theorem lw_X6_19 : Cond.fieldLink RX6 19 "FairDraws" "history" "LFairDraws$History;" ∈ WS := wm1 229 rfl rfl
theorem lk_X6_26 : xFl RX6 26 "FairDraws" "tape" "LFairDraws$Tape;" := Or.inl (wm1 230 rfl rfl)
theorem lw_X6_26 : Cond.fieldLink RX6 26 "FairDraws" "tape" "LFairDraws$Tape;" ∈ WS := wm1 230 rfl rfl
theorem lk_X6_30 : xFl RX6 30 "FairDraws" "shelves" "[LFairDraws$State;" := Or.inl (wm1 231 rfl rfl)
theorem lw_X6_30 : Cond.fieldLink RX6 30 "FairDraws" "shelves" "[LFairDraws$State;" ∈ WS := wm1 231 rfl rfl
theorem lk_X6_37 : xFl RX6 37 "FairDraws" "sampler" "LFairDraws$Sampler;" := Or.inl (wm1 232 rfl rfl)
theorem lw_X6_37 : Cond.fieldLink RX6 37 "FairDraws" "sampler" "LFairDraws$Sampler;" ∈ WS := wm1 232 rfl rfl
theorem lk_X6_41 : xFl RX6 41 "FairDraws" "secondSampler" "LFairDraws$Sampler;" := Or.inl (wm1 233 rfl rfl)
theorem lw_X6_41 : Cond.fieldLink RX6 41 "FairDraws" "secondSampler" "LFairDraws$Sampler;" ∈ WS := wm1 233 rfl rfl
theorem lk_X6_47 : xFl RX6 47 "FairDraws" "teller" "LFairDraws$Teller;" := Or.inl (wm1 234 rfl rfl)
theorem lw_X6_47 : Cond.fieldLink RX6 47 "FairDraws" "teller" "LFairDraws$Teller;" ∈ WS := wm1 234 rfl rfl
theorem lk_X6_51 : xFl RX6 51 "FairDraws" "keptShelves" "I" := Or.inl (wm1 235 rfl rfl)
theorem lw_X6_51 : Cond.fieldLink RX6 51 "FairDraws" "keptShelves" "I" ∈ WS := wm1 235 rfl rfl
theorem ml_L_13 : xMl RL 13 yX6_feed := Or.inl (wm2 13 rfl rfl)
theorem ml_X6_58 : xMl RX6 58 yX4_append := Or.inl (wm2 17 rfl rfl)
theorem ml_L_18 : xMl RL 18 yX6_end := Or.inl (wm2 21 rfl rfl)
theorem ml_X6_62 : xMl RX6 62 yX6_isWithin := Or.inl (wm2 25 rfl rfl)
theorem ml_L_23 : xMl RL 23 yX6_tell := Or.inl (wm2 28 rfl rfl)
theorem ml_X6_66 : xMl RX6 66 yX4_read := Or.inl (wm2 32 rfl rfl)
theorem ml_X4_26 : xMl RX4 26 yX3_reset := Or.inl (wm2 36 rfl rfl)
theorem ml_X4_35 : xMl RX4 35 yX4_readStatement := Or.inl (wm2 37 rfl rfl)
theorem ml_X4_38 : xMl RX4 38 yX4_skipBlanks := Or.inl (wm2 41 rfl rfl)
theorem ml_X4_47 : xMl RX4 47 yX4_takes := Or.inl (wm2 46 rfl rfl)
theorem ml_X4_127 : xMl RX4 127 yJ0_length_8abf5 := Or.inl (wm2 50 rfl rfl)
theorem ml_J0_335 : xMl RJ0 335 yJ0_coder_7d493 := Or.inl (wm2 54 rfl rfl)
theorem ml_X4_123 : xMl RX4 123 yX4_isLetter := Or.inl (wm2 60 rfl rfl)
theorem ml_X4_113 : xMl RX4 113 yX6_isWithin := Or.inr (by decide +kernel)
theorem ml_X4_131 : xMl RX4 131 yJ0_charAt_5068e := Or.inl (wm2 65 rfl rfl)
theorem ml_J0_492 : xMl RJ0 492 yJ0_isLatin1_aae02 := Or.inl (wm2 69 rfl rfl)
theorem ml_J0_495 : xMl RJ0 495 yJ1_charAt_3b067 := Or.inl (wm2 73 rfl rfl)
theorem ml_J1_9 : xMl RJ1 9 yJ0_checkIndex_df160 := Or.inl (wm2 76 rfl rfl)
theorem ml_J0_1059 : xMl RJ0 1059 yJ3_checkIndex_8e157 := Or.inl (wm2 81 rfl rfl)
theorem ml_J0_498 : xMl RJ0 498 yJ2_charAt_3b067 := Or.inl (wm2 84 rfl rfl)
theorem ml_J2_67 : xMl RJ2 67 yJ2_checkIndex_2214a := Or.inl (wm2 87 rfl rfl)
theorem ml_J2_48 : xMl RJ2 48 yJ2_length_9d52b := Or.inl (wm2 90 rfl rfl)
theorem ml_J2_414 : xMl RJ2 414 yJ0_checkIndex_df160 := Or.inl (wm2 93 rfl rfl)
theorem ml_J2_71 : xMl RJ2 71 yJ2_getChar_3b067 := Or.inl (wm2 94 rfl rfl)
theorem ml_X4_51 : xMl RX4 51 yX4_readSize := Or.inl (wm2 103 rfl rfl)
theorem ml_X4_80 : xMl RX4 80 yX4_number := Or.inl (wm2 107 rfl rfl)
theorem kc_X4_117 : Cond.constant RX4 117 (Int32.ofInt (100000)) ∈ WS := wm2 111 rfl rfl
theorem ml_X4_118 : Cond.methodLink RX4 118 Lib.Math.min.name ∈ WS := wm2 112 rfl rfl
theorem ml_X4_41 : xMl RX4 41 yX4_meet := Or.inl (wm2 115 rfl rfl)
theorem ml_X4_56 : xMl RX4 56 yX4_readWindow := Or.inl (wm2 120 rfl rfl)
theorem ml_X4_61 : xMl RX4 61 yX4_readSeed := Or.inl (wm2 125 rfl rfl)
theorem kc_X4_90 : Cond.constant RX4 90 (Int32.ofInt (65535)) ∈ WS := wm2 129 rfl rfl
theorem ml_X4_66 : xMl RX4 66 yX4_readWait := Or.inl (wm2 131 rfl rfl)
theorem kc_X4_96 : Cond.constant RX4 96 (Int32.ofInt (99999)) ∈ WS := wm2 135 rfl rfl
theorem ml_X4_72 : xMl RX4 72 yX4_readItems := Or.inl (wm2 137 rfl rfl)
theorem ml_X4_97 : xMl RX4 97 yX4_label := Or.inl (wm2 141 rfl rfl)
theorem ml_X4_106 : xMl RX4 106 yX3_drawLot := Or.inl (wm2 146 rfl rfl)
theorem ml_X3_68 : xMl RX3 68 yX6_seedOfNextLot := Or.inr (by decide +kernel)
theorem kc_X6_172 : Cond.constant RX6 172 (Int32.ofInt (65535)) ∈ WS := wm2 153 rfl rfl
theorem ml_X6_251 : xMl RX6 251 yX6_lotOfSeed := Or.inl (wm2 154 rfl rfl)
theorem ml_X3_72 : xMl RX3 72 yX6_lotOfSeed := Or.inr (by decide +kernel)
theorem ml_X4_109 : xMl RX4 109 yX3_add := Or.inl (wm2 158 rfl rfl)
theorem ml_X4_77 : xMl RX4 77 yX4_readKey := Or.inl (wm2 163 rfl rfl)
theorem ml_X6_73 : xMl RX6 73 yX3_copyFrom := Or.inl (wm2 167 rfl rfl)
theorem ml_X6_77 : xMl RX6 77 yX3_rankAll := Or.inl (wm2 171 rfl rfl)
theorem ml_X3_79 : xMl RX3 79 yX3_rank := Or.inl (wm2 175 rfl rfl)
theorem ml_X3_83 : xMl RX3 83 yX3_isAhead := Or.inl (wm2 179 rfl rfl)
theorem ml_X3_87 : xMl RX3 87 yX3_wouldBeAhead := Or.inl (wm2 183 rfl rfl)
theorem ml_X3_90 : xMl RX3 90 yX1_compare := Or.inl (wm2 187 rfl rfl)
theorem ml_X1_18 : xMl RX1 18 yJ6_compare_7cf53 := Or.inl (wm2 191 rfl rfl)
theorem ml_X1_24 : Cond.methodLink RX1 24 Lib.Math.min.name ∈ WS := wm2 194 rfl rfl
theorem ml_X1_29 : xMl RX1 29 yX1_setToOne := Or.inl (wm2 195 rfl rfl)
theorem ml_X1_33 : xMl RX1 33 yX1_multiply := Or.inl (wm2 198 rfl rfl)
theorem kc_X1_41 : Cond.constantLong RX1 41 (Int64.ofInt (1125899906842623)) ∈ WS := wm2 201 rfl rfl
theorem ml_X1_37 : xMl RX1 37 yX1_compareRows := Or.inl (wm2 202 rfl rfl)
theorem ml_X1_43 : xMl RX1 43 yJ13_compare_74951 := Or.inl (wm2 206 rfl rfl)
theorem ml_X6_80 : xMl RX6 80 yX0_clear := Or.inl (wm2 209 rfl rfl)
theorem ac_byte : Cond.arrayClass .byte ∈ WS := wm2 213 rfl rfl
theorem ml_L_28 : xMl RL 28 yX6_come := Or.inl (wm2 214 rfl rfl)
theorem ml_X6_86 : xMl RX6 86 yX6_isShard := Or.inl (wm2 218 rfl rfl)
theorem ml_X6_90 : xMl RX6 90 yX6_isLabel := Or.inl (wm2 221 rfl rfl)
theorem ml_X6_93 : xMl RX6 93 yX6_isWeight := Or.inl (wm2 224 rfl rfl)
theorem ml_X6_96 : xMl RX6 96 yX0_add := Or.inl (wm2 227 rfl rfl)
theorem ml_X0_25 : xMl RX0 25 yX3_copyFrom := Or.inl (wm2 231 rfl rfl)
theorem ml_X0_29 : Cond.methodLink RX0 29 Lib.Math.min.name ∈ WS := wm2 232 rfl rfl
theorem ml_X6_99 : xMl RX6 99 yX3_drawLot := Or.inl (wm2 233 rfl rfl)
theorem ml_X6_102 : xMl RX6 102 yX3_addRanked := Or.inl (wm2 234 rfl rfl)
theorem ml_X3_75 : xMl RX3 75 yX3_add := Or.inl (wm2 238 rfl rfl)
theorem ml_L_33 : xMl RL 33 yX6_put := Or.inl (wm2 239 rfl rfl)
theorem ml_X6_106 : xMl RX6 106 yX6_isLot := Or.inl (wm3 3 rfl rfl)
theorem ml_L_38 : xMl RL 38 yX6_pass := Or.inl (wm3 6 rfl rfl)
theorem kc_X6_112 : Cond.constant RX6 112 (Int32.ofInt (99999)) ∈ WS := wm3 10 rfl rfl
theorem ml_L_42 : xMl RL 42 yX6_size := Or.inl (wm3 11 rfl rfl)
theorem ml_L_47 : xMl RL 47 yX6_window := Or.inl (wm3 15 rfl rfl)
theorem ml_L_51 : xMl RL 51 yX6_weigh := Or.inl (wm3 19 rfl rfl)
theorem ml_X6_120 : xMl RX6 120 yX3_hasUndropped := Or.inl (wm3 23 rfl rfl)
theorem ml_X3_64 : xMl RX3 64 yX3_hasItem := Or.inl (wm3 27 rfl rfl)
theorem ml_X3_60 : xMl RX3 60 yX6_isWithin := Or.inr (by decide +kernel)
theorem ml_L_55 : xMl RL 55 yX6_again := Or.inl (wm3 32 rfl rfl)
theorem ml_L_59 : xMl RL 59 yX6_drop := Or.inl (wm3 36 rfl rfl)
theorem ml_X6_136 : xMl RX6 136 yX3_countUndropped := Or.inl (wm3 40 rfl rfl)
theorem ml_X3_104 : xMl RX3 104 yX3_isUndroppedOf := Or.inl (wm3 44 rfl rfl)
theorem ml_L_63 : xMl RL 63 yX6_move := Or.inl (wm3 48 rfl rfl)
theorem ml_L_67 : xMl RL 67 yX6_merge := Or.inl (wm3 52 rfl rfl)
theorem ml_X6_140 : xMl RX6 140 yX6_moveAll := Or.inl (wm3 56 rfl rfl)
theorem ml_X6_144 : xMl RX6 144 yX3_isUndroppedOf := Or.inl (wm3 60 rfl rfl)
theorem ml_L_71 : xMl RL 71 yX6_rename := Or.inl (wm3 61 rfl rfl)
theorem ml_L_75 : xMl RL 75 yX6_thin := Or.inl (wm3 65 rfl rfl)
theorem ml_X6_150 : xMl RX6 150 yX2_take := Or.inl (wm3 69 rfl rfl)
theorem ml_X2_22 : xMl RX2 22 yX2_ask := Or.inl (wm3 73 rfl rfl)
theorem ml_X2_26 : xMl RX2 26 yX2_fill := Or.inl (wm3 77 rfl rfl)
theorem ml_X2_63 : xMl RX2 63 yX2_isAskedFor := Or.inl (wm3 81 rfl rfl)
theorem ml_X2_70 : xMl RX2 70 yX3_isAliveAt := Or.inl (wm3 85 rfl rfl)
theorem ml_X6_157 : xMl RX6 157 yX2_placeOf := Or.inl (wm3 89 rfl rfl)
theorem ml_L_79 : xMl RL 79 yX6_swap := Or.inl (wm3 93 rfl rfl)
theorem ml_L_83 : xMl RL 83 yX6_weighAll := Or.inl (wm3 97 rfl rfl)
theorem ml_X6_161 : Cond.methodLink RX6 161 Lib.Math.min.name ∈ WS := wm3 101 rfl rfl
theorem ml_L_87 : xMl RL 87 yX6_split := Or.inl (wm3 102 rfl rfl)
theorem ml_L_91 : xMl RL 91 yX6_purge := Or.inl (wm3 106 rfl rfl)
theorem ml_X6_166 : xMl RX6 166 yX3_countAlive := Or.inl (wm3 110 rfl rfl)
theorem ml_X3_110 : xMl RX3 110 yX3_isAliveOf := Or.inl (wm3 114 rfl rfl)
theorem ml_X3_107 : xMl RX3 107 yX3_isAlive := Or.inl (wm3 118 rfl rfl)
theorem ml_X3_101 : xMl RX3 101 yX3_isAliveAt := Or.inl (wm3 122 rfl rfl)
theorem ml_X6_169 : xMl RX6 169 yX3_isAlive := Or.inl (wm3 123 rfl rfl)
theorem ml_L_95 : xMl RL 95 yX6_seed := Or.inl (wm3 124 rfl rfl)
theorem ml_L_99 : xMl RL 99 yX6_undo := Or.inl (wm3 128 rfl rfl)
theorem ml_X6_176 : xMl RX6 176 yX0_restore := Or.inl (wm3 132 rfl rfl)
theorem ml_L_103 : xMl RL 103 yX6_keep := Or.inl (wm3 136 rfl rfl)
theorem ml_X6_181 : xMl RX6 181 yX6_isShelf := Or.inl (wm3 140 rfl rfl)
theorem ml_L_107 : xMl RL 107 yX6_back := Or.inl (wm3 143 rfl rfl)
theorem ml_X6_184 : xMl RX6 184 yX6_isKept := Or.inl (wm3 147 rfl rfl)
theorem ml_L_111 : xMl RL 111 yX6_of := Or.inl (wm3 151 rfl rfl)
theorem ml_X6_187 : xMl RX6 187 yX3_hasItem := Or.inl (wm3 155 rfl rfl)
theorem ml_X6_193 : xMl RX6 193 yX6_lifeOf := Or.inl (wm3 156 rfl rfl)
theorem ml_X6_196 : xMl RX6 196 yX6_aheadInSample := Or.inl (wm3 160 rfl rfl)
theorem ml_X6_199 : xMl RX6 199 yX6_aheadOfAlive := Or.inl (wm3 164 rfl rfl)
theorem ml_X6_208 : xMl RX6 208 yX2_ask := Or.inl (wm3 168 rfl rfl)
theorem ml_X6_214 : xMl RX6 214 yX2_fill := Or.inl (wm3 169 rfl rfl)
theorem ml_L_115 : xMl RL 115 yX6_order := Or.inl (wm3 170 rfl rfl)
theorem ml_X6_202 : xMl RX6 202 yX3_compareKeys := Or.inl (wm3 174 rfl rfl)
theorem ml_X3_93 : xMl RX3 93 yX3_compareToKey := Or.inl (wm3 178 rfl rfl)
theorem ml_L_119 : xMl RL 119 yX6_part := Or.inl (wm3 182 rfl rfl)
theorem ml_X6_205 : xMl RX6 205 yX3_isPartOfKey := Or.inl (wm3 186 rfl rfl)
theorem ml_X3_97 : xMl RX3 97 yX1_isPart := Or.inl (wm3 190 rfl rfl)
theorem ml_L_123 : xMl RL 123 yX6_sample := Or.inl (wm3 194 rfl rfl)
theorem ml_X6_217 : xMl RX6 217 yX2_kth := Or.inl (wm3 198 rfl rfl)
theorem ml_L_127 : xMl RL 127 yX6_merged := Or.inl (wm3 202 rfl rfl)
theorem ml_X6_220 : xMl RX6 220 yX6_isSet := Or.inl (wm3 206 rfl rfl)
theorem ml_X6_223 : xMl RX6 223 yX6_takeMerged := Or.inl (wm3 209 rfl rfl)
theorem ml_L_131 : xMl RL 131 yX6_partOf := Or.inl (wm3 213 rfl rfl)
theorem ml_L_135 : xMl RL 135 yX6_capped := Or.inl (wm3 217 rfl rfl)
theorem ml_L_139 : xMl RL 139 yX6_last := Or.inl (wm3 221 rfl rfl)
theorem ml_X6_233 : xMl RX6 233 yX6_lastOfFull := Or.inl (wm3 225 rfl rfl)
theorem ml_X6_239 : xMl RX6 239 yX2_lastOne := Or.inl (wm3 229 rfl rfl)
theorem ml_L_143 : xMl RL 143 yX6_needs := Or.inl (wm3 233 rfl rfl)
theorem ml_X6_242 : xMl RX6 242 yX6_leastLotForSample := Or.inl (wm3 237 rfl rfl)
theorem ml_X6_254 : xMl RX6 254 yX6_leastLotAhead := Or.inl (wm4 1 rfl rfl)
theorem ml_X6_245 : xMl RX6 245 yX3_compareToKey := Or.inl (wm4 5 rfl rfl)
theorem ml_L_147 : xMl RL 147 yX6_heavy := Or.inl (wm4 6 rfl rfl)
theorem ml_L_151 : xMl RL 151 yX6_skip := Or.inl (wm4 10 rfl rfl)
theorem ml_X6_248 : xMl RX6 248 yX6_seedOfNextLot := Or.inl (wm4 14 rfl rfl)
theorem ml_L_155 : xMl RL 155 yX6_lots := Or.inl (wm4 15 rfl rfl)
theorem ml_L_159 : xMl RL 159 yX6_nextLot := Or.inl (wm4 19 rfl rfl)
theorem ml_L_163 : xMl RL 163 yX6_kinds := Or.inl (wm4 23 rfl rfl)
theorem ml_X6_257 : xMl RX6 257 yX6_kindsBySize := Or.inl (wm4 27 rfl rfl)
theorem ml_L_167 : xMl RL 167 yX6_sizeForKinds := Or.inl (wm4 31 rfl rfl)
theorem ml_L_171 : xMl RL 171 yX6_shared := Or.inl (wm4 35 rfl rfl)
theorem ml_L_175 : xMl RL 175 yX6_without := Or.inl (wm4 39 rfl rfl)
theorem ml_X6_263 : xMl RX6 263 yX6_takeWithout := Or.inl (wm4 43 rfl rfl)
theorem ml_L_179 : xMl RL 179 yX6_expired := Or.inl (wm4 47 rfl rfl)
theorem ml_L_183 : xMl RL 183 yX6_busiest := Or.inl (wm4 51 rfl rfl)
theorem ml_X6_266 : xMl RX6 266 yX3_countUndroppedBetween := Or.inl (wm4 55 rfl rfl)
theorem ml_L_187 : xMl RL 187 yX6_weightFor := Or.inl (wm4 59 rfl rfl)
theorem ml_X6_269 : xMl RX6 269 yX3_wouldBeAhead := Or.inl (wm4 63 rfl rfl)
theorem ml_L_191 : xMl RL 191 yX6_sizeFor := Or.inl (wm4 64 rfl rfl)
theorem ml_L_195 : xMl RL 195 yX6_windowFor := Or.inl (wm4 68 rfl rfl)
theorem ml_X6_272 : xMl RX6 272 yX6_rivalTime := Or.inl (wm4 72 rfl rfl)
theorem ml_X6_279 : xMl RX6 279 yX3_isAhead := Or.inl (wm4 76 rfl rfl)
theorem ml_L_199 : xMl RL 199 yX6_later := Or.inl (wm4 77 rfl rfl)
theorem ml_L_203 : xMl RL 203 yX6_enters := Or.inl (wm4 81 rfl rfl)
theorem ml_L_207 : xMl RL 207 yX6_changes := Or.inl (wm4 85 rfl rfl)
theorem ml_L_211 : xMl RL 211 yX6_then := Or.inl (wm4 89 rfl rfl)
theorem ml_X6_283 : xMl RX6 283 yX6_askThen := Or.inl (wm4 93 rfl rfl)
theorem ml_L_215 : xMl RL 215 yX6_played := Or.inl (wm4 97 rfl rfl)
theorem ml_X6_286 : xMl RX6 286 yX6_putOutBy := Or.inl (wm4 101 rfl rfl)
theorem ml_L_219 : xMl RL 219 yX6_outBy := Or.inl (wm4 105 rfl rfl)
theorem ml_L_223 : xMl RL 223 yX6_labels := Or.inl (wm4 109 rfl rfl)
theorem ml_X6_292 : xMl RX6 292 yX3_weightAlive := Or.inl (wm4 113 rfl rfl)
theorem ml_L_227 : xMl RL 227 yX6_total := Or.inl (wm4 117 rfl rfl)
theorem ml_X6_295 : xMl RX6 295 yX6_weightOfSample := Or.inl (wm4 121 rfl rfl)
theorem ml_L_231 : xMl RL 231 yX6_mode := Or.inl (wm4 125 rfl rfl)
theorem ml_L_235 : xMl RL 235 yX6_unlike := Or.inl (wm4 129 rfl rfl)
theorem ml_X6_298 : Cond.methodLink RX6 298 Lib.Math.abs.name ∈ WS := wm4 133 rfl rfl
theorem ml_L_239 : xMl RL 239 yX6_same := Or.inl (wm4 136 rfl rfl)
theorem ml_X6_301 : xMl RX6 301 yX2_isLike := Or.inl (wm4 140 rfl rfl)
theorem ml_L_243 : xMl RL 243 yX6_told := Or.inl (wm4 144 rfl rfl)
theorem ml_X6_305 : xMl RX6 305 yX5_kth := Or.inl (wm4 148 rfl rfl)
theorem ml_X5_21 : xMl RX5 21 yX5_tellShards := Or.inl (wm4 152 rfl rfl)
theorem ml_X5_51 : xMl RX5 51 yX5_tellWord := Or.inl (wm4 157 rfl rfl)
theorem ml_X5_75 : xMl RX5 75 yX5_tellByte := Or.inl (wm4 161 rfl rfl)
theorem ml_X5_95 : xMl RX5 95 yJ0_length_8abf5 := Or.inl (wm4 165 rfl rfl)
theorem ml_X5_100 : xMl RX5 100 yJ0_charAt_5068e := Or.inl (wm4 166 rfl rfl)
theorem ml_X5_57 : xMl RX5 57 yX5_tellNumber := Or.inl (wm4 167 rfl rfl)
theorem ml_X5_38 : xMl RX5 38 yX5_tellWaits := Or.inl (wm4 172 rfl rfl)
theorem ml_X5_89 : Cond.methodLink RX5 89 Lib.Math.min.name ∈ WS := wm4 177 rfl rfl
theorem ml_X5_42 : xMl RX5 42 yX5_tellItem := Or.inl (wm4 178 rfl rfl)
theorem ml_L_247 : xMl RL 247 yX6_digest := Or.inl (wm4 184 rfl rfl)
theorem kc_X6_308 : Cond.constantLong RX6 308 (Int64.ofInt (17)) ∈ WS := wm4 188 rfl rfl
theorem kc_X6_310 : Cond.constantLong RX6 310 (Int64.ofInt (31)) ∈ WS := wm4 189 rfl rfl
theorem ml_L_252 : xMl RL 252 yX6_count := Or.inl (wm4 190 rfl rfl)
theorem cl_L_10 : Cond.classLink RL 10 RX7 ∈ WS := wm4 194 rfl rfl
theorem ml_L_12 : xMl RL 12 yX7_init := Or.inl (wm4 196 rfl rfl)
theorem ml_X7_1 : Cond.methodLink RX7 1 Lib.objectInit ∈ WS := wm4 199 rfl rfl
theorem ml_X7_48 : xMl RX7 48 yX7_begins := Or.inl (wm4 200 rfl rfl)
theorem lk_X7_7 : xFl RX7 7 "FairDrawsModel" "now" "[I" := Or.inl (wm4 203 rfl rfl)
theorem lw_X7_7 : Cond.fieldLink RX7 7 "FairDrawsModel" "now" "[I" ∈ WS := wm4 203 rfl rfl
theorem lk_X7_13 : xFl RX7 13 "FairDrawsModel" "was" "[I" := Or.inl (wm4 204 rfl rfl)
theorem lw_X7_13 : Cond.fieldLink RX7 13 "FairDrawsModel" "was" "[I" ∈ WS := wm4 204 rfl rfl
theorem lk_X7_209 : xFl RX7 209 "FairDrawsModel" "undone" "I" := Or.inl (wm4 205 rfl rfl)
theorem lw_X7_209 : Cond.fieldLink RX7 209 "FairDrawsModel" "undone" "I" ∈ WS := wm4 205 rfl rfl
theorem lk_X7_16 : xFl RX7 16 "FairDrawsModel" "kept" "[I" := Or.inl (wm4 206 rfl rfl)
theorem lw_X7_16 : Cond.fieldLink RX7 16 "FairDrawsModel" "kept" "[I" ∈ WS := wm4 206 rfl rfl
theorem lk_X7_19 : xFl RX7 19 "FairDrawsModel" "isKept" "[Z" := Or.inl (wm4 207 rfl rfl)
theorem lw_X7_19 : Cond.fieldLink RX7 19 "FairDrawsModel" "isKept" "[Z" ∈ WS := wm4 207 rfl rfl
theorem lk_X7_23 : xFl RX7 23 "FairDrawsModel" "one" "[I" := Or.inl (wm4 208 rfl rfl)
theorem lw_X7_23 : Cond.fieldLink RX7 23 "FairDrawsModel" "one" "[I" ∈ WS := wm4 208 rfl rfl
theorem lk_X7_26 : xFl RX7 26 "FairDrawsModel" "other" "[I" := Or.inl (wm4 209 rfl rfl)
theorem lw_X7_26 : Cond.fieldLink RX7 26 "FairDrawsModel" "other" "[I" ∈ WS := wm4 209 rfl rfl
theorem lk_X7_29 : xFl RX7 29 "FairDrawsModel" "row" "[I" := Or.inl (wm4 210 rfl rfl)
theorem lw_X7_29 : Cond.fieldLink RX7 29 "FairDrawsModel" "row" "[I" ∈ WS := wm4 210 rfl rfl
theorem lk_X7_103 : xFl RX7 103 "FairDrawsModel" "rows" "I" := Or.inl (wm4 211 rfl rfl)
theorem lw_X7_103 : Cond.fieldLink RX7 103 "FairDrawsModel" "rows" "I" ∈ WS := wm4 211 rfl rfl
theorem lk_X7_32 : xFl RX7 32 "FairDrawsModel" "ranked" "[I" := Or.inl (wm4 212 rfl rfl)
theorem lw_X7_32 : Cond.fieldLink RX7 32 "FairDrawsModel" "ranked" "[I" ∈ WS := wm4 212 rfl rfl
theorem lk_X7_107 : xFl RX7 107 "FairDrawsModel" "isRanked" "Z" := Or.inl (wm4 213 rfl rfl)
theorem lw_X7_107 : Cond.fieldLink RX7 107 "FairDrawsModel" "isRanked" "Z" ∈ WS := wm4 213 rfl rfl
theorem lk_X7_35 : xFl RX7 35 "FairDrawsModel" "saved" "[I" := Or.inl (wm4 214 rfl rfl)
theorem lw_X7_35 : Cond.fieldLink RX7 35 "FairDrawsModel" "saved" "[I" ∈ WS := wm4 214 rfl rfl
theorem lk_X7_38 : xFl RX7 38 "FairDrawsModel" "often" "[I" := Or.inl (wm4 215 rfl rfl)
theorem lw_X7_38 : Cond.fieldLink RX7 38 "FairDrawsModel" "often" "[I" ∈ WS := wm4 215 rfl rfl
theorem lk_X7_41 : xFl RX7 41 "FairDrawsModel" "aside" "[I" := Or.inl (wm4 216 rfl rfl)
theorem lw_X7_41 : Cond.fieldLink RX7 41 "FairDrawsModel" "aside" "[I" ∈ WS := wm4 216 rfl rfl
theorem lk_X7_231 : xFl RX7 231 "FairDrawsModel" "spelt" "I" := Or.inl (wm4 217 rfl rfl)
theorem lw_X7_231 : Cond.fieldLink RX7 231 "FairDrawsModel" "spelt" "I" ∈ WS := wm4 217 rfl rfl
theorem lk_X7_234 : xFl RX7 234 "FairDrawsModel" "wanted" "I" := Or.inl (wm4 218 rfl rfl)
theorem lw_X7_234 : Cond.fieldLink RX7 234 "FairDrawsModel" "wanted" "I" ∈ WS := wm4 218 rfl rfl
theorem lk_X7_237 : xFl RX7 237 "FairDrawsModel" "found" "I" := Or.inl (wm4 219 rfl rfl)
theorem lw_X7_237 : Cond.fieldLink RX7 237 "FairDrawsModel" "found" "I" ∈ WS := wm4 219 rfl rfl
theorem lk_X7_44 : xFl RX7 44 "FairDrawsModel" "tape" "[B" := Or.inl (wm4 220 rfl rfl)
theorem lw_X7_44 : Cond.fieldLink RX7 44 "FairDrawsModel" "tape" "[B" ∈ WS := wm4 220 rfl rfl
theorem lk_X7_282 : xFl RX7 282 "FairDrawsModel" "taped" "I" := Or.inl (wm4 221 rfl rfl)
theorem lw_X7_282 : Cond.fieldLink RX7 282 "FairDrawsModel" "taped" "I" ∈ WS := wm4 221 rfl rfl
theorem lk_X7_288 : xFl RX7 288 "FairDrawsModel" "spot" "I" := Or.inl (wm4 222 rfl rfl)
theorem lw_X7_288 : Cond.fieldLink RX7 288 "FairDrawsModel" "spot" "I" ∈ WS := wm4 222 rfl rfl
theorem lk_X7_294 : xFl RX7 294 "FairDrawsModel" "wrong" "I" := Or.inl (wm4 223 rfl rfl)
theorem lw_X7_294 : Cond.fieldLink RX7 294 "FairDrawsModel" "wrong" "I" ∈ WS := wm4 223 rfl rfl
theorem lk_X7_311 : xFl RX7 311 "FairDrawsModel" "number" "I" := Or.inl (wm4 224 rfl rfl)
theorem lw_X7_311 : Cond.fieldLink RX7 311 "FairDrawsModel" "number" "I" ∈ WS := wm4 224 rfl rfl
theorem ml_L_118 : xMl RL 118 yX7_order := Or.inl (wm5 30 rfl rfl)
theorem ml_X7_66 : xMl RX7 66 yX7_isItem := Or.inl (wm5 34 rfl rfl)
theorem ml_X7_54 : xMl RX7 54 yX7_in := Or.inl (wm5 38 rfl rfl)
theorem ml_X7_58 : xMl RX7 58 yX7_item := Or.inl (wm5 41 rfl rfl)
theorem ml_X7_86 : xMl RX7 86 yX7_comparedKeys := Or.inl (wm5 45 rfl rfl)
theorem ml_X7_78 : xMl RX7 78 yX7_powers := Or.inl (wm5 49 rfl rfl)
theorem ml_X7_73 : xMl RX7 73 yX7_times := Or.inl (wm5 52 rfl rfl)
theorem kc_X7_77 : Cond.constant RX7 77 (Int32.ofInt (32768)) ∈ WS := wm5 55 rfl rfl
theorem ml_X7_82 : xMl RX7 82 yX7_compared := Or.inl (wm5 56 rfl rfl)
theorem ml_L_122 : xMl RL 122 yX7_part := Or.inl (wm5 60 rfl rfl)
theorem kc_X7_94 : Cond.constantLong RX7 94 (Int64.ofInt (1000)) ∈ WS := wm5 64 rfl rfl
theorem ml_X7_96 : xMl RX7 96 yX7_isNoMore := Or.inl (wm5 65 rfl rfl)
theorem ml_L_114 : xMl RL 114 yX7_of := Or.inl (wm5 69 rfl rfl)
theorem ml_X7_62 : xMl RX7 62 yX7_shardOf := Or.inl (wm5 73 rfl rfl)
theorem ml_X7_70 : xMl RX7 70 yX7_isDropped := Or.inl (wm5 77 rfl rfl)
theorem ml_X7_134 : xMl RX7 134 yX7_isAlive := Or.inl (wm5 81 rfl rfl)
theorem ml_X7_100 : xMl RX7 100 yX7_isAliveAt := Or.inl (wm5 85 rfl rfl)
theorem ml_X7_137 : xMl RX7 137 yX7_laysSample := Or.inl (wm5 89 rfl rfl)
theorem ml_X7_128 : xMl RX7 128 yX7_laysAlive := Or.inl (wm5 93 rfl rfl)
theorem ml_X7_124 : xMl RX7 124 yX7_lays := Or.inl (wm5 97 rfl rfl)
theorem ml_X7_115 : xMl RX7 115 yX7_ranks := Or.inl (wm5 101 rfl rfl)
theorem ml_X7_111 : xMl RX7 111 yX7_areInOrder := Or.inl (wm5 105 rfl rfl)
theorem ml_X7_90 : xMl RX7 90 yX7_isAhead := Or.inl (wm5 109 rfl rfl)
theorem ml_X7_118 : xMl RX7 118 yX7_begins_ := Or.inl (wm5 113 rfl rfl)
theorem ml_X7_120 : xMl RX7 120 yX7_comesIn := Or.inl (wm5 117 rfl rfl)
theorem ml_X7_131 : xMl RX7 131 yX7_cuts := Or.inl (wm5 121 rfl rfl)
theorem ml_X7_140 : xMl RX7 140 yX7_placeOf := Or.inl (wm5 125 rfl rfl)
theorem ml_L_126 : xMl RL 126 yX7_sample := Or.inl (wm5 129 rfl rfl)
theorem ml_X7_143 : xMl RX7 143 yX7_isShard := Or.inl (wm5 133 rfl rfl)
theorem kc_X7_52 : Cond.constantLong RX7 52 (Int64.ofInt (3)) ∈ WS := wm5 136 rfl rfl
theorem ml_X7_146 : xMl RX7 146 yX7_toldOf := Or.inl (wm5 137 rfl rfl)
theorem ml_L_130 : xMl RL 130 yX7_merged := Or.inl (wm5 141 rfl rfl)
theorem ml_X7_153 : xMl RX7 153 yX7_laysMerged := Or.inl (wm5 145 rfl rfl)
theorem kc_X7_149 : Cond.constantLong RX7 149 (Int64.ofInt (15)) ∈ WS := wm5 149 rfl rfl
theorem kc_X7_151 : Cond.constantLong RX7 151 (Int64.ofInt (24)) ∈ WS := wm5 150 rfl rfl
theorem ml_L_134 : xMl RL 134 yX7_partOf := Or.inl (wm5 151 rfl rfl)
theorem ml_L_138 : xMl RL 138 yX7_capped := Or.inl (wm5 155 rfl rfl)
theorem kc_X7_156 : Cond.constantLong RX7 156 (Int64.ofInt (12)) ∈ WS := wm5 159 rfl rfl
theorem ml_X7_158 : xMl RX7 158 yX7_labelled := Or.inl (wm5 160 rfl rfl)
theorem ml_L_142 : xMl RL 142 yX7_last := Or.inl (wm5 164 rfl rfl)
theorem ml_L_146 : xMl RL 146 yX7_needs := Or.inl (wm5 168 rfl rfl)
theorem kc_X7_161 : Cond.constantLong RX7 161 (Int64.ofInt (20)) ∈ WS := wm5 172 rfl rfl
theorem ml_X7_163 : xMl RX7 163 yX7_wouldBeIn := Or.inl (wm5 173 rfl rfl)
theorem ml_L_150 : xMl RL 150 yX7_heavy := Or.inl (wm5 177 rfl rfl)
theorem kc_X7_166 : Cond.constantLong RX7 166 (Int64.ofInt (1023)) ∈ WS := wm5 181 rfl rfl
theorem ml_L_154 : xMl RL 154 yX7_skip := Or.inl (wm5 182 rfl rfl)
theorem ml_X7_174 : xMl RX7 174 yX7_drawn := Or.inl (wm5 186 rfl rfl)
theorem kc_X7_168 : Cond.constantLong RX7 168 (Int64.ofInt (25173)) ∈ WS := wm5 190 rfl rfl
theorem kc_X7_170 : Cond.constantLong RX7 170 (Int64.ofInt (13849)) ∈ WS := wm5 191 rfl rfl
theorem kc_X7_172 : Cond.constantLong RX7 172 (Int64.ofInt (65536)) ∈ WS := wm5 192 rfl rfl
theorem ml_L_190 : xMl RL 190 yX7_weightFor := Or.inl (wm5 193 rfl rfl)
theorem ml_L_194 : xMl RL 194 yX7_sizeFor := Or.inl (wm5 197 rfl rfl)
theorem ml_L_198 : xMl RL 198 yX7_windowFor := Or.inl (wm5 201 rfl rfl)
theorem ml_X7_178 : xMl RX7 178 yX7_lessWindow := Or.inl (wm5 205 rfl rfl)
theorem ml_L_202 : xMl RL 202 yX7_later := Or.inl (wm5 209 rfl rfl)
theorem kc_X7_181 : Cond.constantLong RX7 181 (Int64.ofInt (9999)) ∈ WS := wm5 213 rfl rfl
theorem ml_L_206 : xMl RL 206 yX7_enters := Or.inl (wm5 214 rfl rfl)
theorem ml_X7_183 : xMl RX7 183 yX7_nextDeath := Or.inl (wm5 218 rfl rfl)
theorem kc_X7_186 : Cond.constant RX7 186 (Int32.ofInt (1000000)) ∈ WS := wm5 222 rfl rfl
theorem ml_L_210 : xMl RL 210 yX7_changes := Or.inl (wm5 223 rfl rfl)
theorem ml_L_214 : xMl RL 214 yX7_then := Or.inl (wm5 227 rfl rfl)
theorem ml_X7_187 : xMl RX7 187 yX7_laysThen := Or.inl (wm5 231 rfl rfl)
theorem ml_L_218 : xMl RL 218 yX7_played := Or.inl (wm5 235 rfl rfl)
theorem ml_X7_191 : xMl RX7 191 yX7_putsOut := Or.inl (wm5 239 rfl rfl)
theorem ml_L_222 : xMl RL 222 yX7_outBy := Or.inl (wm6 3 rfl rfl)
theorem ml_L_226 : xMl RL 226 yX7_labels := Or.inl (wm6 7 rfl rfl)
theorem kc_X7_194 : Cond.constantLong RX7 194 (Int64.ofInt (25)) ∈ WS := wm6 11 rfl rfl
theorem ml_L_230 : xMl RL 230 yX7_total := Or.inl (wm6 12 rfl rfl)
theorem ml_X7_196 : xMl RX7 196 yX7_weights := Or.inl (wm6 16 rfl rfl)
theorem ml_X7_199 : xMl RX7 199 yX7_thereIn := Or.inl (wm6 20 rfl rfl)
theorem ml_L_234 : xMl RL 234 yX7_mode := Or.inl (wm6 24 rfl rfl)
theorem ml_L_238 : xMl RL 238 yX7_unlike := Or.inl (wm6 28 rfl rfl)
theorem ml_L_242 : xMl RL 242 yX7_same := Or.inl (wm6 32 rfl rfl)
theorem ml_X7_202 : xMl RX7 202 yX7_putsAside := Or.inl (wm6 36 rfl rfl)
theorem ml_X7_205 : xMl RX7 205 yX7_exchanges := Or.inl (wm6 40 rfl rfl)
theorem ml_L_32 : xMl RL 32 yX7_come := Or.inl (wm6 44 rfl rfl)
theorem ml_X7_216 : xMl RX7 216 yX7_keepsAct := Or.inl (wm6 48 rfl rfl)
theorem ml_X7_219 : xMl RX7 219 yX7_comesNew := Or.inl (wm6 52 rfl rfl)
theorem ml_X7_212 : xMl RX7 212 yX7_sets := Or.inl (wm6 56 rfl rfl)
theorem ml_L_37 : xMl RL 37 yX7_put := Or.inl (wm6 60 rfl rfl)
theorem ml_L_41 : xMl RL 41 yX7_pass := Or.inl (wm6 64 rfl rfl)
theorem kc_X7_222 : Cond.constant RX7 222 (Int32.ofInt (99999)) ∈ WS := wm6 68 rfl rfl
theorem ml_L_46 : xMl RL 46 yX7_size := Or.inl (wm6 69 rfl rfl)
theorem ml_X7_223 : xMl RX7 223 yX7_becomes := Or.inl (wm6 73 rfl rfl)
theorem ml_L_50 : xMl RL 50 yX7_window := Or.inl (wm6 77 rfl rfl)
theorem ml_L_54 : xMl RL 54 yX7_weigh := Or.inl (wm6 81 rfl rfl)
theorem ml_X7_226 : xMl RX7 226 yX7_isThere := Or.inl (wm6 85 rfl rfl)
theorem ml_L_58 : xMl RL 58 yX7_again := Or.inl (wm6 89 rfl rfl)
theorem ml_L_62 : xMl RL 62 yX7_drop := Or.inl (wm6 93 rfl rfl)
theorem ml_L_66 : xMl RL 66 yX7_move := Or.inl (wm6 97 rfl rfl)
theorem ml_L_70 : xMl RL 70 yX7_merge := Or.inl (wm6 101 rfl rfl)
theorem ml_L_74 : xMl RL 74 yX7_rename := Or.inl (wm6 105 rfl rfl)
theorem ml_L_78 : xMl RL 78 yX7_thin := Or.inl (wm6 109 rfl rfl)
theorem ml_L_98 : xMl RL 98 yX7_seed := Or.inl (wm6 113 rfl rfl)
theorem kc_X7_229 : Cond.constantLong RX7 229 (Int64.ofInt (65535)) ∈ WS := wm6 117 rfl rfl
theorem ml_L_102 : xMl RL 102 yX7_undo := Or.inl (wm6 118 rfl rfl)
theorem ml_L_106 : xMl RL 106 yX7_keep := Or.inl (wm6 122 rfl rfl)
theorem ml_L_110 : xMl RL 110 yX7_back := Or.inl (wm6 126 rfl rfl)
theorem ml_L_246 : xMl RL 246 yX7_told := Or.inl (wm6 130 rfl rfl)
theorem ml_X7_275 : xMl RX7 275 yX7_spellAll := Or.inl (wm6 134 rfl rfl)
theorem ml_X7_257 : xMl RX7 257 yX7_spells := Or.inl (wm6 139 rfl rfl)
theorem ml_X7_243 : xMl RX7 243 yX7_spell := Or.inl (wm6 143 rfl rfl)
theorem ml_X7_246 : xMl RX7 246 yJ0_length_8abf5 := Or.inl (wm6 147 rfl rfl)
theorem ml_X7_251 : xMl RX7 251 yJ0_charAt_5068e := Or.inl (wm6 148 rfl rfl)
theorem ml_X7_261 : xMl RX7 261 yX7_spellsOn := Or.inl (wm6 149 rfl rfl)
theorem ml_X7_240 : xMl RX7 240 yX7_spellNumber := Or.inl (wm6 153 rfl rfl)
theorem ml_X7_268 : xMl RX7 268 yX7_spellWait := Or.inl (wm6 158 rfl rfl)
theorem ml_L_251 : xMl RL 251 yX7_digest := Or.inl (wm6 165 rfl rfl)
theorem kc_X7_278 : Cond.constantLong RX7 278 (Int64.ofInt (17)) ∈ WS := wm6 169 rfl rfl
theorem kc_X7_280 : Cond.constantLong RX7 280 (Int64.ofInt (31)) ∈ WS := wm6 170 rfl rfl
theorem ml_L_255 : xMl RL 255 yX7_count := Or.inl (wm6 171 rfl rfl)
theorem ml_L_17 : xMl RL 17 yX7_feed := Or.inl (wm6 175 rfl rfl)
theorem ml_X7_285 : xMl RX7 285 yX7_laysFour := Or.inl (wm6 179 rfl rfl)
theorem ml_L_22 : xMl RL 22 yX7_end := Or.inl (wm6 183 rfl rfl)
theorem ml_L_27 : xMl RL 27 yX7_tell := Or.inl (wm6 187 rfl rfl)
theorem ml_X7_347 : xMl RX7 347 yX7_readsAll := Or.inl (wm6 191 rfl rfl)
theorem ml_X7_344 : xMl RX7 344 yX7_readsStatement := Or.inl (wm6 195 rfl rfl)
theorem ml_X7_297 : xMl RX7 297 yX7_nextByte := Or.inl (wm6 199 rfl rfl)
theorem ml_X7_291 : xMl RX7 291 yX7_byteAt := Or.inl (wm6 203 rfl rfl)
theorem ml_X7_323 : xMl RX7 323 yX7_takesWord := Or.inl (wm6 207 rfl rfl)
theorem kc_X7_300 : Cond.constantLong RX7 300 (Int64.ofInt (97)) ∈ WS := wm6 211 rfl rfl
theorem kc_X7_302 : Cond.constantLong RX7 302 (Int64.ofInt (122)) ∈ WS := wm6 212 rfl rfl
theorem ml_X7_327 : xMl RX7 327 yX7_readsSize := Or.inl (wm6 213 rfl rfl)
theorem ml_X7_314 : xMl RX7 314 yX7_readsNumber := Or.inl (wm6 217 rfl rfl)
theorem kc_X7_304 : Cond.constantLong RX7 304 (Int64.ofInt (48)) ∈ WS := wm6 221 rfl rfl
theorem kc_X7_306 : Cond.constantLong RX7 306 (Int64.ofInt (57)) ∈ WS := wm6 222 rfl rfl
theorem ml_X7_308 : xMl RX7 308 yX7_fails := Or.inl (wm6 223 rfl rfl)
theorem ml_X7_330 : xMl RX7 330 yX7_readsWindow := Or.inl (wm6 227 rfl rfl)
theorem ml_X7_333 : xMl RX7 333 yX7_readsSeed := Or.inl (wm6 231 rfl rfl)
theorem kc_X7_317 : Cond.constant RX7 317 (Int32.ofInt (65535)) ∈ WS := wm6 235 rfl rfl
theorem ml_X7_336 : xMl RX7 336 yX7_readsWait := Or.inl (wm6 236 rfl rfl)
theorem ml_X7_340 : xMl RX7 340 yX7_readsItem := Or.inl (wm7 1 rfl rfl)
theorem ml_X7_318 : xMl RX7 318 yX7_readsLabel := Or.inl (wm7 5 rfl rfl)
theorem ml_L_82 : xMl RL 82 yX7_swap := Or.inl (wm7 10 rfl rfl)
theorem ml_L_86 : xMl RL 86 yX7_weighAll := Or.inl (wm7 14 rfl rfl)
theorem kc_X7_350 : Cond.constantLong RX7 350 (Int64.ofInt (2)) ∈ WS := wm7 18 rfl rfl
theorem ml_X7_352 : xMl RX7 352 yX7_heavier := Or.inl (wm7 19 rfl rfl)
theorem ml_L_90 : xMl RL 90 yX7_split := Or.inl (wm7 22 rfl rfl)
theorem ml_L_94 : xMl RL 94 yX7_purge := Or.inl (wm7 26 rfl rfl)
theorem ml_X7_355 : xMl RX7 355 yX7_isExpired := Or.inl (wm7 30 rfl rfl)
theorem ml_L_158 : xMl RL 158 yX7_lots := Or.inl (wm7 34 rfl rfl)
theorem ml_L_166 : xMl RL 166 yX7_kinds := Or.inl (wm7 38 rfl rfl)
theorem ml_X7_358 : xMl RX7 358 yX7_kindsOf := Or.inl (wm7 42 rfl rfl)
theorem ml_L_170 : xMl RL 170 yX7_sizeForKinds := Or.inl (wm7 46 rfl rfl)
theorem ml_L_174 : xMl RL 174 yX7_shared := Or.inl (wm7 50 rfl rfl)
theorem ml_X7_361 : xMl RX7 361 yX7_labelSet := Or.inl (wm7 54 rfl rfl)
theorem ml_L_186 : xMl RL 186 yX7_busiest := Or.inl (wm7 58 rfl rfl)
theorem ml_X7_364 : xMl RX7 364 yX7_cameIn := Or.inl (wm7 62 rfl rfl)
theorem ml_L_178 : xMl RL 178 yX7_without := Or.inl (wm7 66 rfl rfl)
theorem ml_L_162 : xMl RL 162 yX7_nextLot := Or.inl (wm7 70 rfl rfl)
theorem kc_X7_367 : Cond.constantLong RX7 367 (Int64.ofInt (999)) ∈ WS := wm7 74 rfl rfl
theorem ml_L_182 : xMl RL 182 yX7_expired := Or.inl (wm7 75 rfl rfl)
end
