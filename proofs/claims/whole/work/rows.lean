section
-- ===== PART A: goes FIRST, ahead of the names: the tables' words, and 'selects' of the private methods out of them =====
/-- a private method of a class that the tables say can be made, by its rows of tables_1 -/
def lw_okq (q : MethodName × Nat) : Prop := (q.1.cls ≠ "java/lang/invoke/MethodHandle" ∧ q.1.cls ≠ "java/lang/invoke/VarHandle") ∧ Cond.instantiable q.1.cls q.2 ∈ tables_1 ∧ Cond.privateMethod q.1 ∈ tables_1 ∧ Cond.instanceMethod q.1 ∈ tables_1
theorem lw_p0 : lw_okq (⟨"FairDraws$Tape", "readStatement", "()V"⟩, 5) := ⟨⟨by decide +kernel, by decide +kernel⟩, List.mem_of_getElem? (i := 144) (by decide +kernel), List.mem_of_getElem? (i := 278) (by decide +kernel), List.mem_of_getElem? (i := 279) (by decide +kernel)⟩
theorem lw_p1 : lw_okq (⟨"FairDraws$Tape", "skipBlanks", "()V"⟩, 5) := ⟨⟨by decide +kernel, by decide +kernel⟩, List.mem_of_getElem? (i := 144) (by decide +kernel), List.mem_of_getElem? (i := 282) (by decide +kernel), List.mem_of_getElem? (i := 283) (by decide +kernel)⟩
theorem lw_p2 : lw_okq (⟨"FairDraws$Tape", "takes", "(Ljava/lang/String;)Z"⟩, 5) := ⟨⟨by decide +kernel, by decide +kernel⟩, List.mem_of_getElem? (i := 144) (by decide +kernel), List.mem_of_getElem? (i := 287) (by decide +kernel), List.mem_of_getElem? (i := 288) (by decide +kernel)⟩
theorem lw_p3 : lw_okq (⟨"FairDraws$Tape", "isLetter", "(I)Z"⟩, 5) := ⟨⟨by decide +kernel, by decide +kernel⟩, List.mem_of_getElem? (i := 144) (by decide +kernel), List.mem_of_getElem? (i := 301) (by decide +kernel), List.mem_of_getElem? (i := 302) (by decide +kernel)⟩
theorem lw_p4 : lw_okq (⟨"FairDraws$Tape", "readSize", "()V"⟩, 5) := ⟨⟨by decide +kernel, by decide +kernel⟩, List.mem_of_getElem? (i := 144) (by decide +kernel), List.mem_of_getElem? (i := 344) (by decide +kernel), List.mem_of_getElem? (i := 345) (by decide +kernel)⟩
theorem lw_p5 : lw_okq (⟨"FairDraws$Tape", "number", "(II)I"⟩, 5) := ⟨⟨by decide +kernel, by decide +kernel⟩, List.mem_of_getElem? (i := 144) (by decide +kernel), List.mem_of_getElem? (i := 348) (by decide +kernel), List.mem_of_getElem? (i := 349) (by decide +kernel)⟩
theorem lw_p6 : lw_okq (⟨"FairDraws$Tape", "meet", "(II)V"⟩, 5) := ⟨⟨by decide +kernel, by decide +kernel⟩, List.mem_of_getElem? (i := 144) (by decide +kernel), List.mem_of_getElem? (i := 356) (by decide +kernel), List.mem_of_getElem? (i := 357) (by decide +kernel)⟩
theorem lw_p7 : lw_okq (⟨"FairDraws$Tape", "readWindow", "()V"⟩, 5) := ⟨⟨by decide +kernel, by decide +kernel⟩, List.mem_of_getElem? (i := 144) (by decide +kernel), List.mem_of_getElem? (i := 361) (by decide +kernel), List.mem_of_getElem? (i := 362) (by decide +kernel)⟩
theorem lw_p8 : lw_okq (⟨"FairDraws$Tape", "readSeed", "()V"⟩, 5) := ⟨⟨by decide +kernel, by decide +kernel⟩, List.mem_of_getElem? (i := 144) (by decide +kernel), List.mem_of_getElem? (i := 366) (by decide +kernel), List.mem_of_getElem? (i := 367) (by decide +kernel)⟩
theorem lw_p9 : lw_okq (⟨"FairDraws$Tape", "readWait", "(I)V"⟩, 5) := ⟨⟨by decide +kernel, by decide +kernel⟩, List.mem_of_getElem? (i := 144) (by decide +kernel), List.mem_of_getElem? (i := 372) (by decide +kernel), List.mem_of_getElem? (i := 373) (by decide +kernel)⟩
theorem lw_p10 : lw_okq (⟨"FairDraws$Tape", "readItems", "(I)V"⟩, 5) := ⟨⟨by decide +kernel, by decide +kernel⟩, List.mem_of_getElem? (i := 144) (by decide +kernel), List.mem_of_getElem? (i := 378) (by decide +kernel), List.mem_of_getElem? (i := 379) (by decide +kernel)⟩
theorem lw_p11 : lw_okq (⟨"FairDraws$Tape", "label", "()I"⟩, 5) := ⟨⟨by decide +kernel, by decide +kernel⟩, List.mem_of_getElem? (i := 144) (by decide +kernel), List.mem_of_getElem? (i := 382) (by decide +kernel), List.mem_of_getElem? (i := 383) (by decide +kernel)⟩
theorem lw_p12 : lw_okq (⟨"FairDraws$Tape", "readKey", "(I)V"⟩, 5) := ⟨⟨by decide +kernel, by decide +kernel⟩, List.mem_of_getElem? (i := 144) (by decide +kernel), List.mem_of_getElem? (i := 404) (by decide +kernel), List.mem_of_getElem? (i := 405) (by decide +kernel)⟩
theorem lw_p13 : lw_okq (⟨"FairDraws$State", "rank", "(I)V"⟩, 13) := ⟨⟨by decide +kernel, by decide +kernel⟩, List.mem_of_getElem? (i := 25) (by decide +kernel), List.mem_of_getElem? (i := 416) (by decide +kernel), List.mem_of_getElem? (i := 417) (by decide +kernel)⟩
theorem lw_p14 : lw_okq (⟨"FairDraws$Keys", "compareRows", "()I"⟩, 2) := ⟨⟨by decide +kernel, by decide +kernel⟩, List.mem_of_getElem? (i := 31) (by decide +kernel), List.mem_of_getElem? (i := 443) (by decide +kernel), List.mem_of_getElem? (i := 444) (by decide +kernel)⟩
theorem lw_p15 : lw_okq (⟨"FairDraws", "moveAll", "(III)I"⟩, 8) := ⟨⟨by decide +kernel, by decide +kernel⟩, List.mem_of_getElem? (i := 17) (by decide +kernel), List.mem_of_getElem? (i := 537) (by decide +kernel), List.mem_of_getElem? (i := 538) (by decide +kernel)⟩
def lw_privs_1 : List (MethodName × Nat) := [(⟨"FairDraws$Tape", "readStatement", "()V"⟩, 5), (⟨"FairDraws$Tape", "skipBlanks", "()V"⟩, 5), (⟨"FairDraws$Tape", "takes", "(Ljava/lang/String;)Z"⟩, 5), (⟨"FairDraws$Tape", "isLetter", "(I)Z"⟩, 5), (⟨"FairDraws$Tape", "readSize", "()V"⟩, 5), (⟨"FairDraws$Tape", "number", "(II)I"⟩, 5), (⟨"FairDraws$Tape", "meet", "(II)V"⟩, 5), (⟨"FairDraws$Tape", "readWindow", "()V"⟩, 5), (⟨"FairDraws$Tape", "readSeed", "()V"⟩, 5), (⟨"FairDraws$Tape", "readWait", "(I)V"⟩, 5), (⟨"FairDraws$Tape", "readItems", "(I)V"⟩, 5), (⟨"FairDraws$Tape", "label", "()I"⟩, 5), (⟨"FairDraws$Tape", "readKey", "(I)V"⟩, 5), (⟨"FairDraws$State", "rank", "(I)V"⟩, 13), (⟨"FairDraws$Keys", "compareRows", "()I"⟩, 2), (⟨"FairDraws", "moveAll", "(III)I"⟩, 8)]
theorem lw_r1 : ∀ q ∈ lw_privs_1, lw_okq q := List.forall_mem_cons.mpr ⟨lw_p0, List.forall_mem_cons.mpr ⟨lw_p1, List.forall_mem_cons.mpr ⟨lw_p2, List.forall_mem_cons.mpr ⟨lw_p3, List.forall_mem_cons.mpr ⟨lw_p4, List.forall_mem_cons.mpr ⟨lw_p5, List.forall_mem_cons.mpr ⟨lw_p6, List.forall_mem_cons.mpr ⟨lw_p7, List.forall_mem_cons.mpr ⟨lw_p8, List.forall_mem_cons.mpr ⟨lw_p9, List.forall_mem_cons.mpr ⟨lw_p10, List.forall_mem_cons.mpr ⟨lw_p11, List.forall_mem_cons.mpr ⟨lw_p12, List.forall_mem_cons.mpr ⟨lw_p13, List.forall_mem_cons.mpr ⟨lw_p14, List.forall_mem_cons.mpr ⟨lw_p15, fun _ h => absurd h List.not_mem_nil⟩⟩⟩⟩⟩⟩⟩⟩⟩⟩⟩⟩⟩⟩⟩⟩
theorem lw_p16 : lw_okq (⟨"FairDraws$Sampler", "isAskedFor", "(LFairDraws$State;I)Z"⟩, 9) := ⟨⟨by decide +kernel, by decide +kernel⟩, List.mem_of_getElem? (i := 170) (by decide +kernel), List.mem_of_getElem? (i := 562) (by decide +kernel), List.mem_of_getElem? (i := 563) (by decide +kernel)⟩
theorem lw_p17 : lw_okq (⟨"FairDraws$State", "isAliveOf", "(III)Z"⟩, 13) := ⟨⟨by decide +kernel, by decide +kernel⟩, List.mem_of_getElem? (i := 25) (by decide +kernel), List.mem_of_getElem? (i := 595) (by decide +kernel), List.mem_of_getElem? (i := 596) (by decide +kernel)⟩
theorem lw_p18 : lw_okq (⟨"FairDraws", "isKept", "(I)Z"⟩, 8) := ⟨⟨by decide +kernel, by decide +kernel⟩, List.mem_of_getElem? (i := 17) (by decide +kernel), List.mem_of_getElem? (i := 628) (by decide +kernel), List.mem_of_getElem? (i := 629) (by decide +kernel)⟩
theorem lw_p19 : lw_okq (⟨"FairDraws", "lifeOf", "(I)I"⟩, 8) := ⟨⟨by decide +kernel, by decide +kernel⟩, List.mem_of_getElem? (i := 17) (by decide +kernel), List.mem_of_getElem? (i := 637) (by decide +kernel), List.mem_of_getElem? (i := 638) (by decide +kernel)⟩
theorem lw_p20 : lw_okq (⟨"FairDraws", "aheadInSample", "(I)I"⟩, 8) := ⟨⟨by decide +kernel, by decide +kernel⟩, List.mem_of_getElem? (i := 17) (by decide +kernel), List.mem_of_getElem? (i := 641) (by decide +kernel), List.mem_of_getElem? (i := 642) (by decide +kernel)⟩
theorem lw_p21 : lw_okq (⟨"FairDraws", "aheadOfAlive", "(I)I"⟩, 8) := ⟨⟨by decide +kernel, by decide +kernel⟩, List.mem_of_getElem? (i := 17) (by decide +kernel), List.mem_of_getElem? (i := 645) (by decide +kernel), List.mem_of_getElem? (i := 646) (by decide +kernel)⟩
theorem lw_p22 : lw_okq (⟨"FairDraws", "takeMerged", "(II)V"⟩, 8) := ⟨⟨by decide +kernel, by decide +kernel⟩, List.mem_of_getElem? (i := 17) (by decide +kernel), List.mem_of_getElem? (i := 690) (by decide +kernel), List.mem_of_getElem? (i := 691) (by decide +kernel)⟩
theorem lw_p23 : lw_okq (⟨"FairDraws", "lastOfFull", "(I)I"⟩, 8) := ⟨⟨by decide +kernel, by decide +kernel⟩, List.mem_of_getElem? (i := 17) (by decide +kernel), List.mem_of_getElem? (i := 706) (by decide +kernel), List.mem_of_getElem? (i := 707) (by decide +kernel)⟩
theorem lw_p24 : lw_okq (⟨"FairDraws", "leastLotForSample", "(II)I"⟩, 8) := ⟨⟨by decide +kernel, by decide +kernel⟩, List.mem_of_getElem? (i := 17) (by decide +kernel), List.mem_of_getElem? (i := 718) (by decide +kernel), List.mem_of_getElem? (i := 719) (by decide +kernel)⟩
theorem lw_p25 : lw_okq (⟨"FairDraws", "leastLotAhead", "(II)I"⟩, 8) := ⟨⟨by decide +kernel, by decide +kernel⟩, List.mem_of_getElem? (i := 17) (by decide +kernel), List.mem_of_getElem? (i := 722) (by decide +kernel), List.mem_of_getElem? (i := 723) (by decide +kernel)⟩
theorem lw_p26 : lw_okq (⟨"FairDraws", "kindsBySize", "(II)I"⟩, 8) := ⟨⟨by decide +kernel, by decide +kernel⟩, List.mem_of_getElem? (i := 17) (by decide +kernel), List.mem_of_getElem? (i := 748) (by decide +kernel), List.mem_of_getElem? (i := 749) (by decide +kernel)⟩
theorem lw_p27 : lw_okq (⟨"FairDraws", "takeWithout", "(I)V"⟩, 8) := ⟨⟨by decide +kernel, by decide +kernel⟩, List.mem_of_getElem? (i := 17) (by decide +kernel), List.mem_of_getElem? (i := 764) (by decide +kernel), List.mem_of_getElem? (i := 765) (by decide +kernel)⟩
theorem lw_p28 : lw_okq (⟨"FairDraws", "rivalTime", "(I)I"⟩, 8) := ⟨⟨by decide +kernel, by decide +kernel⟩, List.mem_of_getElem? (i := 17) (by decide +kernel), List.mem_of_getElem? (i := 793) (by decide +kernel), List.mem_of_getElem? (i := 794) (by decide +kernel)⟩
theorem lw_p29 : lw_okq (⟨"FairDraws", "askThen", "(I)V"⟩, 8) := ⟨⟨by decide +kernel, by decide +kernel⟩, List.mem_of_getElem? (i := 17) (by decide +kernel), List.mem_of_getElem? (i := 814) (by decide +kernel), List.mem_of_getElem? (i := 815) (by decide +kernel)⟩
theorem lw_p30 : lw_okq (⟨"FairDraws", "putOutBy", "(I)I"⟩, 8) := ⟨⟨by decide +kernel, by decide +kernel⟩, List.mem_of_getElem? (i := 17) (by decide +kernel), List.mem_of_getElem? (i := 822) (by decide +kernel), List.mem_of_getElem? (i := 823) (by decide +kernel)⟩
theorem lw_p31 : lw_okq (⟨"FairDraws", "weightOfSample", "(I)I"⟩, 8) := ⟨⟨by decide +kernel, by decide +kernel⟩, List.mem_of_getElem? (i := 17) (by decide +kernel), List.mem_of_getElem? (i := 842) (by decide +kernel), List.mem_of_getElem? (i := 843) (by decide +kernel)⟩
def lw_privs_2 : List (MethodName × Nat) := [(⟨"FairDraws$Sampler", "isAskedFor", "(LFairDraws$State;I)Z"⟩, 9), (⟨"FairDraws$State", "isAliveOf", "(III)Z"⟩, 13), (⟨"FairDraws", "isKept", "(I)Z"⟩, 8), (⟨"FairDraws", "lifeOf", "(I)I"⟩, 8), (⟨"FairDraws", "aheadInSample", "(I)I"⟩, 8), (⟨"FairDraws", "aheadOfAlive", "(I)I"⟩, 8), (⟨"FairDraws", "takeMerged", "(II)V"⟩, 8), (⟨"FairDraws", "lastOfFull", "(I)I"⟩, 8), (⟨"FairDraws", "leastLotForSample", "(II)I"⟩, 8), (⟨"FairDraws", "leastLotAhead", "(II)I"⟩, 8), (⟨"FairDraws", "kindsBySize", "(II)I"⟩, 8), (⟨"FairDraws", "takeWithout", "(I)V"⟩, 8), (⟨"FairDraws", "rivalTime", "(I)I"⟩, 8), (⟨"FairDraws", "askThen", "(I)V"⟩, 8), (⟨"FairDraws", "putOutBy", "(I)I"⟩, 8), (⟨"FairDraws", "weightOfSample", "(I)I"⟩, 8)]
theorem lw_r2 : ∀ q ∈ lw_privs_2, lw_okq q := List.forall_mem_cons.mpr ⟨lw_p16, List.forall_mem_cons.mpr ⟨lw_p17, List.forall_mem_cons.mpr ⟨lw_p18, List.forall_mem_cons.mpr ⟨lw_p19, List.forall_mem_cons.mpr ⟨lw_p20, List.forall_mem_cons.mpr ⟨lw_p21, List.forall_mem_cons.mpr ⟨lw_p22, List.forall_mem_cons.mpr ⟨lw_p23, List.forall_mem_cons.mpr ⟨lw_p24, List.forall_mem_cons.mpr ⟨lw_p25, List.forall_mem_cons.mpr ⟨lw_p26, List.forall_mem_cons.mpr ⟨lw_p27, List.forall_mem_cons.mpr ⟨lw_p28, List.forall_mem_cons.mpr ⟨lw_p29, List.forall_mem_cons.mpr ⟨lw_p30, List.forall_mem_cons.mpr ⟨lw_p31, fun _ h => absurd h List.not_mem_nil⟩⟩⟩⟩⟩⟩⟩⟩⟩⟩⟩⟩⟩⟩⟩⟩
theorem lw_p32 : lw_okq (⟨"FairDraws$Teller", "tellShards", "(LFairDraws$State;)V"⟩, 3) := ⟨⟨by decide +kernel, by decide +kernel⟩, List.mem_of_getElem? (i := 213) (by decide +kernel), List.mem_of_getElem? (i := 873) (by decide +kernel), List.mem_of_getElem? (i := 874) (by decide +kernel)⟩
theorem lw_p33 : lw_okq (⟨"FairDraws$Teller", "tellWord", "(Ljava/lang/String;)V"⟩, 3) := ⟨⟨by decide +kernel, by decide +kernel⟩, List.mem_of_getElem? (i := 213) (by decide +kernel), List.mem_of_getElem? (i := 878) (by decide +kernel), List.mem_of_getElem? (i := 879) (by decide +kernel)⟩
theorem lw_p34 : lw_okq (⟨"FairDraws$Teller", "tellByte", "(I)V"⟩, 3) := ⟨⟨by decide +kernel, by decide +kernel⟩, List.mem_of_getElem? (i := 213) (by decide +kernel), List.mem_of_getElem? (i := 882) (by decide +kernel), List.mem_of_getElem? (i := 883) (by decide +kernel)⟩
theorem lw_p35 : lw_okq (⟨"FairDraws$Teller", "tellNumber", "(I)V"⟩, 3) := ⟨⟨by decide +kernel, by decide +kernel⟩, List.mem_of_getElem? (i := 213) (by decide +kernel), List.mem_of_getElem? (i := 888) (by decide +kernel), List.mem_of_getElem? (i := 889) (by decide +kernel)⟩
theorem lw_p36 : lw_okq (⟨"FairDraws$Teller", "tellWaits", "(I)V"⟩, 3) := ⟨⟨by decide +kernel, by decide +kernel⟩, List.mem_of_getElem? (i := 213) (by decide +kernel), List.mem_of_getElem? (i := 893) (by decide +kernel), List.mem_of_getElem? (i := 894) (by decide +kernel)⟩
theorem lw_p37 : lw_okq (⟨"FairDraws$Teller", "tellItem", "(LFairDraws$State;I)V"⟩, 3) := ⟨⟨by decide +kernel, by decide +kernel⟩, List.mem_of_getElem? (i := 213) (by decide +kernel), List.mem_of_getElem? (i := 899) (by decide +kernel), List.mem_of_getElem? (i := 900) (by decide +kernel)⟩
theorem lw_p38 : lw_okq (⟨"FairDrawsModel", "isItem", "(I)Z"⟩, 22) := ⟨⟨by decide +kernel, by decide +kernel⟩, List.mem_of_getElem? (i := 915) (by decide +kernel), List.mem_of_getElem? (i := 995) (by decide +kernel), List.mem_of_getElem? (i := 996) (by decide +kernel)⟩
theorem lw_p39 : lw_okq (⟨"FairDrawsModel", "item", "(II)I"⟩, 22) := ⟨⟨by decide +kernel, by decide +kernel⟩, List.mem_of_getElem? (i := 915) (by decide +kernel), List.mem_of_getElem? (i := 1002) (by decide +kernel), List.mem_of_getElem? (i := 1003) (by decide +kernel)⟩
theorem lw_p40 : lw_okq (⟨"FairDrawsModel", "comparedKeys", "(IIII)I"⟩, 22) := ⟨⟨by decide +kernel, by decide +kernel⟩, List.mem_of_getElem? (i := 915) (by decide +kernel), List.mem_of_getElem? (i := 1006) (by decide +kernel), List.mem_of_getElem? (i := 1007) (by decide +kernel)⟩
theorem lw_p41 : lw_okq (⟨"FairDrawsModel", "compared", "()I"⟩, 22) := ⟨⟨by decide +kernel, by decide +kernel⟩, List.mem_of_getElem? (i := 915) (by decide +kernel), List.mem_of_getElem? (i := 1017) (by decide +kernel), List.mem_of_getElem? (i := 1018) (by decide +kernel)⟩
theorem lw_p42 : lw_okq (⟨"FairDrawsModel", "isNoMore", "(III)Z"⟩, 22) := ⟨⟨by decide +kernel, by decide +kernel⟩, List.mem_of_getElem? (i := 915) (by decide +kernel), List.mem_of_getElem? (i := 1026) (by decide +kernel), List.mem_of_getElem? (i := 1027) (by decide +kernel)⟩
theorem lw_p43 : lw_okq (⟨"FairDrawsModel", "shardOf", "(I)I"⟩, 22) := ⟨⟨by decide +kernel, by decide +kernel⟩, List.mem_of_getElem? (i := 915) (by decide +kernel), List.mem_of_getElem? (i := 1034) (by decide +kernel), List.mem_of_getElem? (i := 1035) (by decide +kernel)⟩
theorem lw_p44 : lw_okq (⟨"FairDrawsModel", "isDropped", "(I)Z"⟩, 22) := ⟨⟨by decide +kernel, by decide +kernel⟩, List.mem_of_getElem? (i := 915) (by decide +kernel), List.mem_of_getElem? (i := 1038) (by decide +kernel), List.mem_of_getElem? (i := 1039) (by decide +kernel)⟩
theorem lw_p45 : lw_okq (⟨"FairDrawsModel", "isAlive", "(I)Z"⟩, 22) := ⟨⟨by decide +kernel, by decide +kernel⟩, List.mem_of_getElem? (i := 915) (by decide +kernel), List.mem_of_getElem? (i := 1042) (by decide +kernel), List.mem_of_getElem? (i := 1043) (by decide +kernel)⟩
theorem lw_p46 : lw_okq (⟨"FairDrawsModel", "isAliveAt", "(III)Z"⟩, 22) := ⟨⟨by decide +kernel, by decide +kernel⟩, List.mem_of_getElem? (i := 915) (by decide +kernel), List.mem_of_getElem? (i := 1046) (by decide +kernel), List.mem_of_getElem? (i := 1047) (by decide +kernel)⟩
theorem lw_p47 : lw_okq (⟨"FairDrawsModel", "laysSample", "(I)V"⟩, 22) := ⟨⟨by decide +kernel, by decide +kernel⟩, List.mem_of_getElem? (i := 915) (by decide +kernel), List.mem_of_getElem? (i := 1050) (by decide +kernel), List.mem_of_getElem? (i := 1051) (by decide +kernel)⟩
def lw_privs_3 : List (MethodName × Nat) := [(⟨"FairDraws$Teller", "tellShards", "(LFairDraws$State;)V"⟩, 3), (⟨"FairDraws$Teller", "tellWord", "(Ljava/lang/String;)V"⟩, 3), (⟨"FairDraws$Teller", "tellByte", "(I)V"⟩, 3), (⟨"FairDraws$Teller", "tellNumber", "(I)V"⟩, 3), (⟨"FairDraws$Teller", "tellWaits", "(I)V"⟩, 3), (⟨"FairDraws$Teller", "tellItem", "(LFairDraws$State;I)V"⟩, 3), (⟨"FairDrawsModel", "isItem", "(I)Z"⟩, 22), (⟨"FairDrawsModel", "item", "(II)I"⟩, 22), (⟨"FairDrawsModel", "comparedKeys", "(IIII)I"⟩, 22), (⟨"FairDrawsModel", "compared", "()I"⟩, 22), (⟨"FairDrawsModel", "isNoMore", "(III)Z"⟩, 22), (⟨"FairDrawsModel", "shardOf", "(I)I"⟩, 22), (⟨"FairDrawsModel", "isDropped", "(I)Z"⟩, 22), (⟨"FairDrawsModel", "isAlive", "(I)Z"⟩, 22), (⟨"FairDrawsModel", "isAliveAt", "(III)Z"⟩, 22), (⟨"FairDrawsModel", "laysSample", "(I)V"⟩, 22)]
theorem lw_r3 : ∀ q ∈ lw_privs_3, lw_okq q := List.forall_mem_cons.mpr ⟨lw_p32, List.forall_mem_cons.mpr ⟨lw_p33, List.forall_mem_cons.mpr ⟨lw_p34, List.forall_mem_cons.mpr ⟨lw_p35, List.forall_mem_cons.mpr ⟨lw_p36, List.forall_mem_cons.mpr ⟨lw_p37, List.forall_mem_cons.mpr ⟨lw_p38, List.forall_mem_cons.mpr ⟨lw_p39, List.forall_mem_cons.mpr ⟨lw_p40, List.forall_mem_cons.mpr ⟨lw_p41, List.forall_mem_cons.mpr ⟨lw_p42, List.forall_mem_cons.mpr ⟨lw_p43, List.forall_mem_cons.mpr ⟨lw_p44, List.forall_mem_cons.mpr ⟨lw_p45, List.forall_mem_cons.mpr ⟨lw_p46, List.forall_mem_cons.mpr ⟨lw_p47, fun _ h => absurd h List.not_mem_nil⟩⟩⟩⟩⟩⟩⟩⟩⟩⟩⟩⟩⟩⟩⟩⟩
theorem lw_p48 : lw_okq (⟨"FairDrawsModel", "laysAlive", "(I)V"⟩, 22) := ⟨⟨by decide +kernel, by decide +kernel⟩, List.mem_of_getElem? (i := 915) (by decide +kernel), List.mem_of_getElem? (i := 1054) (by decide +kernel), List.mem_of_getElem? (i := 1055) (by decide +kernel)⟩
theorem lw_p49 : lw_okq (⟨"FairDrawsModel", "lays", "(IIII)V"⟩, 22) := ⟨⟨by decide +kernel, by decide +kernel⟩, List.mem_of_getElem? (i := 915) (by decide +kernel), List.mem_of_getElem? (i := 1058) (by decide +kernel), List.mem_of_getElem? (i := 1059) (by decide +kernel)⟩
theorem lw_p50 : lw_okq (⟨"FairDrawsModel", "ranks", "()V"⟩, 22) := ⟨⟨by decide +kernel, by decide +kernel⟩, List.mem_of_getElem? (i := 915) (by decide +kernel), List.mem_of_getElem? (i := 1062) (by decide +kernel), List.mem_of_getElem? (i := 1063) (by decide +kernel)⟩
theorem lw_p51 : lw_okq (⟨"FairDrawsModel", "areInOrder", "(II)Z"⟩, 22) := ⟨⟨by decide +kernel, by decide +kernel⟩, List.mem_of_getElem? (i := 915) (by decide +kernel), List.mem_of_getElem? (i := 1066) (by decide +kernel), List.mem_of_getElem? (i := 1067) (by decide +kernel)⟩
theorem lw_p52 : lw_okq (⟨"FairDrawsModel", "isAhead", "(IIII)Z"⟩, 22) := ⟨⟨by decide +kernel, by decide +kernel⟩, List.mem_of_getElem? (i := 915) (by decide +kernel), List.mem_of_getElem? (i := 1070) (by decide +kernel), List.mem_of_getElem? (i := 1071) (by decide +kernel)⟩
theorem lw_p53 : lw_okq (⟨"FairDrawsModel", "begins", "()V"⟩, 22) := ⟨⟨by decide +kernel, by decide +kernel⟩, List.mem_of_getElem? (i := 915) (by decide +kernel), List.mem_of_getElem? (i := 1074) (by decide +kernel), List.mem_of_getElem? (i := 1075) (by decide +kernel)⟩
theorem lw_p54 : lw_okq (⟨"FairDrawsModel", "comesIn", "(I)V"⟩, 22) := ⟨⟨by decide +kernel, by decide +kernel⟩, List.mem_of_getElem? (i := 915) (by decide +kernel), List.mem_of_getElem? (i := 1078) (by decide +kernel), List.mem_of_getElem? (i := 1079) (by decide +kernel)⟩
theorem lw_p55 : lw_okq (⟨"FairDrawsModel", "cuts", "(I)V"⟩, 22) := ⟨⟨by decide +kernel, by decide +kernel⟩, List.mem_of_getElem? (i := 915) (by decide +kernel), List.mem_of_getElem? (i := 1082) (by decide +kernel), List.mem_of_getElem? (i := 1083) (by decide +kernel)⟩
theorem lw_p56 : lw_okq (⟨"FairDrawsModel", "placeOf", "(I)I"⟩, 22) := ⟨⟨by decide +kernel, by decide +kernel⟩, List.mem_of_getElem? (i := 915) (by decide +kernel), List.mem_of_getElem? (i := 1086) (by decide +kernel), List.mem_of_getElem? (i := 1087) (by decide +kernel)⟩
theorem lw_p57 : lw_okq (⟨"FairDrawsModel", "toldOf", "(I)I"⟩, 22) := ⟨⟨by decide +kernel, by decide +kernel⟩, List.mem_of_getElem? (i := 915) (by decide +kernel), List.mem_of_getElem? (i := 1098) (by decide +kernel), List.mem_of_getElem? (i := 1099) (by decide +kernel)⟩
theorem lw_p58 : lw_okq (⟨"FairDrawsModel", "laysMerged", "(II)Z"⟩, 22) := ⟨⟨by decide +kernel, by decide +kernel⟩, List.mem_of_getElem? (i := 915) (by decide +kernel), List.mem_of_getElem? (i := 1106) (by decide +kernel), List.mem_of_getElem? (i := 1107) (by decide +kernel)⟩
theorem lw_p59 : lw_okq (⟨"FairDrawsModel", "labelled", "(I)I"⟩, 22) := ⟨⟨by decide +kernel, by decide +kernel⟩, List.mem_of_getElem? (i := 915) (by decide +kernel), List.mem_of_getElem? (i := 1121) (by decide +kernel), List.mem_of_getElem? (i := 1122) (by decide +kernel)⟩
theorem lw_p60 : lw_okq (⟨"FairDrawsModel", "wouldBeIn", "(III)Z"⟩, 22) := ⟨⟨by decide +kernel, by decide +kernel⟩, List.mem_of_getElem? (i := 915) (by decide +kernel), List.mem_of_getElem? (i := 1134) (by decide +kernel), List.mem_of_getElem? (i := 1135) (by decide +kernel)⟩
theorem lw_p61 : lw_okq (⟨"FairDrawsModel", "drawn", "([I)I"⟩, 22) := ⟨⟨by decide +kernel, by decide +kernel⟩, List.mem_of_getElem? (i := 915) (by decide +kernel), List.mem_of_getElem? (i := 1147) (by decide +kernel), List.mem_of_getElem? (i := 1148) (by decide +kernel)⟩
theorem lw_p62 : lw_okq (⟨"FairDrawsModel", "lessWindow", "(II)I"⟩, 22) := ⟨⟨by decide +kernel, by decide +kernel⟩, List.mem_of_getElem? (i := 915) (by decide +kernel), List.mem_of_getElem? (i := 1166) (by decide +kernel), List.mem_of_getElem? (i := 1167) (by decide +kernel)⟩
theorem lw_p63 : lw_okq (⟨"FairDrawsModel", "nextDeath", "(II)I"⟩, 22) := ⟨⟨by decide +kernel, by decide +kernel⟩, List.mem_of_getElem? (i := 915) (by decide +kernel), List.mem_of_getElem? (i := 1179) (by decide +kernel), List.mem_of_getElem? (i := 1180) (by decide +kernel)⟩
def lw_privs_4 : List (MethodName × Nat) := [(⟨"FairDrawsModel", "laysAlive", "(I)V"⟩, 22), (⟨"FairDrawsModel", "lays", "(IIII)V"⟩, 22), (⟨"FairDrawsModel", "ranks", "()V"⟩, 22), (⟨"FairDrawsModel", "areInOrder", "(II)Z"⟩, 22), (⟨"FairDrawsModel", "isAhead", "(IIII)Z"⟩, 22), (⟨"FairDrawsModel", "begins", "()V"⟩, 22), (⟨"FairDrawsModel", "comesIn", "(I)V"⟩, 22), (⟨"FairDrawsModel", "cuts", "(I)V"⟩, 22), (⟨"FairDrawsModel", "placeOf", "(I)I"⟩, 22), (⟨"FairDrawsModel", "toldOf", "(I)I"⟩, 22), (⟨"FairDrawsModel", "laysMerged", "(II)Z"⟩, 22), (⟨"FairDrawsModel", "labelled", "(I)I"⟩, 22), (⟨"FairDrawsModel", "wouldBeIn", "(III)Z"⟩, 22), (⟨"FairDrawsModel", "drawn", "([I)I"⟩, 22), (⟨"FairDrawsModel", "lessWindow", "(II)I"⟩, 22), (⟨"FairDrawsModel", "nextDeath", "(II)I"⟩, 22)]
theorem lw_r4 : ∀ q ∈ lw_privs_4, lw_okq q := List.forall_mem_cons.mpr ⟨lw_p48, List.forall_mem_cons.mpr ⟨lw_p49, List.forall_mem_cons.mpr ⟨lw_p50, List.forall_mem_cons.mpr ⟨lw_p51, List.forall_mem_cons.mpr ⟨lw_p52, List.forall_mem_cons.mpr ⟨lw_p53, List.forall_mem_cons.mpr ⟨lw_p54, List.forall_mem_cons.mpr ⟨lw_p55, List.forall_mem_cons.mpr ⟨lw_p56, List.forall_mem_cons.mpr ⟨lw_p57, List.forall_mem_cons.mpr ⟨lw_p58, List.forall_mem_cons.mpr ⟨lw_p59, List.forall_mem_cons.mpr ⟨lw_p60, List.forall_mem_cons.mpr ⟨lw_p61, List.forall_mem_cons.mpr ⟨lw_p62, List.forall_mem_cons.mpr ⟨lw_p63, fun _ h => absurd h List.not_mem_nil⟩⟩⟩⟩⟩⟩⟩⟩⟩⟩⟩⟩⟩⟩⟩⟩
theorem lw_p64 : lw_okq (⟨"FairDrawsModel", "laysThen", "(IZ)V"⟩, 22) := ⟨⟨by decide +kernel, by decide +kernel⟩, List.mem_of_getElem? (i := 915) (by decide +kernel), List.mem_of_getElem? (i := 1192) (by decide +kernel), List.mem_of_getElem? (i := 1193) (by decide +kernel)⟩
theorem lw_p65 : lw_okq (⟨"FairDrawsModel", "putsOut", "(II)Z"⟩, 22) := ⟨⟨by decide +kernel, by decide +kernel⟩, List.mem_of_getElem? (i := 915) (by decide +kernel), List.mem_of_getElem? (i := 1200) (by decide +kernel), List.mem_of_getElem? (i := 1201) (by decide +kernel)⟩
theorem lw_p66 : lw_okq (⟨"FairDrawsModel", "weights", "()I"⟩, 22) := ⟨⟨by decide +kernel, by decide +kernel⟩, List.mem_of_getElem? (i := 915) (by decide +kernel), List.mem_of_getElem? (i := 1217) (by decide +kernel), List.mem_of_getElem? (i := 1218) (by decide +kernel)⟩
theorem lw_p67 : lw_okq (⟨"FairDrawsModel", "thereIn", "(I)I"⟩, 22) := ⟨⟨by decide +kernel, by decide +kernel⟩, List.mem_of_getElem? (i := 915) (by decide +kernel), List.mem_of_getElem? (i := 1221) (by decide +kernel), List.mem_of_getElem? (i := 1222) (by decide +kernel)⟩
theorem lw_p68 : lw_okq (⟨"FairDrawsModel", "putsAside", "()V"⟩, 22) := ⟨⟨by decide +kernel, by decide +kernel⟩, List.mem_of_getElem? (i := 915) (by decide +kernel), List.mem_of_getElem? (i := 1237) (by decide +kernel), List.mem_of_getElem? (i := 1238) (by decide +kernel)⟩
theorem lw_p69 : lw_okq (⟨"FairDrawsModel", "exchanges", "([II)V"⟩, 22) := ⟨⟨by decide +kernel, by decide +kernel⟩, List.mem_of_getElem? (i := 915) (by decide +kernel), List.mem_of_getElem? (i := 1241) (by decide +kernel), List.mem_of_getElem? (i := 1242) (by decide +kernel)⟩
theorem lw_p70 : lw_okq (⟨"FairDrawsModel", "keepsAct", "()V"⟩, 22) := ⟨⟨by decide +kernel, by decide +kernel⟩, List.mem_of_getElem? (i := 915) (by decide +kernel), List.mem_of_getElem? (i := 1249) (by decide +kernel), List.mem_of_getElem? (i := 1250) (by decide +kernel)⟩
theorem lw_p71 : lw_okq (⟨"FairDrawsModel", "comesNew", "(IIII)I"⟩, 22) := ⟨⟨by decide +kernel, by decide +kernel⟩, List.mem_of_getElem? (i := 915) (by decide +kernel), List.mem_of_getElem? (i := 1253) (by decide +kernel), List.mem_of_getElem? (i := 1254) (by decide +kernel)⟩
theorem lw_p72 : lw_okq (⟨"FairDrawsModel", "sets", "(III)V"⟩, 22) := ⟨⟨by decide +kernel, by decide +kernel⟩, List.mem_of_getElem? (i := 915) (by decide +kernel), List.mem_of_getElem? (i := 1257) (by decide +kernel), List.mem_of_getElem? (i := 1258) (by decide +kernel)⟩
theorem lw_p73 : lw_okq (⟨"FairDrawsModel", "becomes", "(II)I"⟩, 22) := ⟨⟨by decide +kernel, by decide +kernel⟩, List.mem_of_getElem? (i := 915) (by decide +kernel), List.mem_of_getElem? (i := 1274) (by decide +kernel), List.mem_of_getElem? (i := 1275) (by decide +kernel)⟩
theorem lw_p74 : lw_okq (⟨"FairDrawsModel", "isThere", "(I)Z"⟩, 22) := ⟨⟨by decide +kernel, by decide +kernel⟩, List.mem_of_getElem? (i := 915) (by decide +kernel), List.mem_of_getElem? (i := 1286) (by decide +kernel), List.mem_of_getElem? (i := 1287) (by decide +kernel)⟩
theorem lw_p75 : lw_okq (⟨"FairDrawsModel", "spellAll", "()V"⟩, 22) := ⟨⟨by decide +kernel, by decide +kernel⟩, List.mem_of_getElem? (i := 915) (by decide +kernel), List.mem_of_getElem? (i := 1335) (by decide +kernel), List.mem_of_getElem? (i := 1336) (by decide +kernel)⟩
theorem lw_p76 : lw_okq (⟨"FairDrawsModel", "spells", "(Ljava/lang/String;)V"⟩, 22) := ⟨⟨by decide +kernel, by decide +kernel⟩, List.mem_of_getElem? (i := 915) (by decide +kernel), List.mem_of_getElem? (i := 1340) (by decide +kernel), List.mem_of_getElem? (i := 1341) (by decide +kernel)⟩
theorem lw_p77 : lw_okq (⟨"FairDrawsModel", "spell", "(I)V"⟩, 22) := ⟨⟨by decide +kernel, by decide +kernel⟩, List.mem_of_getElem? (i := 915) (by decide +kernel), List.mem_of_getElem? (i := 1344) (by decide +kernel), List.mem_of_getElem? (i := 1345) (by decide +kernel)⟩
theorem lw_p78 : lw_okq (⟨"FairDrawsModel", "spellsOn", "(I)V"⟩, 22) := ⟨⟨by decide +kernel, by decide +kernel⟩, List.mem_of_getElem? (i := 915) (by decide +kernel), List.mem_of_getElem? (i := 1350) (by decide +kernel), List.mem_of_getElem? (i := 1351) (by decide +kernel)⟩
theorem lw_p79 : lw_okq (⟨"FairDrawsModel", "spellNumber", "(I)V"⟩, 22) := ⟨⟨by decide +kernel, by decide +kernel⟩, List.mem_of_getElem? (i := 915) (by decide +kernel), List.mem_of_getElem? (i := 1354) (by decide +kernel), List.mem_of_getElem? (i := 1355) (by decide +kernel)⟩
def lw_privs_5 : List (MethodName × Nat) := [(⟨"FairDrawsModel", "laysThen", "(IZ)V"⟩, 22), (⟨"FairDrawsModel", "putsOut", "(II)Z"⟩, 22), (⟨"FairDrawsModel", "weights", "()I"⟩, 22), (⟨"FairDrawsModel", "thereIn", "(I)I"⟩, 22), (⟨"FairDrawsModel", "putsAside", "()V"⟩, 22), (⟨"FairDrawsModel", "exchanges", "([II)V"⟩, 22), (⟨"FairDrawsModel", "keepsAct", "()V"⟩, 22), (⟨"FairDrawsModel", "comesNew", "(IIII)I"⟩, 22), (⟨"FairDrawsModel", "sets", "(III)V"⟩, 22), (⟨"FairDrawsModel", "becomes", "(II)I"⟩, 22), (⟨"FairDrawsModel", "isThere", "(I)Z"⟩, 22), (⟨"FairDrawsModel", "spellAll", "()V"⟩, 22), (⟨"FairDrawsModel", "spells", "(Ljava/lang/String;)V"⟩, 22), (⟨"FairDrawsModel", "spell", "(I)V"⟩, 22), (⟨"FairDrawsModel", "spellsOn", "(I)V"⟩, 22), (⟨"FairDrawsModel", "spellNumber", "(I)V"⟩, 22)]
theorem lw_r5 : ∀ q ∈ lw_privs_5, lw_okq q := List.forall_mem_cons.mpr ⟨lw_p64, List.forall_mem_cons.mpr ⟨lw_p65, List.forall_mem_cons.mpr ⟨lw_p66, List.forall_mem_cons.mpr ⟨lw_p67, List.forall_mem_cons.mpr ⟨lw_p68, List.forall_mem_cons.mpr ⟨lw_p69, List.forall_mem_cons.mpr ⟨lw_p70, List.forall_mem_cons.mpr ⟨lw_p71, List.forall_mem_cons.mpr ⟨lw_p72, List.forall_mem_cons.mpr ⟨lw_p73, List.forall_mem_cons.mpr ⟨lw_p74, List.forall_mem_cons.mpr ⟨lw_p75, List.forall_mem_cons.mpr ⟨lw_p76, List.forall_mem_cons.mpr ⟨lw_p77, List.forall_mem_cons.mpr ⟨lw_p78, List.forall_mem_cons.mpr ⟨lw_p79, fun _ h => absurd h List.not_mem_nil⟩⟩⟩⟩⟩⟩⟩⟩⟩⟩⟩⟩⟩⟩⟩⟩
theorem lw_p80 : lw_okq (⟨"FairDrawsModel", "spellWait", "(I)V"⟩, 22) := ⟨⟨by decide +kernel, by decide +kernel⟩, List.mem_of_getElem? (i := 915) (by decide +kernel), List.mem_of_getElem? (i := 1359) (by decide +kernel), List.mem_of_getElem? (i := 1360) (by decide +kernel)⟩
theorem lw_p81 : lw_okq (⟨"FairDrawsModel", "laysFour", "(I)V"⟩, 22) := ⟨⟨by decide +kernel, by decide +kernel⟩, List.mem_of_getElem? (i := 915) (by decide +kernel), List.mem_of_getElem? (i := 1380) (by decide +kernel), List.mem_of_getElem? (i := 1381) (by decide +kernel)⟩
theorem lw_p82 : lw_okq (⟨"FairDrawsModel", "readsAll", "()Z"⟩, 22) := ⟨⟨by decide +kernel, by decide +kernel⟩, List.mem_of_getElem? (i := 915) (by decide +kernel), List.mem_of_getElem? (i := 1392) (by decide +kernel), List.mem_of_getElem? (i := 1393) (by decide +kernel)⟩
theorem lw_p83 : lw_okq (⟨"FairDrawsModel", "readsStatement", "()Z"⟩, 22) := ⟨⟨by decide +kernel, by decide +kernel⟩, List.mem_of_getElem? (i := 915) (by decide +kernel), List.mem_of_getElem? (i := 1396) (by decide +kernel), List.mem_of_getElem? (i := 1397) (by decide +kernel)⟩
theorem lw_p84 : lw_okq (⟨"FairDrawsModel", "nextByte", "()I"⟩, 22) := ⟨⟨by decide +kernel, by decide +kernel⟩, List.mem_of_getElem? (i := 915) (by decide +kernel), List.mem_of_getElem? (i := 1400) (by decide +kernel), List.mem_of_getElem? (i := 1401) (by decide +kernel)⟩
theorem lw_p85 : lw_okq (⟨"FairDrawsModel", "byteAt", "(I)I"⟩, 22) := ⟨⟨by decide +kernel, by decide +kernel⟩, List.mem_of_getElem? (i := 915) (by decide +kernel), List.mem_of_getElem? (i := 1404) (by decide +kernel), List.mem_of_getElem? (i := 1405) (by decide +kernel)⟩
theorem lw_p86 : lw_okq (⟨"FairDrawsModel", "takesWord", "(Ljava/lang/String;)Z"⟩, 22) := ⟨⟨by decide +kernel, by decide +kernel⟩, List.mem_of_getElem? (i := 915) (by decide +kernel), List.mem_of_getElem? (i := 1408) (by decide +kernel), List.mem_of_getElem? (i := 1409) (by decide +kernel)⟩
theorem lw_p87 : lw_okq (⟨"FairDrawsModel", "readsSize", "()Z"⟩, 22) := ⟨⟨by decide +kernel, by decide +kernel⟩, List.mem_of_getElem? (i := 915) (by decide +kernel), List.mem_of_getElem? (i := 1414) (by decide +kernel), List.mem_of_getElem? (i := 1415) (by decide +kernel)⟩
theorem lw_p88 : lw_okq (⟨"FairDrawsModel", "readsNumber", "(II)Z"⟩, 22) := ⟨⟨by decide +kernel, by decide +kernel⟩, List.mem_of_getElem? (i := 915) (by decide +kernel), List.mem_of_getElem? (i := 1418) (by decide +kernel), List.mem_of_getElem? (i := 1419) (by decide +kernel)⟩
theorem lw_p89 : lw_okq (⟨"FairDrawsModel", "fails", "(II)Z"⟩, 22) := ⟨⟨by decide +kernel, by decide +kernel⟩, List.mem_of_getElem? (i := 915) (by decide +kernel), List.mem_of_getElem? (i := 1424) (by decide +kernel), List.mem_of_getElem? (i := 1425) (by decide +kernel)⟩
theorem lw_p90 : lw_okq (⟨"FairDrawsModel", "readsWindow", "()Z"⟩, 22) := ⟨⟨by decide +kernel, by decide +kernel⟩, List.mem_of_getElem? (i := 915) (by decide +kernel), List.mem_of_getElem? (i := 1428) (by decide +kernel), List.mem_of_getElem? (i := 1429) (by decide +kernel)⟩
theorem lw_p91 : lw_okq (⟨"FairDrawsModel", "readsSeed", "()Z"⟩, 22) := ⟨⟨by decide +kernel, by decide +kernel⟩, List.mem_of_getElem? (i := 915) (by decide +kernel), List.mem_of_getElem? (i := 1432) (by decide +kernel), List.mem_of_getElem? (i := 1433) (by decide +kernel)⟩
theorem lw_p92 : lw_okq (⟨"FairDrawsModel", "readsWait", "(I)Z"⟩, 22) := ⟨⟨by decide +kernel, by decide +kernel⟩, List.mem_of_getElem? (i := 915) (by decide +kernel), List.mem_of_getElem? (i := 1437) (by decide +kernel), List.mem_of_getElem? (i := 1438) (by decide +kernel)⟩
theorem lw_p93 : lw_okq (⟨"FairDrawsModel", "readsItem", "(IZ)Z"⟩, 22) := ⟨⟨by decide +kernel, by decide +kernel⟩, List.mem_of_getElem? (i := 915) (by decide +kernel), List.mem_of_getElem? (i := 1442) (by decide +kernel), List.mem_of_getElem? (i := 1443) (by decide +kernel)⟩
theorem lw_p94 : lw_okq (⟨"FairDrawsModel", "readsLabel", "()Z"⟩, 22) := ⟨⟨by decide +kernel, by decide +kernel⟩, List.mem_of_getElem? (i := 915) (by decide +kernel), List.mem_of_getElem? (i := 1446) (by decide +kernel), List.mem_of_getElem? (i := 1447) (by decide +kernel)⟩
theorem lw_p95 : lw_okq (⟨"FairDrawsModel", "isExpired", "(I)Z"⟩, 22) := ⟨⟨by decide +kernel, by decide +kernel⟩, List.mem_of_getElem? (i := 915) (by decide +kernel), List.mem_of_getElem? (i := 1471) (by decide +kernel), List.mem_of_getElem? (i := 1472) (by decide +kernel)⟩
def lw_privs_6 : List (MethodName × Nat) := [(⟨"FairDrawsModel", "spellWait", "(I)V"⟩, 22), (⟨"FairDrawsModel", "laysFour", "(I)V"⟩, 22), (⟨"FairDrawsModel", "readsAll", "()Z"⟩, 22), (⟨"FairDrawsModel", "readsStatement", "()Z"⟩, 22), (⟨"FairDrawsModel", "nextByte", "()I"⟩, 22), (⟨"FairDrawsModel", "byteAt", "(I)I"⟩, 22), (⟨"FairDrawsModel", "takesWord", "(Ljava/lang/String;)Z"⟩, 22), (⟨"FairDrawsModel", "readsSize", "()Z"⟩, 22), (⟨"FairDrawsModel", "readsNumber", "(II)Z"⟩, 22), (⟨"FairDrawsModel", "fails", "(II)Z"⟩, 22), (⟨"FairDrawsModel", "readsWindow", "()Z"⟩, 22), (⟨"FairDrawsModel", "readsSeed", "()Z"⟩, 22), (⟨"FairDrawsModel", "readsWait", "(I)Z"⟩, 22), (⟨"FairDrawsModel", "readsItem", "(IZ)Z"⟩, 22), (⟨"FairDrawsModel", "readsLabel", "()Z"⟩, 22), (⟨"FairDrawsModel", "isExpired", "(I)Z"⟩, 22)]
theorem lw_r6 : ∀ q ∈ lw_privs_6, lw_okq q := List.forall_mem_cons.mpr ⟨lw_p80, List.forall_mem_cons.mpr ⟨lw_p81, List.forall_mem_cons.mpr ⟨lw_p82, List.forall_mem_cons.mpr ⟨lw_p83, List.forall_mem_cons.mpr ⟨lw_p84, List.forall_mem_cons.mpr ⟨lw_p85, List.forall_mem_cons.mpr ⟨lw_p86, List.forall_mem_cons.mpr ⟨lw_p87, List.forall_mem_cons.mpr ⟨lw_p88, List.forall_mem_cons.mpr ⟨lw_p89, List.forall_mem_cons.mpr ⟨lw_p90, List.forall_mem_cons.mpr ⟨lw_p91, List.forall_mem_cons.mpr ⟨lw_p92, List.forall_mem_cons.mpr ⟨lw_p93, List.forall_mem_cons.mpr ⟨lw_p94, List.forall_mem_cons.mpr ⟨lw_p95, fun _ h => absurd h List.not_mem_nil⟩⟩⟩⟩⟩⟩⟩⟩⟩⟩⟩⟩⟩⟩⟩⟩
theorem lw_p96 : lw_okq (⟨"FairDrawsModel", "kindsOf", "(II)I"⟩, 22) := ⟨⟨by decide +kernel, by decide +kernel⟩, List.mem_of_getElem? (i := 915) (by decide +kernel), List.mem_of_getElem? (i := 1483) (by decide +kernel), List.mem_of_getElem? (i := 1484) (by decide +kernel)⟩
theorem lw_p97 : lw_okq (⟨"FairDrawsModel", "labelSet", "(I)I"⟩, 22) := ⟨⟨by decide +kernel, by decide +kernel⟩, List.mem_of_getElem? (i := 915) (by decide +kernel), List.mem_of_getElem? (i := 1495) (by decide +kernel), List.mem_of_getElem? (i := 1496) (by decide +kernel)⟩
theorem lw_p98 : lw_okq (⟨"FairDrawsModel", "cameIn", "(II)I"⟩, 22) := ⟨⟨by decide +kernel, by decide +kernel⟩, List.mem_of_getElem? (i := 915) (by decide +kernel), List.mem_of_getElem? (i := 1503) (by decide +kernel), List.mem_of_getElem? (i := 1504) (by decide +kernel)⟩
def lw_privs_7 : List (MethodName × Nat) := [(⟨"FairDrawsModel", "kindsOf", "(II)I"⟩, 22), (⟨"FairDrawsModel", "labelSet", "(I)I"⟩, 22), (⟨"FairDrawsModel", "cameIn", "(II)I"⟩, 22)]
theorem lw_r7 : ∀ q ∈ lw_privs_7, lw_okq q := List.forall_mem_cons.mpr ⟨lw_p96, List.forall_mem_cons.mpr ⟨lw_p97, List.forall_mem_cons.mpr ⟨lw_p98, fun _ h => absurd h List.not_mem_nil⟩⟩⟩
def lw_privs : List (MethodName × Nat) := lw_privs_1 ++ (lw_privs_2 ++ (lw_privs_3 ++ (lw_privs_4 ++ (lw_privs_5 ++ (lw_privs_6 ++ (lw_privs_7))))))
def lw_tbl : List Cond := k2_sels lw_privs ++ tables_1
theorem lw_privs_ok : ∀ q ∈ lw_privs, lw_okq q := by
  show ∀ q ∈ lw_privs_1 ++ (lw_privs_2 ++ (lw_privs_3 ++ (lw_privs_4 ++ (lw_privs_5 ++ (lw_privs_6 ++ (lw_privs_7)))))), lw_okq q
  exact List.forall_mem_append.mpr ⟨lw_r1, List.forall_mem_append.mpr ⟨lw_r2, List.forall_mem_append.mpr ⟨lw_r3, List.forall_mem_append.mpr ⟨lw_r4, List.forall_mem_append.mpr ⟨lw_r5, List.forall_mem_append.mpr ⟨lw_r6, lw_r7⟩⟩⟩⟩⟩⟩
end
section
def RX0 : String := "FairDraws$History"
def TX0 : u_T := fun k => match k with
  | 0 => ("FairDraws$History", "rows", "[LFairDraws$State;", true)
  | 1 => ("FairDraws$History", "next", "I", false)
  | _ => ("FairDraws$History", "length", "I", false)
def tyX0 : Nat → FieldType := fun k => match k with
  | 0 => .array (.object "FairDraws$State")
  | 1 => .int
  | _ => .int
abbrev wsX00 : List Cond := u_ws RX0 TX0 3
theorem nmX0 : ∀ a, a < 3 → ∀ b, b < 3 → a ≠ b → (TX0 a).2.1 ≠ (TX0 b).2.1 := by decide +kernel
theorem tyX0_ok : ∀ k, k < 3 → parseFieldDescriptor (TX0 k).2.2.1 = some (tyX0 k) := by decide +kernel
abbrev cX0_init : ByteArray := prog_2_method_1_code
def yX0_init : MethodName := ⟨RX0, "<init>", "()V"⟩
abbrev cX0_add : ByteArray := prog_2_method_2_code
def yX0_add : MethodName := ⟨RX0, "add", "(LFairDraws$State;)V"⟩
abbrev cX0_restore : ByteArray := prog_2_method_3_code
def yX0_restore : MethodName := ⟨RX0, "restore", "(LFairDraws$State;)Z"⟩
abbrev cX0_clear : ByteArray := prog_2_method_4_code
def yX0_clear : MethodName := ⟨RX0, "clear", "()V"⟩
def RX1 : String := "FairDraws$Keys"
def TX1 : u_T := fun k => match k with
  | 0 => ("FairDraws$Keys", "left", "[J", true)
  | _ => ("FairDraws$Keys", "right", "[J", true)
def tyX1 : Nat → FieldType := fun k => match k with
  | 0 => .array .long
  | _ => .array .long
abbrev wsX10 : List Cond := u_ws RX1 TX1 2
theorem nmX1 : ∀ a, a < 2 → ∀ b, b < 2 → a ≠ b → (TX1 a).2.1 ≠ (TX1 b).2.1 := by decide +kernel
theorem tyX1_ok : ∀ k, k < 2 → parseFieldDescriptor (TX1 k).2.2.1 = some (tyX1 k) := by decide +kernel
abbrev cX1_init : ByteArray := prog_3_method_1_code
def yX1_init : MethodName := ⟨RX1, "<init>", "()V"⟩
abbrev cX1_compare : ByteArray := prog_3_method_2_code
def yX1_compare : MethodName := ⟨RX1, "compare", "(IIII)I"⟩
abbrev cX1_isPart : ByteArray := prog_3_method_3_code
def yX1_isPart : MethodName := ⟨RX1, "isPart", "(IIII)Z"⟩
abbrev cX1_setToOne : ByteArray := prog_3_method_4_code
def yX1_setToOne : MethodName := ⟨RX1, "setToOne", "([J)V"⟩
abbrev cX1_multiply : ByteArray := prog_3_method_5_code
def yX1_multiply : MethodName := ⟨RX1, "multiply", "([JII)V"⟩
abbrev cX1_compareRows : ByteArray := prog_3_method_6_code
def yX1_compareRows : MethodName := ⟨RX1, "compareRows", "()I"⟩
def RX2 : String := "FairDraws$Sampler"
def TX2 : u_T := fun k => match k with
  | 0 => ("FairDraws$Sampler", "found", "[I", true)
  | 1 => ("FairDraws$Sampler", "ofLabel", "[I", true)
  | 2 => ("FairDraws$Sampler", "n", "I", false)
  | 3 => ("FairDraws$Sampler", "set", "I", false)
  | 4 => ("FairDraws$Sampler", "most", "I", false)
  | 5 => ("FairDraws$Sampler", "tick", "I", false)
  | 6 => ("FairDraws$Sampler", "upTo", "I", false)
  | 7 => ("FairDraws$Sampler", "leftOut", "I", false)
  | _ => ("FairDraws$Sampler", "cap", "I", false)
def tyX2 : Nat → FieldType := fun k => match k with
  | 0 => .array .int
  | 1 => .array .int
  | 2 => .int
  | 3 => .int
  | 4 => .int
  | 5 => .int
  | 6 => .int
  | 7 => .int
  | _ => .int
abbrev wsX20 : List Cond := u_ws RX2 TX2 9
theorem nmX2 : ∀ a, a < 9 → ∀ b, b < 9 → a ≠ b → (TX2 a).2.1 ≠ (TX2 b).2.1 := by decide +kernel
theorem tyX2_ok : ∀ k, k < 9 → parseFieldDescriptor (TX2 k).2.2.1 = some (tyX2 k) := by decide +kernel
abbrev cX2_init : ByteArray := prog_4_method_1_code
def yX2_init : MethodName := ⟨RX2, "<init>", "()V"⟩
abbrev cX2_take : ByteArray := prog_4_method_2_code
def yX2_take : MethodName := ⟨RX2, "take", "(LFairDraws$State;I)V"⟩
abbrev cX2_ask : ByteArray := prog_4_method_3_code
def yX2_ask : MethodName := ⟨RX2, "ask", "(LFairDraws$State;I)V"⟩
abbrev cX2_fill : ByteArray := prog_4_method_4_code
def yX2_fill : MethodName := ⟨RX2, "fill", "(LFairDraws$State;)V"⟩
abbrev cX2_isAskedFor : ByteArray := prog_4_method_5_code
def yX2_isAskedFor : MethodName := ⟨RX2, "isAskedFor", "(LFairDraws$State;I)Z"⟩
abbrev cX2_kth : ByteArray := prog_4_method_6_code
def yX2_kth : MethodName := ⟨RX2, "kth", "(I)I"⟩
abbrev cX2_lastOne : ByteArray := prog_4_method_7_code
def yX2_lastOne : MethodName := ⟨RX2, "lastOne", "()I"⟩
abbrev cX2_placeOf : ByteArray := prog_4_method_8_code
def yX2_placeOf : MethodName := ⟨RX2, "placeOf", "(I)I"⟩
abbrev cX2_isLike : ByteArray := prog_4_method_9_code
def yX2_isLike : MethodName := ⟨RX2, "isLike", "(LFairDraws$Sampler;)Z"⟩
def RX3 : String := "FairDraws$State"
def TX3 : u_T := fun k => match k with
  | 0 => ("FairDraws$State", "keys", "LFairDraws$Keys;", true)
  | 1 => ("FairDraws$State", "shardOf", "[I", true)
  | 2 => ("FairDraws$State", "labelOf", "[I", true)
  | 3 => ("FairDraws$State", "weightOf", "[I", true)
  | 4 => ("FairDraws$State", "lotOf", "[I", true)
  | 5 => ("FairDraws$State", "timeOf", "[I", true)
  | 6 => ("FairDraws$State", "isDropped", "[Z", true)
  | 7 => ("FairDraws$State", "ranked", "[I", true)
  | 8 => ("FairDraws$State", "sizes", "[I", true)
  | 9 => ("FairDraws$State", "windows", "[I", true)
  | 10 => ("FairDraws$State", "came", "I", false)
  | 11 => ("FairDraws$State", "tick", "I", false)
  | _ => ("FairDraws$State", "seed", "I", false)
def tyX3 : Nat → FieldType := fun k => match k with
  | 0 => .object "FairDraws$Keys"
  | 1 => .array .int
  | 2 => .array .int
  | 3 => .array .int
  | 4 => .array .int
  | 5 => .array .int
  | 6 => .array .boolean
  | 7 => .array .int
  | 8 => .array .int
  | 9 => .array .int
  | 10 => .int
  | 11 => .int
  | _ => .int
abbrev wsX30 : List Cond := u_ws RX3 TX3 13
theorem nmX3 : ∀ a, a < 13 → ∀ b, b < 13 → a ≠ b → (TX3 a).2.1 ≠ (TX3 b).2.1 := by decide +kernel
theorem tyX3_ok : ∀ k, k < 13 → parseFieldDescriptor (TX3 k).2.2.1 = some (tyX3 k) := by decide +kernel
abbrev cX3_init : ByteArray := prog_5_method_1_code
def yX3_init : MethodName := ⟨RX3, "<init>", "()V"⟩
abbrev cX3_reset : ByteArray := prog_5_method_2_code
def yX3_reset : MethodName := ⟨RX3, "reset", "()V"⟩
abbrev cX3_copyFrom : ByteArray := prog_5_method_3_code
def yX3_copyFrom : MethodName := ⟨RX3, "copyFrom", "(LFairDraws$State;)V"⟩
abbrev cX3_hasItem : ByteArray := prog_5_method_4_code
def yX3_hasItem : MethodName := ⟨RX3, "hasItem", "(I)Z"⟩
abbrev cX3_hasUndropped : ByteArray := prog_5_method_5_code
def yX3_hasUndropped : MethodName := ⟨RX3, "hasUndropped", "(I)Z"⟩
abbrev cX3_drawLot : ByteArray := prog_5_method_6_code
def yX3_drawLot : MethodName := ⟨RX3, "drawLot", "()I"⟩
abbrev cX3_addRanked : ByteArray := prog_5_method_7_code
def yX3_addRanked : MethodName := ⟨RX3, "addRanked", "(IIII)I"⟩
abbrev cX3_add : ByteArray := prog_5_method_8_code
def yX3_add : MethodName := ⟨RX3, "add", "(IIII)I"⟩
abbrev cX3_rankAll : ByteArray := prog_5_method_9_code
def yX3_rankAll : MethodName := ⟨RX3, "rankAll", "()V"⟩
abbrev cX3_rank : ByteArray := prog_5_method_10_code
def yX3_rank : MethodName := ⟨RX3, "rank", "(I)V"⟩
abbrev cX3_isAhead : ByteArray := prog_5_method_11_code
def yX3_isAhead : MethodName := ⟨RX3, "isAhead", "(II)Z"⟩
abbrev cX3_wouldBeAhead : ByteArray := prog_5_method_12_code
def yX3_wouldBeAhead : MethodName := ⟨RX3, "wouldBeAhead", "(III)Z"⟩
abbrev cX3_compareKeys : ByteArray := prog_5_method_13_code
def yX3_compareKeys : MethodName := ⟨RX3, "compareKeys", "(II)I"⟩
abbrev cX3_compareToKey : ByteArray := prog_5_method_14_code
def yX3_compareToKey : MethodName := ⟨RX3, "compareToKey", "(III)I"⟩
abbrev cX3_isPartOfKey : ByteArray := prog_5_method_15_code
def yX3_isPartOfKey : MethodName := ⟨RX3, "isPartOfKey", "(III)Z"⟩
abbrev cX3_isAlive : ByteArray := prog_5_method_16_code
def yX3_isAlive : MethodName := ⟨RX3, "isAlive", "(I)Z"⟩
abbrev cX3_isAliveAt : ByteArray := prog_5_method_17_code
def yX3_isAliveAt : MethodName := ⟨RX3, "isAliveAt", "(II)Z"⟩
abbrev cX3_isUndroppedOf : ByteArray := prog_5_method_18_code
def yX3_isUndroppedOf : MethodName := ⟨RX3, "isUndroppedOf", "(III)Z"⟩
abbrev cX3_isAliveOf : ByteArray := prog_5_method_19_code
def yX3_isAliveOf : MethodName := ⟨RX3, "isAliveOf", "(III)Z"⟩
abbrev cX3_countUndropped : ByteArray := prog_5_method_20_code
def yX3_countUndropped : MethodName := ⟨RX3, "countUndropped", "(II)I"⟩
abbrev cX3_countUndroppedBetween : ByteArray := prog_5_method_21_code
def yX3_countUndroppedBetween : MethodName := ⟨RX3, "countUndroppedBetween", "(II)I"⟩
abbrev cX3_countAlive : ByteArray := prog_5_method_22_code
def yX3_countAlive : MethodName := ⟨RX3, "countAlive", "(II)I"⟩
abbrev cX3_weightAlive : ByteArray := prog_5_method_23_code
def yX3_weightAlive : MethodName := ⟨RX3, "weightAlive", "(II)I"⟩
def RX4 : String := "FairDraws$Tape"
def TX4 : u_T := fun k => match k with
  | 0 => ("FairDraws$Tape", "bytes", "[I", true)
  | 1 => ("FairDraws$Tape", "draft", "LFairDraws$State;", true)
  | 2 => ("FairDraws$Tape", "length", "I", false)
  | 3 => ("FairDraws$Tape", "at", "I", false)
  | _ => ("FairDraws$Tape", "fault", "I", false)
def tyX4 : Nat → FieldType := fun k => match k with
  | 0 => .array .int
  | 1 => .object "FairDraws$State"
  | 2 => .int
  | 3 => .int
  | _ => .int
abbrev wsX40 : List Cond := u_ws RX4 TX4 5
theorem nmX4 : ∀ a, a < 5 → ∀ b, b < 5 → a ≠ b → (TX4 a).2.1 ≠ (TX4 b).2.1 := by decide +kernel
theorem tyX4_ok : ∀ k, k < 5 → parseFieldDescriptor (TX4 k).2.2.1 = some (tyX4 k) := by decide +kernel
abbrev cX4_init : ByteArray := prog_6_method_1_code
def yX4_init : MethodName := ⟨RX4, "<init>", "()V"⟩
abbrev cX4_append : ByteArray := prog_6_method_2_code
def yX4_append : MethodName := ⟨RX4, "append", "(I)V"⟩
abbrev cX4_read : ByteArray := prog_6_method_3_code
def yX4_read : MethodName := ⟨RX4, "read", "()I"⟩
abbrev cX4_readStatement : ByteArray := prog_6_method_4_code
def yX4_readStatement : MethodName := ⟨RX4, "readStatement", "()V"⟩
abbrev cX4_readSize : ByteArray := prog_6_method_5_code
def yX4_readSize : MethodName := ⟨RX4, "readSize", "()V"⟩
abbrev cX4_readWindow : ByteArray := prog_6_method_6_code
def yX4_readWindow : MethodName := ⟨RX4, "readWindow", "()V"⟩
abbrev cX4_readSeed : ByteArray := prog_6_method_7_code
def yX4_readSeed : MethodName := ⟨RX4, "readSeed", "()V"⟩
abbrev cX4_readWait : ByteArray := prog_6_method_8_code
def yX4_readWait : MethodName := ⟨RX4, "readWait", "(I)V"⟩
abbrev cX4_readItems : ByteArray := prog_6_method_9_code
def yX4_readItems : MethodName := ⟨RX4, "readItems", "(I)V"⟩
abbrev cX4_readKey : ByteArray := prog_6_method_10_code
def yX4_readKey : MethodName := ⟨RX4, "readKey", "(I)V"⟩
abbrev cX4_number : ByteArray := prog_6_method_11_code
def yX4_number : MethodName := ⟨RX4, "number", "(II)I"⟩
abbrev cX4_label : ByteArray := prog_6_method_12_code
def yX4_label : MethodName := ⟨RX4, "label", "()I"⟩
abbrev cX4_takes : ByteArray := prog_6_method_13_code
def yX4_takes : MethodName := ⟨RX4, "takes", "(Ljava/lang/String;)Z"⟩
abbrev cX4_skipBlanks : ByteArray := prog_6_method_14_code
def yX4_skipBlanks : MethodName := ⟨RX4, "skipBlanks", "()V"⟩
abbrev cX4_isLetter : ByteArray := prog_6_method_15_code
def yX4_isLetter : MethodName := ⟨RX4, "isLetter", "(I)Z"⟩
abbrev cX4_meet : ByteArray := prog_6_method_16_code
def yX4_meet : MethodName := ⟨RX4, "meet", "(II)V"⟩
def RX5 : String := "FairDraws$Teller"
def TX5 : u_T := fun k => match k with
  | 0 => ("FairDraws$Teller", "wanted", "I", false)
  | 1 => ("FairDraws$Teller", "heard", "I", false)
  | _ => ("FairDraws$Teller", "length", "I", false)
def tyX5 : Nat → FieldType := fun k => match k with
  | 0 => .int
  | 1 => .int
  | _ => .int
abbrev wsX50 : List Cond := u_ws RX5 TX5 3
theorem nmX5 : ∀ a, a < 3 → ∀ b, b < 3 → a ≠ b → (TX5 a).2.1 ≠ (TX5 b).2.1 := by decide +kernel
theorem tyX5_ok : ∀ k, k < 3 → parseFieldDescriptor (TX5 k).2.2.1 = some (tyX5 k) := by decide +kernel
abbrev cX5_init : ByteArray := prog_7_method_1_code
def yX5_init : MethodName := ⟨RX5, "<init>", "()V"⟩
abbrev cX5_kth : ByteArray := prog_7_method_2_code
def yX5_kth : MethodName := ⟨RX5, "kth", "(LFairDraws$State;I)I"⟩
abbrev cX5_tellShards : ByteArray := prog_7_method_3_code
def yX5_tellShards : MethodName := ⟨RX5, "tellShards", "(LFairDraws$State;)V"⟩
abbrev cX5_tellItem : ByteArray := prog_7_method_4_code
def yX5_tellItem : MethodName := ⟨RX5, "tellItem", "(LFairDraws$State;I)V"⟩
abbrev cX5_tellWaits : ByteArray := prog_7_method_5_code
def yX5_tellWaits : MethodName := ⟨RX5, "tellWaits", "(I)V"⟩
abbrev cX5_tellWord : ByteArray := prog_7_method_6_code
def yX5_tellWord : MethodName := ⟨RX5, "tellWord", "(Ljava/lang/String;)V"⟩
abbrev cX5_tellNumber : ByteArray := prog_7_method_7_code
def yX5_tellNumber : MethodName := ⟨RX5, "tellNumber", "(I)V"⟩
abbrev cX5_tellByte : ByteArray := prog_7_method_8_code
def yX5_tellByte : MethodName := ⟨RX5, "tellByte", "(I)V"⟩
def RX6 : String := "FairDraws"
def TX6 : u_T := fun k => match k with
  | 0 => ("FairDraws", "state", "LFairDraws$State;", true)
  | 1 => ("FairDraws", "history", "LFairDraws$History;", true)
  | 2 => ("FairDraws", "tape", "LFairDraws$Tape;", true)
  | 3 => ("FairDraws", "shelves", "[LFairDraws$State;", true)
  | 4 => ("FairDraws", "sampler", "LFairDraws$Sampler;", true)
  | 5 => ("FairDraws", "secondSampler", "LFairDraws$Sampler;", true)
  | 6 => ("FairDraws", "teller", "LFairDraws$Teller;", true)
  | _ => ("FairDraws", "keptShelves", "I", false)
def tyX6 : Nat → FieldType := fun k => match k with
  | 0 => .object "FairDraws$State"
  | 1 => .object "FairDraws$History"
  | 2 => .object "FairDraws$Tape"
  | 3 => .array (.object "FairDraws$State")
  | 4 => .object "FairDraws$Sampler"
  | 5 => .object "FairDraws$Sampler"
  | 6 => .object "FairDraws$Teller"
  | _ => .int
abbrev wsX60 : List Cond := u_ws RX6 TX6 8
theorem nmX6 : ∀ a, a < 8 → ∀ b, b < 8 → a ≠ b → (TX6 a).2.1 ≠ (TX6 b).2.1 := by decide +kernel
theorem tyX6_ok : ∀ k, k < 8 → parseFieldDescriptor (TX6 k).2.2.1 = some (tyX6 k) := by decide +kernel
abbrev cX6_init : ByteArray := prog_1_method_1_code
def yX6_init : MethodName := ⟨RX6, "<init>", "()V"⟩
abbrev cX6_feed : ByteArray := prog_1_method_2_code
def yX6_feed : MethodName := ⟨RX6, "feed", "(IIIII)I"⟩
abbrev cX6_end : ByteArray := prog_1_method_3_code
def yX6_end : MethodName := ⟨RX6, "end", "(I)I"⟩
abbrev cX6_tell : ByteArray := prog_1_method_4_code
def yX6_tell : MethodName := ⟨RX6, "tell", "()I"⟩
abbrev cX6_come : ByteArray := prog_1_method_5_code
def yX6_come : MethodName := ⟨RX6, "come", "(III)I"⟩
abbrev cX6_put : ByteArray := prog_1_method_6_code
def yX6_put : MethodName := ⟨RX6, "put", "(IIII)I"⟩
abbrev cX6_pass : ByteArray := prog_1_method_7_code
def yX6_pass : MethodName := ⟨RX6, "pass", "(I)I"⟩
abbrev cX6_size : ByteArray := prog_1_method_8_code
def yX6_size : MethodName := ⟨RX6, "size", "(II)I"⟩
abbrev cX6_window : ByteArray := prog_1_method_9_code
def yX6_window : MethodName := ⟨RX6, "window", "(II)I"⟩
abbrev cX6_weigh : ByteArray := prog_1_method_10_code
def yX6_weigh : MethodName := ⟨RX6, "weigh", "(II)I"⟩
abbrev cX6_again : ByteArray := prog_1_method_11_code
def yX6_again : MethodName := ⟨RX6, "again", "(I)I"⟩
abbrev cX6_drop : ByteArray := prog_1_method_12_code
def yX6_drop : MethodName := ⟨RX6, "drop", "(I)I"⟩
abbrev cX6_move : ByteArray := prog_1_method_13_code
def yX6_move : MethodName := ⟨RX6, "move", "(II)I"⟩
abbrev cX6_merge : ByteArray := prog_1_method_14_code
def yX6_merge : MethodName := ⟨RX6, "merge", "(II)I"⟩
abbrev cX6_rename : ByteArray := prog_1_method_15_code
def yX6_rename : MethodName := ⟨RX6, "rename", "(II)I"⟩
abbrev cX6_thin : ByteArray := prog_1_method_16_code
def yX6_thin : MethodName := ⟨RX6, "thin", "(I)I"⟩
abbrev cX6_swap : ByteArray := prog_1_method_17_code
def yX6_swap : MethodName := ⟨RX6, "swap", "(II)I"⟩
abbrev cX6_weighAll : ByteArray := prog_1_method_18_code
def yX6_weighAll : MethodName := ⟨RX6, "weighAll", "(II)I"⟩
abbrev cX6_split : ByteArray := prog_1_method_19_code
def yX6_split : MethodName := ⟨RX6, "split", "(III)I"⟩
abbrev cX6_purge : ByteArray := prog_1_method_20_code
def yX6_purge : MethodName := ⟨RX6, "purge", "()I"⟩
abbrev cX6_seed : ByteArray := prog_1_method_21_code
def yX6_seed : MethodName := ⟨RX6, "seed", "(I)I"⟩
abbrev cX6_moveAll : ByteArray := prog_1_method_22_code
def yX6_moveAll : MethodName := ⟨RX6, "moveAll", "(III)I"⟩
abbrev cX6_undo : ByteArray := prog_1_method_23_code
def yX6_undo : MethodName := ⟨RX6, "undo", "()I"⟩
abbrev cX6_keep : ByteArray := prog_1_method_24_code
def yX6_keep : MethodName := ⟨RX6, "keep", "(I)I"⟩
abbrev cX6_back : ByteArray := prog_1_method_25_code
def yX6_back : MethodName := ⟨RX6, "back", "(I)I"⟩
abbrev cX6_of : ByteArray := prog_1_method_26_code
def yX6_of : MethodName := ⟨RX6, "of", "(II)I"⟩
abbrev cX6_order : ByteArray := prog_1_method_27_code
def yX6_order : MethodName := ⟨RX6, "order", "(II)I"⟩
abbrev cX6_part : ByteArray := prog_1_method_28_code
def yX6_part : MethodName := ⟨RX6, "part", "(II)I"⟩
abbrev cX6_lifeOf : ByteArray := prog_1_method_29_code
def yX6_lifeOf : MethodName := ⟨RX6, "lifeOf", "(I)I"⟩
abbrev cX6_aheadInSample : ByteArray := prog_1_method_30_code
def yX6_aheadInSample : MethodName := ⟨RX6, "aheadInSample", "(I)I"⟩
abbrev cX6_aheadOfAlive : ByteArray := prog_1_method_31_code
def yX6_aheadOfAlive : MethodName := ⟨RX6, "aheadOfAlive", "(I)I"⟩
abbrev cX6_sample : ByteArray := prog_1_method_32_code
def yX6_sample : MethodName := ⟨RX6, "sample", "(II)I"⟩
abbrev cX6_merged : ByteArray := prog_1_method_33_code
def yX6_merged : MethodName := ⟨RX6, "merged", "(III)I"⟩
abbrev cX6_partOf : ByteArray := prog_1_method_34_code
def yX6_partOf : MethodName := ⟨RX6, "partOf", "(III)I"⟩
abbrev cX6_capped : ByteArray := prog_1_method_35_code
def yX6_capped : MethodName := ⟨RX6, "capped", "(III)I"⟩
abbrev cX6_last : ByteArray := prog_1_method_36_code
def yX6_last : MethodName := ⟨RX6, "last", "(I)I"⟩
abbrev cX6_takeMerged : ByteArray := prog_1_method_37_code
def yX6_takeMerged : MethodName := ⟨RX6, "takeMerged", "(II)V"⟩
abbrev cX6_lastOfFull : ByteArray := prog_1_method_38_code
def yX6_lastOfFull : MethodName := ⟨RX6, "lastOfFull", "(I)I"⟩
abbrev cX6_needs : ByteArray := prog_1_method_39_code
def yX6_needs : MethodName := ⟨RX6, "needs", "(II)I"⟩
abbrev cX6_heavy : ByteArray := prog_1_method_40_code
def yX6_heavy : MethodName := ⟨RX6, "heavy", "(II)I"⟩
abbrev cX6_skip : ByteArray := prog_1_method_41_code
def yX6_skip : MethodName := ⟨RX6, "skip", "(II)I"⟩
abbrev cX6_lots : ByteArray := prog_1_method_42_code
def yX6_lots : MethodName := ⟨RX6, "lots", "(II)I"⟩
abbrev cX6_nextLot : ByteArray := prog_1_method_43_code
def yX6_nextLot : MethodName := ⟨RX6, "nextLot", "(I)I"⟩
abbrev cX6_leastLotForSample : ByteArray := prog_1_method_44_code
def yX6_leastLotForSample : MethodName := ⟨RX6, "leastLotForSample", "(II)I"⟩
abbrev cX6_leastLotAhead : ByteArray := prog_1_method_45_code
def yX6_leastLotAhead : MethodName := ⟨RX6, "leastLotAhead", "(II)I"⟩
abbrev cX6_kinds : ByteArray := prog_1_method_46_code
def yX6_kinds : MethodName := ⟨RX6, "kinds", "(II)I"⟩
abbrev cX6_sizeForKinds : ByteArray := prog_1_method_47_code
def yX6_sizeForKinds : MethodName := ⟨RX6, "sizeForKinds", "(II)I"⟩
abbrev cX6_shared : ByteArray := prog_1_method_48_code
def yX6_shared : MethodName := ⟨RX6, "shared", "(II)I"⟩
abbrev cX6_kindsBySize : ByteArray := prog_1_method_49_code
def yX6_kindsBySize : MethodName := ⟨RX6, "kindsBySize", "(II)I"⟩
abbrev cX6_without : ByteArray := prog_1_method_50_code
def yX6_without : MethodName := ⟨RX6, "without", "(II)I"⟩
abbrev cX6_expired : ByteArray := prog_1_method_51_code
def yX6_expired : MethodName := ⟨RX6, "expired", "(II)I"⟩
abbrev cX6_busiest : ByteArray := prog_1_method_52_code
def yX6_busiest : MethodName := ⟨RX6, "busiest", "(II)I"⟩
abbrev cX6_weightFor : ByteArray := prog_1_method_53_code
def yX6_weightFor : MethodName := ⟨RX6, "weightFor", "(I)I"⟩
abbrev cX6_sizeFor : ByteArray := prog_1_method_54_code
def yX6_sizeFor : MethodName := ⟨RX6, "sizeFor", "(I)I"⟩
abbrev cX6_windowFor : ByteArray := prog_1_method_55_code
def yX6_windowFor : MethodName := ⟨RX6, "windowFor", "(I)I"⟩
abbrev cX6_later : ByteArray := prog_1_method_56_code
def yX6_later : MethodName := ⟨RX6, "later", "(III)I"⟩
abbrev cX6_enters : ByteArray := prog_1_method_57_code
def yX6_enters : MethodName := ⟨RX6, "enters", "(I)I"⟩
abbrev cX6_changes : ByteArray := prog_1_method_58_code
def yX6_changes : MethodName := ⟨RX6, "changes", "(I)I"⟩
abbrev cX6_takeWithout : ByteArray := prog_1_method_59_code
def yX6_takeWithout : MethodName := ⟨RX6, "takeWithout", "(I)V"⟩
abbrev cX6_rivalTime : ByteArray := prog_1_method_60_code
def yX6_rivalTime : MethodName := ⟨RX6, "rivalTime", "(I)I"⟩
abbrev cX6_then : ByteArray := prog_1_method_61_code
def yX6_then : MethodName := ⟨RX6, "then", "(II)I"⟩
abbrev cX6_played : ByteArray := prog_1_method_62_code
def yX6_played : MethodName := ⟨RX6, "played", "(II)I"⟩
abbrev cX6_outBy : ByteArray := prog_1_method_63_code
def yX6_outBy : MethodName := ⟨RX6, "outBy", "(I)I"⟩
abbrev cX6_askThen : ByteArray := prog_1_method_64_code
def yX6_askThen : MethodName := ⟨RX6, "askThen", "(I)V"⟩
abbrev cX6_putOutBy : ByteArray := prog_1_method_65_code
def yX6_putOutBy : MethodName := ⟨RX6, "putOutBy", "(I)I"⟩
abbrev cX6_labels : ByteArray := prog_1_method_66_code
def yX6_labels : MethodName := ⟨RX6, "labels", "(III)I"⟩
abbrev cX6_total : ByteArray := prog_1_method_67_code
def yX6_total : MethodName := ⟨RX6, "total", "(II)I"⟩
abbrev cX6_mode : ByteArray := prog_1_method_68_code
def yX6_mode : MethodName := ⟨RX6, "mode", "(I)I"⟩
abbrev cX6_unlike : ByteArray := prog_1_method_69_code
def yX6_unlike : MethodName := ⟨RX6, "unlike", "(II)I"⟩
abbrev cX6_same : ByteArray := prog_1_method_70_code
def yX6_same : MethodName := ⟨RX6, "same", "(II)I"⟩
abbrev cX6_told : ByteArray := prog_1_method_71_code
def yX6_told : MethodName := ⟨RX6, "told", "(I)I"⟩
abbrev cX6_digest : ByteArray := prog_1_method_72_code
def yX6_digest : MethodName := ⟨RX6, "digest", "()J"⟩
abbrev cX6_count : ByteArray := prog_1_method_73_code
def yX6_count : MethodName := ⟨RX6, "count", "(I)I"⟩
abbrev cX6_weightOfSample : ByteArray := prog_1_method_74_code
def yX6_weightOfSample : MethodName := ⟨RX6, "weightOfSample", "(I)I"⟩
abbrev cX6_isWithin : ByteArray := prog_1_method_75_code
def yX6_isWithin : MethodName := ⟨RX6, "isWithin", "(III)Z"⟩
abbrev cX6_isShard : ByteArray := prog_1_method_76_code
def yX6_isShard : MethodName := ⟨RX6, "isShard", "(I)Z"⟩
abbrev cX6_isSet : ByteArray := prog_1_method_77_code
def yX6_isSet : MethodName := ⟨RX6, "isSet", "(I)Z"⟩
abbrev cX6_isLabel : ByteArray := prog_1_method_78_code
def yX6_isLabel : MethodName := ⟨RX6, "isLabel", "(I)Z"⟩
abbrev cX6_isWeight : ByteArray := prog_1_method_79_code
def yX6_isWeight : MethodName := ⟨RX6, "isWeight", "(I)Z"⟩
abbrev cX6_isLot : ByteArray := prog_1_method_80_code
def yX6_isLot : MethodName := ⟨RX6, "isLot", "(I)Z"⟩
abbrev cX6_isShelf : ByteArray := prog_1_method_81_code
def yX6_isShelf : MethodName := ⟨RX6, "isShelf", "(I)Z"⟩
abbrev cX6_isKept : ByteArray := prog_1_method_82_code
def yX6_isKept : MethodName := ⟨RX6, "isKept", "(I)Z"⟩
abbrev cX6_seedOfNextLot : ByteArray := prog_1_method_83_code
def yX6_seedOfNextLot : MethodName := ⟨RX6, "seedOfNextLot", "(I)I"⟩
abbrev cX6_lotOfSeed : ByteArray := prog_1_method_84_code
def yX6_lotOfSeed : MethodName := ⟨RX6, "lotOfSeed", "(I)I"⟩
def RX7 : String := "FairDrawsModel"
def TX7 : u_T := fun k => match k with
  | 0 => ("FairDrawsModel", "now", "[I", true)
  | 1 => ("FairDrawsModel", "was", "[I", true)
  | 2 => ("FairDrawsModel", "undone", "I", false)
  | 3 => ("FairDrawsModel", "kept", "[I", true)
  | 4 => ("FairDrawsModel", "isKept", "[Z", true)
  | 5 => ("FairDrawsModel", "one", "[I", true)
  | 6 => ("FairDrawsModel", "other", "[I", true)
  | 7 => ("FairDrawsModel", "row", "[I", true)
  | 8 => ("FairDrawsModel", "rows", "I", false)
  | 9 => ("FairDrawsModel", "ranked", "[I", true)
  | 10 => ("FairDrawsModel", "isRanked", "Z", false)
  | 11 => ("FairDrawsModel", "saved", "[I", true)
  | 12 => ("FairDrawsModel", "often", "[I", true)
  | 13 => ("FairDrawsModel", "aside", "[I", true)
  | 14 => ("FairDrawsModel", "spelt", "I", false)
  | 15 => ("FairDrawsModel", "wanted", "I", false)
  | 16 => ("FairDrawsModel", "found", "I", false)
  | 17 => ("FairDrawsModel", "tape", "[B", true)
  | 18 => ("FairDrawsModel", "taped", "I", false)
  | 19 => ("FairDrawsModel", "spot", "I", false)
  | 20 => ("FairDrawsModel", "wrong", "I", false)
  | _ => ("FairDrawsModel", "number", "I", false)
def tyX7 : Nat → FieldType := fun k => match k with
  | 0 => .array .int
  | 1 => .array .int
  | 2 => .int
  | 3 => .array .int
  | 4 => .array .boolean
  | 5 => .array .int
  | 6 => .array .int
  | 7 => .array .int
  | 8 => .int
  | 9 => .array .int
  | 10 => .boolean
  | 11 => .array .int
  | 12 => .array .int
  | 13 => .array .int
  | 14 => .int
  | 15 => .int
  | 16 => .int
  | 17 => .array .byte
  | 18 => .int
  | 19 => .int
  | 20 => .int
  | _ => .int
abbrev wsX70 : List Cond := u_ws RX7 TX7 22
theorem nmX7 : ∀ a, a < 22 → ∀ b, b < 22 → a ≠ b → (TX7 a).2.1 ≠ (TX7 b).2.1 := by decide +kernel
theorem tyX7_ok : ∀ k, k < 22 → parseFieldDescriptor (TX7 k).2.2.1 = some (tyX7 k) := by decide +kernel
abbrev cX7_init : ByteArray := prog_9_method_1_code
def yX7_init : MethodName := ⟨RX7, "<init>", "()V"⟩
abbrev cX7_in : ByteArray := prog_9_method_2_code
def yX7_in : MethodName := ⟨RX7, "in", "(JJJ)Z"⟩
abbrev cX7_begins : ByteArray := prog_9_method_3_code
def yX7_begins : MethodName := ⟨RX7, "begins", "([I)V"⟩
abbrev cX7_isShard : ByteArray := prog_9_method_4_code
def yX7_isShard : MethodName := ⟨RX7, "isShard", "(I)Z"⟩
abbrev cX7_isItem : ByteArray := prog_9_method_5_code
def yX7_isItem : MethodName := ⟨RX7, "isItem", "(I)Z"⟩
abbrev cX7_item : ByteArray := prog_9_method_6_code
def yX7_item : MethodName := ⟨RX7, "item", "(II)I"⟩
abbrev cX7_shardOf : ByteArray := prog_9_method_7_code
def yX7_shardOf : MethodName := ⟨RX7, "shardOf", "(I)I"⟩
abbrev cX7_isDropped : ByteArray := prog_9_method_8_code
def yX7_isDropped : MethodName := ⟨RX7, "isDropped", "(I)Z"⟩
abbrev cX7_isThere : ByteArray := prog_9_method_9_code
def yX7_isThere : MethodName := ⟨RX7, "isThere", "(I)Z"⟩
abbrev cX7_powers : ByteArray := prog_9_method_10_code
def yX7_powers : MethodName := ⟨RX7, "powers", "([IIIII)V"⟩
abbrev cX7_times : ByteArray := prog_9_method_11_code
def yX7_times : MethodName := ⟨RX7, "times", "([III)I"⟩
abbrev cX7_compared : ByteArray := prog_9_method_12_code
def yX7_compared : MethodName := ⟨RX7, "compared", "()I"⟩
abbrev cX7_comparedKeys : ByteArray := prog_9_method_13_code
def yX7_comparedKeys : MethodName := ⟨RX7, "comparedKeys", "(IIII)I"⟩
abbrev cX7_isAhead : ByteArray := prog_9_method_14_code
def yX7_isAhead : MethodName := ⟨RX7, "isAhead", "(IIII)Z"⟩
abbrev cX7_areInOrder : ByteArray := prog_9_method_15_code
def yX7_areInOrder : MethodName := ⟨RX7, "areInOrder", "(II)Z"⟩
abbrev cX7_order : ByteArray := prog_9_method_16_code
def yX7_order : MethodName := ⟨RX7, "order", "(II)I"⟩
abbrev cX7_isNoMore : ByteArray := prog_9_method_17_code
def yX7_isNoMore : MethodName := ⟨RX7, "isNoMore", "(III)Z"⟩
abbrev cX7_part : ByteArray := prog_9_method_18_code
def yX7_part : MethodName := ⟨RX7, "part", "(II)I"⟩
abbrev cX7_isAliveAt : ByteArray := prog_9_method_19_code
def yX7_isAliveAt : MethodName := ⟨RX7, "isAliveAt", "(III)Z"⟩
abbrev cX7_isAlive : ByteArray := prog_9_method_20_code
def yX7_isAlive : MethodName := ⟨RX7, "isAlive", "(I)Z"⟩
abbrev cX7_begins_ : ByteArray := prog_9_method_21_code
def yX7_begins_ : MethodName := ⟨RX7, "begins", "()V"⟩
abbrev cX7_ranks : ByteArray := prog_9_method_22_code
def yX7_ranks : MethodName := ⟨RX7, "ranks", "()V"⟩
abbrev cX7_comesIn : ByteArray := prog_9_method_23_code
def yX7_comesIn : MethodName := ⟨RX7, "comesIn", "(I)V"⟩
abbrev cX7_cuts : ByteArray := prog_9_method_24_code
def yX7_cuts : MethodName := ⟨RX7, "cuts", "(I)V"⟩
abbrev cX7_lays : ByteArray := prog_9_method_25_code
def yX7_lays : MethodName := ⟨RX7, "lays", "(IIII)V"⟩
abbrev cX7_laysAlive : ByteArray := prog_9_method_26_code
def yX7_laysAlive : MethodName := ⟨RX7, "laysAlive", "(I)V"⟩
abbrev cX7_laysSample : ByteArray := prog_9_method_27_code
def yX7_laysSample : MethodName := ⟨RX7, "laysSample", "(I)V"⟩
abbrev cX7_placeOf : ByteArray := prog_9_method_28_code
def yX7_placeOf : MethodName := ⟨RX7, "placeOf", "(I)I"⟩
abbrev cX7_toldOf : ByteArray := prog_9_method_29_code
def yX7_toldOf : MethodName := ⟨RX7, "toldOf", "(I)I"⟩
abbrev cX7_of : ByteArray := prog_9_method_30_code
def yX7_of : MethodName := ⟨RX7, "of", "(II)I"⟩
abbrev cX7_sample : ByteArray := prog_9_method_31_code
def yX7_sample : MethodName := ⟨RX7, "sample", "(II)I"⟩
abbrev cX7_laysMerged : ByteArray := prog_9_method_32_code
def yX7_laysMerged : MethodName := ⟨RX7, "laysMerged", "(II)Z"⟩
abbrev cX7_merged : ByteArray := prog_9_method_33_code
def yX7_merged : MethodName := ⟨RX7, "merged", "(III)I"⟩
abbrev cX7_partOf : ByteArray := prog_9_method_34_code
def yX7_partOf : MethodName := ⟨RX7, "partOf", "(III)I"⟩
abbrev cX7_labelled : ByteArray := prog_9_method_35_code
def yX7_labelled : MethodName := ⟨RX7, "labelled", "(I)I"⟩
abbrev cX7_capped : ByteArray := prog_9_method_36_code
def yX7_capped : MethodName := ⟨RX7, "capped", "(III)I"⟩
abbrev cX7_last : ByteArray := prog_9_method_37_code
def yX7_last : MethodName := ⟨RX7, "last", "(I)I"⟩
abbrev cX7_wouldBeIn : ByteArray := prog_9_method_38_code
def yX7_wouldBeIn : MethodName := ⟨RX7, "wouldBeIn", "(III)Z"⟩
abbrev cX7_needs : ByteArray := prog_9_method_39_code
def yX7_needs : MethodName := ⟨RX7, "needs", "(II)I"⟩
abbrev cX7_heavy : ByteArray := prog_9_method_40_code
def yX7_heavy : MethodName := ⟨RX7, "heavy", "(II)I"⟩
abbrev cX7_drawn : ByteArray := prog_9_method_41_code
def yX7_drawn : MethodName := ⟨RX7, "drawn", "([I)I"⟩
abbrev cX7_skip : ByteArray := prog_9_method_42_code
def yX7_skip : MethodName := ⟨RX7, "skip", "(II)I"⟩
abbrev cX7_weightFor : ByteArray := prog_9_method_43_code
def yX7_weightFor : MethodName := ⟨RX7, "weightFor", "(I)I"⟩
abbrev cX7_sizeFor : ByteArray := prog_9_method_44_code
def yX7_sizeFor : MethodName := ⟨RX7, "sizeFor", "(I)I"⟩
abbrev cX7_windowFor : ByteArray := prog_9_method_45_code
def yX7_windowFor : MethodName := ⟨RX7, "windowFor", "(I)I"⟩
abbrev cX7_lessWindow : ByteArray := prog_9_method_46_code
def yX7_lessWindow : MethodName := ⟨RX7, "lessWindow", "(II)I"⟩
abbrev cX7_later : ByteArray := prog_9_method_47_code
def yX7_later : MethodName := ⟨RX7, "later", "(III)I"⟩
abbrev cX7_enters : ByteArray := prog_9_method_48_code
def yX7_enters : MethodName := ⟨RX7, "enters", "(I)I"⟩
abbrev cX7_nextDeath : ByteArray := prog_9_method_49_code
def yX7_nextDeath : MethodName := ⟨RX7, "nextDeath", "(II)I"⟩
abbrev cX7_changes : ByteArray := prog_9_method_50_code
def yX7_changes : MethodName := ⟨RX7, "changes", "(I)I"⟩
abbrev cX7_laysThen : ByteArray := prog_9_method_51_code
def yX7_laysThen : MethodName := ⟨RX7, "laysThen", "(IZ)V"⟩
abbrev cX7_then : ByteArray := prog_9_method_52_code
def yX7_then : MethodName := ⟨RX7, "then", "(II)I"⟩
abbrev cX7_putsOut : ByteArray := prog_9_method_53_code
def yX7_putsOut : MethodName := ⟨RX7, "putsOut", "(II)Z"⟩
abbrev cX7_played : ByteArray := prog_9_method_54_code
def yX7_played : MethodName := ⟨RX7, "played", "(II)I"⟩
abbrev cX7_outBy : ByteArray := prog_9_method_55_code
def yX7_outBy : MethodName := ⟨RX7, "outBy", "(I)I"⟩
abbrev cX7_labels : ByteArray := prog_9_method_56_code
def yX7_labels : MethodName := ⟨RX7, "labels", "(III)I"⟩
abbrev cX7_weights : ByteArray := prog_9_method_57_code
def yX7_weights : MethodName := ⟨RX7, "weights", "()I"⟩
abbrev cX7_thereIn : ByteArray := prog_9_method_58_code
def yX7_thereIn : MethodName := ⟨RX7, "thereIn", "(I)I"⟩
abbrev cX7_total : ByteArray := prog_9_method_59_code
def yX7_total : MethodName := ⟨RX7, "total", "(II)I"⟩
abbrev cX7_mode : ByteArray := prog_9_method_60_code
def yX7_mode : MethodName := ⟨RX7, "mode", "(I)I"⟩
abbrev cX7_unlike : ByteArray := prog_9_method_61_code
def yX7_unlike : MethodName := ⟨RX7, "unlike", "(II)I"⟩
abbrev cX7_exchanges : ByteArray := prog_9_method_62_code
def yX7_exchanges : MethodName := ⟨RX7, "exchanges", "([II)V"⟩
abbrev cX7_putsAside : ByteArray := prog_9_method_63_code
def yX7_putsAside : MethodName := ⟨RX7, "putsAside", "()V"⟩
abbrev cX7_same : ByteArray := prog_9_method_64_code
def yX7_same : MethodName := ⟨RX7, "same", "(II)I"⟩
abbrev cX7_keepsAct : ByteArray := prog_9_method_65_code
def yX7_keepsAct : MethodName := ⟨RX7, "keepsAct", "()V"⟩
abbrev cX7_sets : ByteArray := prog_9_method_66_code
def yX7_sets : MethodName := ⟨RX7, "sets", "(III)V"⟩
abbrev cX7_comesNew : ByteArray := prog_9_method_67_code
def yX7_comesNew : MethodName := ⟨RX7, "comesNew", "(IIII)I"⟩
abbrev cX7_come : ByteArray := prog_9_method_68_code
def yX7_come : MethodName := ⟨RX7, "come", "(III)I"⟩
abbrev cX7_put : ByteArray := prog_9_method_69_code
def yX7_put : MethodName := ⟨RX7, "put", "(IIII)I"⟩
abbrev cX7_pass : ByteArray := prog_9_method_70_code
def yX7_pass : MethodName := ⟨RX7, "pass", "(I)I"⟩
abbrev cX7_becomes : ByteArray := prog_9_method_71_code
def yX7_becomes : MethodName := ⟨RX7, "becomes", "(II)I"⟩
abbrev cX7_size : ByteArray := prog_9_method_72_code
def yX7_size : MethodName := ⟨RX7, "size", "(II)I"⟩
abbrev cX7_window : ByteArray := prog_9_method_73_code
def yX7_window : MethodName := ⟨RX7, "window", "(II)I"⟩
abbrev cX7_weigh : ByteArray := prog_9_method_74_code
def yX7_weigh : MethodName := ⟨RX7, "weigh", "(II)I"⟩
abbrev cX7_again : ByteArray := prog_9_method_75_code
def yX7_again : MethodName := ⟨RX7, "again", "(I)I"⟩
abbrev cX7_drop : ByteArray := prog_9_method_76_code
def yX7_drop : MethodName := ⟨RX7, "drop", "(I)I"⟩
abbrev cX7_move : ByteArray := prog_9_method_77_code
def yX7_move : MethodName := ⟨RX7, "move", "(II)I"⟩
abbrev cX7_merge : ByteArray := prog_9_method_78_code
def yX7_merge : MethodName := ⟨RX7, "merge", "(II)I"⟩
abbrev cX7_rename : ByteArray := prog_9_method_79_code
def yX7_rename : MethodName := ⟨RX7, "rename", "(II)I"⟩
abbrev cX7_thin : ByteArray := prog_9_method_80_code
def yX7_thin : MethodName := ⟨RX7, "thin", "(I)I"⟩
abbrev cX7_seed : ByteArray := prog_9_method_81_code
def yX7_seed : MethodName := ⟨RX7, "seed", "(I)I"⟩
abbrev cX7_undo : ByteArray := prog_9_method_82_code
def yX7_undo : MethodName := ⟨RX7, "undo", "()I"⟩
abbrev cX7_keep : ByteArray := prog_9_method_83_code
def yX7_keep : MethodName := ⟨RX7, "keep", "(I)I"⟩
abbrev cX7_back : ByteArray := prog_9_method_84_code
def yX7_back : MethodName := ⟨RX7, "back", "(I)I"⟩
abbrev cX7_spell : ByteArray := prog_9_method_85_code
def yX7_spell : MethodName := ⟨RX7, "spell", "(I)V"⟩
abbrev cX7_spellNumber : ByteArray := prog_9_method_86_code
def yX7_spellNumber : MethodName := ⟨RX7, "spellNumber", "(I)V"⟩
abbrev cX7_spells : ByteArray := prog_9_method_87_code
def yX7_spells : MethodName := ⟨RX7, "spells", "(Ljava/lang/String;)V"⟩
abbrev cX7_spellsOn : ByteArray := prog_9_method_88_code
def yX7_spellsOn : MethodName := ⟨RX7, "spellsOn", "(I)V"⟩
abbrev cX7_spellWait : ByteArray := prog_9_method_89_code
def yX7_spellWait : MethodName := ⟨RX7, "spellWait", "(I)V"⟩
abbrev cX7_spellAll : ByteArray := prog_9_method_90_code
def yX7_spellAll : MethodName := ⟨RX7, "spellAll", "()V"⟩
abbrev cX7_told : ByteArray := prog_9_method_91_code
def yX7_told : MethodName := ⟨RX7, "told", "(I)I"⟩
abbrev cX7_digest : ByteArray := prog_9_method_92_code
def yX7_digest : MethodName := ⟨RX7, "digest", "()J"⟩
abbrev cX7_count : ByteArray := prog_9_method_93_code
def yX7_count : MethodName := ⟨RX7, "count", "(I)I"⟩
abbrev cX7_laysFour : ByteArray := prog_9_method_94_code
def yX7_laysFour : MethodName := ⟨RX7, "laysFour", "(I)V"⟩
abbrev cX7_feed : ByteArray := prog_9_method_95_code
def yX7_feed : MethodName := ⟨RX7, "feed", "(IIIII)I"⟩
abbrev cX7_end : ByteArray := prog_9_method_96_code
def yX7_end : MethodName := ⟨RX7, "end", "(I)I"⟩
abbrev cX7_byteAt : ByteArray := prog_9_method_97_code
def yX7_byteAt : MethodName := ⟨RX7, "byteAt", "(I)I"⟩
abbrev cX7_nextByte : ByteArray := prog_9_method_98_code
def yX7_nextByte : MethodName := ⟨RX7, "nextByte", "()I"⟩
abbrev cX7_fails : ByteArray := prog_9_method_99_code
def yX7_fails : MethodName := ⟨RX7, "fails", "(II)Z"⟩
abbrev cX7_takesWord : ByteArray := prog_9_method_100_code
def yX7_takesWord : MethodName := ⟨RX7, "takesWord", "(Ljava/lang/String;)Z"⟩
abbrev cX7_readsNumber : ByteArray := prog_9_method_101_code
def yX7_readsNumber : MethodName := ⟨RX7, "readsNumber", "(II)Z"⟩
abbrev cX7_readsLabel : ByteArray := prog_9_method_102_code
def yX7_readsLabel : MethodName := ⟨RX7, "readsLabel", "()Z"⟩
abbrev cX7_readsSize : ByteArray := prog_9_method_103_code
def yX7_readsSize : MethodName := ⟨RX7, "readsSize", "()Z"⟩
abbrev cX7_readsWindow : ByteArray := prog_9_method_104_code
def yX7_readsWindow : MethodName := ⟨RX7, "readsWindow", "()Z"⟩
abbrev cX7_readsSeed : ByteArray := prog_9_method_105_code
def yX7_readsSeed : MethodName := ⟨RX7, "readsSeed", "()Z"⟩
abbrev cX7_readsWait : ByteArray := prog_9_method_106_code
def yX7_readsWait : MethodName := ⟨RX7, "readsWait", "(I)Z"⟩
abbrev cX7_readsItem : ByteArray := prog_9_method_107_code
def yX7_readsItem : MethodName := ⟨RX7, "readsItem", "(IZ)Z"⟩
abbrev cX7_readsStatement : ByteArray := prog_9_method_108_code
def yX7_readsStatement : MethodName := ⟨RX7, "readsStatement", "()Z"⟩
abbrev cX7_readsAll : ByteArray := prog_9_method_109_code
def yX7_readsAll : MethodName := ⟨RX7, "readsAll", "()Z"⟩
abbrev cX7_tell : ByteArray := prog_9_method_110_code
def yX7_tell : MethodName := ⟨RX7, "tell", "()I"⟩
abbrev cX7_swap : ByteArray := prog_9_method_111_code
def yX7_swap : MethodName := ⟨RX7, "swap", "(II)I"⟩
abbrev cX7_heavier : ByteArray := prog_9_method_112_code
def yX7_heavier : MethodName := ⟨RX7, "heavier", "(II)I"⟩
abbrev cX7_weighAll : ByteArray := prog_9_method_113_code
def yX7_weighAll : MethodName := ⟨RX7, "weighAll", "(II)I"⟩
abbrev cX7_split : ByteArray := prog_9_method_114_code
def yX7_split : MethodName := ⟨RX7, "split", "(III)I"⟩
abbrev cX7_isExpired : ByteArray := prog_9_method_115_code
def yX7_isExpired : MethodName := ⟨RX7, "isExpired", "(I)Z"⟩
abbrev cX7_purge : ByteArray := prog_9_method_116_code
def yX7_purge : MethodName := ⟨RX7, "purge", "()I"⟩
abbrev cX7_lots : ByteArray := prog_9_method_117_code
def yX7_lots : MethodName := ⟨RX7, "lots", "(II)I"⟩
abbrev cX7_kindsOf : ByteArray := prog_9_method_118_code
def yX7_kindsOf : MethodName := ⟨RX7, "kindsOf", "(II)I"⟩
abbrev cX7_kinds : ByteArray := prog_9_method_119_code
def yX7_kinds : MethodName := ⟨RX7, "kinds", "(II)I"⟩
abbrev cX7_sizeForKinds : ByteArray := prog_9_method_120_code
def yX7_sizeForKinds : MethodName := ⟨RX7, "sizeForKinds", "(II)I"⟩
abbrev cX7_labelSet : ByteArray := prog_9_method_121_code
def yX7_labelSet : MethodName := ⟨RX7, "labelSet", "(I)I"⟩
abbrev cX7_shared : ByteArray := prog_9_method_122_code
def yX7_shared : MethodName := ⟨RX7, "shared", "(II)I"⟩
abbrev cX7_cameIn : ByteArray := prog_9_method_123_code
def yX7_cameIn : MethodName := ⟨RX7, "cameIn", "(II)I"⟩
abbrev cX7_busiest : ByteArray := prog_9_method_124_code
def yX7_busiest : MethodName := ⟨RX7, "busiest", "(II)I"⟩
abbrev cX7_without : ByteArray := prog_9_method_125_code
def yX7_without : MethodName := ⟨RX7, "without", "(II)I"⟩
abbrev cX7_nextLot : ByteArray := prog_9_method_126_code
def yX7_nextLot : MethodName := ⟨RX7, "nextLot", "(I)I"⟩
abbrev cX7_expired : ByteArray := prog_9_method_127_code
def yX7_expired : MethodName := ⟨RX7, "expired", "(II)I"⟩
def RJ6 : String := "java/lang/Integer"
def TJ6 : u_T := fun k => match k with
  | _ => ("", "", "", false)
def tyJ6 : Nat → FieldType := fun k => match k with
  | _ => .int
abbrev wsJ60 : List Cond := u_ws RJ6 TJ6 0
theorem nmJ6 : ∀ a, a < 0 → ∀ b, b < 0 → a ≠ b → (TJ6 a).2.1 ≠ (TJ6 b).2.1 := by decide +kernel
theorem tyJ6_ok : ∀ k, k < 0 → parseFieldDescriptor (TJ6 k).2.2.1 = some (tyJ6 k) := by decide +kernel
abbrev cJ6_compare_7cf53 : ByteArray := prog_10_method_40_code
def yJ6_compare_7cf53 : MethodName := ⟨RJ6, "compare", "(II)I"⟩
def RJ13 : String := "java/lang/Long"
def TJ13 : u_T := fun k => match k with
  | _ => ("", "", "", false)
def tyJ13 : Nat → FieldType := fun k => match k with
  | _ => .int
abbrev wsJ130 : List Cond := u_ws RJ13 TJ13 0
theorem nmJ13 : ∀ a, a < 0 → ∀ b, b < 0 → a ≠ b → (TJ13 a).2.1 ≠ (TJ13 b).2.1 := by decide +kernel
theorem tyJ13_ok : ∀ k, k < 0 → parseFieldDescriptor (TJ13 k).2.2.1 = some (tyJ13 k) := by decide +kernel
abbrev cJ13_compare_74951 : ByteArray := prog_11_method_42_code
def yJ13_compare_74951 : MethodName := ⟨RJ13, "compare", "(JJ)I"⟩
def RJ9 : String := "java/lang/Math"
def TJ9 : u_T := fun k => match k with
  | _ => ("", "", "", false)
def tyJ9 : Nat → FieldType := fun k => match k with
  | _ => .int
abbrev wsJ90 : List Cond := u_ws RJ9 TJ9 0
theorem nmJ9 : ∀ a, a < 0 → ∀ b, b < 0 → a ≠ b → (TJ9 a).2.1 ≠ (TJ9 b).2.1 := by decide +kernel
theorem tyJ9_ok : ∀ k, k < 0 → parseFieldDescriptor (TJ9 k).2.2.1 = some (tyJ9 k) := by decide +kernel
abbrev cJ9_abs_0f7a4 : ByteArray := prog_12_method_59_code
def yJ9_abs_0f7a4 : MethodName := ⟨RJ9, "abs", "(I)I"⟩
abbrev cJ9_min_7cf53 : ByteArray := prog_12_method_69_code
def yJ9_min_7cf53 : MethodName := ⟨RJ9, "min", "(II)I"⟩
def RJ0 : String := "java/lang/String"
def TJ0 : u_T := fun k => match k with
  | _ => ("", "", "", false)
def tyJ0 : Nat → FieldType := fun k => match k with
  | _ => .int
abbrev wsJ00 : List Cond := u_ws RJ0 TJ0 0
theorem nmJ0 : ∀ a, a < 0 → ∀ b, b < 0 → a ≠ b → (TJ0 a).2.1 ≠ (TJ0 b).2.1 := by decide +kernel
theorem tyJ0_ok : ∀ k, k < 0 → parseFieldDescriptor (TJ0 k).2.2.1 = some (tyJ0 k) := by decide +kernel
abbrev cJ0_length_8abf5 : ByteArray := prog_13_method_54_code
def yJ0_length_8abf5 : MethodName := ⟨RJ0, "length", "()I"⟩
abbrev cJ0_charAt_5068e : ByteArray := prog_13_method_56_code
def yJ0_charAt_5068e : MethodName := ⟨RJ0, "charAt", "(I)C"⟩
abbrev cJ0_coder_7d493 : ByteArray := prog_13_method_152_code
def yJ0_coder_7d493 : MethodName := ⟨RJ0, "coder", "()B"⟩
abbrev cJ0_isLatin1_aae02 : ByteArray := prog_13_method_154_code
def yJ0_isLatin1_aae02 : MethodName := ⟨RJ0, "isLatin1", "()Z"⟩
abbrev cJ0_checkIndex_df160 : ByteArray := prog_13_method_155_code
def yJ0_checkIndex_df160 : MethodName := ⟨RJ0, "checkIndex", "(II)V"⟩
def RJ1 : String := "java/lang/StringLatin1"
def TJ1 : u_T := fun k => match k with
  | _ => ("", "", "", false)
def tyJ1 : Nat → FieldType := fun k => match k with
  | _ => .int
abbrev wsJ10 : List Cond := u_ws RJ1 TJ1 0
theorem nmJ1 : ∀ a, a < 0 → ∀ b, b < 0 → a ≠ b → (TJ1 a).2.1 ≠ (TJ1 b).2.1 := by decide +kernel
theorem tyJ1_ok : ∀ k, k < 0 → parseFieldDescriptor (TJ1 k).2.2.1 = some (tyJ1 k) := by decide +kernel
abbrev cJ1_charAt_3b067 : ByteArray := prog_14_method_2_code
def yJ1_charAt_3b067 : MethodName := ⟨RJ1, "charAt", "([BI)C"⟩
def RJ2 : String := "java/lang/StringUTF16"
def TJ2 : u_T := fun k => match k with
  | _ => ("", "", "", false)
def tyJ2 : Nat → FieldType := fun k => match k with
  | _ => .int
abbrev wsJ20 : List Cond := u_ws RJ2 TJ2 0
theorem nmJ2 : ∀ a, a < 0 → ∀ b, b < 0 → a ≠ b → (TJ2 a).2.1 ≠ (TJ2 b).2.1 := by decide +kernel
theorem tyJ2_ok : ∀ k, k < 0 → parseFieldDescriptor (TJ2 k).2.2.1 = some (tyJ2 k) := by decide +kernel
abbrev cJ2_getChar_3b067 : ByteArray := prog_15_method_5_code
def yJ2_getChar_3b067 : MethodName := ⟨RJ2, "getChar", "([BI)C"⟩
abbrev cJ2_length_9d52b : ByteArray := prog_15_method_6_code
def yJ2_length_9d52b : MethodName := ⟨RJ2, "length", "([B)I"⟩
abbrev cJ2_charAt_3b067 : ByteArray := prog_15_method_83_code
def yJ2_charAt_3b067 : MethodName := ⟨RJ2, "charAt", "([BI)C"⟩
abbrev cJ2_checkIndex_2214a : ByteArray := prog_15_method_91_code
def yJ2_checkIndex_2214a : MethodName := ⟨RJ2, "checkIndex", "(I[B)V"⟩
def RJ3 : String := "jdk/internal/util/Preconditions"
def TJ3 : u_T := fun k => match k with
  | _ => ("", "", "", false)
def tyJ3 : Nat → FieldType := fun k => match k with
  | _ => .int
abbrev wsJ30 : List Cond := u_ws RJ3 TJ3 0
theorem nmJ3 : ∀ a, a < 0 → ∀ b, b < 0 → a ≠ b → (TJ3 a).2.1 ≠ (TJ3 b).2.1 := by decide +kernel
theorem tyJ3_ok : ∀ k, k < 0 → parseFieldDescriptor (TJ3 k).2.2.1 = some (tyJ3 k) := by decide +kernel
abbrev cJ3_checkIndex_8e157 : ByteArray := prog_16_method_11_code
def yJ3_checkIndex_8e157 : MethodName := ⟨RJ3, "checkIndex", "(IILjava/util/function/BiFunction;)I"⟩
def RL : String := "FairDrawsLaw"
abbrev cL_law : ByteArray := code
def yL_law : MethodName := ⟨RL, "law", "([I)Z"⟩
abbrev vwCl : List vw_C := [(RX0, TX0, 3), (RX1, TX1, 2), (RX2, TX2, 9), (RX3, TX3, 13), (RX4, TX4, 5), (RX5, TX5, 3), (RX6, TX6, 8), (RX7, TX7, 22)]
/-- the words that a method may ask of the tables: all that keep -/
def WS : List Cond := lw_tbl.filter goodWord
theorem ws_of {w : Cond} (h : w ∈ lw_tbl) (hg : goodWord w = true) : w ∈ WS := List.mem_filter.mpr ⟨h, hg⟩
theorem ws_good : ∀ w ∈ WS, (w.onTables && w.keeps) = true ∨ ∃ ty, w = .arrayClass ty := fun w h => good_of_word (List.mem_filter.mp h).2
theorem ws_in : ∀ w ∈ WS, w ∈ lw_tbl := fun w h => (List.mem_filter.mp h).1
theorem tb_in {w : Cond} (h : w ∈ tables_1) : w ∈ lw_tbl := List.mem_append_right _ h
theorem wm1 {w : Cond} (i : Nat) (h : tables_1_1[i]? = some w) (hg : goodWord w = true) : w ∈ WS := ws_of (tb_in (show w ∈ tables_1 from List.mem_append_left _ (List.mem_of_getElem? h))) hg
theorem wm2 {w : Cond} (i : Nat) (h : tables_1_2[i]? = some w) (hg : goodWord w = true) : w ∈ WS := ws_of (tb_in (show w ∈ tables_1 from List.mem_append_right _ (List.mem_append_left _ (List.mem_of_getElem? h)))) hg
theorem wm3 {w : Cond} (i : Nat) (h : tables_1_3[i]? = some w) (hg : goodWord w = true) : w ∈ WS := ws_of (tb_in (show w ∈ tables_1 from List.mem_append_right _ (List.mem_append_right _ (List.mem_append_left _ (List.mem_of_getElem? h))))) hg
theorem wm4 {w : Cond} (i : Nat) (h : tables_1_4[i]? = some w) (hg : goodWord w = true) : w ∈ WS := ws_of (tb_in (show w ∈ tables_1 from List.mem_append_right _ (List.mem_append_right _ (List.mem_append_right _ (List.mem_append_left _ (List.mem_of_getElem? h)))))) hg
theorem wm5 {w : Cond} (i : Nat) (h : tables_1_5[i]? = some w) (hg : goodWord w = true) : w ∈ WS := ws_of (tb_in (show w ∈ tables_1 from List.mem_append_right _ (List.mem_append_right _ (List.mem_append_right _ (List.mem_append_right _ (List.mem_append_left _ (List.mem_of_getElem? h))))))) hg
theorem wm6 {w : Cond} (i : Nat) (h : tables_1_6[i]? = some w) (hg : goodWord w = true) : w ∈ WS := ws_of (tb_in (show w ∈ tables_1 from List.mem_append_right _ (List.mem_append_right _ (List.mem_append_right _ (List.mem_append_right _ (List.mem_append_right _ (List.mem_append_left _ (List.mem_of_getElem? h)))))))) hg
theorem wm7 {w : Cond} (i : Nat) (h : tables_1_7[i]? = some w) (hg : goodWord w = true) : w ∈ WS := ws_of (tb_in (show w ∈ tables_1 from List.mem_append_right _ (List.mem_append_right _ (List.mem_append_right _ (List.mem_append_right _ (List.mem_append_right _ (List.mem_append_right _ (List.mem_of_getElem? h)))))))) hg
theorem ws1 {y : MethodName} {q : Nat} (i : Nat) (h : lw_privs_1[i]? = some (y, q)) : Cond.selects y.cls y y ∈ WS := ws_of (List.mem_append_left _ (List.mem_map.mpr ⟨(y, q), (show (y, q) ∈ lw_privs from List.mem_append_left _ (List.mem_of_getElem? h)), rfl⟩)) rfl
theorem ws2 {y : MethodName} {q : Nat} (i : Nat) (h : lw_privs_2[i]? = some (y, q)) : Cond.selects y.cls y y ∈ WS := ws_of (List.mem_append_left _ (List.mem_map.mpr ⟨(y, q), (show (y, q) ∈ lw_privs from List.mem_append_right _ (List.mem_append_left _ (List.mem_of_getElem? h))), rfl⟩)) rfl
theorem ws3 {y : MethodName} {q : Nat} (i : Nat) (h : lw_privs_3[i]? = some (y, q)) : Cond.selects y.cls y y ∈ WS := ws_of (List.mem_append_left _ (List.mem_map.mpr ⟨(y, q), (show (y, q) ∈ lw_privs from List.mem_append_right _ (List.mem_append_right _ (List.mem_append_left _ (List.mem_of_getElem? h)))), rfl⟩)) rfl
theorem ws4 {y : MethodName} {q : Nat} (i : Nat) (h : lw_privs_4[i]? = some (y, q)) : Cond.selects y.cls y y ∈ WS := ws_of (List.mem_append_left _ (List.mem_map.mpr ⟨(y, q), (show (y, q) ∈ lw_privs from List.mem_append_right _ (List.mem_append_right _ (List.mem_append_right _ (List.mem_append_left _ (List.mem_of_getElem? h))))), rfl⟩)) rfl
theorem ws5 {y : MethodName} {q : Nat} (i : Nat) (h : lw_privs_5[i]? = some (y, q)) : Cond.selects y.cls y y ∈ WS := ws_of (List.mem_append_left _ (List.mem_map.mpr ⟨(y, q), (show (y, q) ∈ lw_privs from List.mem_append_right _ (List.mem_append_right _ (List.mem_append_right _ (List.mem_append_right _ (List.mem_append_left _ (List.mem_of_getElem? h)))))), rfl⟩)) rfl
theorem ws6 {y : MethodName} {q : Nat} (i : Nat) (h : lw_privs_6[i]? = some (y, q)) : Cond.selects y.cls y y ∈ WS := ws_of (List.mem_append_left _ (List.mem_map.mpr ⟨(y, q), (show (y, q) ∈ lw_privs from List.mem_append_right _ (List.mem_append_right _ (List.mem_append_right _ (List.mem_append_right _ (List.mem_append_right _ (List.mem_append_left _ (List.mem_of_getElem? h))))))), rfl⟩)) rfl
theorem ws7 {y : MethodName} {q : Nat} (i : Nat) (h : lw_privs_7[i]? = some (y, q)) : Cond.selects y.cls y y ∈ WS := ws_of (List.mem_append_left _ (List.mem_map.mpr ⟨(y, q), (show (y, q) ∈ lw_privs from List.mem_append_right _ (List.mem_append_right _ (List.mem_append_right _ (List.mem_append_right _ (List.mem_append_right _ (List.mem_append_right _ (List.mem_of_getElem? h))))))), rfl⟩)) rfl
theorem inX0 : ∀ w ∈ wsX00, w ∈ WS := List.forall_mem_cons.mpr ⟨wm1 136 rfl rfl, List.forall_mem_cons.mpr ⟨wm1 138 rfl rfl, List.forall_mem_cons.mpr ⟨wm1 140 rfl rfl, fun _ h => absurd h List.not_mem_nil⟩⟩⟩
theorem inX1 : ∀ w ∈ wsX10, w ∈ WS := List.forall_mem_cons.mpr ⟨wm1 38 rfl rfl, List.forall_mem_cons.mpr ⟨wm1 40 rfl rfl, fun _ h => absurd h List.not_mem_nil⟩⟩
theorem inX2 : ∀ w ∈ wsX20, w ∈ WS := List.forall_mem_cons.mpr ⟨wm1 193 rfl rfl, List.forall_mem_cons.mpr ⟨wm1 195 rfl rfl, List.forall_mem_cons.mpr ⟨wm1 197 rfl rfl, List.forall_mem_cons.mpr ⟨wm1 199 rfl rfl, List.forall_mem_cons.mpr ⟨wm1 201 rfl rfl, List.forall_mem_cons.mpr ⟨wm1 203 rfl rfl, List.forall_mem_cons.mpr ⟨wm1 205 rfl rfl, List.forall_mem_cons.mpr ⟨wm1 207 rfl rfl, List.forall_mem_cons.mpr ⟨wm1 209 rfl rfl, fun _ h => absurd h List.not_mem_nil⟩⟩⟩⟩⟩⟩⟩⟩⟩
theorem inX3 : ∀ w ∈ wsX30, w ∈ WS := List.forall_mem_cons.mpr ⟨wm1 94 rfl rfl, List.forall_mem_cons.mpr ⟨wm1 96 rfl rfl, List.forall_mem_cons.mpr ⟨wm1 98 rfl rfl, List.forall_mem_cons.mpr ⟨wm1 100 rfl rfl, List.forall_mem_cons.mpr ⟨wm1 102 rfl rfl, List.forall_mem_cons.mpr ⟨wm1 104 rfl rfl, List.forall_mem_cons.mpr ⟨wm1 106 rfl rfl, List.forall_mem_cons.mpr ⟨wm1 108 rfl rfl, List.forall_mem_cons.mpr ⟨wm1 110 rfl rfl, List.forall_mem_cons.mpr ⟨wm1 112 rfl rfl, List.forall_mem_cons.mpr ⟨wm1 114 rfl rfl, List.forall_mem_cons.mpr ⟨wm1 116 rfl rfl, List.forall_mem_cons.mpr ⟨wm1 118 rfl rfl, fun _ h => absurd h List.not_mem_nil⟩⟩⟩⟩⟩⟩⟩⟩⟩⟩⟩⟩⟩
theorem inX4 : ∀ w ∈ wsX40, w ∈ WS := List.forall_mem_cons.mpr ⟨wm1 158 rfl rfl, List.forall_mem_cons.mpr ⟨wm1 160 rfl rfl, List.forall_mem_cons.mpr ⟨wm1 162 rfl rfl, List.forall_mem_cons.mpr ⟨wm1 164 rfl rfl, List.forall_mem_cons.mpr ⟨wm1 166 rfl rfl, fun _ h => absurd h List.not_mem_nil⟩⟩⟩⟩⟩
theorem inX5 : ∀ w ∈ wsX50, w ∈ WS := List.forall_mem_cons.mpr ⟨wm1 221 rfl rfl, List.forall_mem_cons.mpr ⟨wm1 223 rfl rfl, List.forall_mem_cons.mpr ⟨wm1 225 rfl rfl, fun _ h => absurd h List.not_mem_nil⟩⟩⟩
theorem inX6 : ∀ w ∈ wsX60, w ∈ WS := List.forall_mem_cons.mpr ⟨wm1 236 rfl rfl, List.forall_mem_cons.mpr ⟨wm1 238 rfl rfl, List.forall_mem_cons.mpr ⟨wm2 0 rfl rfl, List.forall_mem_cons.mpr ⟨wm2 2 rfl rfl, List.forall_mem_cons.mpr ⟨wm2 4 rfl rfl, List.forall_mem_cons.mpr ⟨wm2 6 rfl rfl, List.forall_mem_cons.mpr ⟨wm2 8 rfl rfl, List.forall_mem_cons.mpr ⟨wm2 10 rfl rfl, fun _ h => absurd h List.not_mem_nil⟩⟩⟩⟩⟩⟩⟩⟩
theorem inX7 : ∀ w ∈ wsX70, w ∈ WS := List.forall_mem_cons.mpr ⟨wm4 225 rfl rfl, List.forall_mem_cons.mpr ⟨wm4 227 rfl rfl, List.forall_mem_cons.mpr ⟨wm4 229 rfl rfl, List.forall_mem_cons.mpr ⟨wm4 231 rfl rfl, List.forall_mem_cons.mpr ⟨wm4 233 rfl rfl, List.forall_mem_cons.mpr ⟨wm4 235 rfl rfl, List.forall_mem_cons.mpr ⟨wm4 237 rfl rfl, List.forall_mem_cons.mpr ⟨wm4 239 rfl rfl, List.forall_mem_cons.mpr ⟨wm5 1 rfl rfl, List.forall_mem_cons.mpr ⟨wm5 3 rfl rfl, List.forall_mem_cons.mpr ⟨wm5 5 rfl rfl, List.forall_mem_cons.mpr ⟨wm5 7 rfl rfl, List.forall_mem_cons.mpr ⟨wm5 9 rfl rfl, List.forall_mem_cons.mpr ⟨wm5 11 rfl rfl, List.forall_mem_cons.mpr ⟨wm5 13 rfl rfl, List.forall_mem_cons.mpr ⟨wm5 15 rfl rfl, List.forall_mem_cons.mpr ⟨wm5 17 rfl rfl, List.forall_mem_cons.mpr ⟨wm5 19 rfl rfl, List.forall_mem_cons.mpr ⟨wm5 21 rfl rfl, List.forall_mem_cons.mpr ⟨wm5 23 rfl rfl, List.forall_mem_cons.mpr ⟨wm5 25 rfl rfl, List.forall_mem_cons.mpr ⟨wm5 27 rfl rfl, fun _ h => absurd h List.not_mem_nil⟩⟩⟩⟩⟩⟩⟩⟩⟩⟩⟩⟩⟩⟩⟩⟩⟩⟩⟩⟩⟩⟩
end
section
/-! the walk over a small machine of whole numbers: values, memory, layout -/
abbrev xV : Type := Int ⊕ (Int ⊕ Nat)
abbrev xI (z : Int) : xV := Sum.inl z
abbrev xL (z : Int) : xV := Sum.inr (Sum.inl z)
abbrev xR (k : Nat) : xV := Sum.inr (Sum.inr k)
abbrev i32 (z : Int) : Prop := -2147483648 ≤ z ∧ z < 2147483648
abbrev i64 (z : Int) : Prop := -9223372036854775808 ≤ z ∧ z < 9223372036854775808
def xc (σ : Nat → Nat) (v : xV) : Value := match v with
  | .inl z => .int (Int32.ofInt z)
  | .inr (.inl z) => .long (Int64.ofInt z)
  | .inr (.inr k) => .ref (σ k)
def xk (v : xV) : Prop := match v with
  | .inl z => i32 z
  | .inr (.inl z) => i64 z
  | .inr (.inr _) => True
def xcat (v : xV) : Nat := match v with
  | .inl _ => 1
  | .inr (.inl _) => 2
  | .inr (.inr _) => 1
abbrev xM : Type := Nat → Nat → Int
/-- a cell's kind (0..7: an object of that class; 8 bytes, 9 ints, 10 longs, 11 booleans, 12 States), its length, its references -/
abbrev xT : Type := Nat → Nat × Nat × (Nat → Option Nat)
def xN (ci : Nat) : Nat := [3, 2, 9, 13, 5, 3, 8, 22].getD ci 0
def xB (ci j : Nat) : Bool := ([[true, false, false], [true, true], [true, true, false, false, false, false, false, false, false], [true, true, true, true, true, true, true, true, true, true, false, false, false], [true, true, false, false, false], [false, false, false], [true, true, true, true, true, true, true, false], [true, true, false, true, true, true, true, true, false, true, false, true, true, true, false, false, false, true, false, false, false, false]].getD ci []).getD j false
def xo (σ : Nat → Nat) (ci : Nat) (r : Nat → Option Nat) (f : Nat → Int) : List Value := (List.range (xN ci)).map fun j => if xB ci j = true then va_rf ((r j).map σ) else .int (Int32.ofInt (f j))
def xe (σ : Nat → Nat) (cy : Nat → ClassId) (t : Nat × Nat × (Nat → Option Nat)) (f : Nat → Int) : va_E :=
  if t.1 < 8 then .inr (t.1, xo σ t.1 t.2.2 f)
  else if t.1 = 10 then .inl (cy 10, t.2.1, .inr (.inl fun j => Int64.ofInt (f j)))
  else if t.1 = 12 then .inl (cy 12, t.2.1, .inr (.inr (.inr (.inr fun j => (t.2.2 j).map σ))))
  else .inl (cy t.1, t.2.1, .inl fun j => Int32.ofInt (f j))
/-- where cells lie (the strings' too, from 1000000 on, their bytes from 2000000 on), the arrays' classes, the first cell, the classes -/
abbrev xD : Type := (Nat → Nat) × (Nat → ClassId) × Nat × va_G
def xw (D : xD) (n : Nat) (T : xT) (M : xM) : va_W := (List.range n).map fun k => (D.1 k, xe D.1 D.2.1 (T k) (M k))
def xA (B : Nat) : Nat → Prop := fun q => B ≤ q
def xr (T : xT) (M : xM) : Prop := ∀ k j, ((T k).1 = 10 → i64 (M k j)) ∧ (¬ (T k).1 = 10 → i32 (M k j))
def xty (cy : Nat → ClassId) : List (ClassId × FieldType) := [(cy 8, .byte), (cy 9, .int), (cy 10, .long), (cy 11, .boolean), (cy 12, .object "FairDraws$State")]
/-- memory written: one slot; a cell's row; a reference of the layout; a new cell of the layout -/
def xst (M : xM) (k j : Nat) (z : Int) : xM := fun a => if a = k then (fun b => if b = j then z else M k b) else M a
def xsr (M : xM) (k : Nat) (f : Nat → Int) : xM := fun a => if a = k then f else M a
def xTr (T : xT) (k j b : Nat) : xT := fun a => if a = k then ((T k).1, (T k).2.1, fun i => if i = j then some b else (T k).2.2 i) else T a
def xTn (T : xT) (k c len : Nat) : xT := fun a => if a = k then (c, len, fun _ => none) else T a
theorem xst_eq (M : xM) (k j : Nat) (z : Int) (a b : Nat) : xst M k j z a b = if a = k ∧ b = j then z else M a b := by
  unfold xst
  by_cases h : a = k
  · subst h
    by_cases h2 : b = j <;> simp [h2]
  · simp [h]
theorem x_toInt {z : Int} (h : i32 z) : (Int32.ofInt z).toInt = z := by
  rw [Int32.toInt_ofInt]
  have h1 := h.1
  have h2 := h.2
  have h3 : (Int32.size : Int) = 4294967296 := rfl
  exact Int.bmod_eq_of_le (by omega) (by omega)
theorem x_toInt64 {z : Int} (h : i64 z) : (Int64.ofInt z).toInt = z := by
  rw [Int64.toInt_ofInt]
  have h1 := h.1
  have h2 := h.2
  have h3 : (Int64.size : Int) = 18446744073709551616 := rfl
  exact Int.bmod_eq_of_le (by omega) (by omega)
theorem x_lt {x y : Int} (hx : i32 x) (hy : i32 y) : (Int32.ofInt x < Int32.ofInt y) ↔ x < y := by
  rw [Int32.lt_iff_toInt_lt, x_toInt hx, x_toInt hy]
theorem x_le {x y : Int} (hx : i32 x) (hy : i32 y) : (Int32.ofInt x ≤ Int32.ofInt y) ↔ x ≤ y := by
  rw [Int32.le_iff_toInt_le, x_toInt hx, x_toInt hy]
theorem x_eq {x y : Int} (hx : i32 x) (hy : i32 y) : (Int32.ofInt x = Int32.ofInt y) ↔ x = y := by
  rw [← Int32.toInt_inj, x_toInt hx, x_toInt hy]
theorem x_lt64 {x y : Int} (hx : i64 x) (hy : i64 y) : (Int64.ofInt x < Int64.ofInt y) ↔ x < y := by
  rw [Int64.lt_iff_toInt_lt, x_toInt64 hx, x_toInt64 hy]
theorem x_eq64 {x y : Int} (hx : i64 x) (hy : i64 y) : (Int64.ofInt x = Int64.ofInt y) ↔ x = y := by
  rw [← Int64.toInt_inj, x_toInt64 hx, x_toInt64 hy]
theorem x_nat {z : Int} (h : i32 z) : (Int32.ofInt z).toNatClampNeg = z.toNat := by
  show (Int32.ofInt z).toInt.toNat = z.toNat
  rw [x_toInt h]
theorem x_in {z : Int} {n : Nat} (h : i32 z) (h0 : 0 ≤ z) (h1 : z < n) : vp_in (Int32.ofInt z) n := by
  rw [vp_in_iff, x_toInt h]
  exact ⟨h0, h1⟩
theorem xcat_eq (σ : Nat → Nat) (v : xV) : (xc σ v).category = xcat v := by
  rcases v with z | z | z <;> rfl
theorem xw_get {D : xD} {n k : Nat} {T : xT} {M : xM} (h : k < n) : (xw D n T M)[k]? = some (D.1 k, xe D.1 D.2.1 (T k) (M k)) := by
  simp [xw, List.getElem?_map, List.getElem?_range, h]
theorem xw_set {D : xD} {n k : Nat} {T T' : xT} {M M' : xM} (h : k < n) (hT : ∀ a, a ≠ k → T' a = T a) (hM : ∀ a, a ≠ k → M' a = M a) : (xw D n T M).set k (D.1 k, xe D.1 D.2.1 (T' k) (M' k)) = xw D n T' M' := by
  apply List.ext_getElem?
  intro i
  by_cases hi : i < n
  · by_cases hk : i = k
    · subst hk
      rw [List.getElem?_set_self (by simp [xw]; exact hi), xw_get hi]
    · rw [List.getElem?_set_ne (Ne.symm hk), xw_get hi, xw_get hi, hT i hk, hM i hk]
  · rw [List.getElem?_eq_none (by simp [xw]; omega), List.getElem?_eq_none (by simp [xw]; omega)]
theorem xw_push {D : xD} {n : Nat} {T T' : xT} {M M' : xM} (hT : ∀ a, a < n → T' a = T a) (hM : ∀ a, a < n → M' a = M a) : xw D n T M ++ [(D.1 n, xe D.1 D.2.1 (T' n) (M' n))] = xw D (n + 1) T' M' := by
  unfold xw
  rw [List.range_succ, List.map_append]
  congr 1
  apply List.map_congr_left
  intro k hk
  have := List.mem_range.mp hk
  rw [hT k this, hM k this]
end
section
/-! links to private members of nest mates; the String constants with their bytes -/
def xnF : List (String × Nat × String × String × String) := [("FairDraws$Teller", 72, "FairDraws$State", "shardOf", "[I"), ("FairDraws$Sampler", 67, "FairDraws$State", "shardOf", "[I"), ("FairDraws", 133, "FairDraws$State", "shardOf", "[I"), ("FairDraws$Teller", 78, "FairDraws$State", "labelOf", "[I"), ("FairDraws$Sampler", 60, "FairDraws$State", "labelOf", "[I"), ("FairDraws", 147, "FairDraws$State", "labelOf", "[I"), ("FairDraws$Teller", 81, "FairDraws$State", "weightOf", "[I"), ("FairDraws", 123, "FairDraws$State", "weightOf", "[I"), ("FairDraws$Teller", 84, "FairDraws$State", "lotOf", "[I"), ("FairDraws", 126, "FairDraws$State", "lotOf", "[I"), ("FairDraws$Teller", 34, "FairDraws$State", "timeOf", "[I"), ("FairDraws", 190, "FairDraws$State", "timeOf", "[I"), ("FairDraws$Teller", 30, "FairDraws$State", "isDropped", "[Z"), ("FairDraws", 129, "FairDraws$State", "isDropped", "[Z"), ("FairDraws$Sampler", 57, "FairDraws$State", "ranked", "[I"), ("FairDraws$Sampler", 33, "FairDraws$State", "sizes", "[I"), ("FairDraws$Teller", 62, "FairDraws$State", "sizes", "[I"), ("FairDraws$Tape", 84, "FairDraws$State", "sizes", "[I"), ("FairDraws", 113, "FairDraws$State", "sizes", "[I"), ("FairDraws$Teller", 67, "FairDraws$State", "windows", "[I"), ("FairDraws$Tape", 87, "FairDraws$State", "windows", "[I"), ("FairDraws", 117, "FairDraws$State", "windows", "[I"), ("FairDraws$Teller", 25, "FairDraws$State", "came", "I"), ("FairDraws$Sampler", 54, "FairDraws$State", "came", "I"), ("FairDraws", 83, "FairDraws$State", "came", "I"), ("FairDraws$Tape", 103, "FairDraws$State", "came", "I"), ("FairDraws$Teller", 46, "FairDraws$State", "tick", "I"), ("FairDraws$Sampler", 41, "FairDraws$State", "tick", "I"), ("FairDraws", 109, "FairDraws$State", "tick", "I"), ("FairDraws$Tape", 93, "FairDraws$State", "tick", "I"), ("FairDraws$Teller", 55, "FairDraws$State", "seed", "I"), ("FairDraws$Tape", 91, "FairDraws$State", "seed", "I"), ("FairDraws", 173, "FairDraws$State", "seed", "I"), ("FairDraws", 180, "FairDraws$History", "length", "I"), ("FairDraws", 70, "FairDraws$Tape", "draft", "LFairDraws$State;"), ("FairDraws", 55, "FairDraws$Tape", "length", "I"), ("FairDraws", 227, "FairDraws$Sampler", "found", "[I"), ("FairDraws", 260, "FairDraws$Sampler", "ofLabel", "[I"), ("FairDraws", 154, "FairDraws$Sampler", "n", "I"), ("FairDraws", 236, "FairDraws$Sampler", "set", "I"), ("FairDraws", 211, "FairDraws$Sampler", "most", "I"), ("FairDraws", 275, "FairDraws$Sampler", "tick", "I"), ("FairDraws", 289, "FairDraws$Sampler", "upTo", "I"), ("FairDraws", 276, "FairDraws$Sampler", "leftOut", "I"), ("FairDraws", 230, "FairDraws$Sampler", "cap", "I")]
def xnM : List (String × Nat × MethodName) := [("FairDraws$State", 11, ⟨"FairDraws$Keys", "<init>", "()V"⟩), ("FairDraws", 25, ⟨"FairDraws$Tape", "<init>", "()V"⟩), ("FairDraws", 36, ⟨"FairDraws$Sampler", "<init>", "()V"⟩), ("FairDraws", 46, ⟨"FairDraws$Teller", "<init>", "()V"⟩), ("FairDraws$Tape", 113, ⟨"FairDraws", "isWithin", "(III)Z"⟩), ("FairDraws$State", 68, ⟨"FairDraws", "seedOfNextLot", "(I)I"⟩), ("FairDraws$State", 72, ⟨"FairDraws", "lotOfSeed", "(I)I"⟩), ("FairDraws$State", 60, ⟨"FairDraws", "isWithin", "(III)Z"⟩)]
def xStr : List (String × Nat × String × List Int) := [("FairDraws$Tape", 45, "size", [115, 105, 122, 101]), ("FairDraws$Tape", 54, "window", [119, 105, 110, 100, 111, 119]), ("FairDraws$Tape", 59, "seed", [115, 101, 101, 100]), ("FairDraws$Tape", 64, "wait", [119, 97, 105, 116]), ("FairDraws$Tape", 70, "item", [105, 116, 101, 109]), ("FairDraws$Tape", 101, "times", [116, 105, 109, 101, 115]), ("FairDraws$Tape", 75, "key", [107, 101, 121]), ("FairDraws$Teller", 60, "size", [115, 105, 122, 101]), ("FairDraws$Teller", 65, "window", [119, 105, 110, 100, 111, 119]), ("FairDraws$Teller", 87, "wait", [119, 97, 105, 116]), ("FairDraws$Teller", 70, "key", [107, 101, 121]), ("FairDraws$Teller", 49, "seed", [115, 101, 101, 100]), ("FairDrawsModel", 264, "size", [115, 105, 122, 101]), ("FairDrawsModel", 266, "window", [119, 105, 110, 100, 111, 119]), ("FairDrawsModel", 255, "wait", [119, 97, 105, 116]), ("FairDrawsModel", 271, "key", [107, 101, 121]), ("FairDrawsModel", 273, "seed", [115, 101, 101, 100]), ("FairDrawsModel", 339, "item", [105, 116, 101, 109]), ("FairDrawsModel", 322, "times", [116, 105, 109, 101, 115])]
def xES (D : xD) (U : State) : Prop :=
  (∀ (i : Nat) (q : String × Nat × String × List Int), xStr[i]? = some q → vk_R q.1 q.2.1 q.2.2.1 (D.1 (1000000 + i)) U ∧ va_O "java/lang/String" (D.1 (1000000 + i)) (xA D.2.2.1) U U.heap ∧ va_OF "java/lang/String" "coder" "B" (.int 0) (D.1 (1000000 + i)) (xA D.2.2.1) U U.heap ∧ va_OF "java/lang/String" "value" "[B" (.ref (D.1 (2000000 + i))) (D.1 (1000000 + i)) (xA D.2.2.1) U U.heap ∧ va_T .byte (D.1 (2000000 + i)) q.2.2.2.length (fun j => .int (Int32.ofInt (q.2.2.2.getD j 0))) (xA D.2.2.1) U U.heap)
  ∧ va_Z "java/lang/String" "COMPACT_STRINGS" "Z" (.int 1) (xA D.2.2.1) U U.heap ∧ va_Zq "jdk/internal/util/Preconditions" "SIOOBE_FORMATTER" "Ljava/util/function/BiFunction;" (xA D.2.2.1) U U.heap
/-- what a state's tables and its old cells say, whoever asks -/
def xE (D : xD) (U : State) : Prop :=
  (∀ k, k < 1000000 → D.1 k = D.2.2.1 + k) ∧ va_K D.2.2.2 vwCl (xty D.2.1) U ∧ (∀ q ∈ xnF, va_Nw (.fieldLinkNest q.1 q.2.1 q.2.2.1 q.2.2.2.1 q.2.2.2.2 "FairDraws") U) ∧ (∀ q ∈ xnM, va_Nw (.methodLinkNest q.1 q.2.1 q.2.2 "FairDraws") U) ∧ va_AO "FairDraws$State" U ∧ xES D U
theorem xE.same {D : xD} {u U : State} (hv : U.vm = u.vm) (hh : U.heap = u.heap) (h : xE D u) : xE D U := by
  obtain ⟨h1, h2, h3, h4, h0, h5, h6, h7⟩ := h
  have ha : u.vm.Alike U.vm := by rw [hv]; exact Vm.Alike.refl _
  refine ⟨h1, va_K.moved ha h2, fun q hq => va_Nw.same rfl hv.symm (h3 q hq), fun q hq => va_Nw.same rfl hv.symm (h4 q hq), va_AO.moved ha h0, fun i q hq => ?_, ?_, ?_⟩
  · obtain ⟨a1, a2, a3, a4, a5⟩ := h5 i q hq
    rw [hh]
    exact ⟨vk_R.same hv a1, a2.moved ha, a3.moved ha, a4.moved ha, a5.moved ha⟩
  · rw [hh]; exact h6.moved ha
  · rw [hh]; exact h7.moved ha
theorem xE.at {D : xD} {s U : State} {H : Heap} {locs : List Loc} (h : xE D s) (hS : va_S (xA D.2.2.1) s.heap H locs) (hh : U.heap = H) (hW : s.WarmedH U.vm) : xE D U := by
  obtain ⟨h1, h2, h3, h4, h0, h5, h6, h7⟩ := h
  have ha : s.vm.Alike U.vm := hW.alike
  subst hh
  refine ⟨h1, va_K.moved ha h2, fun q hq => va_Nw.warmF hW (h3 q hq), fun q hq => va_Nw.warmM hW (h4 q hq), va_AO.moved ha h0, fun i q hq => ?_, (h6.moved ha).kept hS.2.1, (h7.moved ha).kept hS.2.1⟩
  obtain ⟨a1, a2, a3, a4, a5⟩ := h5 i q hq
  exact ⟨vk_R.warm hW a1, (a2.moved ha).kept hS.2.1, (a3.moved ha).kept hS.2.1, (a4.moved ha).kept hS.2.1, (a5.moved ha).kept hS.2.1⟩
abbrev xKt : Type := Program × Launch × Env × Room × State × MethodId × Array Value × List Frame × Method × Code × (State → Prop)
abbrev xΓ : Type := xD × xKt
def xH (D : xD) (s : State) (n : Nat) (T : xT) (M : xM) (H : Heap) (locs : List Loc) : Prop :=
  va_P D.2.2.2 vwCl (xw D n T M) H ∧ va_D (xA D.2.2.1) (xw D n T M) ∧ va_S (xA D.2.2.1) s.heap H locs ∧ xr T M ∧ H.size = D.2.2.1 + n
def xX (Γ : xΓ) (cells slots n : Nat) (T : xT) (pc : Nat) (L : List (Nat × xV)) (st : List xV) (M : xM) : Prop := match Γ with
  | (D, p, l, e, R, s, m, args, below, meth, c, Q) => ∀ (ls : Array Slot) (H : Heap) (locs : List Loc), lv_has ls c.maxLocals (L.map fun q => (q.1, xc D.1 q.2)) → (∀ q ∈ L, xk q.2) → (∀ v ∈ st, xk v) → xH D s n T M H locs → W p l e R s m args below meth c H locs cells slots Q (F0 m pc ls (st.map (xc D.1)))
/-- what holds all along a method's walk: the machine, its code, its own class, the words, its room -/
def xG (Γ : xΓ) (own : String) (cc : ByteArray) (nL fr lo mc ms : Nat) : Prop := match Γ with
  | (D, p, _, _, R, s, m, args, _, _, c, _) => p.tables.exec = Jvm.exec ∧ c.code = cc ∧ c.maxLocals = nL ∧ s.vm.findClass own = some m.cls ∧ (∀ w ∈ WS, w.before args s = true) ∧ xE D s ∧ D.2.2.1 ≤ s.heap.size ∧ R = { frames := fr, cells := mc, slots := ms, locals := lo }
theorem x_iconst {Γ : xΓ} {own : String} {cc : ByteArray} {nL fr lo mc ms : Nat} (G : xG Γ own cc nL fr lo mc ms) {cells slots n pc : Nat} {T : xT} {L : List (Nat × xV)} {st : List xV} {M : xM} {z : Int} (hz : i32 z) (hd : decode cc pc = .ok (.iconst z, 1)) (k : xX Γ cells slots n T (pc + 1) L (xI z :: st) M) : xX Γ cells slots n T pc L st M := by
  obtain ⟨D, p, l, e, R, s, m, args, below, meth, c, Q⟩ := Γ
  obtain ⟨hx, hb, hml, hown, hts, hE, hB, hR⟩ := G
  intro ls H locs hl hL hs hH
  exact lv_iconst (v := Int32.ofInt z) hx hb hd rfl (k ls H locs hl hL (List.forall_mem_cons.mpr ⟨hz, hs⟩) hH)
theorem x_bipush {Γ : xΓ} {own : String} {cc : ByteArray} {nL fr lo mc ms : Nat} (G : xG Γ own cc nL fr lo mc ms) {cells slots n pc : Nat} {T : xT} {L : List (Nat × xV)} {st : List xV} {M : xM} {z : Int} (hz : -128 ≤ z ∧ z < 128) (hd : decode cc pc = .ok (.bipush z, 2)) (k : xX Γ cells slots n T (pc + 2) L (xI z :: st) M) : xX Γ cells slots n T pc L st M := by
  obtain ⟨D, p, l, e, R, s, m, args, below, meth, c, Q⟩ := Γ
  obtain ⟨hx, hb, hml, hown, hts, hE, hB, hR⟩ := G
  intro ls H locs hl hL hs hH
  refine lv_bipush (v := Int32.ofInt z) hx hb hd ?_ (k ls H locs hl hL (List.forall_mem_cons.mpr ⟨by show i32 z; omega, hs⟩) hH)
  apply Int32.toInt_inj.mp
  rw [Int8.toInt_toInt32, Int8.toInt_ofInt, x_toInt (by omega)]
  exact Int.bmod_eq_of_le (by simp; omega) (by simp; omega)
theorem x_sipush {Γ : xΓ} {own : String} {cc : ByteArray} {nL fr lo mc ms : Nat} (G : xG Γ own cc nL fr lo mc ms) {cells slots n pc : Nat} {T : xT} {L : List (Nat × xV)} {st : List xV} {M : xM} {z : Int} (hz : -32768 ≤ z ∧ z < 32768) (hd : decode cc pc = .ok (.sipush z, 3)) (k : xX Γ cells slots n T (pc + 3) L (xI z :: st) M) : xX Γ cells slots n T pc L st M := by
  obtain ⟨D, p, l, e, R, s, m, args, below, meth, c, Q⟩ := Γ
  obtain ⟨hx, hb, hml, hown, hts, hE, hB, hR⟩ := G
  intro ls H locs hl hL hs hH
  refine lv_sipush (v := Int32.ofInt z) hx hb hd ?_ (k ls H locs hl hL (List.forall_mem_cons.mpr ⟨by show i32 z; omega, hs⟩) hH)
  apply Int32.toInt_inj.mp
  rw [Int16.toInt_toInt32, Int16.toInt_ofInt, x_toInt (by omega)]
  exact Int.bmod_eq_of_le (by simp; omega) (by simp; omega)
theorem x_lconst {Γ : xΓ} {own : String} {cc : ByteArray} {nL fr lo mc ms : Nat} (G : xG Γ own cc nL fr lo mc ms) {cells slots n pc : Nat} {T : xT} {L : List (Nat × xV)} {st : List xV} {M : xM} {z : Fin 2} (hd : decode cc pc = .ok (.lconst z, 1)) (k : xX Γ cells slots n T (pc + 1) L (xL (z.val : Int) :: st) M) : xX Γ cells slots n T pc L st M := by
  obtain ⟨D, p, l, e, R, s, m, args, below, meth, c, Q⟩ := Γ
  obtain ⟨hx, hb, hml, hown, hts, hE, hB, hR⟩ := G
  intro ls H locs hl hL hs hH
  have hz := z.isLt
  exact lv_lconst (v := Int64.ofInt (z.val : Int)) hx hb hd (by apply Int64.toInt_inj.mp; rw [x_toInt64 (by omega)]; exact lN_toInt (by omega)) (k ls H locs hl hL (List.forall_mem_cons.mpr ⟨by show i64 _; omega, hs⟩) hH)
theorem x_ldc {Γ : xΓ} {own : String} {cc : ByteArray} {nL fr lo mc ms : Nat} (G : xG Γ own cc nL fr lo mc ms) {cells slots n pc : Nat} {T : xT} {L : List (Nat × xV)} {st : List xV} {M : xM} {idx : Nat} {z : Int} (hz : i32 z) (hw : Cond.constant own idx (Int32.ofInt z) ∈ WS) (hd : decode cc pc = .ok (.ldc idx, 2)) (k : xX Γ cells slots n T (pc + 2) L (xI z :: st) M) : xX Γ cells slots n T pc L st M := by
  obtain ⟨D, p, l, e, R, s, m, args, below, meth, c, Q⟩ := Γ
  obtain ⟨hx, hb, hml, hown, hts, hE, hB, hR⟩ := G
  intro ls H locs hl hL hs hH
  exact lv_ldc (v := Int32.ofInt z) hx hb hown (hts _ hw) hd (k ls H locs hl hL (List.forall_mem_cons.mpr ⟨hz, hs⟩) hH)
theorem x_ldc2 {Γ : xΓ} {own : String} {cc : ByteArray} {nL fr lo mc ms : Nat} (G : xG Γ own cc nL fr lo mc ms) {cells slots n pc : Nat} {T : xT} {L : List (Nat × xV)} {st : List xV} {M : xM} {idx : Nat} {z : Int} (hz : i64 z) (hw : Cond.constantLong own idx (Int64.ofInt z) ∈ WS) (hd : decode cc pc = .ok (.ldc2_w idx, 3)) (k : xX Γ cells slots n T (pc + 3) L (xL z :: st) M) : xX Γ cells slots n T pc L st M := by
  obtain ⟨D, p, l, e, R, s, m, args, below, meth, c, Q⟩ := Γ
  obtain ⟨hx, hb, hml, hown, hts, hE, hB, hR⟩ := G
  intro ls H locs hl hL hs hH
  exact lv_ldc2 (v := Int64.ofInt z) hx hb hown (hts _ hw) hd (k ls H locs hl hL (List.forall_mem_cons.mpr ⟨hz, hs⟩) hH)
theorem xl_at {σ : Nat → Nat} {L : List (Nat × xV)} {j i : Nat} {v : xV} (h : L[j]? = some (i, v)) : (L.map fun q => (q.1, xc σ q.2))[j]? = some (i, xc σ v) := by
  rw [List.getElem?_map, h]; rfl
theorem xl_ok {L : List (Nat × xV)} {j i : Nat} {v : xV} (hL : ∀ q ∈ L, xk q.2) (h : L[j]? = some (i, v)) : xk v := hL (i, v) (List.mem_of_getElem? h)
theorem x_iload_n {Γ : xΓ} {own : String} {cc : ByteArray} {nL fr lo mc ms : Nat} (G : xG Γ own cc nL fr lo mc ms) {cells slots n pc : Nat} {T : xT} {L : List (Nat × xV)} {st : List xV} {M : xM} {q : Fin 4} {i : Nat} {x : Int} (j : Nat) (hi : (q : Nat) = i) (hj : L[j]? = some (i, xI x)) (hd : decode cc pc = .ok (.iload_n q, 1)) (k : xX Γ cells slots n T (pc + 1) L (xI x :: st) M) : xX Γ cells slots n T pc L st M := by
  obtain ⟨D, p, l, e, R, s, m, args, below, meth, c, Q⟩ := Γ
  obtain ⟨hx, hb, hml, hown, hts, hE, hB, hR⟩ := G
  intro ls H locs hl hL hs hH
  exact lv_iload_n hx hb hd hi (lv_at hl j (xl_at hj)) (k ls H locs hl hL (List.forall_mem_cons.mpr ⟨xl_ok hL hj, hs⟩) hH)
theorem x_iload {Γ : xΓ} {own : String} {cc : ByteArray} {nL fr lo mc ms : Nat} (G : xG Γ own cc nL fr lo mc ms) {cells slots n pc : Nat} {T : xT} {L : List (Nat × xV)} {st : List xV} {M : xM} {i : Nat} {x : Int} (j : Nat) (hj : L[j]? = some (i, xI x)) (hd : decode cc pc = .ok (.iload i, 2)) (k : xX Γ cells slots n T (pc + 2) L (xI x :: st) M) : xX Γ cells slots n T pc L st M := by
  obtain ⟨D, p, l, e, R, s, m, args, below, meth, c, Q⟩ := Γ
  obtain ⟨hx, hb, hml, hown, hts, hE, hB, hR⟩ := G
  intro ls H locs hl hL hs hH
  exact lv_iload hx hb hd (lv_at hl j (xl_at hj)) (k ls H locs hl hL (List.forall_mem_cons.mpr ⟨xl_ok hL hj, hs⟩) hH)
theorem x_lload_n {Γ : xΓ} {own : String} {cc : ByteArray} {nL fr lo mc ms : Nat} (G : xG Γ own cc nL fr lo mc ms) {cells slots n pc : Nat} {T : xT} {L : List (Nat × xV)} {st : List xV} {M : xM} {q : Fin 4} {i : Nat} {x : Int} (j : Nat) (hi : (q : Nat) = i) (hj : L[j]? = some (i, xL x)) (hd : decode cc pc = .ok (.lload_n q, 1)) (k : xX Γ cells slots n T (pc + 1) L (xL x :: st) M) : xX Γ cells slots n T pc L st M := by
  obtain ⟨D, p, l, e, R, s, m, args, below, meth, c, Q⟩ := Γ
  obtain ⟨hx, hb, hml, hown, hts, hE, hB, hR⟩ := G
  intro ls H locs hl hL hs hH
  exact lv_lload_n hx hb hd hi (lv_at hl j (xl_at hj)) (k ls H locs hl hL (List.forall_mem_cons.mpr ⟨xl_ok hL hj, hs⟩) hH)
theorem x_lload {Γ : xΓ} {own : String} {cc : ByteArray} {nL fr lo mc ms : Nat} (G : xG Γ own cc nL fr lo mc ms) {cells slots n pc : Nat} {T : xT} {L : List (Nat × xV)} {st : List xV} {M : xM} {i : Nat} {x : Int} (j : Nat) (hj : L[j]? = some (i, xL x)) (hd : decode cc pc = .ok (.lload i, 2)) (k : xX Γ cells slots n T (pc + 2) L (xL x :: st) M) : xX Γ cells slots n T pc L st M := by
  obtain ⟨D, p, l, e, R, s, m, args, below, meth, c, Q⟩ := Γ
  obtain ⟨hx, hb, hml, hown, hts, hE, hB, hR⟩ := G
  intro ls H locs hl hL hs hH
  exact lv_lload hx hb hd (lv_at hl j (xl_at hj)) (k ls H locs hl hL (List.forall_mem_cons.mpr ⟨xl_ok hL hj, hs⟩) hH)
theorem x_aload_n {Γ : xΓ} {own : String} {cc : ByteArray} {nL fr lo mc ms : Nat} (G : xG Γ own cc nL fr lo mc ms) {cells slots n pc : Nat} {T : xT} {L : List (Nat × xV)} {st : List xV} {M : xM} {q : Fin 4} {i : Nat} {x : Nat} (j : Nat) (hi : (q : Nat) = i) (hj : L[j]? = some (i, xR x)) (hd : decode cc pc = .ok (.aload_n q, 1)) (k : xX Γ cells slots n T (pc + 1) L (xR x :: st) M) : xX Γ cells slots n T pc L st M := by
  obtain ⟨D, p, l, e, R, s, m, args, below, meth, c, Q⟩ := Γ
  obtain ⟨hx, hb, hml, hown, hts, hE, hB, hR⟩ := G
  intro ls H locs hl hL hs hH
  exact lv_aload_n hx hb hd hi (lv_at hl j (xl_at hj)) (k ls H locs hl hL (List.forall_mem_cons.mpr ⟨xl_ok hL hj, hs⟩) hH)
theorem x_aload {Γ : xΓ} {own : String} {cc : ByteArray} {nL fr lo mc ms : Nat} (G : xG Γ own cc nL fr lo mc ms) {cells slots n pc : Nat} {T : xT} {L : List (Nat × xV)} {st : List xV} {M : xM} {i : Nat} {x : Nat} (j : Nat) (hj : L[j]? = some (i, xR x)) (hd : decode cc pc = .ok (.aload i, 2)) (k : xX Γ cells slots n T (pc + 2) L (xR x :: st) M) : xX Γ cells slots n T pc L st M := by
  obtain ⟨D, p, l, e, R, s, m, args, below, meth, c, Q⟩ := Γ
  obtain ⟨hx, hb, hml, hown, hts, hE, hB, hR⟩ := G
  intro ls H locs hl hL hs hH
  exact lv_aload hx hb hd (lv_at hl j (xl_at hj)) (k ls H locs hl hL (List.forall_mem_cons.mpr ⟨xl_ok hL hj, hs⟩) hH)
theorem xl_f1 {σ : Nat → Nat} {L : List (Nat × xV)} {i : Nat} : (L.map fun q => (q.1, xc σ q.2)).filter (fun q => !(q.1 == i) && !(q.1 + 1 == i && q.2.category == 2)) = (L.filter (fun q => !(q.1 == i) && !(q.1 + 1 == i && xcat q.2 == 2))).map fun q => (q.1, xc σ q.2) := by
  rw [List.filter_map]
  congr 1
  apply List.filter_congr
  intro q _
  simp [Function.comp, xcat_eq]
theorem xl_f2 {σ : Nat → Nat} {L : List (Nat × xV)} {i : Nat} : (L.map fun q => (q.1, xc σ q.2)).filter (fun q => !(q.1 == i) && (!(q.1 == i + 1) && !(q.1 + 1 == i && q.2.category == 2))) = (L.filter (fun q => !(q.1 == i) && (!(q.1 == i + 1) && !(q.1 + 1 == i && xcat q.2 == 2)))).map fun q => (q.1, xc σ q.2) := by
  rw [List.filter_map]
  congr 1
  apply List.filter_congr
  intro q _
  simp [Function.comp, xcat_eq]
theorem xl_fk {L : List (Nat × xV)} {f : Nat × xV → Bool} {i : Nat} {v : xV} (hL : ∀ q ∈ L, xk q.2) (hv : xk v) : ∀ q ∈ (i, v) :: L.filter f, xk q.2 :=
  List.forall_mem_cons.mpr ⟨hv, fun q hq => hL q (List.mem_filter.mp hq).1⟩
theorem x_istore_n {Γ : xΓ} {own : String} {cc : ByteArray} {nL fr lo mc ms : Nat} (G : xG Γ own cc nL fr lo mc ms) {cells slots n pc : Nat} {T : xT} {L : List (Nat × xV)} {st : List xV} {M : xM} {q : Fin 4} {i : Nat} {x : Int} (L' : List (Nat × xV)) (hi : (q : Nat) = i) (hn : i < nL) (hL' : (i, xI x) :: L.filter (fun q => !(q.1 == i) && !(q.1 + 1 == i && xcat q.2 == 2)) = L') (hd : decode cc pc = .ok (.istore_n q, 1)) (k : xX Γ cells slots n T (pc + 1) L' st M) : xX Γ cells slots n T pc L (xI x :: st) M := by
  obtain ⟨D, p, l, e, R, s, m, args, below, meth, c, Q⟩ := Γ
  obtain ⟨hx, hb, hml, hown, hts, hE, hB, hR⟩ := G
  subst hL'
  intro ls H locs hl hL hs hH
  obtain ⟨hv, hs⟩ := List.forall_mem_cons.mp hs
  exact lv_istore_n hx hb hd hi hl (by rw [hml]; exact hn) (congrArg (List.cons _) xl_f1) (fun ls' hl' => k ls' H locs hl' (xl_fk hL hv) hs hH)
theorem x_istore {Γ : xΓ} {own : String} {cc : ByteArray} {nL fr lo mc ms : Nat} (G : xG Γ own cc nL fr lo mc ms) {cells slots n pc : Nat} {T : xT} {L : List (Nat × xV)} {st : List xV} {M : xM} {i : Nat} {x : Int} (L' : List (Nat × xV)) (hn : i < nL) (hL' : (i, xI x) :: L.filter (fun q => !(q.1 == i) && !(q.1 + 1 == i && xcat q.2 == 2)) = L') (hd : decode cc pc = .ok (.istore i, 2)) (k : xX Γ cells slots n T (pc + 2) L' st M) : xX Γ cells slots n T pc L (xI x :: st) M := by
  obtain ⟨D, p, l, e, R, s, m, args, below, meth, c, Q⟩ := Γ
  obtain ⟨hx, hb, hml, hown, hts, hE, hB, hR⟩ := G
  subst hL'
  intro ls H locs hl hL hs hH
  obtain ⟨hv, hs⟩ := List.forall_mem_cons.mp hs
  exact lv_istore hx hb hd hl (by rw [hml]; exact hn) (congrArg (List.cons _) xl_f1) (fun ls' hl' => k ls' H locs hl' (xl_fk hL hv) hs hH)
theorem x_astore_n {Γ : xΓ} {own : String} {cc : ByteArray} {nL fr lo mc ms : Nat} (G : xG Γ own cc nL fr lo mc ms) {cells slots n pc : Nat} {T : xT} {L : List (Nat × xV)} {st : List xV} {M : xM} {q : Fin 4} {i : Nat} {x : Nat} (L' : List (Nat × xV)) (hi : (q : Nat) = i) (hn : i < nL) (hL' : (i, xR x) :: L.filter (fun q => !(q.1 == i) && !(q.1 + 1 == i && xcat q.2 == 2)) = L') (hd : decode cc pc = .ok (.astore_n q, 1)) (k : xX Γ cells slots n T (pc + 1) L' st M) : xX Γ cells slots n T pc L (xR x :: st) M := by
  obtain ⟨D, p, l, e, R, s, m, args, below, meth, c, Q⟩ := Γ
  obtain ⟨hx, hb, hml, hown, hts, hE, hB, hR⟩ := G
  subst hL'
  intro ls H locs hl hL hs hH
  obtain ⟨hv, hs⟩ := List.forall_mem_cons.mp hs
  exact lv_astore_n hx hb hd hi hl (by rw [hml]; exact hn) (congrArg (List.cons _) xl_f1) (fun ls' hl' => k ls' H locs hl' (xl_fk hL hv) hs hH)
theorem x_astore {Γ : xΓ} {own : String} {cc : ByteArray} {nL fr lo mc ms : Nat} (G : xG Γ own cc nL fr lo mc ms) {cells slots n pc : Nat} {T : xT} {L : List (Nat × xV)} {st : List xV} {M : xM} {i : Nat} {x : Nat} (L' : List (Nat × xV)) (hn : i < nL) (hL' : (i, xR x) :: L.filter (fun q => !(q.1 == i) && !(q.1 + 1 == i && xcat q.2 == 2)) = L') (hd : decode cc pc = .ok (.astore i, 2)) (k : xX Γ cells slots n T (pc + 2) L' st M) : xX Γ cells slots n T pc L (xR x :: st) M := by
  obtain ⟨D, p, l, e, R, s, m, args, below, meth, c, Q⟩ := Γ
  obtain ⟨hx, hb, hml, hown, hts, hE, hB, hR⟩ := G
  subst hL'
  intro ls H locs hl hL hs hH
  obtain ⟨hv, hs⟩ := List.forall_mem_cons.mp hs
  exact lv_astore hx hb hd hl (by rw [hml]; exact hn) (congrArg (List.cons _) xl_f1) (fun ls' hl' => k ls' H locs hl' (xl_fk hL hv) hs hH)
theorem x_lstore_n {Γ : xΓ} {own : String} {cc : ByteArray} {nL fr lo mc ms : Nat} (G : xG Γ own cc nL fr lo mc ms) {cells slots n pc : Nat} {T : xT} {L : List (Nat × xV)} {st : List xV} {M : xM} {q : Fin 4} {i : Nat} {x : Int} (L' : List (Nat × xV)) (hi : (q : Nat) = i) (hn : i + 1 < nL) (hL' : (i, xL x) :: L.filter (fun q => !(q.1 == i) && (!(q.1 == i + 1) && !(q.1 + 1 == i && xcat q.2 == 2))) = L') (hd : decode cc pc = .ok (.lstore_n q, 1)) (k : xX Γ cells slots n T (pc + 1) L' st M) : xX Γ cells slots n T pc L (xL x :: st) M := by
  obtain ⟨D, p, l, e, R, s, m, args, below, meth, c, Q⟩ := Γ
  obtain ⟨hx, hb, hml, hown, hts, hE, hB, hR⟩ := G
  subst hL'
  intro ls H locs hl hL hs hH
  obtain ⟨hv, hs⟩ := List.forall_mem_cons.mp hs
  exact lv_lstore_n hx hb hd hi hl (by rw [hml]; exact hn) (congrArg (List.cons _) xl_f2) (fun ls' hl' => k ls' H locs hl' (xl_fk hL hv) hs hH)
theorem x_lstore {Γ : xΓ} {own : String} {cc : ByteArray} {nL fr lo mc ms : Nat} (G : xG Γ own cc nL fr lo mc ms) {cells slots n pc : Nat} {T : xT} {L : List (Nat × xV)} {st : List xV} {M : xM} {i : Nat} {x : Int} (L' : List (Nat × xV)) (hn : i + 1 < nL) (hL' : (i, xL x) :: L.filter (fun q => !(q.1 == i) && (!(q.1 == i + 1) && !(q.1 + 1 == i && xcat q.2 == 2))) = L') (hd : decode cc pc = .ok (.lstore i, 2)) (k : xX Γ cells slots n T (pc + 2) L' st M) : xX Γ cells slots n T pc L (xL x :: st) M := by
  obtain ⟨D, p, l, e, R, s, m, args, below, meth, c, Q⟩ := Γ
  obtain ⟨hx, hb, hml, hown, hts, hE, hB, hR⟩ := G
  subst hL'
  intro ls H locs hl hL hs hH
  obtain ⟨hv, hs⟩ := List.forall_mem_cons.mp hs
  exact lv_lstore hx hb hd hl (by rw [hml]; exact hn) (congrArg (List.cons _) xl_f2) (fun ls' hl' => k ls' H locs hl' (xl_fk hL hv) hs hH)
theorem x_iinc {Γ : xΓ} {own : String} {cc : ByteArray} {nL fr lo mc ms : Nat} (G : xG Γ own cc nL fr lo mc ms) {cells slots n pc : Nat} {T : xT} {L : List (Nat × xV)} {st : List xV} {M : xM} {i : Nat} {x z : Int} (L' : List (Nat × xV)) (j : Nat) (hj : L[j]? = some (i, xI x)) (hn : i < nL) (ho : i32 (x + z)) (hL' : (i, xI (x + z)) :: L.filter (fun q => !(q.1 == i) && !(q.1 + 1 == i && xcat q.2 == 2)) = L') (hd : decode cc pc = .ok (.iinc i z, 3)) (k : xX Γ cells slots n T (pc + 3) L' st M) : xX Γ cells slots n T pc L st M := by
  obtain ⟨D, p, l, e, R, s, m, args, below, meth, c, Q⟩ := Γ
  obtain ⟨hx, hb, hml, hown, hts, hE, hB, hR⟩ := G
  subst hL'
  intro ls H locs hl hL hs hH
  exact lv_iinc (v := Int32.ofInt (x + z)) hx hb hd hl (xl_at hj) (Int32.ofInt_add x z).symm (by rw [hml]; exact hn) (congrArg (List.cons _) xl_f1) (fun ls' hl' => k ls' H locs hl' (xl_fk hL ho) hs hH)
theorem x_iincW {Γ : xΓ} {own : String} {cc : ByteArray} {nL fr lo mc ms : Nat} (G : xG Γ own cc nL fr lo mc ms) {cells slots n pc : Nat} {T : xT} {L : List (Nat × xV)} {st : List xV} {M : xM} {i : Nat} {x z : Int} (L' : List (Nat × xV)) (j : Nat) (hj : L[j]? = some (i, xI x)) (hn : i < nL) (ho : i32 (x + z)) (hL' : (i, xI (x + z)) :: L.filter (fun q => !(q.1 == i) && !(q.1 + 1 == i && xcat q.2 == 2)) = L') (hd : decode cc pc = .ok (.iinc i z, 6)) (k : xX Γ cells slots n T (pc + 6) L' st M) : xX Γ cells slots n T pc L st M := by
  obtain ⟨D, p, l, e, R, s, m, args, below, meth, c, Q⟩ := Γ
  obtain ⟨hx, hb, hml, hown, hts, hE, hB, hR⟩ := G
  subst hL'
  intro ls H locs hl hL hs hH
  exact lv_iincW (v := Int32.ofInt (x + z)) hx hb hd hl (xl_at hj) (Int32.ofInt_add x z).symm (by rw [hml]; exact hn) (congrArg (List.cons _) xl_f1) (fun ls' hl' => k ls' H locs hl' (xl_fk hL ho) hs hH)
theorem x_iadd {Γ : xΓ} {own : String} {cc : ByteArray} {nL fr lo mc ms : Nat} (G : xG Γ own cc nL fr lo mc ms) {cells slots n pc : Nat} {T : xT} {L : List (Nat × xV)} {st : List xV} {M : xM} {x y : Int} (ho : i32 (x + y)) (hd : decode cc pc = .ok (.iadd, 1)) (k : xX Γ cells slots n T (pc + 1) L (xI (x + y) :: st) M) : xX Γ cells slots n T pc L (xI y :: xI x :: st) M := by
  obtain ⟨D, p, l, e, R, s, m, args, below, meth, c, Q⟩ := Γ
  obtain ⟨hx, hb, hml, hown, hts, hE, hB, hR⟩ := G
  intro ls H locs hl hL hs hH
  obtain ⟨hy, hs⟩ := List.forall_mem_cons.mp hs
  obtain ⟨hxx, hs⟩ := List.forall_mem_cons.mp hs
  refine lv_iadd hx hb hd ?_
  have h9 := k ls H locs hl hL (List.forall_mem_cons.mpr ⟨ho, hs⟩) hH
  rw [List.map_cons] at h9
  rw [← Int32.ofInt_add]
  exact h9
theorem x_isub {Γ : xΓ} {own : String} {cc : ByteArray} {nL fr lo mc ms : Nat} (G : xG Γ own cc nL fr lo mc ms) {cells slots n pc : Nat} {T : xT} {L : List (Nat × xV)} {st : List xV} {M : xM} {x y : Int} (ho : i32 (x - y)) (hd : decode cc pc = .ok (.isub, 1)) (k : xX Γ cells slots n T (pc + 1) L (xI (x - y) :: st) M) : xX Γ cells slots n T pc L (xI y :: xI x :: st) M := by
  obtain ⟨D, p, l, e, R, s, m, args, below, meth, c, Q⟩ := Γ
  obtain ⟨hx, hb, hml, hown, hts, hE, hB, hR⟩ := G
  intro ls H locs hl hL hs hH
  obtain ⟨hy, hs⟩ := List.forall_mem_cons.mp hs
  obtain ⟨hxx, hs⟩ := List.forall_mem_cons.mp hs
  refine lv_isub hx hb hd ?_
  have h9 := k ls H locs hl hL (List.forall_mem_cons.mpr ⟨ho, hs⟩) hH
  rw [List.map_cons] at h9
  rw [← Int32.ofInt_sub]
  exact h9
theorem x_imul {Γ : xΓ} {own : String} {cc : ByteArray} {nL fr lo mc ms : Nat} (G : xG Γ own cc nL fr lo mc ms) {cells slots n pc : Nat} {T : xT} {L : List (Nat × xV)} {st : List xV} {M : xM} {x y : Int} (ho : i32 (x * y)) (hd : decode cc pc = .ok (.imul, 1)) (k : xX Γ cells slots n T (pc + 1) L (xI (x * y) :: st) M) : xX Γ cells slots n T pc L (xI y :: xI x :: st) M := by
  obtain ⟨D, p, l, e, R, s, m, args, below, meth, c, Q⟩ := Γ
  obtain ⟨hx, hb, hml, hown, hts, hE, hB, hR⟩ := G
  intro ls H locs hl hL hs hH
  obtain ⟨hy, hs⟩ := List.forall_mem_cons.mp hs
  obtain ⟨hxx, hs⟩ := List.forall_mem_cons.mp hs
  refine lv_imul hx hb hd ?_
  have h9 := k ls H locs hl hL (List.forall_mem_cons.mpr ⟨ho, hs⟩) hH
  rw [List.map_cons] at h9
  rw [← Int32.ofInt_mul]
  exact h9
theorem x_ladd {Γ : xΓ} {own : String} {cc : ByteArray} {nL fr lo mc ms : Nat} (G : xG Γ own cc nL fr lo mc ms) {cells slots n pc : Nat} {T : xT} {L : List (Nat × xV)} {st : List xV} {M : xM} {x y : Int} (ho : i64 (x + y)) (hd : decode cc pc = .ok (.ladd, 1)) (k : xX Γ cells slots n T (pc + 1) L (xL (x + y) :: st) M) : xX Γ cells slots n T pc L (xL y :: xL x :: st) M := by
  obtain ⟨D, p, l, e, R, s, m, args, below, meth, c, Q⟩ := Γ
  obtain ⟨hx, hb, hml, hown, hts, hE, hB, hR⟩ := G
  intro ls H locs hl hL hs hH
  obtain ⟨hy, hs⟩ := List.forall_mem_cons.mp hs
  obtain ⟨hxx, hs⟩ := List.forall_mem_cons.mp hs
  refine lv_ladd hx hb hd ?_
  have h9 := k ls H locs hl hL (List.forall_mem_cons.mpr ⟨ho, hs⟩) hH
  rw [List.map_cons] at h9
  rw [← Int64.ofInt_add]
  exact h9
theorem x_lsub {Γ : xΓ} {own : String} {cc : ByteArray} {nL fr lo mc ms : Nat} (G : xG Γ own cc nL fr lo mc ms) {cells slots n pc : Nat} {T : xT} {L : List (Nat × xV)} {st : List xV} {M : xM} {x y : Int} (ho : i64 (x - y)) (hd : decode cc pc = .ok (.lsub, 1)) (k : xX Γ cells slots n T (pc + 1) L (xL (x - y) :: st) M) : xX Γ cells slots n T pc L (xL y :: xL x :: st) M := by
  obtain ⟨D, p, l, e, R, s, m, args, below, meth, c, Q⟩ := Γ
  obtain ⟨hx, hb, hml, hown, hts, hE, hB, hR⟩ := G
  intro ls H locs hl hL hs hH
  obtain ⟨hy, hs⟩ := List.forall_mem_cons.mp hs
  obtain ⟨hxx, hs⟩ := List.forall_mem_cons.mp hs
  refine lv_lsub hx hb hd ?_
  have h9 := k ls H locs hl hL (List.forall_mem_cons.mpr ⟨ho, hs⟩) hH
  rw [List.map_cons] at h9
  rw [← Int64.ofInt_sub]
  exact h9
theorem x_lmul {Γ : xΓ} {own : String} {cc : ByteArray} {nL fr lo mc ms : Nat} (G : xG Γ own cc nL fr lo mc ms) {cells slots n pc : Nat} {T : xT} {L : List (Nat × xV)} {st : List xV} {M : xM} {x y : Int} (ho : i64 (x * y)) (hd : decode cc pc = .ok (.lmul, 1)) (k : xX Γ cells slots n T (pc + 1) L (xL (x * y) :: st) M) : xX Γ cells slots n T pc L (xL y :: xL x :: st) M := by
  obtain ⟨D, p, l, e, R, s, m, args, below, meth, c, Q⟩ := Γ
  obtain ⟨hx, hb, hml, hown, hts, hE, hB, hR⟩ := G
  intro ls H locs hl hL hs hH
  obtain ⟨hy, hs⟩ := List.forall_mem_cons.mp hs
  obtain ⟨hxx, hs⟩ := List.forall_mem_cons.mp hs
  refine lv_lmul hx hb hd ?_
  have h9 := k ls H locs hl hL (List.forall_mem_cons.mpr ⟨ho, hs⟩) hH
  rw [List.map_cons] at h9
  rw [← Int64.ofInt_mul]
  exact h9
theorem x_bm64 (z : Int) : Int64.ofInt (Int.bmod z 18446744073709551616) = Int64.ofInt z := by
  apply Int64.toInt_inj.mp
  rw [Int64.toInt_ofInt, Int64.toInt_ofInt]
  exact Int.bmod_bmod
theorem x_bm64r (z : Int) : i64 (Int.bmod z 18446744073709551616) := by
  have h1 := Int.le_bmod (x := z) (m := 18446744073709551616) (by decide)
  have h2 := Int.bmod_lt (x := z) (m := 18446744073709551616) (by decide)
  constructor <;> omega
theorem x_laddW {Γ : xΓ} {own : String} {cc : ByteArray} {nL fr lo mc ms : Nat} (G : xG Γ own cc nL fr lo mc ms) {cells slots n pc : Nat} {T : xT} {L : List (Nat × xV)} {st : List xV} {M : xM} {x y : Int} (hd : decode cc pc = .ok (.ladd, 1)) (k : xX Γ cells slots n T (pc + 1) L (xL (Int.bmod (x + y) 18446744073709551616) :: st) M) : xX Γ cells slots n T pc L (xL y :: xL x :: st) M := by
  obtain ⟨D, p, l, e, R, s, m, args, below, meth, c, Q⟩ := Γ
  obtain ⟨hx, hb, hml, hown, hts, hE, hB, hR⟩ := G
  intro ls H locs hl hL hs hH
  obtain ⟨hy, hs⟩ := List.forall_mem_cons.mp hs
  obtain ⟨hxx, hs⟩ := List.forall_mem_cons.mp hs
  refine lv_ladd hx hb hd ?_
  have h9 := k ls H locs hl hL (List.forall_mem_cons.mpr ⟨x_bm64r _, hs⟩) hH
  rw [List.map_cons] at h9
  rw [← Int64.ofInt_add, ← x_bm64]
  exact h9
theorem x_lmulW {Γ : xΓ} {own : String} {cc : ByteArray} {nL fr lo mc ms : Nat} (G : xG Γ own cc nL fr lo mc ms) {cells slots n pc : Nat} {T : xT} {L : List (Nat × xV)} {st : List xV} {M : xM} {x y : Int} (hd : decode cc pc = .ok (.lmul, 1)) (k : xX Γ cells slots n T (pc + 1) L (xL (Int.bmod (x * y) 18446744073709551616) :: st) M) : xX Γ cells slots n T pc L (xL y :: xL x :: st) M := by
  obtain ⟨D, p, l, e, R, s, m, args, below, meth, c, Q⟩ := Γ
  obtain ⟨hx, hb, hml, hown, hts, hE, hB, hR⟩ := G
  intro ls H locs hl hL hs hH
  obtain ⟨hy, hs⟩ := List.forall_mem_cons.mp hs
  obtain ⟨hxx, hs⟩ := List.forall_mem_cons.mp hs
  refine lv_lmul hx hb hd ?_
  have h9 := k ls H locs hl hL (List.forall_mem_cons.mpr ⟨x_bm64r _, hs⟩) hH
  rw [List.map_cons] at h9
  rw [← Int64.ofInt_mul, ← x_bm64]
  exact h9
theorem x_idiv {Γ : xΓ} {own : String} {cc : ByteArray} {nL fr lo mc ms : Nat} (G : xG Γ own cc nL fr lo mc ms) {cells slots n pc : Nat} {T : xT} {L : List (Nat × xV)} {st : List xV} {M : xM} {x y : Int} (z : Int) (h0 : ¬ Int32.ofInt y = 0) (he : Int32.ofInt x / Int32.ofInt y = Int32.ofInt z) (ho : i32 z) (hd : decode cc pc = .ok (.idiv, 1)) (k : xX Γ cells slots n T (pc + 1) L (xI z :: st) M) : xX Γ cells slots n T pc L (xI y :: xI x :: st) M := by
  obtain ⟨D, p, l, e, R, s, m, args, below, meth, c, Q⟩ := Γ
  obtain ⟨hx, hb, hml, hown, hts, hE, hB, hR⟩ := G
  intro ls H locs hl hL hs hH
  obtain ⟨hy, hs⟩ := List.forall_mem_cons.mp hs
  obtain ⟨hxx, hs⟩ := List.forall_mem_cons.mp hs
  refine lv_idiv hx hb hd h0 ?_
  have h9 := k ls H locs hl hL (List.forall_mem_cons.mpr ⟨ho, hs⟩) hH
  rw [List.map_cons] at h9
  rw [he]
  exact h9
theorem x_irem {Γ : xΓ} {own : String} {cc : ByteArray} {nL fr lo mc ms : Nat} (G : xG Γ own cc nL fr lo mc ms) {cells slots n pc : Nat} {T : xT} {L : List (Nat × xV)} {st : List xV} {M : xM} {x y : Int} (z : Int) (h0 : ¬ Int32.ofInt y = 0) (he : Int32.ofInt x - Int32.ofInt x / Int32.ofInt y * Int32.ofInt y = Int32.ofInt z) (ho : i32 z) (hd : decode cc pc = .ok (.irem, 1)) (k : xX Γ cells slots n T (pc + 1) L (xI z :: st) M) : xX Γ cells slots n T pc L (xI y :: xI x :: st) M := by
  obtain ⟨D, p, l, e, R, s, m, args, below, meth, c, Q⟩ := Γ
  obtain ⟨hx, hb, hml, hown, hts, hE, hB, hR⟩ := G
  intro ls H locs hl hL hs hH
  obtain ⟨hy, hs⟩ := List.forall_mem_cons.mp hs
  obtain ⟨hxx, hs⟩ := List.forall_mem_cons.mp hs
  refine lv_irem hx hb hd h0 ?_
  have h9 := k ls H locs hl hL (List.forall_mem_cons.mpr ⟨ho, hs⟩) hH
  rw [List.map_cons] at h9
  rw [he]
  exact h9
theorem x_iand {Γ : xΓ} {own : String} {cc : ByteArray} {nL fr lo mc ms : Nat} (G : xG Γ own cc nL fr lo mc ms) {cells slots n pc : Nat} {T : xT} {L : List (Nat × xV)} {st : List xV} {M : xM} {x y : Int} (z : Int) (he : Int32.ofInt x &&& Int32.ofInt y = Int32.ofInt z) (ho : i32 z) (hd : decode cc pc = .ok (.iand, 1)) (k : xX Γ cells slots n T (pc + 1) L (xI z :: st) M) : xX Γ cells slots n T pc L (xI y :: xI x :: st) M := by
  obtain ⟨D, p, l, e, R, s, m, args, below, meth, c, Q⟩ := Γ
  obtain ⟨hx, hb, hml, hown, hts, hE, hB, hR⟩ := G
  intro ls H locs hl hL hs hH
  obtain ⟨hy, hs⟩ := List.forall_mem_cons.mp hs
  obtain ⟨hxx, hs⟩ := List.forall_mem_cons.mp hs
  refine lv_iand hx hb hd ?_
  have h9 := k ls H locs hl hL (List.forall_mem_cons.mpr ⟨ho, hs⟩) hH
  rw [List.map_cons] at h9
  rw [he]
  exact h9
theorem x_ior {Γ : xΓ} {own : String} {cc : ByteArray} {nL fr lo mc ms : Nat} (G : xG Γ own cc nL fr lo mc ms) {cells slots n pc : Nat} {T : xT} {L : List (Nat × xV)} {st : List xV} {M : xM} {x y : Int} (z : Int) (he : Int32.ofInt x ||| Int32.ofInt y = Int32.ofInt z) (ho : i32 z) (hd : decode cc pc = .ok (.ior, 1)) (k : xX Γ cells slots n T (pc + 1) L (xI z :: st) M) : xX Γ cells slots n T pc L (xI y :: xI x :: st) M := by
  obtain ⟨D, p, l, e, R, s, m, args, below, meth, c, Q⟩ := Γ
  obtain ⟨hx, hb, hml, hown, hts, hE, hB, hR⟩ := G
  intro ls H locs hl hL hs hH
  obtain ⟨hy, hs⟩ := List.forall_mem_cons.mp hs
  obtain ⟨hxx, hs⟩ := List.forall_mem_cons.mp hs
  refine lv_ior hx hb hd ?_
  have h9 := k ls H locs hl hL (List.forall_mem_cons.mpr ⟨ho, hs⟩) hH
  rw [List.map_cons] at h9
  rw [he]
  exact h9
theorem x_ishl {Γ : xΓ} {own : String} {cc : ByteArray} {nL fr lo mc ms : Nat} (G : xG Γ own cc nL fr lo mc ms) {cells slots n pc : Nat} {T : xT} {L : List (Nat × xV)} {st : List xV} {M : xM} {x y : Int} (z : Int) (he : Int32.ofInt x <<< (Int32.ofInt y &&& 31) = Int32.ofInt z) (ho : i32 z) (hd : decode cc pc = .ok (.ishl, 1)) (k : xX Γ cells slots n T (pc + 1) L (xI z :: st) M) : xX Γ cells slots n T pc L (xI y :: xI x :: st) M := by
  obtain ⟨D, p, l, e, R, s, m, args, below, meth, c, Q⟩ := Γ
  obtain ⟨hx, hb, hml, hown, hts, hE, hB, hR⟩ := G
  intro ls H locs hl hL hs hH
  obtain ⟨hy, hs⟩ := List.forall_mem_cons.mp hs
  obtain ⟨hxx, hs⟩ := List.forall_mem_cons.mp hs
  refine lv_ishl hx hb hd ?_
  have h9 := k ls H locs hl hL (List.forall_mem_cons.mpr ⟨ho, hs⟩) hH
  rw [List.map_cons] at h9
  rw [he]
  exact h9
theorem x_ishr {Γ : xΓ} {own : String} {cc : ByteArray} {nL fr lo mc ms : Nat} (G : xG Γ own cc nL fr lo mc ms) {cells slots n pc : Nat} {T : xT} {L : List (Nat × xV)} {st : List xV} {M : xM} {x y : Int} (z : Int) (he : Int32.ofInt x >>> (Int32.ofInt y &&& 31) = Int32.ofInt z) (ho : i32 z) (hd : decode cc pc = .ok (.ishr, 1)) (k : xX Γ cells slots n T (pc + 1) L (xI z :: st) M) : xX Γ cells slots n T pc L (xI y :: xI x :: st) M := by
  obtain ⟨D, p, l, e, R, s, m, args, below, meth, c, Q⟩ := Γ
  obtain ⟨hx, hb, hml, hown, hts, hE, hB, hR⟩ := G
  intro ls H locs hl hL hs hH
  obtain ⟨hy, hs⟩ := List.forall_mem_cons.mp hs
  obtain ⟨hxx, hs⟩ := List.forall_mem_cons.mp hs
  refine lv_ishr hx hb hd ?_
  have h9 := k ls H locs hl hL (List.forall_mem_cons.mpr ⟨ho, hs⟩) hH
  rw [List.map_cons] at h9
  rw [he]
  exact h9
theorem x_land {Γ : xΓ} {own : String} {cc : ByteArray} {nL fr lo mc ms : Nat} (G : xG Γ own cc nL fr lo mc ms) {cells slots n pc : Nat} {T : xT} {L : List (Nat × xV)} {st : List xV} {M : xM} {x y : Int} (z : Int) (he : Int64.ofInt x &&& Int64.ofInt y = Int64.ofInt z) (ho : i64 z) (hd : decode cc pc = .ok (.land, 1)) (k : xX Γ cells slots n T (pc + 1) L (xL z :: st) M) : xX Γ cells slots n T pc L (xL y :: xL x :: st) M := by
  obtain ⟨D, p, l, e, R, s, m, args, below, meth, c, Q⟩ := Γ
  obtain ⟨hx, hb, hml, hown, hts, hE, hB, hR⟩ := G
  intro ls H locs hl hL hs hH
  obtain ⟨hy, hs⟩ := List.forall_mem_cons.mp hs
  obtain ⟨hxx, hs⟩ := List.forall_mem_cons.mp hs
  refine lv_land hx hb hd ?_
  have h9 := k ls H locs hl hL (List.forall_mem_cons.mpr ⟨ho, hs⟩) hH
  rw [List.map_cons] at h9
  rw [he]
  exact h9
theorem x_lrem {Γ : xΓ} {own : String} {cc : ByteArray} {nL fr lo mc ms : Nat} (G : xG Γ own cc nL fr lo mc ms) {cells slots n pc : Nat} {T : xT} {L : List (Nat × xV)} {st : List xV} {M : xM} {x y : Int} (z : Int) (h0 : ¬ Int64.ofInt y = 0) (he : Int64.ofInt x - Int64.ofInt x / Int64.ofInt y * Int64.ofInt y = Int64.ofInt z) (ho : i64 z) (hd : decode cc pc = .ok (.lrem, 1)) (k : xX Γ cells slots n T (pc + 1) L (xL z :: st) M) : xX Γ cells slots n T pc L (xL y :: xL x :: st) M := by
  obtain ⟨D, p, l, e, R, s, m, args, below, meth, c, Q⟩ := Γ
  obtain ⟨hx, hb, hml, hown, hts, hE, hB, hR⟩ := G
  intro ls H locs hl hL hs hH
  obtain ⟨hy, hs⟩ := List.forall_mem_cons.mp hs
  obtain ⟨hxx, hs⟩ := List.forall_mem_cons.mp hs
  refine lv_lrem hx hb hd h0 ?_
  have h9 := k ls H locs hl hL (List.forall_mem_cons.mpr ⟨ho, hs⟩) hH
  rw [List.map_cons] at h9
  rw [he]
  exact h9
theorem x_lshr {Γ : xΓ} {own : String} {cc : ByteArray} {nL fr lo mc ms : Nat} (G : xG Γ own cc nL fr lo mc ms) {cells slots n pc : Nat} {T : xT} {L : List (Nat × xV)} {st : List xV} {M : xM} {x y : Int} (z : Int) (he : Int64.ofInt x >>> ((Int32.ofInt y).toInt64 &&& 63) = Int64.ofInt z) (ho : i64 z) (hd : decode cc pc = .ok (.lshr, 1)) (k : xX Γ cells slots n T (pc + 1) L (xL z :: st) M) : xX Γ cells slots n T pc L (xI y :: xL x :: st) M := by
  obtain ⟨D, p, l, e, R, s, m, args, below, meth, c, Q⟩ := Γ
  obtain ⟨hx, hb, hml, hown, hts, hE, hB, hR⟩ := G
  intro ls H locs hl hL hs hH
  obtain ⟨hy, hs⟩ := List.forall_mem_cons.mp hs
  obtain ⟨hxx, hs⟩ := List.forall_mem_cons.mp hs
  exact lv_lshr hx hb hd he (k ls H locs hl hL (List.forall_mem_cons.mpr ⟨ho, hs⟩) hH)
theorem x_ineg {Γ : xΓ} {own : String} {cc : ByteArray} {nL fr lo mc ms : Nat} (G : xG Γ own cc nL fr lo mc ms) {cells slots n pc : Nat} {T : xT} {L : List (Nat × xV)} {st : List xV} {M : xM} {x : Int} (ho : i32 (-x)) (hd : decode cc pc = .ok (.ineg, 1)) (k : xX Γ cells slots n T (pc + 1) L (xI (-x) :: st) M) : xX Γ cells slots n T pc L (xI x :: st) M := by
  obtain ⟨D, p, l, e, R, s, m, args, below, meth, c, Q⟩ := Γ
  obtain ⟨hx, hb, hml, hown, hts, hE, hB, hR⟩ := G
  intro ls H locs hl hL hs hH
  obtain ⟨hxx, hs⟩ := List.forall_mem_cons.mp hs
  refine lv_ineg hx hb hd ?_
  have h9 := k ls H locs hl hL (List.forall_mem_cons.mpr ⟨ho, hs⟩) hH
  rw [List.map_cons] at h9
  first | (rw [← Int32.ofInt_neg]; exact h9) | (rw [show (0 : Int32) - Int32.ofInt x = Int32.ofInt (-x) by rw [Int32.ofInt_neg]; simp]; exact h9)
theorem x_i2lE {x : Int} (h : i32 x) : (Int32.ofInt x).toInt64 = Int64.ofInt x := by
  apply Int64.toInt_inj.mp
  rw [Int32.toInt_toInt64, x_toInt h, x_toInt64 (by omega)]
theorem x_i2l {Γ : xΓ} {own : String} {cc : ByteArray} {nL fr lo mc ms : Nat} (G : xG Γ own cc nL fr lo mc ms) {cells slots n pc : Nat} {T : xT} {L : List (Nat × xV)} {st : List xV} {M : xM} {x : Int} (hd : decode cc pc = .ok (.i2l, 1)) (k : xX Γ cells slots n T (pc + 1) L (xL x :: st) M) : xX Γ cells slots n T pc L (xI x :: st) M := by
  obtain ⟨D, p, l, e, R, s, m, args, below, meth, c, Q⟩ := Γ
  obtain ⟨hx, hb, hml, hown, hts, hE, hB, hR⟩ := G
  intro ls H locs hl hL hs hH
  obtain ⟨hxx, hs⟩ := List.forall_mem_cons.mp hs
  have h1 : i32 x := hxx
  exact lv_i2l hx hb hd (x_i2lE h1) (k ls H locs hl hL (List.forall_mem_cons.mpr ⟨by show i64 x; omega, hs⟩) hH)
theorem x_l2iE {x : Int} (h : i32 x) : (Int64.ofInt x).toInt32 = Int32.ofInt x := by
  rw [← x_i2lE h]
  simp
theorem x_l2i {Γ : xΓ} {own : String} {cc : ByteArray} {nL fr lo mc ms : Nat} (G : xG Γ own cc nL fr lo mc ms) {cells slots n pc : Nat} {T : xT} {L : List (Nat × xV)} {st : List xV} {M : xM} {x : Int} (ho : i32 x) (hd : decode cc pc = .ok (.l2i, 1)) (k : xX Γ cells slots n T (pc + 1) L (xI x :: st) M) : xX Γ cells slots n T pc L (xL x :: st) M := by
  obtain ⟨D, p, l, e, R, s, m, args, below, meth, c, Q⟩ := Γ
  obtain ⟨hx, hb, hml, hown, hts, hE, hB, hR⟩ := G
  intro ls H locs hl hL hs hH
  obtain ⟨hxx, hs⟩ := List.forall_mem_cons.mp hs
  exact lv_l2i hx hb hd (x_l2iE ho) (k ls H locs hl hL (List.forall_mem_cons.mpr ⟨ho, hs⟩) hH)
theorem x_i2b {Γ : xΓ} {own : String} {cc : ByteArray} {nL fr lo mc ms : Nat} (G : xG Γ own cc nL fr lo mc ms) {cells slots n pc : Nat} {T : xT} {L : List (Nat × xV)} {st : List xV} {M : xM} {x : Int} (z : Int) (he : (Int32.ofInt x).toInt8.toInt32 = Int32.ofInt z) (ho : i32 z) (hd : decode cc pc = .ok (.i2b, 1)) (k : xX Γ cells slots n T (pc + 1) L (xI z :: st) M) : xX Γ cells slots n T pc L (xI x :: st) M := by
  obtain ⟨D, p, l, e, R, s, m, args, below, meth, c, Q⟩ := Γ
  obtain ⟨hx, hb, hml, hown, hts, hE, hB, hR⟩ := G
  intro ls H locs hl hL hs hH
  obtain ⟨hxx, hs⟩ := List.forall_mem_cons.mp hs
  exact lv_i2b hx hb hd he (k ls H locs hl hL (List.forall_mem_cons.mpr ⟨ho, hs⟩) hH)
theorem x_i2c {Γ : xΓ} {own : String} {cc : ByteArray} {nL fr lo mc ms : Nat} (G : xG Γ own cc nL fr lo mc ms) {cells slots n pc : Nat} {T : xT} {L : List (Nat × xV)} {st : List xV} {M : xM} {x : Int} (z : Int) (he : ((Int32.ofInt x).toUInt32 % 65536).toInt32 = Int32.ofInt z) (ho : i32 z) (hd : decode cc pc = .ok (.i2c, 1)) (k : xX Γ cells slots n T (pc + 1) L (xI z :: st) M) : xX Γ cells slots n T pc L (xI x :: st) M := by
  obtain ⟨D, p, l, e, R, s, m, args, below, meth, c, Q⟩ := Γ
  obtain ⟨hx, hb, hml, hown, hts, hE, hB, hR⟩ := G
  intro ls H locs hl hL hs hH
  obtain ⟨hxx, hs⟩ := List.forall_mem_cons.mp hs
  exact lv_i2c hx hb hd he (k ls H locs hl hL (List.forall_mem_cons.mpr ⟨ho, hs⟩) hH)
theorem x_dup {Γ : xΓ} {own : String} {cc : ByteArray} {nL fr lo mc ms : Nat} (G : xG Γ own cc nL fr lo mc ms) {cells slots n pc : Nat} {T : xT} {L : List (Nat × xV)} {st : List xV} {M : xM} {v : xV} (hv : xcat v = 1) (hd : decode cc pc = .ok (.dup, 1)) (k : xX Γ cells slots n T (pc + 1) L (v :: v :: st) M) : xX Γ cells slots n T pc L (v :: st) M := by
  obtain ⟨D, p, l, e, R, s, m, args, below, meth, c, Q⟩ := Γ
  obtain ⟨hx, hb, hml, hown, hts, hE, hB, hR⟩ := G
  intro ls H locs hl hL hs hH
  exact lv_dup hx hb hd ((xcat_eq _ _).trans hv) (k ls H locs hl hL (List.forall_mem_cons.mpr ⟨(List.forall_mem_cons.mp hs).1, hs⟩) hH)
theorem x_pop {Γ : xΓ} {own : String} {cc : ByteArray} {nL fr lo mc ms : Nat} (G : xG Γ own cc nL fr lo mc ms) {cells slots n pc : Nat} {T : xT} {L : List (Nat × xV)} {st : List xV} {M : xM} {v : xV} (hv : xcat v = 1) (hd : decode cc pc = .ok (.pop, 1)) (k : xX Γ cells slots n T (pc + 1) L st M) : xX Γ cells slots n T pc L (v :: st) M := by
  obtain ⟨D, p, l, e, R, s, m, args, below, meth, c, Q⟩ := Γ
  obtain ⟨hx, hb, hml, hown, hts, hE, hB, hR⟩ := G
  intro ls H locs hl hL hs hH
  exact lv_pop hx hb hd ((xcat_eq _ _).trans hv) (k ls H locs hl hL (List.forall_mem_cons.mp hs).2 hH)
theorem x_dup2 {Γ : xΓ} {own : String} {cc : ByteArray} {nL fr lo mc ms : Nat} (G : xG Γ own cc nL fr lo mc ms) {cells slots n pc : Nat} {T : xT} {L : List (Nat × xV)} {st : List xV} {M : xM} {v w : xV} (hv : xcat v = 1) (hw : xcat w = 1) (hd : decode cc pc = .ok (.dup2, 1)) (k : xX Γ cells slots n T (pc + 1) L (v :: w :: v :: w :: st) M) : xX Γ cells slots n T pc L (v :: w :: st) M := by
  obtain ⟨D, p, l, e, R, s, m, args, below, meth, c, Q⟩ := Γ
  obtain ⟨hx, hb, hml, hown, hts, hE, hB, hR⟩ := G
  intro ls H locs hl hL hs hH
  have h1 := List.forall_mem_cons.mp hs
  have h2 := List.forall_mem_cons.mp h1.2
  exact lv_dup2_11 hx hb hd ((xcat_eq _ _).trans hv) ((xcat_eq _ _).trans hw) (k ls H locs hl hL (List.forall_mem_cons.mpr ⟨h1.1, List.forall_mem_cons.mpr ⟨h2.1, hs⟩⟩) hH)
theorem x_if_eq {Γ : xΓ} {own : String} {cc : ByteArray} {nL fr lo mc ms : Nat} (G : xG Γ own cc nL fr lo mc ms) {cells slots n pc : Nat} {T : xT} {L : List (Nat × xV)} {st : List xV} {M : xM} {x : Int} {off : Int} (tgt : Nat) (ht : (pc : Int) + off = (tgt : Int)) (hd : decode cc pc = .ok (.ifCond .eq off, 3)) (kt : x = 0 → xX Γ cells slots n T tgt L st M) (kf : ¬ x = 0 → xX Γ cells slots n T (pc + 3) L st M) : xX Γ cells slots n T pc L (xI x :: st) M := by
  obtain ⟨D, p, l, e, R, s, m, args, below, meth, c, Q⟩ := Γ
  obtain ⟨hx, hb, hml, hown, hts, hE, hB, hR⟩ := G
  intro ls H locs hl hL hs hH
  obtain ⟨hxx, hs⟩ := List.forall_mem_cons.mp hs
  have hyy : i32 0 := by decide
  have e1 := x_eq hxx hyy
  have e2 := x_lt hxx hyy
  have e3 := x_lt hyy hxx
  have e4 := x_le hxx hyy
  have e5 := x_le hyy hxx
  have e0 : Int32.ofInt 0 = 0 := rfl
  rw [e0] at e1 e2 e3 e4 e5
  refine lv_if_eq (tgt := tgt) hx hb hd ht (fun h => kt ?_ ls H locs hl hL hs hH) (fun h => kf ?_ ls H locs hl hL hs hH)
  · first | exact e1.mp h | exact fun q => h (e1.mpr q) | exact e2.mp h | exact e3.mp h | exact e4.mp h | exact e5.mp h
  · first | exact fun q => h (e1.mpr q) | exact e1.mp (Classical.not_not.mp h) | exact e1.mp h | exact Int.not_lt.mp fun q => h (e2.mpr q) | exact Int.not_lt.mp fun q => h (e3.mpr q) | exact Int.not_le.mp fun q => h (e4.mpr q) | exact Int.not_le.mp fun q => h (e5.mpr q)
theorem x_if_ne {Γ : xΓ} {own : String} {cc : ByteArray} {nL fr lo mc ms : Nat} (G : xG Γ own cc nL fr lo mc ms) {cells slots n pc : Nat} {T : xT} {L : List (Nat × xV)} {st : List xV} {M : xM} {x : Int} {off : Int} (tgt : Nat) (ht : (pc : Int) + off = (tgt : Int)) (hd : decode cc pc = .ok (.ifCond .ne off, 3)) (kt : ¬ x = 0 → xX Γ cells slots n T tgt L st M) (kf : x = 0 → xX Γ cells slots n T (pc + 3) L st M) : xX Γ cells slots n T pc L (xI x :: st) M := by
  obtain ⟨D, p, l, e, R, s, m, args, below, meth, c, Q⟩ := Γ
  obtain ⟨hx, hb, hml, hown, hts, hE, hB, hR⟩ := G
  intro ls H locs hl hL hs hH
  obtain ⟨hxx, hs⟩ := List.forall_mem_cons.mp hs
  have hyy : i32 0 := by decide
  have e1 := x_eq hxx hyy
  have e2 := x_lt hxx hyy
  have e3 := x_lt hyy hxx
  have e4 := x_le hxx hyy
  have e5 := x_le hyy hxx
  have e0 : Int32.ofInt 0 = 0 := rfl
  rw [e0] at e1 e2 e3 e4 e5
  refine lv_if_ne (tgt := tgt) hx hb hd ht (fun h => kt ?_ ls H locs hl hL hs hH) (fun h => kf ?_ ls H locs hl hL hs hH)
  · first | exact e1.mp h | exact fun q => h (e1.mpr q) | exact e2.mp h | exact e3.mp h | exact e4.mp h | exact e5.mp h
  · first | exact fun q => h (e1.mpr q) | exact e1.mp (Classical.not_not.mp h) | exact e1.mp h | exact Int.not_lt.mp fun q => h (e2.mpr q) | exact Int.not_lt.mp fun q => h (e3.mpr q) | exact Int.not_le.mp fun q => h (e4.mpr q) | exact Int.not_le.mp fun q => h (e5.mpr q)
theorem x_if_lt {Γ : xΓ} {own : String} {cc : ByteArray} {nL fr lo mc ms : Nat} (G : xG Γ own cc nL fr lo mc ms) {cells slots n pc : Nat} {T : xT} {L : List (Nat × xV)} {st : List xV} {M : xM} {x : Int} {off : Int} (tgt : Nat) (ht : (pc : Int) + off = (tgt : Int)) (hd : decode cc pc = .ok (.ifCond .lt off, 3)) (kt : x < 0 → xX Γ cells slots n T tgt L st M) (kf : 0 ≤ x → xX Γ cells slots n T (pc + 3) L st M) : xX Γ cells slots n T pc L (xI x :: st) M := by
  obtain ⟨D, p, l, e, R, s, m, args, below, meth, c, Q⟩ := Γ
  obtain ⟨hx, hb, hml, hown, hts, hE, hB, hR⟩ := G
  intro ls H locs hl hL hs hH
  obtain ⟨hxx, hs⟩ := List.forall_mem_cons.mp hs
  have hyy : i32 0 := by decide
  have e1 := x_eq hxx hyy
  have e2 := x_lt hxx hyy
  have e3 := x_lt hyy hxx
  have e4 := x_le hxx hyy
  have e5 := x_le hyy hxx
  have e0 : Int32.ofInt 0 = 0 := rfl
  rw [e0] at e1 e2 e3 e4 e5
  refine lv_if_lt (tgt := tgt) hx hb hd ht (fun h => kt ?_ ls H locs hl hL hs hH) (fun h => kf ?_ ls H locs hl hL hs hH)
  · first | exact e1.mp h | exact fun q => h (e1.mpr q) | exact e2.mp h | exact e3.mp h | exact e4.mp h | exact e5.mp h
  · first | exact fun q => h (e1.mpr q) | exact e1.mp (Classical.not_not.mp h) | exact e1.mp h | exact Int.not_lt.mp fun q => h (e2.mpr q) | exact Int.not_lt.mp fun q => h (e3.mpr q) | exact Int.not_le.mp fun q => h (e4.mpr q) | exact Int.not_le.mp fun q => h (e5.mpr q)
theorem x_if_ge {Γ : xΓ} {own : String} {cc : ByteArray} {nL fr lo mc ms : Nat} (G : xG Γ own cc nL fr lo mc ms) {cells slots n pc : Nat} {T : xT} {L : List (Nat × xV)} {st : List xV} {M : xM} {x : Int} {off : Int} (tgt : Nat) (ht : (pc : Int) + off = (tgt : Int)) (hd : decode cc pc = .ok (.ifCond .ge off, 3)) (kt : 0 ≤ x → xX Γ cells slots n T tgt L st M) (kf : x < 0 → xX Γ cells slots n T (pc + 3) L st M) : xX Γ cells slots n T pc L (xI x :: st) M := by
  obtain ⟨D, p, l, e, R, s, m, args, below, meth, c, Q⟩ := Γ
  obtain ⟨hx, hb, hml, hown, hts, hE, hB, hR⟩ := G
  intro ls H locs hl hL hs hH
  obtain ⟨hxx, hs⟩ := List.forall_mem_cons.mp hs
  have hyy : i32 0 := by decide
  have e1 := x_eq hxx hyy
  have e2 := x_lt hxx hyy
  have e3 := x_lt hyy hxx
  have e4 := x_le hxx hyy
  have e5 := x_le hyy hxx
  have e0 : Int32.ofInt 0 = 0 := rfl
  rw [e0] at e1 e2 e3 e4 e5
  refine lv_if_ge (tgt := tgt) hx hb hd ht (fun h => kt ?_ ls H locs hl hL hs hH) (fun h => kf ?_ ls H locs hl hL hs hH)
  · first | exact e1.mp h | exact fun q => h (e1.mpr q) | exact e2.mp h | exact e3.mp h | exact e4.mp h | exact e5.mp h
  · first | exact fun q => h (e1.mpr q) | exact e1.mp (Classical.not_not.mp h) | exact e1.mp h | exact Int.not_lt.mp fun q => h (e2.mpr q) | exact Int.not_lt.mp fun q => h (e3.mpr q) | exact Int.not_le.mp fun q => h (e4.mpr q) | exact Int.not_le.mp fun q => h (e5.mpr q)
theorem x_if_gt {Γ : xΓ} {own : String} {cc : ByteArray} {nL fr lo mc ms : Nat} (G : xG Γ own cc nL fr lo mc ms) {cells slots n pc : Nat} {T : xT} {L : List (Nat × xV)} {st : List xV} {M : xM} {x : Int} {off : Int} (tgt : Nat) (ht : (pc : Int) + off = (tgt : Int)) (hd : decode cc pc = .ok (.ifCond .gt off, 3)) (kt : 0 < x → xX Γ cells slots n T tgt L st M) (kf : x ≤ 0 → xX Γ cells slots n T (pc + 3) L st M) : xX Γ cells slots n T pc L (xI x :: st) M := by
  obtain ⟨D, p, l, e, R, s, m, args, below, meth, c, Q⟩ := Γ
  obtain ⟨hx, hb, hml, hown, hts, hE, hB, hR⟩ := G
  intro ls H locs hl hL hs hH
  obtain ⟨hxx, hs⟩ := List.forall_mem_cons.mp hs
  have hyy : i32 0 := by decide
  have e1 := x_eq hxx hyy
  have e2 := x_lt hxx hyy
  have e3 := x_lt hyy hxx
  have e4 := x_le hxx hyy
  have e5 := x_le hyy hxx
  have e0 : Int32.ofInt 0 = 0 := rfl
  rw [e0] at e1 e2 e3 e4 e5
  refine lv_if_gt (tgt := tgt) hx hb hd ht (fun h => kt ?_ ls H locs hl hL hs hH) (fun h => kf ?_ ls H locs hl hL hs hH)
  · first | exact e1.mp h | exact fun q => h (e1.mpr q) | exact e2.mp h | exact e3.mp h | exact e4.mp h | exact e5.mp h
  · first | exact fun q => h (e1.mpr q) | exact e1.mp (Classical.not_not.mp h) | exact e1.mp h | exact Int.not_lt.mp fun q => h (e2.mpr q) | exact Int.not_lt.mp fun q => h (e3.mpr q) | exact Int.not_le.mp fun q => h (e4.mpr q) | exact Int.not_le.mp fun q => h (e5.mpr q)
theorem x_if_le {Γ : xΓ} {own : String} {cc : ByteArray} {nL fr lo mc ms : Nat} (G : xG Γ own cc nL fr lo mc ms) {cells slots n pc : Nat} {T : xT} {L : List (Nat × xV)} {st : List xV} {M : xM} {x : Int} {off : Int} (tgt : Nat) (ht : (pc : Int) + off = (tgt : Int)) (hd : decode cc pc = .ok (.ifCond .le off, 3)) (kt : x ≤ 0 → xX Γ cells slots n T tgt L st M) (kf : 0 < x → xX Γ cells slots n T (pc + 3) L st M) : xX Γ cells slots n T pc L (xI x :: st) M := by
  obtain ⟨D, p, l, e, R, s, m, args, below, meth, c, Q⟩ := Γ
  obtain ⟨hx, hb, hml, hown, hts, hE, hB, hR⟩ := G
  intro ls H locs hl hL hs hH
  obtain ⟨hxx, hs⟩ := List.forall_mem_cons.mp hs
  have hyy : i32 0 := by decide
  have e1 := x_eq hxx hyy
  have e2 := x_lt hxx hyy
  have e3 := x_lt hyy hxx
  have e4 := x_le hxx hyy
  have e5 := x_le hyy hxx
  have e0 : Int32.ofInt 0 = 0 := rfl
  rw [e0] at e1 e2 e3 e4 e5
  refine lv_if_le (tgt := tgt) hx hb hd ht (fun h => kt ?_ ls H locs hl hL hs hH) (fun h => kf ?_ ls H locs hl hL hs hH)
  · first | exact e1.mp h | exact fun q => h (e1.mpr q) | exact e2.mp h | exact e3.mp h | exact e4.mp h | exact e5.mp h
  · first | exact fun q => h (e1.mpr q) | exact e1.mp (Classical.not_not.mp h) | exact e1.mp h | exact Int.not_lt.mp fun q => h (e2.mpr q) | exact Int.not_lt.mp fun q => h (e3.mpr q) | exact Int.not_le.mp fun q => h (e4.mpr q) | exact Int.not_le.mp fun q => h (e5.mpr q)
theorem x_icmp_eq {Γ : xΓ} {own : String} {cc : ByteArray} {nL fr lo mc ms : Nat} (G : xG Γ own cc nL fr lo mc ms) {cells slots n pc : Nat} {T : xT} {L : List (Nat × xV)} {st : List xV} {M : xM} {x y : Int} {off : Int} (tgt : Nat) (ht : (pc : Int) + off = (tgt : Int)) (hd : decode cc pc = .ok (.if_icmp .eq off, 3)) (kt : x = y → xX Γ cells slots n T tgt L st M) (kf : ¬ x = y → xX Γ cells slots n T (pc + 3) L st M) : xX Γ cells slots n T pc L (xI y :: xI x :: st) M := by
  obtain ⟨D, p, l, e, R, s, m, args, below, meth, c, Q⟩ := Γ
  obtain ⟨hx, hb, hml, hown, hts, hE, hB, hR⟩ := G
  intro ls H locs hl hL hs hH
  obtain ⟨hyy, hs⟩ := List.forall_mem_cons.mp hs
  obtain ⟨hxx, hs⟩ := List.forall_mem_cons.mp hs
  have e1 := x_eq hxx hyy
  have e2 := x_lt hxx hyy
  have e3 := x_lt hyy hxx
  have e4 := x_le hxx hyy
  have e5 := x_le hyy hxx
  have e0 : Int32.ofInt 0 = 0 := rfl
  skip
  refine lv_icmp_eq (tgt := tgt) hx hb hd ht (fun h => kt ?_ ls H locs hl hL hs hH) (fun h => kf ?_ ls H locs hl hL hs hH)
  · first | exact e1.mp h | exact fun q => h (e1.mpr q) | exact e2.mp h | exact e3.mp h | exact e4.mp h | exact e5.mp h
  · first | exact fun q => h (e1.mpr q) | exact e1.mp (Classical.not_not.mp h) | exact e1.mp h | exact Int.not_lt.mp fun q => h (e2.mpr q) | exact Int.not_lt.mp fun q => h (e3.mpr q) | exact Int.not_le.mp fun q => h (e4.mpr q) | exact Int.not_le.mp fun q => h (e5.mpr q)
theorem x_icmp_ne {Γ : xΓ} {own : String} {cc : ByteArray} {nL fr lo mc ms : Nat} (G : xG Γ own cc nL fr lo mc ms) {cells slots n pc : Nat} {T : xT} {L : List (Nat × xV)} {st : List xV} {M : xM} {x y : Int} {off : Int} (tgt : Nat) (ht : (pc : Int) + off = (tgt : Int)) (hd : decode cc pc = .ok (.if_icmp .ne off, 3)) (kt : ¬ x = y → xX Γ cells slots n T tgt L st M) (kf : x = y → xX Γ cells slots n T (pc + 3) L st M) : xX Γ cells slots n T pc L (xI y :: xI x :: st) M := by
  obtain ⟨D, p, l, e, R, s, m, args, below, meth, c, Q⟩ := Γ
  obtain ⟨hx, hb, hml, hown, hts, hE, hB, hR⟩ := G
  intro ls H locs hl hL hs hH
  obtain ⟨hyy, hs⟩ := List.forall_mem_cons.mp hs
  obtain ⟨hxx, hs⟩ := List.forall_mem_cons.mp hs
  have e1 := x_eq hxx hyy
  have e2 := x_lt hxx hyy
  have e3 := x_lt hyy hxx
  have e4 := x_le hxx hyy
  have e5 := x_le hyy hxx
  have e0 : Int32.ofInt 0 = 0 := rfl
  skip
  refine lv_icmp_ne (tgt := tgt) hx hb hd ht (fun h => kt ?_ ls H locs hl hL hs hH) (fun h => kf ?_ ls H locs hl hL hs hH)
  · first | exact e1.mp h | exact fun q => h (e1.mpr q) | exact e2.mp h | exact e3.mp h | exact e4.mp h | exact e5.mp h
  · first | exact fun q => h (e1.mpr q) | exact e1.mp (Classical.not_not.mp h) | exact e1.mp h | exact Int.not_lt.mp fun q => h (e2.mpr q) | exact Int.not_lt.mp fun q => h (e3.mpr q) | exact Int.not_le.mp fun q => h (e4.mpr q) | exact Int.not_le.mp fun q => h (e5.mpr q)
theorem x_icmp_lt {Γ : xΓ} {own : String} {cc : ByteArray} {nL fr lo mc ms : Nat} (G : xG Γ own cc nL fr lo mc ms) {cells slots n pc : Nat} {T : xT} {L : List (Nat × xV)} {st : List xV} {M : xM} {x y : Int} {off : Int} (tgt : Nat) (ht : (pc : Int) + off = (tgt : Int)) (hd : decode cc pc = .ok (.if_icmp .lt off, 3)) (kt : x < y → xX Γ cells slots n T tgt L st M) (kf : y ≤ x → xX Γ cells slots n T (pc + 3) L st M) : xX Γ cells slots n T pc L (xI y :: xI x :: st) M := by
  obtain ⟨D, p, l, e, R, s, m, args, below, meth, c, Q⟩ := Γ
  obtain ⟨hx, hb, hml, hown, hts, hE, hB, hR⟩ := G
  intro ls H locs hl hL hs hH
  obtain ⟨hyy, hs⟩ := List.forall_mem_cons.mp hs
  obtain ⟨hxx, hs⟩ := List.forall_mem_cons.mp hs
  have e1 := x_eq hxx hyy
  have e2 := x_lt hxx hyy
  have e3 := x_lt hyy hxx
  have e4 := x_le hxx hyy
  have e5 := x_le hyy hxx
  have e0 : Int32.ofInt 0 = 0 := rfl
  skip
  refine lv_icmp_lt (tgt := tgt) hx hb hd ht (fun h => kt ?_ ls H locs hl hL hs hH) (fun h => kf ?_ ls H locs hl hL hs hH)
  · first | exact e1.mp h | exact fun q => h (e1.mpr q) | exact e2.mp h | exact e3.mp h | exact e4.mp h | exact e5.mp h
  · first | exact fun q => h (e1.mpr q) | exact e1.mp (Classical.not_not.mp h) | exact e1.mp h | exact Int.not_lt.mp fun q => h (e2.mpr q) | exact Int.not_lt.mp fun q => h (e3.mpr q) | exact Int.not_le.mp fun q => h (e4.mpr q) | exact Int.not_le.mp fun q => h (e5.mpr q)
theorem x_icmp_ge {Γ : xΓ} {own : String} {cc : ByteArray} {nL fr lo mc ms : Nat} (G : xG Γ own cc nL fr lo mc ms) {cells slots n pc : Nat} {T : xT} {L : List (Nat × xV)} {st : List xV} {M : xM} {x y : Int} {off : Int} (tgt : Nat) (ht : (pc : Int) + off = (tgt : Int)) (hd : decode cc pc = .ok (.if_icmp .ge off, 3)) (kt : y ≤ x → xX Γ cells slots n T tgt L st M) (kf : x < y → xX Γ cells slots n T (pc + 3) L st M) : xX Γ cells slots n T pc L (xI y :: xI x :: st) M := by
  obtain ⟨D, p, l, e, R, s, m, args, below, meth, c, Q⟩ := Γ
  obtain ⟨hx, hb, hml, hown, hts, hE, hB, hR⟩ := G
  intro ls H locs hl hL hs hH
  obtain ⟨hyy, hs⟩ := List.forall_mem_cons.mp hs
  obtain ⟨hxx, hs⟩ := List.forall_mem_cons.mp hs
  have e1 := x_eq hxx hyy
  have e2 := x_lt hxx hyy
  have e3 := x_lt hyy hxx
  have e4 := x_le hxx hyy
  have e5 := x_le hyy hxx
  have e0 : Int32.ofInt 0 = 0 := rfl
  skip
  refine lv_icmp_ge (tgt := tgt) hx hb hd ht (fun h => kt ?_ ls H locs hl hL hs hH) (fun h => kf ?_ ls H locs hl hL hs hH)
  · first | exact e1.mp h | exact fun q => h (e1.mpr q) | exact e2.mp h | exact e3.mp h | exact e4.mp h | exact e5.mp h
  · first | exact fun q => h (e1.mpr q) | exact e1.mp (Classical.not_not.mp h) | exact e1.mp h | exact Int.not_lt.mp fun q => h (e2.mpr q) | exact Int.not_lt.mp fun q => h (e3.mpr q) | exact Int.not_le.mp fun q => h (e4.mpr q) | exact Int.not_le.mp fun q => h (e5.mpr q)
theorem x_icmp_gt {Γ : xΓ} {own : String} {cc : ByteArray} {nL fr lo mc ms : Nat} (G : xG Γ own cc nL fr lo mc ms) {cells slots n pc : Nat} {T : xT} {L : List (Nat × xV)} {st : List xV} {M : xM} {x y : Int} {off : Int} (tgt : Nat) (ht : (pc : Int) + off = (tgt : Int)) (hd : decode cc pc = .ok (.if_icmp .gt off, 3)) (kt : y < x → xX Γ cells slots n T tgt L st M) (kf : x ≤ y → xX Γ cells slots n T (pc + 3) L st M) : xX Γ cells slots n T pc L (xI y :: xI x :: st) M := by
  obtain ⟨D, p, l, e, R, s, m, args, below, meth, c, Q⟩ := Γ
  obtain ⟨hx, hb, hml, hown, hts, hE, hB, hR⟩ := G
  intro ls H locs hl hL hs hH
  obtain ⟨hyy, hs⟩ := List.forall_mem_cons.mp hs
  obtain ⟨hxx, hs⟩ := List.forall_mem_cons.mp hs
  have e1 := x_eq hxx hyy
  have e2 := x_lt hxx hyy
  have e3 := x_lt hyy hxx
  have e4 := x_le hxx hyy
  have e5 := x_le hyy hxx
  have e0 : Int32.ofInt 0 = 0 := rfl
  skip
  refine lv_icmp_gt (tgt := tgt) hx hb hd ht (fun h => kt ?_ ls H locs hl hL hs hH) (fun h => kf ?_ ls H locs hl hL hs hH)
  · first | exact e1.mp h | exact fun q => h (e1.mpr q) | exact e2.mp h | exact e3.mp h | exact e4.mp h | exact e5.mp h
  · first | exact fun q => h (e1.mpr q) | exact e1.mp (Classical.not_not.mp h) | exact e1.mp h | exact Int.not_lt.mp fun q => h (e2.mpr q) | exact Int.not_lt.mp fun q => h (e3.mpr q) | exact Int.not_le.mp fun q => h (e4.mpr q) | exact Int.not_le.mp fun q => h (e5.mpr q)
theorem x_icmp_le {Γ : xΓ} {own : String} {cc : ByteArray} {nL fr lo mc ms : Nat} (G : xG Γ own cc nL fr lo mc ms) {cells slots n pc : Nat} {T : xT} {L : List (Nat × xV)} {st : List xV} {M : xM} {x y : Int} {off : Int} (tgt : Nat) (ht : (pc : Int) + off = (tgt : Int)) (hd : decode cc pc = .ok (.if_icmp .le off, 3)) (kt : x ≤ y → xX Γ cells slots n T tgt L st M) (kf : y < x → xX Γ cells slots n T (pc + 3) L st M) : xX Γ cells slots n T pc L (xI y :: xI x :: st) M := by
  obtain ⟨D, p, l, e, R, s, m, args, below, meth, c, Q⟩ := Γ
  obtain ⟨hx, hb, hml, hown, hts, hE, hB, hR⟩ := G
  intro ls H locs hl hL hs hH
  obtain ⟨hyy, hs⟩ := List.forall_mem_cons.mp hs
  obtain ⟨hxx, hs⟩ := List.forall_mem_cons.mp hs
  have e1 := x_eq hxx hyy
  have e2 := x_lt hxx hyy
  have e3 := x_lt hyy hxx
  have e4 := x_le hxx hyy
  have e5 := x_le hyy hxx
  have e0 : Int32.ofInt 0 = 0 := rfl
  skip
  refine lv_icmp_le (tgt := tgt) hx hb hd ht (fun h => kt ?_ ls H locs hl hL hs hH) (fun h => kf ?_ ls H locs hl hL hs hH)
  · first | exact e1.mp h | exact fun q => h (e1.mpr q) | exact e2.mp h | exact e3.mp h | exact e4.mp h | exact e5.mp h
  · first | exact fun q => h (e1.mpr q) | exact e1.mp (Classical.not_not.mp h) | exact e1.mp h | exact Int.not_lt.mp fun q => h (e2.mpr q) | exact Int.not_lt.mp fun q => h (e3.mpr q) | exact Int.not_le.mp fun q => h (e4.mpr q) | exact Int.not_le.mp fun q => h (e5.mpr q)
theorem x_goto {Γ : xΓ} {own : String} {cc : ByteArray} {nL fr lo mc ms : Nat} (G : xG Γ own cc nL fr lo mc ms) {cells slots n pc : Nat} {T : xT} {L : List (Nat × xV)} {st : List xV} {M : xM} {off : Int} (tgt : Nat) (ht : (pc : Int) + off = (tgt : Int)) (hd : decode cc pc = .ok (.goto off, 3)) (k : xX Γ cells slots n T tgt L st M) : xX Γ cells slots n T pc L st M := by
  obtain ⟨D, p, l, e, R, s, m, args, below, meth, c, Q⟩ := Γ
  obtain ⟨hx, hb, hml, hown, hts, hE, hB, hR⟩ := G
  intro ls H locs hl hL hs hH
  exact lv_goto (tgt := tgt) hx hb hd ht (k ls H locs hl hL hs hH)
theorem x_lcmp {Γ : xΓ} {own : String} {cc : ByteArray} {nL fr lo mc ms : Nat} (G : xG Γ own cc nL fr lo mc ms) {cells slots n pc : Nat} {T : xT} {L : List (Nat × xV)} {st : List xV} {M : xM} {x y : Int} (hd : decode cc pc = .ok (.lcmp, 1)) (k : xX Γ cells slots n T (pc + 1) L (xI (if y < x then 1 else if x = y then 0 else -1) :: st) M) : xX Γ cells slots n T pc L (xL y :: xL x :: st) M := by
  obtain ⟨D, p, l, e, R, s, m, args, below, meth, c, Q⟩ := Γ
  obtain ⟨hx, hb, hml, hown, hts, hE, hB, hR⟩ := G
  intro ls H locs hl hL hs hH
  obtain ⟨hyy, hs⟩ := List.forall_mem_cons.mp hs
  obtain ⟨hxx, hs⟩ := List.forall_mem_cons.mp hs
  have e1 := x_lt64 hyy hxx
  have e2 := x_eq64 hxx hyy
  refine W.lcmp hx hb hd ?_
  have h9 := k ls H locs hl hL (List.forall_mem_cons.mpr ⟨by show i32 _; split <;> (try split) <;> decide, hs⟩) hH
  rw [List.map_cons] at h9
  have e3 : lg_cmp (Int64.ofInt x) (Int64.ofInt y) = Int32.ofInt (if y < x then 1 else if x = y then 0 else -1) := by
    unfold lg_cmp
    by_cases h1 : y < x
    · simp [h1, e1]
    · by_cases h2 : x = y
      · subst h2; simp [h1]
      · simp [h1, h2, e1, e2]
  rw [e3]
  exact h9
theorem x_tabIn {Γ : xΓ} {own : String} {cc : ByteArray} {nL fr lo mc ms : Nat} (G : xG Γ own cc nL fr lo mc ms) {cells slots n pc : Nat} {T : xT} {L : List (Nat × xV)} {st : List xV} {M : xM} {x lo hi dflt off : Int} {offs : Array Int} {len : Nat} (tgt : Nat) (h1 : lo ≤ x) (h2 : x ≤ hi) (ho : offs[(x - lo).toNat]? = some off) (ht : (pc : Int) + off = (tgt : Int)) (hd : decode cc pc = .ok (.tableswitch dflt lo hi offs, len)) (k : xX Γ cells slots n T tgt L st M) : xX Γ cells slots n T pc L (xI x :: st) M := by
  obtain ⟨D, p, l, e, R, s, m, args, below, meth, c, Q⟩ := Γ
  obtain ⟨hx, hb, hml, hown, hts, hE, hB, hR⟩ := G
  intro ls H locs hl hL hs hH
  obtain ⟨hxx, hs⟩ := List.forall_mem_cons.mp hs
  have e := x_toInt (show i32 x from hxx)
  exact lv_tableIn (tgt := tgt) hx hb hd (by rw [e]; omega) (by rw [e]; omega) (by rw [e]; exact ho) ht (k ls H locs hl hL hs hH)
theorem x_tabOut {Γ : xΓ} {own : String} {cc : ByteArray} {nL fr lo mc ms : Nat} (G : xG Γ own cc nL fr lo mc ms) {cells slots n pc : Nat} {T : xT} {L : List (Nat × xV)} {st : List xV} {M : xM} {x lo hi dflt : Int} {offs : Array Int} {len : Nat} (tgt : Nat) (h : x < lo ∨ hi < x) (ht : (pc : Int) + dflt = (tgt : Int)) (hd : decode cc pc = .ok (.tableswitch dflt lo hi offs, len)) (k : xX Γ cells slots n T tgt L st M) : xX Γ cells slots n T pc L (xI x :: st) M := by
  obtain ⟨D, p, l, e, R, s, m, args, below, meth, c, Q⟩ := Γ
  obtain ⟨hx, hb, hml, hown, hts, hE, hB, hR⟩ := G
  intro ls H locs hl hL hs hH
  obtain ⟨hxx, hs⟩ := List.forall_mem_cons.mp hs
  have e := x_toInt (show i32 x from hxx)
  exact lv_tableOut (tgt := tgt) hx hb hd (by rw [e]; exact h) ht (k ls H locs hl hL hs hH)
end
section
/-- what is known of field k of class ci -/
def xFd (ci k : Nat) (ref nm ds : String) (ty : FieldType) (fin : Bool) : Prop :=
  ∃ (C : String) (Tf : u_T) (N : Nat) (ty0 : Nat → FieldType), vwCl[ci]? = some (C, Tf, N) ∧ (∀ w ∈ u_ws C Tf N, w ∈ WS) ∧ k < N ∧ Tf k = (ref, nm, ds, fin) ∧ (∀ k, k < N → parseFieldDescriptor (Tf k).2.2.1 = some (ty0 k)) ∧ (∀ a, a < N → ∀ b, b < N → a ≠ b → (Tf a).2.1 ≠ (Tf b).2.1) ∧ ty0 k = ty ∧ ci < 8 ∧ xN ci = N
/-- a method may link that field by its own pool's entry -/
def xFl (own : String) (idx : Nat) (ref nm ds : String) : Prop := Cond.fieldLink own idx ref nm ds ∈ WS ∨ (own, idx, ref, nm, ds) ∈ xnF
/-- the value of field k of a cell of layout t, whose numbers are f -/
def xfv (ci : Nat) (t : Nat × Nat × (Nat → Option Nat)) (f : Nat → Int) (k : Nat) (v : xV) : Prop := (xB ci k = false ∧ v = xI (f k)) ∨ (xB ci k = true ∧ ∃ b, t.2.2 k = some b ∧ v = xR b)
theorem xo_get {σ : Nat → Nat} {ci k : Nat} {t : Nat × Nat × (Nat → Option Nat)} {f : Nat → Int} {v : xV} (hk : k < xN ci) (h : xfv ci t f k v) : (xo σ ci t.2.2 f)[k]? = some (xc σ v) := by
  unfold xo
  rw [List.getElem?_map, List.getElem?_range hk]
  rcases h with ⟨h1, rfl⟩ | ⟨h1, b, h2, rfl⟩
  · simp [h1, xc]
  · simp [h1, h2, xc, va_rf]
theorem xe_obj {σ : Nat → Nat} {cy : Nat → ClassId} {t : Nat × Nat × (Nat → Option Nat)} {f : Nat → Int} {ci : Nat} (h : t.1 = ci) (hci : ci < 8) : xe σ cy t f = .inr (ci, xo σ ci t.2.2 f) := by
  subst h
  simp [xe, hci]
theorem xr_obj {T : xT} {M : xM} {a k ci : Nat} (hr : xr T M) (hT : (T a).1 = ci) (hci : ci < 8) : i32 (M a k) := (hr a k).2 (by omega)
theorem xfv_ok {T : xT} {M : xM} {a k ci : Nat} {v : xV} (hr : xr T M) (hT : (T a).1 = ci) (hci : ci < 8) (h : xfv ci (T a) (M a) k v) : xk v := by
  rcases h with ⟨-, rfl⟩ | ⟨-, b, -, rfl⟩
  · exact xr_obj hr hT hci
  · exact True.intro
theorem x_get {Γ : xΓ} {own : String} {cc : ByteArray} {nL fr lo mc ms : Nat} (G : xG Γ own cc nL fr lo mc ms) {cells slots n pc : Nat} {T : xT} {L : List (Nat × xV)} {st : List xV} {M : xM} {ci a k idx : Nat} {ref nm ds : String} {ty : FieldType} {fin : Bool} (v : xV) (hf : xFd ci k ref nm ds ty fin) (hl : xFl own idx ref nm ds) (ha : a < n) (hT : (T a).1 = ci) (hv : xfv ci (T a) (M a) k v) (hd : decode cc pc = .ok (.getfield idx, 3)) (kk : xX Γ cells slots n T (pc + 3) L (v :: st) M) : xX Γ cells slots n T pc L (xR a :: st) M := by
  obtain ⟨D, p, l, e, R, s, m, args, below, meth, c, Q⟩ := Γ
  obtain ⟨hx, hb, hml, hown, hts, hE, hB, hR⟩ := G
  obtain ⟨C, Tf, N, ty0, hc, hin, hk, hTk, hty, hnm, hty0, hci, hN⟩ := hf
  intro ls H locs hll hL hs hH
  obtain ⟨hP, hD, hS, hr, hz⟩ := id hH
  have he : (xw D n T M)[a]? = some (D.1 a, .inr (ci, xo D.1 ci (T a).2.2 (M a))) := by rw [xw_get ha, xe_obj hT hci]
  have hvv := xo_get (σ := D.1) (by rw [hN]; exact hk) hv
  have h9 := kk ls H locs hll hL (List.forall_mem_cons.mpr ⟨xfv_ok hr hT hci hv, (List.forall_mem_cons.mp hs).2⟩) hH
  rw [List.map_cons] at h9
  rcases hl with hl | hl
  · exact va_get hx hb hts hin hown hE.2.1 hP a he hc k hk (by rw [hTk]; exact hts _ hl) (by rw [hTk]; exact fun _ h => h) hvv hd h9
  · exact va_getN (host := "FairDraws") hx hb hts hin hown hE.2.1 hP a he hc k hk (by rw [hTk]; exact va_Nw.use rfl (hE.2.2.1 _ hl)) (by rw [hTk]; exact fun _ h => h) hvv hd h9
theorem xo_set {σ : Nat → Nat} {ci k : Nat} {r : Nat → Option Nat} {f : Nat → Int} {z : Int} (hk : k < xN ci) (hB : xB ci k = false) : (xo σ ci r f).set k (.int (Int32.ofInt z)) = xo σ ci r (fun b => if b = k then z else f b) := by
  apply List.ext_getElem?
  intro i
  unfold xo
  by_cases hi : i < xN ci
  · by_cases hk2 : i = k
    · subst hk2
      rw [List.getElem?_set_self (by simp; exact hi)]
      simp [List.getElem?_range hi, hB]
    · rw [List.getElem?_set_ne (Ne.symm hk2)]
      simp [List.getElem?_range hi, hk2]
  · rw [List.getElem?_eq_none (by simp; omega), List.getElem?_eq_none (by simp; omega)]
theorem xo_setr {σ : Nat → Nat} {ci k b : Nat} {r : Nat → Option Nat} {f : Nat → Int} (hk : k < xN ci) (hB : xB ci k = true) : (xo σ ci r f).set k (.ref (σ b)) = xo σ ci (fun i => if i = k then some b else r i) f := by
  apply List.ext_getElem?
  intro i
  unfold xo
  by_cases hi : i < xN ci
  · by_cases hk2 : i = k
    · subst hk2
      rw [List.getElem?_set_self (by simp; exact hi)]
      simp [List.getElem?_range hi, hB, va_rf]
    · rw [List.getElem?_set_ne (Ne.symm hk2)]
      simp [List.getElem?_range hi, hk2]
  · rw [List.getElem?_eq_none (by simp; omega), List.getElem?_eq_none (by simp; omega)]
theorem xo_len {σ : Nat → Nat} {ci : Nat} {r : Nat → Option Nat} {f : Nat → Int} : (xo σ ci r f).length = xN ci := by simp [xo]
theorem xr_st {T : xT} {M : xM} {a k : Nat} {z : Int} (hr : xr T M) (h10 : (T a).1 = 10 → i64 z) (h : ¬ (T a).1 = 10 → i32 z) : xr T (xst M a k z) := by
  intro a2 k2
  rw [xst_eq]
  split
  · rename_i hc
    rw [hc.1]
    exact ⟨h10, h⟩
  · exact hr a2 k2
theorem xst_ne {M : xM} {a k : Nat} {z : Int} : ∀ b, b ≠ a → xst M a k z b = M b := fun b hb => by simp [xst, hb]
theorem xst_self {M : xM} {a k : Nat} {z : Int} : xst M a k z a = fun b => if b = k then z else M a b := by simp [xst]
theorem xH_set {D : xD} {s : State} {n a k9 : Nat} {T T' : xT} {M M' : xM} {H H1 : Heap} {locs : List Loc} (hH : xH D s n T M H locs) (ha : a < n) (z : H1.size = H.size) (oq : ∀ q : Nat, q ≠ D.1 a → H1[q]? = H[q]?) (hat : va_at D.2.2.2 vwCl (D.1 a, xe D.1 D.2.1 (T' a) (M' a)) H1) (hT : ∀ b, b ≠ a → T' b = T b) (hM : ∀ b, b ≠ a → M' b = M b) (hr : xr T' M') : xH D s n T' M' H1 (locs ++ [⟨D.1 a, k9⟩]) := by
  obtain ⟨hP, hD, hS, -, hz⟩ := hH
  refine ⟨?_, ?_, hS.put z oq (hD.2 a _ (xw_get ha)), hr, by rw [z]; exact hz⟩
  · rw [← xw_set ha hT hM]
    exact hP.set hD (xw_get ha) hat oq
  · rw [← xw_set ha hT hM]
    exact hD.set (xw_get ha)
/-- a field's cell, as the machine has it -/
theorem x_cell {D : xD} {n a ci : Nat} {T : xT} {M : xM} {H : Heap} {C : String} {Tf : u_T} {N : Nat} (hP : va_P D.2.2.2 vwCl (xw D n T M) H) (ha : a < n) (hT : (T a).1 = ci) (hci : ci < 8) (hc : vwCl[ci]? = some (C, Tf, N)) : t_OB (D.1 a) (D.2.2.2.1 ci) N (D.2.2.2.2 ci) H (vp_V (xo D.1 ci (T a).2.2 (M a))) := by
  have h := hP a _ (xw_get ha)
  rw [xe_obj hT hci] at h
  obtain ⟨r, h1, h2⟩ := h
  have hr : r = (C, Tf, N) := Option.some.inj (h1.symm.trans hc)
  subst hr
  exact h2
theorem x_put {Γ : xΓ} {own : String} {cc : ByteArray} {nL fr lo mc ms : Nat} (G : xG Γ own cc nL fr lo mc ms) {cells slots n pc : Nat} {T : xT} {L : List (Nat × xV)} {st : List xV} {M : xM} {ci a k idx : Nat} {ref nm ds : String} {z : Int} (hf : xFd ci k ref nm ds .int false) (hl : xFl own idx ref nm ds) (ha : a < n) (hT : (T a).1 = ci) (hB2 : xB ci k = false) (hd : decode cc pc = .ok (.putfield idx, 3)) (kk : xX Γ cells slots n T (pc + 3) L st (xst M a k z)) : xX Γ cells slots n T pc L (xI z :: xR a :: st) M := by
  obtain ⟨D, p, l, e, R, s, m, args, below, meth, c, Q⟩ := Γ
  obtain ⟨hx, hb, hml, hown, hts, hE, hB, hR⟩ := G
  obtain ⟨C, Tf, N, ty0, hc, hin, hk, hTk, hty, hnm, hty0, hci, hN⟩ := hf
  intro ls H locs hll hL hs hH
  obtain ⟨hz0, hs⟩ := List.forall_mem_cons.mp hs
  obtain ⟨-, hs⟩ := List.forall_mem_cons.mp hs
  have hpd : parseFieldDescriptor (Tf k).2.2.1 = some .int := by rw [hty k hk, hty0]
  have hap := va_apart (own := own) hts hin ty0 hty hnm hE.2.1 hc
  obtain ⟨cell, q1, q2, q3, q4⟩ := x_cell hH.1 ha hT hci hc
  obtain ⟨hS9, hfc, kC, hkC, hkind⟩ := hE.2.1.1 ci _ hc
  obtain ⟨cf, kf, fi, f, hi, hsl⟩ := hS9 k hk
  have hlay := hts _ (hin _ (u_in_lay hk))
  unfold u_lay at hlay
  rw [if_neg (by rw [hTk]; exact Bool.false_ne_true)] at hlay
  have hst := (u_facts hfc hkC (u_lays hts hin hk) hi).1
  have h6 := u_store hfc hkC hkind hlay hi hpd (v := .int (Int32.ofInt z)) (rfl) (rfl)
  have hi2 : s.fieldFound? ref nm ds = some (cf, kf, fi, f) := by
    have hi : s.fieldFound? (Tf k).1 (Tf k).2.1 (Tf k).2.2.1 = some (cf, kf, fi, f) := hi
    rw [hTk] at hi
    exact hi
  have fin : ∀ H' : Heap, H'[D.1 a]? = some (cell.setSlot f.slot (.int (Int32.ofInt z))) → H'.size = H.size → (∀ q, q ≠ D.1 a → H'[q]? = H[q]?) → W p l e R s m args below meth c H' (locs ++ [⟨D.1 a, f.slot⟩]) cells slots Q (F0 m (pc + 3) ls (st.map (xc D.1))) := by
    intro H' e1 e2 e3
    refine kk ls H' _ hll hL hs (xH_set (T' := T) hH ha e2 e3 ?_ (fun _ _ => rfl) xst_ne (xr_st hH.2.2.2.1 (fun h => by omega) (fun _ => hz0)))
    rw [xe_obj hT hci, xst_self, ← xo_set (by rw [hN]; exact hk) hB2]
    rw [hsl] at e1
    exact ⟨_, hc, t_OB.to (V := updV (vp_V (xo D.1 ci (T a).2.2 (M a))) k (.int (Int32.ofInt z))) ⟨_, e1, q2, q3, t_set q4 hap hk _⟩ (fun j _ => vp_updV_set (by rw [xo_len, hN]; exact hk) _ j)⟩
  rcases hl with hl | hl
  · exact W.putK hx hb (f := f) ⟨hown, hts _ hl, ⟨_, _, _, hi2⟩, hst⟩ (by rw [q2]; exact h6) q1 q3 (by rw [hsl]; exact k2_hasslot (q4 k hk)) rfl rfl hd fin
  · exact va_WputK (host := "FairDraws") hx hb (f := f) hown (va_Nw.use rfl (hE.2.2.1 _ hl)) hi2 hst (by rw [q2]; exact h6) q1 q3 (by rw [hsl]; exact k2_hasslot (q4 k hk)) rfl rfl hd fin
theorem x_putz {Γ : xΓ} {own : String} {cc : ByteArray} {nL fr lo mc ms : Nat} (G : xG Γ own cc nL fr lo mc ms) {cells slots n pc : Nat} {T : xT} {L : List (Nat × xV)} {st : List xV} {M : xM} {ci a k idx : Nat} {ref nm ds : String} {z : Int} (hz1 : z = 0 ∨ z = 1) (hf : xFd ci k ref nm ds .boolean false) (hl : xFl own idx ref nm ds) (ha : a < n) (hT : (T a).1 = ci) (hB2 : xB ci k = false) (hd : decode cc pc = .ok (.putfield idx, 3)) (kk : xX Γ cells slots n T (pc + 3) L st (xst M a k z)) : xX Γ cells slots n T pc L (xI z :: xR a :: st) M := by
  obtain ⟨D, p, l, e, R, s, m, args, below, meth, c, Q⟩ := Γ
  obtain ⟨hx, hb, hml, hown, hts, hE, hB, hR⟩ := G
  obtain ⟨C, Tf, N, ty0, hc, hin, hk, hTk, hty, hnm, hty0, hci, hN⟩ := hf
  intro ls H locs hll hL hs hH
  obtain ⟨hz0, hs⟩ := List.forall_mem_cons.mp hs
  obtain ⟨-, hs⟩ := List.forall_mem_cons.mp hs
  have hpd : parseFieldDescriptor (Tf k).2.2.1 = some .boolean := by rw [hty k hk, hty0]
  have hap := va_apart (own := own) hts hin ty0 hty hnm hE.2.1 hc
  obtain ⟨cell, q1, q2, q3, q4⟩ := x_cell hH.1 ha hT hci hc
  obtain ⟨hS9, hfc, kC, hkC, hkind⟩ := hE.2.1.1 ci _ hc
  obtain ⟨cf, kf, fi, f, hi, hsl⟩ := hS9 k hk
  have hlay := hts _ (hin _ (u_in_lay hk))
  unfold u_lay at hlay
  rw [if_neg (by rw [hTk]; exact Bool.false_ne_true)] at hlay
  have hst := (u_facts hfc hkC (u_lays hts hin hk) hi).1
  have h6 := u_store hfc hkC hkind hlay hi hpd (v := .int (Int32.ofInt z)) (by rcases hz1 with rfl | rfl <;> rfl) (by rcases hz1 with rfl | rfl <;> rfl)
  have hi2 : s.fieldFound? ref nm ds = some (cf, kf, fi, f) := by
    have hi : s.fieldFound? (Tf k).1 (Tf k).2.1 (Tf k).2.2.1 = some (cf, kf, fi, f) := hi
    rw [hTk] at hi
    exact hi
  have fin : ∀ H' : Heap, H'[D.1 a]? = some (cell.setSlot f.slot (.int (Int32.ofInt z))) → H'.size = H.size → (∀ q, q ≠ D.1 a → H'[q]? = H[q]?) → W p l e R s m args below meth c H' (locs ++ [⟨D.1 a, f.slot⟩]) cells slots Q (F0 m (pc + 3) ls (st.map (xc D.1))) := by
    intro H' e1 e2 e3
    refine kk ls H' _ hll hL hs (xH_set (T' := T) hH ha e2 e3 ?_ (fun _ _ => rfl) xst_ne (xr_st hH.2.2.2.1 (fun h => by omega) (fun _ => hz0)))
    rw [xe_obj hT hci, xst_self, ← xo_set (by rw [hN]; exact hk) hB2]
    rw [hsl] at e1
    exact ⟨_, hc, t_OB.to (V := updV (vp_V (xo D.1 ci (T a).2.2 (M a))) k (.int (Int32.ofInt z))) ⟨_, e1, q2, q3, t_set q4 hap hk _⟩ (fun j _ => vp_updV_set (by rw [xo_len, hN]; exact hk) _ j)⟩
  rcases hl with hl | hl
  · exact W.putK hx hb (f := f) ⟨hown, hts _ hl, ⟨_, _, _, hi2⟩, hst⟩ (by rw [q2]; exact h6) q1 q3 (by rw [hsl]; exact k2_hasslot (q4 k hk)) rfl rfl hd fin
  · exact va_WputK (host := "FairDraws") hx hb (f := f) hown (va_Nw.use rfl (hE.2.2.1 _ hl)) hi2 hst (by rw [q2]; exact h6) q1 q3 (by rw [hsl]; exact k2_hasslot (q4 k hk)) rfl rfl hd fin
theorem xr_Tr {T : xT} {M : xM} {a k b : Nat} (h : xr T M) : xr (xTr T a k b) M := by
  intro q j
  have h8 : (xTr T a k b q).1 = (T q).1 := by
    by_cases hq : q = a
    · subst hq; simp [xTr]
    · simp [xTr, hq]
  rw [h8]
  exact h q j
def xIsInit (Γ : xΓ) : Prop := match Γ with
  | (_, _, _, _, _, _, _, _, _, meth, _, _) => meth.name = "<init>"
theorem x_putr {Γ : xΓ} {own : String} {cc : ByteArray} {nL fr lo mc ms : Nat} (G : xG Γ own cc nL fr lo mc ms) {cells slots n pc : Nat} {T : xT} {L : List (Nat × xV)} {st : List xV} {M : xM} (hinit : xIsInit Γ) {ci a b k idx : Nat} {ref nm ds : String} {ty : FieldType} (hf : xFd ci k ref nm ds ty true) (href : ref = own) (hty1 : ∀ q : Nat, narrow ty (.ref q) = .ref q ∧ fits ty (.ref q) = true) (hl : Cond.fieldLink own idx ref nm ds ∈ WS) (ha : a < n) (hT : (T a).1 = ci) (hB2 : xB ci k = true) (hd : decode cc pc = .ok (.putfield idx, 3)) (kk : xX Γ cells slots n (xTr T a k b) (pc + 3) L st M) : xX Γ cells slots n T pc L (xR b :: xR a :: st) M := by
  obtain ⟨D, p, l, e, R, s, m, args, below, meth, c, Q⟩ := Γ
  obtain ⟨hx, hb, hml, hown, hts, hE, hB, hR⟩ := G
  have hinit : meth.name = "<init>" := hinit
  obtain ⟨C, Tf, N, ty0, hc, hin, hk, hTk, hty, hnm, hty0, hci, hN⟩ := hf
  intro ls H locs hll hL hs hH
  obtain ⟨-, hs⟩ := List.forall_mem_cons.mp hs
  obtain ⟨-, hs⟩ := List.forall_mem_cons.mp hs
  have hpd : parseFieldDescriptor (Tf k).2.2.1 = some ty := by rw [hty k hk, hty0]
  have hap := va_apart (own := own) hts hin ty0 hty hnm hE.2.1 hc
  obtain ⟨cell, q1, q2, q3, q4⟩ := x_cell hH.1 ha hT hci hc
  obtain ⟨hS9, hfc, kC, hkC, hkind⟩ := hE.2.1.1 ci _ hc
  obtain ⟨cf, kf, fi, f, hi, hsl⟩ := hS9 k hk
  have hlay := hts _ (hin _ (u_in_lay hk))
  unfold u_lay at hlay
  rw [if_pos (by rw [hTk])] at hlay
  have hst := (u_facts hfc hkC (u_lays hts hin hk) hi).1
  have hcf : m.cls = cf := by
    obtain ⟨_, _, c', _, _, _, -, -, hf', -, -, -, hown2, -⟩ := Cond.laysFinal_spec hlay
    have e1 : c' = cf := by have := hi.symm.trans hf'; simp at this; exact this.1.symm
    rw [hTk, href] at hown2
    rw [← e1]; exact Option.some.inj (hown.symm.trans hown2)
  have h6 := u_fits hfc hkC hkind (Or.inr hlay) hi hpd (v := .ref (D.1 b)) (hty1 _).1 (hty1 _).2
  have hi2 : s.fieldFound? ref nm ds = some (cf, kf, fi, f) := by
    have hi : s.fieldFound? (Tf k).1 (Tf k).2.1 (Tf k).2.2.1 = some (cf, kf, fi, f) := hi
    rw [hTk] at hi
    exact hi
  refine W.putFinK hx hb hown (hts _ hl) hi2 hst hcf hinit (by rw [q2]; exact h6) q1 q3 (by rw [hsl]; exact k2_hasslot (q4 k hk)) rfl rfl hd fun H' e1 e2 e3 => ?_
  have hT2 : (xTr T a k b a).1 = ci := by simp [xTr, hT]
  refine kk ls H' _ hll hL hs (xH_set (T' := xTr T a k b) (M' := M) hH ha e2 e3 ?_ (fun q hq => by simp [xTr, hq]) (fun _ _ => rfl) ?_)
  · rw [xe_obj hT2 hci]
    have h7 : (xTr T a k b a).2.2 = fun i => if i = k then some b else (T a).2.2 i := by simp [xTr]
    rw [h7, ← xo_setr (by rw [hN]; exact hk) hB2]
    rw [hsl] at e1
    exact ⟨_, hc, t_OB.to (V := updV (vp_V (xo D.1 ci (T a).2.2 (M a))) k (.ref (D.1 b))) ⟨_, e1, q2, q3, t_set q4 hap hk _⟩ (fun j _ => vp_updV_set (by rw [xo_len, hN]; exact hk) _ j)⟩
  · exact xr_Tr hH.2.2.2.1
theorem xe_arr {σ : Nat → Nat} {cy : Nat → ClassId} {t : Nat × Nat × (Nat → Option Nat)} {f : Nat → Int} {c : Nat} (h : t.1 = c) (h1 : ¬ c < 8) (h2 : ¬ c = 10) (h3 : ¬ c = 12) : xe σ cy t f = .inl (cy c, t.2.1, .inl fun j => Int32.ofInt (f j)) := by
  subst h
  simp [xe, h1, h2, h3]
theorem xe_arrL {σ : Nat → Nat} {cy : Nat → ClassId} {t : Nat × Nat × (Nat → Option Nat)} {f : Nat → Int} (h : t.1 = 10) : xe σ cy t f = .inl (cy 10, t.2.1, .inr (.inl fun j => Int64.ofInt (f j))) := by
  simp [xe, h]
theorem xe_arrR {σ : Nat → Nat} {cy : Nat → ClassId} {t : Nat × Nat × (Nat → Option Nat)} {f : Nat → Int} (h : t.1 = 12) : xe σ cy t f = .inl (cy 12, t.2.1, .inr (.inr (.inr (.inr fun j => (t.2.2 j).map σ)))) := by
  simp [xe, h]
theorem xnarb {v : Int} (hv : -128 ≤ v ∧ v < 128) : narrow .byte (.int (Int32.ofInt v)) = .int (Int32.ofInt v) := by
  show Value.int _ = _
  congr 1
  apply Int32.toInt_inj.mp
  rw [x_toInt (by omega), Int8.toInt_toInt32, Int32.toInt_toInt8, x_toInt (by omega)]
  exact Int.bmod_eq_of_le (by simp; omega) (by simp; omega)
theorem x_iald {Γ : xΓ} {own : String} {cc : ByteArray} {nL fr lo mc ms : Nat} (G : xG Γ own cc nL fr lo mc ms) {cells slots n pc : Nat} {T : xT} {L : List (Nat × xV)} {st : List xV} {M : xM} {a : Nat} {i : Int} (ha : a < n) (hT : (T a).1 = 9) (h0 : 0 ≤ i) (h1 : i < (T a).2.1) (hd : decode cc pc = .ok (.iaload, 1)) (kk : xX Γ cells slots n T (pc + 1) L (xI (M a i.toNat) :: st) M) : xX Γ cells slots n T pc L (xI i :: xR a :: st) M := by
  obtain ⟨D, p, l, e, R, s, m, args, below, meth, c, Q⟩ := Γ
  obtain ⟨hx, hb, hml, hown, hts, hE, hB, hR⟩ := G
  intro ls H locs hll hL hs hH
  obtain ⟨hi, hs⟩ := List.forall_mem_cons.mp hs
  obtain ⟨-, hs⟩ := List.forall_mem_cons.mp hs
  have he : (xw D n T M)[a]? = some (D.1 a, .inl (D.2.1 9, (T a).2.1, .inl fun j => Int32.ofInt (M a j))) := by rw [xw_get ha, xe_arr hT (by decide) (by decide) (by decide)]
  have h9 := kk ls H locs hll hL (List.forall_mem_cons.mpr ⟨(hH.2.2.2.1 a i.toNat).2 (by omega), hs⟩) hH
  rw [List.map_cons] at h9
  refine va_iald hx hb hE.2.1 hH.1 a 1 he rfl (x_in hi h0 h1) hd ?_
  try dsimp only
  rw [x_nat hi]
  exact h9
theorem x_iast {Γ : xΓ} {own : String} {cc : ByteArray} {nL fr lo mc ms : Nat} (G : xG Γ own cc nL fr lo mc ms) {cells slots n pc : Nat} {T : xT} {L : List (Nat × xV)} {st : List xV} {M : xM} {a : Nat} {i v : Int} (ha : a < n) (hT : (T a).1 = 9) (h0 : 0 ≤ i) (h1 : i < (T a).2.1) (hd : decode cc pc = .ok (.iastore, 1)) (kk : xX Γ cells slots n T (pc + 1) L st (xst M a i.toNat v)) : xX Γ cells slots n T pc L (xI v :: xI i :: xR a :: st) M := by
  obtain ⟨D, p, l, e, R, s, m, args, below, meth, c, Q⟩ := Γ
  obtain ⟨hx, hb, hml, hown, hts, hE, hB, hR⟩ := G
  intro ls H locs hll hL hs hH
  obtain ⟨hv0, hs⟩ := List.forall_mem_cons.mp hs
  obtain ⟨hi, hs⟩ := List.forall_mem_cons.mp hs
  obtain ⟨-, hs⟩ := List.forall_mem_cons.mp hs
  have he : (xw D n T M)[a]? = some (D.1 a, .inl (D.2.1 9, (T a).2.1, .inl fun j => Int32.ofInt (M a j))) := by rw [xw_get ha, xe_arr hT (by decide) (by decide) (by decide)]
  refine W.iast hx hb (hH.1 a _ he) ((hE.2.1.2 1 _ rfl).1 (T a).2.1 (fun j => .int (Int32.ofInt (M a j)))) (fun q => by cases q) (by show ¬ (Int32.ofInt i < 0 ∨ (arrV _ _ _).slots.size ≤ _); rw [arrV_size]; exact x_in hi h0 h1) rfl rfl hd fun H1 e z oq => ?_
  refine kk ls H1 _ hll hL hs (xH_set (T' := T) hH ha z oq ?_ (fun _ _ => rfl) xst_ne (xr_st hH.2.2.2.1 (fun h => by omega) (fun _ => hv0)))
  rw [xe_arr hT (by decide) (by decide) (by decide), xst_self]
  show H1[D.1 a]? = some (vp_cell _ _)
  rw [e, x_nat hi]
  rw [vp_cell_i, vp_cell_i, arrV_store]
  congr 2
  funext q
  by_cases hq : q = i.toNat
  · subst hq
    simp [updV]
  · simp [updV, hq]
theorem x_bald {Γ : xΓ} {own : String} {cc : ByteArray} {nL fr lo mc ms : Nat} (G : xG Γ own cc nL fr lo mc ms) {cells slots n pc : Nat} {T : xT} {L : List (Nat × xV)} {st : List xV} {M : xM} {a : Nat} {i : Int} (ha : a < n) (hT : (T a).1 = 8) (h0 : 0 ≤ i) (h1 : i < (T a).2.1) (hd : decode cc pc = .ok (.baload, 1)) (kk : xX Γ cells slots n T (pc + 1) L (xI (M a i.toNat) :: st) M) : xX Γ cells slots n T pc L (xI i :: xR a :: st) M := by
  obtain ⟨D, p, l, e, R, s, m, args, below, meth, c, Q⟩ := Γ
  obtain ⟨hx, hb, hml, hown, hts, hE, hB, hR⟩ := G
  intro ls H locs hll hL hs hH
  obtain ⟨hi, hs⟩ := List.forall_mem_cons.mp hs
  obtain ⟨-, hs⟩ := List.forall_mem_cons.mp hs
  have he : (xw D n T M)[a]? = some (D.1 a, .inl (D.2.1 8, (T a).2.1, .inl fun j => Int32.ofInt (M a j))) := by rw [xw_get ha, xe_arr hT (by decide) (by decide) (by decide)]
  have h9 := kk ls H locs hll hL (List.forall_mem_cons.mpr ⟨(hH.2.2.2.1 a i.toNat).2 (by omega), hs⟩) hH
  rw [List.map_cons] at h9
  refine va_bald hx hb hE.2.1 hH.1 a 0 he rfl (x_in hi h0 h1) hd ?_
  try dsimp only
  rw [x_nat hi]
  exact h9
theorem x_bast {Γ : xΓ} {own : String} {cc : ByteArray} {nL fr lo mc ms : Nat} (G : xG Γ own cc nL fr lo mc ms) {cells slots n pc : Nat} {T : xT} {L : List (Nat × xV)} {st : List xV} {M : xM} {a : Nat} {i v : Int} (hv : -128 ≤ v ∧ v < 128) (ha : a < n) (hT : (T a).1 = 8) (h0 : 0 ≤ i) (h1 : i < (T a).2.1) (hd : decode cc pc = .ok (.bastore, 1)) (kk : xX Γ cells slots n T (pc + 1) L st (xst M a i.toNat v)) : xX Γ cells slots n T pc L (xI v :: xI i :: xR a :: st) M := by
  obtain ⟨D, p, l, e, R, s, m, args, below, meth, c, Q⟩ := Γ
  obtain ⟨hx, hb, hml, hown, hts, hE, hB, hR⟩ := G
  intro ls H locs hll hL hs hH
  obtain ⟨hv0, hs⟩ := List.forall_mem_cons.mp hs
  obtain ⟨hi, hs⟩ := List.forall_mem_cons.mp hs
  obtain ⟨-, hs⟩ := List.forall_mem_cons.mp hs
  have he : (xw D n T M)[a]? = some (D.1 a, .inl (D.2.1 8, (T a).2.1, .inl fun j => Int32.ofInt (M a j))) := by rw [xw_get ha, xe_arr hT (by decide) (by decide) (by decide)]
  refine W.bast hx hb (hH.1 a _ he) ((hE.2.1.2 0 _ rfl).1 (T a).2.1 (fun j => .int (Int32.ofInt (M a j)))) (fun q => by cases q) (by show ¬ (Int32.ofInt i < 0 ∨ (arrV _ _ _).slots.size ≤ _); rw [arrV_size]; exact x_in hi h0 h1) rfl rfl hd fun H1 e z oq => ?_
  refine kk ls H1 _ hll hL hs (xH_set (T' := T) hH ha z oq ?_ (fun _ _ => rfl) xst_ne (xr_st hH.2.2.2.1 (fun h => by omega) (fun _ => hv0)))
  rw [xe_arr hT (by decide) (by decide) (by decide), xst_self]
  show H1[D.1 a]? = some (vp_cell _ _)
  rw [e, x_nat hi]
  rw [vp_cell_i, vp_cell_i, arrV_store]
  congr 2
  funext q
  by_cases hq : q = i.toNat
  · subst hq
    simp [updV]
    exact xnarb hv
  · simp [updV, hq]
theorem x_zald {Γ : xΓ} {own : String} {cc : ByteArray} {nL fr lo mc ms : Nat} (G : xG Γ own cc nL fr lo mc ms) {cells slots n pc : Nat} {T : xT} {L : List (Nat × xV)} {st : List xV} {M : xM} {a : Nat} {i : Int} (ha : a < n) (hT : (T a).1 = 11) (h0 : 0 ≤ i) (h1 : i < (T a).2.1) (hd : decode cc pc = .ok (.baload, 1)) (kk : xX Γ cells slots n T (pc + 1) L (xI (M a i.toNat) :: st) M) : xX Γ cells slots n T pc L (xI i :: xR a :: st) M := by
  obtain ⟨D, p, l, e, R, s, m, args, below, meth, c, Q⟩ := Γ
  obtain ⟨hx, hb, hml, hown, hts, hE, hB, hR⟩ := G
  intro ls H locs hll hL hs hH
  obtain ⟨hi, hs⟩ := List.forall_mem_cons.mp hs
  obtain ⟨-, hs⟩ := List.forall_mem_cons.mp hs
  have he : (xw D n T M)[a]? = some (D.1 a, .inl (D.2.1 11, (T a).2.1, .inl fun j => Int32.ofInt (M a j))) := by rw [xw_get ha, xe_arr hT (by decide) (by decide) (by decide)]
  have h9 := kk ls H locs hll hL (List.forall_mem_cons.mpr ⟨(hH.2.2.2.1 a i.toNat).2 (by omega), hs⟩) hH
  rw [List.map_cons] at h9
  refine va_zald hx hb hE.2.1 hH.1 a 3 he rfl (x_in hi h0 h1) hd ?_
  try dsimp only
  rw [x_nat hi]
  exact h9
theorem x_zast {Γ : xΓ} {own : String} {cc : ByteArray} {nL fr lo mc ms : Nat} (G : xG Γ own cc nL fr lo mc ms) {cells slots n pc : Nat} {T : xT} {L : List (Nat × xV)} {st : List xV} {M : xM} {a : Nat} {i v : Int} (hv : v = 0 ∨ v = 1) (ha : a < n) (hT : (T a).1 = 11) (h0 : 0 ≤ i) (h1 : i < (T a).2.1) (hd : decode cc pc = .ok (.bastore, 1)) (kk : xX Γ cells slots n T (pc + 1) L st (xst M a i.toNat v)) : xX Γ cells slots n T pc L (xI v :: xI i :: xR a :: st) M := by
  obtain ⟨D, p, l, e, R, s, m, args, below, meth, c, Q⟩ := Γ
  obtain ⟨hx, hb, hml, hown, hts, hE, hB, hR⟩ := G
  intro ls H locs hll hL hs hH
  obtain ⟨hv0, hs⟩ := List.forall_mem_cons.mp hs
  obtain ⟨hi, hs⟩ := List.forall_mem_cons.mp hs
  obtain ⟨-, hs⟩ := List.forall_mem_cons.mp hs
  have he : (xw D n T M)[a]? = some (D.1 a, .inl (D.2.1 11, (T a).2.1, .inl fun j => Int32.ofInt (M a j))) := by rw [xw_get ha, xe_arr hT (by decide) (by decide) (by decide)]
  refine W.zast hx hb (hH.1 a _ he) ((hE.2.1.2 3 _ rfl).1 (T a).2.1 (fun j => .int (Int32.ofInt (M a j)))) (fun q => by cases q) (by show ¬ (Int32.ofInt i < 0 ∨ (arrV _ _ _).slots.size ≤ _); rw [arrV_size]; exact x_in hi h0 h1) rfl rfl hd fun H1 e z oq => ?_
  refine kk ls H1 _ hll hL hs (xH_set (T' := T) hH ha z oq ?_ (fun _ _ => rfl) xst_ne (xr_st hH.2.2.2.1 (fun h => by omega) (fun _ => hv0)))
  rw [xe_arr hT (by decide) (by decide) (by decide), xst_self]
  show H1[D.1 a]? = some (vp_cell _ _)
  rw [e, x_nat hi]
  rw [vp_cell_i, vp_cell_i, arrV_store]
  congr 2
  funext q
  by_cases hq : q = i.toNat
  · subst hq
    rcases hv with rfl | rfl <;> simp [updV] <;> rfl
  · simp [updV, hq]
theorem x_lald {Γ : xΓ} {own : String} {cc : ByteArray} {nL fr lo mc ms : Nat} (G : xG Γ own cc nL fr lo mc ms) {cells slots n pc : Nat} {T : xT} {L : List (Nat × xV)} {st : List xV} {M : xM} {a : Nat} {i : Int} (ha : a < n) (hT : (T a).1 = 10) (h0 : 0 ≤ i) (h1 : i < (T a).2.1) (hd : decode cc pc = .ok (.laload, 1)) (kk : xX Γ cells slots n T (pc + 1) L (xL (M a i.toNat) :: st) M) : xX Γ cells slots n T pc L (xI i :: xR a :: st) M := by
  obtain ⟨D, p, l, e, R, s, m, args, below, meth, c, Q⟩ := Γ
  obtain ⟨hx, hb, hml, hown, hts, hE, hB, hR⟩ := G
  intro ls H locs hll hL hs hH
  obtain ⟨hi, hs⟩ := List.forall_mem_cons.mp hs
  obtain ⟨-, hs⟩ := List.forall_mem_cons.mp hs
  have he : (xw D n T M)[a]? = some (D.1 a, .inl (D.2.1 10, (T a).2.1, .inr (.inl fun j => Int64.ofInt (M a j)))) := by rw [xw_get ha, xe_arrL hT]
  have h9 := kk ls H locs hll hL (List.forall_mem_cons.mpr ⟨(hH.2.2.2.1 a i.toNat).1 hT, hs⟩) hH
  rw [List.map_cons] at h9
  refine va_lald hx hb hE.2.1 hH.1 a 2 he rfl (x_in hi h0 h1) hd ?_
  try dsimp only
  rw [x_nat hi]
  exact h9
theorem x_last {Γ : xΓ} {own : String} {cc : ByteArray} {nL fr lo mc ms : Nat} (G : xG Γ own cc nL fr lo mc ms) {cells slots n pc : Nat} {T : xT} {L : List (Nat × xV)} {st : List xV} {M : xM} {a : Nat} {i v : Int} (ha : a < n) (hT : (T a).1 = 10) (h0 : 0 ≤ i) (h1 : i < (T a).2.1) (hd : decode cc pc = .ok (.lastore, 1)) (kk : xX Γ cells slots n T (pc + 1) L st (xst M a i.toNat v)) : xX Γ cells slots n T pc L (xL v :: xI i :: xR a :: st) M := by
  obtain ⟨D, p, l, e, R, s, m, args, below, meth, c, Q⟩ := Γ
  obtain ⟨hx, hb, hml, hown, hts, hE, hB, hR⟩ := G
  intro ls H locs hll hL hs hH
  obtain ⟨hv0, hs⟩ := List.forall_mem_cons.mp hs
  obtain ⟨hi, hs⟩ := List.forall_mem_cons.mp hs
  obtain ⟨-, hs⟩ := List.forall_mem_cons.mp hs
  have he : (xw D n T M)[a]? = some (D.1 a, .inl (D.2.1 10, (T a).2.1, .inr (.inl fun j => Int64.ofInt (M a j)))) := by rw [xw_get ha, xe_arrL hT]
  refine W.last hx hb (hH.1 a _ he) ((hE.2.1.2 2 _ rfl).1 (T a).2.1 (fun j => .long (Int64.ofInt (M a j)))) (fun q => by cases q) (by show ¬ (Int32.ofInt i < 0 ∨ (arrV _ _ _).slots.size ≤ _); rw [arrV_size]; exact x_in hi h0 h1) rfl rfl hd fun H1 e z oq => ?_
  refine kk ls H1 _ hll hL hs (xH_set (T' := T) hH ha z oq ?_ (fun _ _ => rfl) xst_ne (xr_st hH.2.2.2.1 (fun _ => hv0) (fun h => absurd hT h)))
  rw [xe_arrL hT, xst_self]
  show H1[D.1 a]? = some (vp_cell _ _)
  rw [e, x_nat hi]
  rw [vp_cell_l, vp_cell_l, arrV_store]
  congr 2
  funext q
  by_cases hq : q = i.toNat
  · subst hq
    simp [updV]
  · simp [updV, hq]
theorem x_aald {Γ : xΓ} {own : String} {cc : ByteArray} {nL fr lo mc ms : Nat} (G : xG Γ own cc nL fr lo mc ms) {cells slots n pc : Nat} {T : xT} {L : List (Nat × xV)} {st : List xV} {M : xM} {a b : Nat} {i : Int} (ha : a < n) (hT : (T a).1 = 12) (h0 : 0 ≤ i) (h1 : i < (T a).2.1) (hb9 : (T a).2.2 i.toNat = some b) (hd : decode cc pc = .ok (.aaload, 1)) (kk : xX Γ cells slots n T (pc + 1) L (xR b :: st) M) : xX Γ cells slots n T pc L (xI i :: xR a :: st) M := by
  obtain ⟨D, p, l, e, R, s, m, args, below, meth, c, Q⟩ := Γ
  obtain ⟨hx, hb, hml, hown, hts, hE, hB, hR⟩ := G
  intro ls H locs hll hL hs hH
  obtain ⟨hi, hs⟩ := List.forall_mem_cons.mp hs
  obtain ⟨-, hs⟩ := List.forall_mem_cons.mp hs
  have he : (xw D n T M)[a]? = some (D.1 a, .inl (D.2.1 12, (T a).2.1, .inr (.inr (.inr (.inr fun j => ((T a).2.2 j).map D.1))))) := by rw [xw_get ha, xe_arrR hT]
  have h9 := kk ls H locs hll hL (List.forall_mem_cons.mpr ⟨True.intro, hs⟩) hH
  rw [List.map_cons] at h9
  refine va_aldq hx hb hE.2.1 hH.1 a 4 he rfl (x_in hi h0 h1) hd ?_
  try dsimp only
  rw [x_nat hi, hb9]
  exact h9
theorem x_aast {Γ : xΓ} {own : String} {cc : ByteArray} {nL fr lo mc ms : Nat} (G : xG Γ own cc nL fr lo mc ms) {cells slots n pc : Nat} {T : xT} {L : List (Nat × xV)} {st : List xV} {M : xM} {a b : Nat} {i : Int} (ha : a < n) (hb8 : b < n) (hTb : (T b).1 = 3) (hT : (T a).1 = 12) (h0 : 0 ≤ i) (h1 : i < (T a).2.1) (hd : decode cc pc = .ok (.aastore, 1)) (kk : xX Γ cells slots n (xTr T a i.toNat b) (pc + 1) L st M) : xX Γ cells slots n T pc L (xR b :: xI i :: xR a :: st) M := by
  obtain ⟨D, p, l, e, R, s, m, args, below, meth, c, Q⟩ := Γ
  obtain ⟨hx, hb, hml, hown, hts, hE, hB, hR⟩ := G
  intro ls H locs hll hL hs hH
  obtain ⟨-, hs⟩ := List.forall_mem_cons.mp hs
  obtain ⟨hi, hs⟩ := List.forall_mem_cons.mp hs
  obtain ⟨-, hs⟩ := List.forall_mem_cons.mp hs
  have he : (xw D n T M)[a]? = some (D.1 a, .inl (D.2.1 12, (T a).2.1, .inr (.inr (.inr (.inr fun j => ((T a).2.2 j).map D.1))))) := by rw [xw_get ha, xe_arrR hT]
  obtain ⟨cellV, g1, g2, g3, -⟩ := x_cell (C := RX3) (Tf := TX3) (N := 13) hH.1 hb8 hTb (by decide) rfl
  have hcls := (hE.2.1.1 3 (RX3, TX3, 13) rfl).2
  obtain ⟨kA, comp, k1, k2, k3, -⟩ := (hE.2.1.2 4 _ rfl).2
  have hcomp : comp = D.2.2.2.1 3 := Option.some.inj (k3.symm.trans hcls.1)
  subst hcomp
  obtain ⟨kC, hkC, -⟩ := id hcls.2
  have hin := x_in hi h0 h1
  refine W.aast hx hb (hH.1 a _ he) (fun q h => by cases h) (fun h => by cases h) k1 k2 rfl hkC ⟨fun q => hin (Or.inl q), by show _ < (arrV _ _ _).slots.size; rw [arrV_size]; exact Nat.not_le.mp fun q => hin (Or.inr q)⟩ g1 (fun q h => by rw [g3] at h; cases h) (by rw [g2]; exact hkC) (by rw [g2]; exact va_assign hcls) rfl rfl hd fun H1 e z oq => ?_
  have hT2 : (xTr T a i.toNat b a).1 = 12 := by simp [xTr, hT]
  refine kk ls H1 _ hll hL hs (xH_set (T' := xTr T a i.toNat b) (M' := M) hH ha z oq ?_ (fun q hq => by simp [xTr, hq]) (fun _ _ => rfl) (xr_Tr hH.2.2.2.1))
  rw [xe_arrR hT2]
  show H1[D.1 a]? = some (vp_cell _ _)
  rw [e, x_nat hi]
  have h7 : (xTr T a i.toNat b a).2.1 = (T a).2.1 := by simp [xTr]
  rw [h7, vp_cell_q, vp_cell_q, arrV_store]
  congr 2
  funext q
  by_cases hq : q = i.toNat
  · subst hq
    simp [updV, xTr, va_rf]
  · simp [updV, xTr, hq]
theorem x_alen {Γ : xΓ} {own : String} {cc : ByteArray} {nL fr lo mc ms : Nat} (G : xG Γ own cc nL fr lo mc ms) {cells slots n pc : Nat} {T : xT} {L : List (Nat × xV)} {st : List xV} {M : xM} {a cl : Nat} (t0 : Nat) {ty : FieldType} (ha : a < n) (hT : (T a).1 = cl) (h8 : ¬ cl < 8) (ht : ∀ cy : Nat → ClassId, (xty cy)[t0]? = some (cy cl, ty)) (hlen : (T a).2.1 < 2147483648) (hd : decode cc pc = .ok (.arraylength, 1)) (kk : xX Γ cells slots n T (pc + 1) L (xI ((T a).2.1 : Int) :: st) M) : xX Γ cells slots n T pc L (xR a :: st) M := by
  obtain ⟨D, p, l, e, R, s, m, args, below, meth, c, Q⟩ := Γ
  obtain ⟨hx, hb, hml, hown, hts, hE, hB, hR⟩ := G
  intro ls H locs hll hL hs hH
  have h9 := kk ls H locs hll hL (List.forall_mem_cons.mpr ⟨by show i32 _; omega, (List.forall_mem_cons.mp hs).2⟩) hH
  rw [List.map_cons] at h9
  have hv : Int32.ofNat (T a).2.1 = Int32.ofInt ((T a).2.1 : Int) := by
    apply Int32.toInt_inj.mp
    rw [x_toInt (by omega)]
    exact nI_toInt hlen
  by_cases hc1 : cl = 10
  · subst hc1
    exact va_alen (x := ((T a).2.1, .inr (.inl fun j => Int64.ofInt (M a j)))) hx hb hE.2.1 hH.1 a t0 (by rw [xw_get ha, xe_arrL hT]) (ht _) hv hd h9
  · by_cases hc2 : cl = 12
    · subst hc2
      exact va_alen (x := ((T a).2.1, .inr (.inr (.inr (.inr fun j => ((T a).2.2 j).map D.1))))) hx hb hE.2.1 hH.1 a t0 (by rw [xw_get ha, xe_arrR hT]) (ht _) hv hd h9
    · exact va_alen (x := ((T a).2.1, .inl fun j => Int32.ofInt (M a j))) hx hb hE.2.1 hH.1 a t0 (by rw [xw_get ha, xe_arr hT h8 hc1 hc2]) (ht _) hv hd h9
end
section
abbrev xY : Type := MethodName × ByteArray × Nat × Option FieldType
abbrev xPt : Type := Option xV → Nat → xT → xM → Prop
/-- a method's start and end, over the small machine -/
def xPc (D : xD) (as : List xV) (n : Nat) (T : xT) (M : xM) : Array Value → State → Prop := fun v U => v = (as.map (xc D.1)).toArray ∧ (∀ a ∈ as, xk a) ∧ va_P D.2.2.2 vwCl (xw D n T M) U.heap ∧ va_D (xA D.2.2.1) (xw D n T M) ∧ xr T M ∧ U.heap.size = D.2.2.1 + n ∧ xE D U
def xQc (D : xD) (P : xPt) : Array Value → State → Outcome → State → Prop := fun _ s o t => (∃ (r : Option xV) (n : Nat) (T : xT) (M : xM), o = .returned (r.map (xc D.1)) ∧ (∀ v, r = some v → xk v) ∧ P r n T M ∧ va_P D.2.2.2 vwCl (xw D n T M) t.heap ∧ va_D (xA D.2.2.1) (xw D n T M) ∧ xr T M ∧ t.heap.size = D.2.2.1 + n) ∧ va_F (xA D.2.2.1) s t
/-- method y (code, locals, answer's type), called on as over the memory M, ends with P; fr frames, lo words of locals, mc cells, ms slots are enough -/
def xC (D : xD) (l : Launch) (y : xY) (fr lo mc ms : Nat) (as : List xV) (n : Nat) (T : xT) (M : xM) (P : xPt) : Prop :=
  Met l y.1 (Cond.code y.1 y.2.1 y.2.2.1 y.2.2.2 :: WS) { frames := fr, cells := mc, slots := ms, locals := lo } (xPc D as n T M) (xQc D P) mc ms (xA D.2.2.1)
def xYb (y : xY) (np : Nat) : Prop := Cond.code y.1 y.2.1 y.2.2.1 y.2.2.2 ∈ WS ∧ Cond.initialized y.1.cls ∈ WS ∧ (y.1.cls ≠ "java/lang/invoke/MethodHandle" ∧ y.1.cls ≠ "java/lang/invoke/VarHandle" ∧ (parseMethodDescriptor y.1.desc).map (fun d => d.parameters.length) = some np)
def xMl (own : String) (idx : Nat) (y : MethodName) : Prop := Cond.methodLink own idx y ∈ WS ∨ (own, idx, y) ∈ xnM
theorem xC.mono {D : xD} {l : Launch} {y : xY} {fr lo mc ms : Nat} {as : List xV} {n : Nat} {T : xT} {M : xM} {P P' : xPt} (h : xC D l y fr lo mc ms as n T M P) (hP : ∀ r n2 T2 M2, P r n2 T2 M2 → P' r n2 T2 M2) : xC D l y fr lo mc ms as n T M P' := by
  unfold xC Met MetFree at h ⊢
  intro p e h1 h2 h3 s m args below h4 h5 h6 h7
  obtain ⟨k, o, g1, g2, g3, ⟨⟨r, n2, T2, M2, q1, q2, q3, q4⟩, q5⟩, g5⟩ := h p e h1 h2 h3 s m args below h4 h5 h6 h7
  exact ⟨k, o, g1, g2, g3, ⟨⟨r, n2, T2, M2, q1, q2, hP _ _ _ _ q3, q4⟩, q5⟩, g5⟩
theorem xgood {y : xY} {np : Nat} (h : xYb y np) : GoodIn WS (Cond.code y.1 y.2.1 y.2.2.1 y.2.2.2 :: WS) := by
  intro w hw
  rcases List.mem_cons.mp hw with rfl | hw
  · exact ⟨h.1, Or.inl rfl⟩
  · exact ⟨hw, ws_good w hw⟩
theorem xblind {D : xD} {as : List xV} {n : Nat} {T : xT} {M : xM} : FrameBlind (xPc D as n T M) := by
  intro a U g mk h
  obtain ⟨h1, h2, h3, h4, h5, h6, h7⟩ := h
  exact ⟨h1, h2, h3, h4, h5, h6, xE.same rfl rfl h7⟩
theorem xpre {D : xD} {s : State} {n : Nat} {T : xT} {M : xM} {H : Heap} {locs : List Loc} {as : List xV} (hE : xE D s) (hH : xH D s n T M H locs) (has : ∀ a ∈ as, xk a) : ∀ U : State, U.heap = H → s.WarmedH U.vm → xPc D as n T M (as.map (xc D.1)).toArray U := by
  intro U hU hW
  obtain ⟨h1, h2, h3, h4, h5⟩ := hH
  exact ⟨rfl, has, by rw [hU]; exact h1, h2, h4, by rw [hU]; exact h5, hE.at h3 hU hW⟩
section XGO
variable {p : Program} {l : Launch} {e : Env} {R : Room} {s : State} {m : MethodId} {args : Array Value} {below : List Frame} {meth : Method} {c : Code} {H : Heap} {locs : List Loc} {cells slots : Nat} {Q : State → Prop}
theorem x_goon {D : xD} {n pc mc2 ms2 : Nat} {T : xT} {M : xM} {P : xPt} {ls : Array Slot} {st0 rest : List Value} {a : Array Value} (hr : va_Run p l e R s m args below meth c H locs cells slots mc2 ms2 (F0 m pc ls st0) rest (xQc D P a) (xA D.2.2.1)) (hH : xH D s n T M H locs)
    (kk : ∀ (r : Option xV) (n2 : Nat) (T2 : xT) (M2 : xM) (H1 : Heap) (locs1 : List Loc), (∀ v, r = some v → xk v) → P r n2 T2 M2 → xH D s n2 T2 M2 H1 locs1 → W p l e R s m args below meth c H1 locs1 (cells + mc2) (slots + ms2) Q (F0 m (pc + 3) ls ((r.map (xc D.1)).toList ++ rest))) : W p l e R s m args below meth c H locs cells slots Q (F0 m pc ls st0) := by
  intro T9 hT X
  obtain ⟨v, st₀, t, T', L, h0, X', hL, e1, e2, ⟨⟨r, n2, T2, M2, hv, hrk, hp, hP1, hD1, hr1, hz1⟩, hz, hk⟩, st⟩ := hr T9 hT X
  cases hv
  rw [h0] at hz hk
  obtain ⟨-, -, hS, -, -⟩ := hH
  obtain ⟨t2, a1, b1⟩ := kk r n2 T2 M2 T'.heap (locs ++ L) hrk hp ⟨by rw [e1]; exact hP1, hD1, ⟨Nat.le_trans hS.1 (by rw [e1]; exact hz), fun q h1 h2 => by rw [e1, hk q (Nat.lt_of_lt_of_le h1 hS.1) h2]; exact hS.2.1 q h1 h2, fun q hq => by
      rcases List.mem_append.mp hq with h | h
      · exact hS.2.2 q h
      · exact hL q h⟩, hr1, by rw [e1]; exact hz1⟩ T' rfl X'
  exact ⟨t2, st t2 a1, b1⟩
end XGO
theorem xst_split {σ : Nat → Nat} {as st : List xV} : (as.reverse ++ st).map (xc σ) = (as.map (xc σ)).reverse ++ st.map (xc σ) := by
  rw [List.map_append, List.map_reverse]
theorem xroom {m : MethodId} {pc : Nat} {ls : Array Slot} {σ : Nat → Nat} {st : List xV} {st0 : List Value} (h : (st.map xcat).sum ≤ 8) : 2 * (F0 m pc ls st0).monitorRoom + ((st.map (xc σ)).map fun v => v.category).sum ≤ 8 := by
  have e : (st.map (xc σ)).map (fun v => v.category) = st.map xcat := by
    rw [List.map_map]
    exact List.map_congr_left fun v _ => xcat_eq σ v
  have := lv_room (m := m) (pc := pc) (ls := ls) (rest := st0) (st := st.map (xc σ)) (by rw [e]; exact h)
  exact this
theorem xk_app {as st : List xV} (h : ∀ v ∈ as.reverse ++ st, xk v) : (∀ v ∈ as, xk v) ∧ ∀ v ∈ st, xk v :=
  ⟨fun v hv => h v (List.mem_append_left _ (List.mem_reverse.mpr hv)), fun v hv => h v (List.mem_append_right _ hv)⟩
theorem xk_res {r : Option xV} {st : List xV} (hr : ∀ v, r = some v → xk v) (hs : ∀ v ∈ st, xk v) : ∀ v ∈ r.toList ++ st, xk v := by
  intro v hv
  rcases List.mem_append.mp hv with h | h
  · cases r with
    | none => cases h
    | some w =>
      rw [show v = w from List.mem_singleton.mp h]
      exact hr w rfl
  · exact hs v h
theorem xm_res {σ : Nat → Nat} {r : Option xV} {st : List xV} : (r.toList ++ st).map (xc σ) = (r.map (xc σ)).toList ++ st.map (xc σ) := by
  cases r <;> rfl
theorem x_callS {Γ : xΓ} {own : String} {cc : ByteArray} {nL fr lo mc ms : Nat} (G : xG Γ own cc nL fr lo mc ms) {cells slots n pc : Nat} {T : xT} {L : List (Nat × xV)} {st : List xV} {M : xM} {y : xY} {np idx fr2 lo2 mc2 ms2 : Nat} {as : List xV} {P : xPt} (hy : xYb y np) (hsta : Cond.static y.1 ∈ WS) (hlk : xMl own idx y.1) (hnp : as.length = np) (hC : xC Γ.1 Γ.2.2.1 y fr2 lo2 mc2 ms2 as n T M P) (hRo : fr2 + 1 ≤ fr ∧ 8 + (y.2.2.1 + 11) + lo2 ≤ lo) (hCe : cells + mc2 ≤ mc ∧ slots + ms2 ≤ ms) (hcat : (st.map xcat).sum ≤ 8) (hd : decode cc pc = .ok (.invokestatic idx, 3)) (kk : ∀ r n2 T2 M2, P r n2 T2 M2 → xX Γ (cells + mc2) (slots + ms2) n2 T2 (pc + 3) L (r.toList ++ st) M2) : xX Γ cells slots n T pc L (as.reverse ++ st) M := by
  obtain ⟨D, p, l, e, R, s, m, args, below, meth, c, Q⟩ := Γ
  obtain ⟨hx, hb, hml, hown, hts, hE, hB, hR⟩ := G
  intro ls H locs hl hL hs hH
  have hs := xk_app hs
  rw [xst_split]
  have hm : as.map (xc D.1) = as.map (xc D.1) := rfl
  have hlen : (as.map (xc D.1)).length = np := by rw [List.length_map]; exact hnp
  have hPre : PreS s H (xPc D as n T M) (as.map (xc D.1)) := ⟨xblind, xpre hE hH hs.1⟩
  have hRm : ({ frames := fr2, cells := mc2, slots := ms2, locals := lo2 } : Room).frames + 1 ≤ R.frames ∧ 8 + (y.2.2.1 + 11) + ({ frames := fr2, cells := mc2, slots := ms2, locals := lo2 } : Room).locals ≤ R.locals := by rw [hR]; exact hRo
  have hcs : cells + mc2 ≤ R.cells ∧ slots + ms2 ≤ R.slots := by rw [hR]; exact hCe
  have hrun : va_Run p l e R s m args below meth c H locs cells slots mc2 ms2 (F0 m pc ls ((as.map (xc D.1)).reverse ++ st.map (xc D.1))) (st.map (xc D.1)) (xQc D P (as.map (xc D.1)).toArray) (xA D.2.2.1) := by
    rcases hlk with hlk | hlk
    · exact va_runS ⟨hx, hb, hml, hown, hts⟩ hC ⟨callB_of np hts (xgood hy) rfl rfl rfl (hts _ hy.2.1) (hts _ hlk) hy.2.2 hRm, hts _ hsta⟩ hPre rfl hlen (by rw [← hml]; exact hl.1) rfl (xroom hcat) hd hcs
    · exact va_runSN (host := "FairDraws") ⟨hx, hb, hml, hown, hts⟩ hC ⟨va_cnB np hts (xgood hy) rfl rfl rfl (hE.2.2.2.1 _ hlk) (hts _ hy.2.1) hy.2.2 hRm, hts _ hsta, True.intro⟩ hPre rfl hlen (by rw [← hml]; exact hl.1) rfl (xroom hcat) hd hcs
  refine x_goon (n := n) (T := T) (M := M) (P := P) hrun hH fun r n2 T2 M2 H1 locs1 hrk hp hH1 => ?_
  have h9 := kk r n2 T2 M2 hp ls H1 locs1 hl hL (xk_res hrk hs.2) hH1
  rw [xm_res] at h9
  exact h9
theorem x_callV {Γ : xΓ} {own : String} {cc : ByteArray} {nL fr lo mc ms : Nat} (G : xG Γ own cc nL fr lo mc ms) {cells slots n pc : Nat} {T : xT} {L : List (Nat × xV)} {st : List xV} {M : xM} {y : xY} {np idx fr2 lo2 mc2 ms2 : Nat} {as : List xV} {P : xPt} {ci a : Nat} {Tf : u_T} {N : Nat} (hvc : vwCl[ci]? = some (y.1.cls, Tf, N)) (hci : ci < 8) (ha : a < n) (hT : (T a).1 = ci) (hy : xYb y np) (hins : Cond.instanceMethod y.1 ∈ WS) (hsel : Cond.selects y.1.cls y.1 y.1 ∈ WS) (hlk : xMl own idx y.1) (hnp : as.length = np) (hC : xC Γ.1 Γ.2.2.1 y fr2 lo2 mc2 ms2 (xR a :: as) n T M P) (hRo : fr2 + 1 ≤ fr ∧ 8 + (y.2.2.1 + 11) + lo2 ≤ lo) (hCe : cells + mc2 ≤ mc ∧ slots + ms2 ≤ ms) (hcat : (st.map xcat).sum ≤ 8) (hd : decode cc pc = .ok (.invokevirtual idx, 3)) (kk : ∀ r n2 T2 M2, P r n2 T2 M2 → xX Γ (cells + mc2) (slots + ms2) n2 T2 (pc + 3) L (r.toList ++ st) M2) : xX Γ cells slots n T pc L (as.reverse ++ xR a :: st) M := by
  obtain ⟨D, p, l, e, R, s, m, args, below, meth, c, Q⟩ := Γ
  obtain ⟨hx, hb, hml, hown, hts, hE, hB, hR⟩ := G
  intro ls H locs hl hL hs hH
  have hs := xk_app hs
  have hs : (∀ v ∈ as, xk v) ∧ ∀ v ∈ st, xk v := ⟨hs.1, (List.forall_mem_cons.mp hs.2).2⟩
  rw [xst_split]
  have hlen : (as.map (xc D.1)).length = np := by rw [List.length_map]; exact hnp
  have hRec : ∃ cellB : Cell, H[D.1 a]? = some cellB ∧ cellB.vm.isStatics = false ∧ s.vm.findClass y.1.cls = some cellB.cls := va_recv hE.2.1 hH.1 (q0 := a) hvc (by rw [xw_get ha, xe_obj hT hci])
  have hPre : PreV s H y.1.cls (D.1 a) (xPc D (xR a :: as) n T M) (as.map (xc D.1)) := ⟨xblind, hRec, xpre hE hH (List.forall_mem_cons.mpr ⟨True.intro, hs.1⟩)⟩
  have hRm : ({ frames := fr2, cells := mc2, slots := ms2, locals := lo2 } : Room).frames + 1 ≤ R.frames ∧ 8 + (y.2.2.1 + 11) + ({ frames := fr2, cells := mc2, slots := ms2, locals := lo2 } : Room).locals ≤ R.locals := by rw [hR]; exact hRo
  have hcs : cells + mc2 ≤ R.cells ∧ slots + ms2 ≤ R.slots := by rw [hR]; exact hCe
  have hrun : va_Run p l e R s m args below meth c H locs cells slots mc2 ms2 (F0 m pc ls ((as.map (xc D.1)).reverse ++ (xR a :: st).map (xc D.1))) (st.map (xc D.1)) (xQc D P (Value.ref (D.1 a) :: as.map (xc D.1)).toArray) (xA D.2.2.1) := by
    rcases hlk with hlk | hlk
    · exact va_runV ⟨hx, hb, hml, hown, hts⟩ hC ⟨callB_of np hts (xgood hy) rfl rfl rfl (hts _ hy.2.1) (hts _ hlk) hy.2.2 hRm, hts _ hins, hts _ hsel⟩ hPre rfl hlen (by rw [← hml]; exact hl.1) rfl (xroom hcat) hd hcs
    · exact va_runVN (host := "FairDraws") ⟨hx, hb, hml, hown, hts⟩ hC ⟨va_cnB np hts (xgood hy) rfl rfl rfl (hE.2.2.2.1 _ hlk) (hts _ hy.2.1) hy.2.2 hRm, hts _ hins, hts _ hsel⟩ hPre rfl hlen (by rw [← hml]; exact hl.1) rfl (xroom hcat) hd hcs
  refine x_goon (n := n) (T := T) (M := M) (P := P) hrun hH fun r n2 T2 M2 H1 locs1 hrk hp hH1 => ?_
  have h9 := kk r n2 T2 M2 hp ls H1 locs1 hl hL (xk_res hrk hs.2) hH1
  rw [xm_res] at h9
  exact h9
theorem x_callI {Γ : xΓ} {own : String} {cc : ByteArray} {nL fr lo mc ms : Nat} (G : xG Γ own cc nL fr lo mc ms) {cells slots n pc : Nat} {T : xT} {L : List (Nat × xV)} {st : List xV} {M : xM} {y : xY} {np idx fr2 lo2 mc2 ms2 : Nat} {as : List xV} {P : xPt} {a : Nat} (hy : xYb y np) (hins : Cond.instanceMethod y.1 ∈ WS) (hini : y.1.name = "<init>") (hret : y.2.2.2 = none) (hlk : xMl own idx y.1) (hnp : as.length = np) (hC : xC Γ.1 Γ.2.2.1 y fr2 lo2 mc2 ms2 (xR a :: as) n T M P) (hRo : fr2 + 1 ≤ fr ∧ 8 + (y.2.2.1 + 11) + lo2 ≤ lo) (hCe : cells + mc2 ≤ mc ∧ slots + ms2 ≤ ms) (hcat : (st.map xcat).sum ≤ 8) (hd : decode cc pc = .ok (.invokespecial idx, 3)) (kk : ∀ r n2 T2 M2, P r n2 T2 M2 → xX Γ (cells + mc2) (slots + ms2) n2 T2 (pc + 3) L (r.toList ++ st) M2) : xX Γ cells slots n T pc L (as.reverse ++ xR a :: st) M := by
  obtain ⟨D, p, l, e, R, s, m, args, below, meth, c, Q⟩ := Γ
  obtain ⟨hx, hb, hml, hown, hts, hE, hB, hR⟩ := G
  obtain ⟨y1, y2, y3, y4⟩ := y
  subst hret
  intro ls H locs hl hL hs hH
  have hs := xk_app hs
  have hs : (∀ v ∈ as, xk v) ∧ ∀ v ∈ st, xk v := ⟨hs.1, (List.forall_mem_cons.mp hs.2).2⟩
  rw [xst_split]
  have hlen : (as.map (xc D.1)).length = np := by rw [List.length_map]; exact hnp
  have hPre : PreS s H (xPc D (xR a :: as) n T M) (Value.ref (D.1 a) :: as.map (xc D.1)) := ⟨xblind, xpre hE hH (List.forall_mem_cons.mpr ⟨True.intro, hs.1⟩)⟩
  have hRm : ({ frames := fr2, cells := mc2, slots := ms2, locals := lo2 } : Room).frames + 1 ≤ R.frames ∧ 8 + (y3 + 11) + ({ frames := fr2, cells := mc2, slots := ms2, locals := lo2 } : Room).locals ≤ R.locals := by rw [hR]; exact hRo
  have hcs : cells + mc2 ≤ R.cells ∧ slots + ms2 ≤ R.slots := by rw [hR]; exact hCe
  have hrun : va_Run p l e R s m args below meth c H locs cells slots mc2 ms2 (F0 m pc ls ((as.map (xc D.1)).reverse ++ (xR a :: st).map (xc D.1))) (st.map (xc D.1)) (xQc D P (Value.ref (D.1 a) :: as.map (xc D.1)).toArray) (xA D.2.2.1) := by
    rcases hlk with hlk | hlk
    · exact va_runI ⟨hx, hb, hml, hown, hts⟩ hC ⟨callB_of np hts (xgood hy) rfl rfl rfl (hts _ hy.2.1) (hts _ hlk) hy.2.2 hRm, hini, hts _ hins⟩ hPre rfl hlen (by rw [← hml]; exact hl.1) rfl (xroom hcat) hd hcs
    · exact va_runIN (host := "FairDraws") ⟨hx, hb, hml, hown, hts⟩ hC ⟨va_cnB np hts (xgood hy) rfl rfl rfl (hE.2.2.2.1 _ hlk) (hts _ hy.2.1) hy.2.2 hRm, hini, hts _ hins⟩ hPre rfl hlen (by rw [← hml]; exact hl.1) rfl (xroom hcat) hd hcs
  refine x_goon (n := n) (T := T) (M := M) (P := P) hrun hH fun r n2 T2 M2 H1 locs1 hrk hp hH1 => ?_
  have h9 := kk r n2 T2 M2 hp ls H1 locs1 hl hL (xk_res hrk hs.2) hH1
  rw [xm_res] at h9
  exact h9
/-- the end that a method's walk is after -/
def xRt (Γ : xΓ) (P : xPt) (ret : Option FieldType) (mc ms : Nat) : Prop := match Γ with
  | (D, _, _, _, _, s, _, args, below, meth, _, Q) => Q = MQ below (xQc D P) args s mc ms (xA D.2.2.1) ∧ meth.sig.returnType = ret ∧ meth.locks = false
theorem x_widen {Γ : xΓ} {cells slots mc ms n pc : Nat} {T : xT} {L : List (Nat × xV)} {st : List xV} {M : xM} (h1 : cells ≤ mc) (h2 : slots ≤ ms) (k : xX Γ mc ms n T pc L st M) : xX Γ cells slots n T pc L st M := by
  obtain ⟨D, p, l, e, R, s, m, args, below, meth, c, Q⟩ := Γ
  intro ls H locs hl hL hs hH
  exact W.widen h1 h2 (k ls H locs hl hL hs hH)
theorem x_iret {Γ : xΓ} {own : String} {cc : ByteArray} {nL fr lo mc ms : Nat} (G : xG Γ own cc nL fr lo mc ms) {n pc : Nat} {T : xT} {L : List (Nat × xV)} {M : xM} {z : Int} {P : xPt} (Rt : xRt Γ P (some .int) mc ms) (hd : decode cc pc = .ok (.ireturn, 1)) (hP : P (some (xI z)) n T M) : xX Γ mc ms n T pc L [xI z] M := by
  obtain ⟨D, p, l, e, R, s, m, args, below, meth, c, Q⟩ := Γ
  obtain ⟨hx, hb, hml, hown, hts, hE, hB, hR⟩ := G
  obtain ⟨rfl, hr, hlocks⟩ := Rt
  intro ls H locs hl hL hs hH
  exact W.iret hx hb hr (fun t ht _ => ⟨⟨some (xI z), n, T, M, rfl, by intro v hv; cases hv; exact hs _ List.mem_cons_self, hP, by rw [ht]; exact hH.1, hH.2.1, hH.2.2.2.1, by rw [ht]; exact hH.2.2.2.2⟩, hH.2.2.1.F ht⟩) hH.2.2.1.2.2 hd hlocks
theorem x_zret {Γ : xΓ} {own : String} {cc : ByteArray} {nL fr lo mc ms : Nat} (G : xG Γ own cc nL fr lo mc ms) {n pc : Nat} {T : xT} {L : List (Nat × xV)} {M : xM} {z : Int} (hz : z = 0 ∨ z = 1) {P : xPt} (Rt : xRt Γ P (some .boolean) mc ms) (hd : decode cc pc = .ok (.ireturn, 1)) (hP : P (some (xI z)) n T M) : xX Γ mc ms n T pc L [xI z] M := by
  obtain ⟨D, p, l, e, R, s, m, args, below, meth, c, Q⟩ := Γ
  obtain ⟨hx, hb, hml, hown, hts, hE, hB, hR⟩ := G
  obtain ⟨rfl, hr, hlocks⟩ := Rt
  intro ls H locs hl hL hs hH
  exact W.zret (ty := .boolean) hx hb hr (by rcases hz with rfl | rfl <;> rfl) (fun t ht _ => ⟨⟨some (xI z), n, T, M, rfl, by intro v hv; cases hv; exact hs _ List.mem_cons_self, hP, by rw [ht]; exact hH.1, hH.2.1, hH.2.2.2.1, by rw [ht]; exact hH.2.2.2.2⟩, hH.2.2.1.F ht⟩) hH.2.2.1.2.2 hd hlocks
theorem x_nret {Γ : xΓ} {own : String} {cc : ByteArray} {nL fr lo mc ms : Nat} (G : xG Γ own cc nL fr lo mc ms) {n pc : Nat} {T : xT} {L : List (Nat × xV)} {M : xM} {z : Int} {ty : FieldType} (hz : narrow ty (.int (Int32.ofInt z)) = .int (Int32.ofInt z)) {P : xPt} (Rt : xRt Γ P (some ty) mc ms) (hd : decode cc pc = .ok (.ireturn, 1)) (hP : P (some (xI z)) n T M) : xX Γ mc ms n T pc L [xI z] M := by
  obtain ⟨D, p, l, e, R, s, m, args, below, meth, c, Q⟩ := Γ
  obtain ⟨hx, hb, hml, hown, hts, hE, hB, hR⟩ := G
  obtain ⟨rfl, hr, hlocks⟩ := Rt
  intro ls H locs hl hL hs hH
  exact W.zret (ty := ty) hx hb hr hz (fun t ht _ => ⟨⟨some (xI z), n, T, M, rfl, by intro v hv; cases hv; exact hs _ List.mem_cons_self, hP, by rw [ht]; exact hH.1, hH.2.1, hH.2.2.2.1, by rw [ht]; exact hH.2.2.2.2⟩, hH.2.2.1.F ht⟩) hH.2.2.1.2.2 hd hlocks
theorem x_lret {Γ : xΓ} {own : String} {cc : ByteArray} {nL fr lo mc ms : Nat} (G : xG Γ own cc nL fr lo mc ms) {n pc : Nat} {T : xT} {L : List (Nat × xV)} {M : xM} {z : Int} {P : xPt} (Rt : xRt Γ P (some .long) mc ms) (hd : decode cc pc = .ok (.lreturn, 1)) (hP : P (some (xL z)) n T M) : xX Γ mc ms n T pc L [xL z] M := by
  obtain ⟨D, p, l, e, R, s, m, args, below, meth, c, Q⟩ := Γ
  obtain ⟨hx, hb, hml, hown, hts, hE, hB, hR⟩ := G
  obtain ⟨rfl, hr, hlocks⟩ := Rt
  intro ls H locs hl hL hs hH
  exact W.lret hx hb hr (fun t ht _ => ⟨⟨some (xL z), n, T, M, rfl, by intro v hv; cases hv; exact hs _ List.mem_cons_self, hP, by rw [ht]; exact hH.1, hH.2.1, hH.2.2.2.1, by rw [ht]; exact hH.2.2.2.2⟩, hH.2.2.1.F ht⟩) hH.2.2.1.2.2 hd hlocks
theorem x_vret {Γ : xΓ} {own : String} {cc : ByteArray} {nL fr lo mc ms : Nat} (G : xG Γ own cc nL fr lo mc ms) {n pc : Nat} {T : xT} {L : List (Nat × xV)} {M : xM}  {P : xPt} (Rt : xRt Γ P none mc ms) (hd : decode cc pc = .ok (.return_, 1)) (hP : P (none) n T M) : xX Γ mc ms n T pc L [] M := by
  obtain ⟨D, p, l, e, R, s, m, args, below, meth, c, Q⟩ := Γ
  obtain ⟨hx, hb, hml, hown, hts, hE, hB, hR⟩ := G
  obtain ⟨rfl, hr, hlocks⟩ := Rt
  intro ls H locs hl hL hs hH
  exact W.vret hx hb hr (fun t ht _ => ⟨⟨none, n, T, M, rfl, (by intro v hv; cases hv), hP, by rw [ht]; exact hH.1, hH.2.1, hH.2.2.2.1, by rw [ht]; exact hH.2.2.2.2⟩, hH.2.2.1.F ht⟩) hH.2.2.1.2.2 hd hlocks
def xargs : Nat → List xV → List (Nat × xV)
  | _, [] => []
  | i, v :: vs => (i, v) :: xargs (if xcat v = 2 then i + 2 else i + 1) vs
theorem xargs_eq (σ : Nat → Nat) : ∀ (as : List xV) (i : Nat), lv_args i (as.map (xc σ)) = (xargs i as).map fun q => (q.1, xc σ q.2)
  | [], _ => rfl
  | v :: vs, i => by
    simp only [List.map_cons, lv_args, xargs, xcat_eq]
    rw [xargs_eq σ vs]
theorem xargs_ok : ∀ (as : List xV) (i : Nat), (∀ a ∈ as, xk a) → ∀ q ∈ xargs i as, xk q.2
  | [], _, _ => fun q hq => by cases hq
  | v :: vs, i, h => by
    obtain ⟨h1, h2⟩ := List.forall_mem_cons.mp h
    exact List.forall_mem_cons.mpr ⟨h1, xargs_ok vs _ h2⟩
theorem xsl_len (σ : Nat → Nat) : ∀ as : List xV, (lg_sl (as.map (xc σ))).length = (as.map xcat).sum
  | [] => rfl
  | v :: vs => by
    have h := xsl_len σ vs
    unfold lg_sl at h ⊢
    rw [List.map_cons, List.flatMap_cons, List.length_append, h, List.map_cons, List.sum_cons, xcat_eq]
    congr 1
    rcases v with z | z | z <;> rfl
/-- a contract out of the walk of the method's body -/
theorem x_met {D : xD} {l : Launch} (y : xY) {fr lo mc ms : Nat} {as : List xV} {n : Nat} {T : xT} {M : xM} {P : xPt} (hy : plainName y.1.cls = true) (hw : (as.map xcat).sum ≤ y.2.2.1)
    (body : ∀ Γ : xΓ, xG Γ y.1.cls y.2.1 y.2.2.1 fr lo mc ms → xRt Γ P y.2.2.2 mc ms → (y.1.name = "<init>" → xIsInit Γ) → xX Γ 0 0 n T 0 (xargs 0 as) [] M) : xC D l y fr lo mc ms as n T M P := by
  refine Met.ofW (cc := y.2.1) (maxL := y.2.2.1) (ret := y.2.2.2) hy rfl ?_
  intro p e s m args below meth c s₁ B hml hv
  obtain ⟨rfl, hak, hP, hD, hr, hz, hE⟩ := hv
  have hts := atoms_spec (ws := Cond.code y.1 y.2.1 y.2.2.1 y.2.2.2 :: WS) B.pre
  have hown : s.vm.findClass y.1.cls = some m.cls := findClass_of_methodNamed B.named
  have hl := lv_entry (as.map (xc D.1)) (n := y.2.2.1) (by rw [xsl_len]; exact hw)
  rw [lg_entry_eq]
  rw [xargs_eq] at hl
  refine body (D, p, l, e, _, s, m, _, below, meth, c, _) ⟨B.exec, B.bytes, hml, hown, fun w hw => hts w (List.mem_cons_of_mem _ hw), hE, by rw [hz]; exact Nat.le_add_right _ _, rfl⟩ ⟨rfl, B.returns, B.notSynchronized⟩ (fun h => by
    show meth.name = "<init>"
    rw [(name_of_methodNamed B.named B.method).1]; exact h) _ _ _ (by rw [hml]; exact hl) (xargs_ok as 0 hak) (fun v hv => by cases hv) ⟨hP, hD, va_S.rf, hr, hz⟩
end
section
theorem xH_push {D : xD} {s : State} {n k len : Nat} {T : xT} {M : xM} {H H1 : Heap} {locs : List Loc} (hH : xH D s n T M H locs) (hσ : ∀ k, k < 1000000 → D.1 k = D.2.2.1 + k) (hn : n < 1000000) (z1 : H1.size = H.size + 1) (o1 : ∀ q : Nat, q < H.size → H1[q]? = H[q]?) (hat : va_at D.2.2.2 vwCl (D.1 n, xe D.1 D.2.1 (k, len, fun _ => none) (fun _ => 0)) H1) : xH D s (n + 1) (xTn T n k len) (xsr M n fun _ => 0) H1 locs := by
  obtain ⟨hP, hD, hS, hr, hz⟩ := hH
  have hq : D.1 n = H.size := by rw [hσ n hn, hz]
  have hT1 : ∀ a, a < n → xTn T n k len a = T a := fun a h => by simp [xTn, Nat.ne_of_lt h]
  have hM1 : ∀ a, a < n → xsr M n (fun _ => 0) a = M a := fun a h => by simp [xsr, Nat.ne_of_lt h]
  have hT2 : xTn T n k len n = (k, len, fun _ => none) := by simp [xTn]
  have hM2 : xsr M n (fun _ => 0) n = fun _ => 0 := by simp [xsr]
  have hk : ∀ (k : Nat) (x : Nat × va_E), (xw D n T M)[k]? = some x → H1[x.1]? = H[x.1]? := fun k x hx => o1 x.1 ((hP k x hx).lt)
  have hA : xA D.2.2.1 (D.1 n) := by rw [hq, hz]; exact Nat.le_add_right _ _
  refine ⟨?_, ?_, ⟨Nat.le_trans hS.1 (by omega), fun x h1 h2 => (o1 x (Nat.lt_of_lt_of_le h1 hS.1)).trans (hS.2.1 x h1 h2), hS.2.2⟩, ?_, by rw [z1, hz]; omega⟩
  · rw [← xw_push hT1 hM1, hT2, hM2]
    refine (hP.kept hk).app (fun k x hx => ?_)
    have hz : k < 1 := (List.getElem?_eq_some_iff.mp hx).1
    rw [show k = 0 by omega] at hx
    cases hx
    exact hat
  · rw [← xw_push hT1 hM1, hT2, hM2]
    exact hD.push hP hq hA
  · intro a j
    by_cases ha : a = n
    · subst ha
      rw [hM2]
      exact ⟨fun _ => (by decide : i64 0), fun _ => (by decide : i32 0)⟩
    · have e1 : xTn T n k len a = T a := by simp [xTn, ha]
      have e2 : xsr M n (fun _ => 0) a = M a := by simp [xsr, ha]
      rw [e1, e2]
      exact hr a j
/-- what is known of class ci, to make an object of it -/
def xCd (ci : Nat) (C : String) (N : Nat) : Prop := ∃ (Tf : u_T) (ty0 : Nat → FieldType), vwCl[ci]? = some (C, Tf, N) ∧ (∀ w ∈ u_ws C Tf N, w ∈ WS) ∧ (∀ k, k < N → parseFieldDescriptor (Tf k).2.2.1 = some (ty0 k)) ∧ (∀ (σ : Nat → Nat) (j : Nat), j < N → defaultValue (ty0 j) = vp_V (xo σ ci (fun _ => none) (fun _ => 0)) j) ∧ ci < 8 ∧ Cond.instantiable C N ∈ WS ∧ Cond.initialized C ∈ WS
theorem x_new {Γ : xΓ} {own : String} {cc : ByteArray} {nL fr lo mc ms : Nat} (G : xG Γ own cc nL fr lo mc ms) {cells slots n pc : Nat} {T : xT} {L : List (Nat × xV)} {st : List xV} {M : xM} {ci idx N : Nat} {C : String} (hC : xCd ci C N) (w1 : Cond.classLink own idx C ∈ WS) (hn : n < 1000000) (hCe : cells + 1 ≤ mc ∧ slots + N ≤ ms) (hd : decode cc pc = .ok (.new idx, 3)) (kk : xX Γ (cells + 1) (slots + N) (n + 1) (xTn T n ci 0) (pc + 3) L (xR n :: st) (xsr M n fun _ => 0)) : xX Γ cells slots n T pc L st M := by
  obtain ⟨D, p, l, e, R, s, m, args, below, meth, c, Q⟩ := Γ
  obtain ⟨hx, hb, hml, hown, hts, hE, hB, hR⟩ := G
  obtain ⟨Tf, ty0, hc, hin, hty, hdef, hci, w2, w3⟩ := hC
  intro ls H locs hll hL hs hH
  have hKn := hE.2.1.1 ci _ hc
  refine W.newcK hx hb hown (hts _ w1) (hts _ w2) (hts _ w3) rfl hd (by rw [hR]; exact hCe.1) (by rw [hR]; exact hCe.2) hKn.2.1 rfl fun H1 kC hkC e1 z1 o1 => ?_
  have hq : D.1 n = H.size := by rw [hE.1 n hn, hH.2.2.2.2]
  have h9 := kk ls H1 locs hll hL (List.forall_mem_cons.mpr ⟨True.intro, hs⟩) (xH_push hH hE.1 hn z1 o1 (by
    rw [xe_obj rfl hci]
    exact ⟨_, hc, by rw [hq]; exact (u_born ty0 hts hin hKn hkC e1 hty).to (fun j hj => hdef D.1 j hj)⟩))
  rw [List.map_cons, show xc D.1 (xR n) = .ref H.size from by rw [← hq]; rfl] at h9
  exact h9
theorem x_newi {Γ : xΓ} {own : String} {cc : ByteArray} {nL fr lo mc ms : Nat} (G : xG Γ own cc nL fr lo mc ms) {cells slots n pc : Nat} {T : xT} {L : List (Nat × xV)} {st : List xV} {M : xM} {z : Int} {N : Nat} (hz : z = N) (hN : N ≤ 100000) (w1 : Cond.arrayClass .int ∈ WS) (hn : n < 1000000) (hCe : cells + 1 ≤ mc ∧ slots + N ≤ ms) (hd : decode cc pc = .ok (.newarray .int, 2)) (kk : xX Γ (cells + 1) (slots + N) (n + 1) (xTn T n 9 N) (pc + 2) L (xR n :: st) (xsr M n fun _ => 0)) : xX Γ cells slots n T pc L (xI z :: st) M := by
  obtain ⟨D, p, l, e, R, s, m, args, below, meth, c, Q⟩ := Γ
  obtain ⟨hx, hb, hml, hown, hts, hE, hB, hR⟩ := G
  subst hz
  intro ls H locs hll hL hs hH
  obtain ⟨hv, hs⟩ := List.forall_mem_cons.mp hs
  have hv : i32 (N : Int) := hv
  have hq : D.1 n = H.size := by rw [hE.1 n hn, hH.2.2.2.2]
  refine va_newaK (atype := .int) hx hb (hts _ w1) rfl hd rfl (n := Int32.ofInt N) (N := N) (by
    intro h
    have := (x_lt hv (y := 0) (by decide)).mp h
    omega) (by rw [x_nat hv]; rfl) (by
    show N * componentBytes .int ≤ _
    have : componentBytes .int ≤ 8 := by decide
    have := Nat.mul_le_mul_left N this
    omega) (by rw [hR]; exact hCe.1) (by rw [hR]; exact hCe.2) rfl fun H1 cA e1 z1 o1 hAr hNm => ?_
  have hcA : D.2.1 9 = cA := by
    have h2 : s.vm.findClass ("[" ++ (FieldType.toString .int)) = some (D.2.1 9) := (hE.2.1.2 1 _ rfl).2
    exact Option.some.inj (h2.symm.trans hNm)
  have h9 := kk ls H1 locs hll hL (List.forall_mem_cons.mpr ⟨True.intro, hs⟩) (xH_push hH hE.1 hn z1 o1 (by
    rw [xe_arr (c := 9) rfl (by decide) (by decide) (by decide)]
    show H1[D.1 n]? = some (vp_cell _ _)
    rw [hq, e1, vp_cell_i, hcA]
    rfl))
  rw [List.map_cons, show xc D.1 (xR n) = .ref H.size from by rw [← hq]; rfl] at h9
  exact h9
theorem x_newb {Γ : xΓ} {own : String} {cc : ByteArray} {nL fr lo mc ms : Nat} (G : xG Γ own cc nL fr lo mc ms) {cells slots n pc : Nat} {T : xT} {L : List (Nat × xV)} {st : List xV} {M : xM} {z : Int} {N : Nat} (hz : z = N) (hN : N ≤ 100000) (w1 : Cond.arrayClass .byte ∈ WS) (hn : n < 1000000) (hCe : cells + 1 ≤ mc ∧ slots + N ≤ ms) (hd : decode cc pc = .ok (.newarray .byte, 2)) (kk : xX Γ (cells + 1) (slots + N) (n + 1) (xTn T n 8 N) (pc + 2) L (xR n :: st) (xsr M n fun _ => 0)) : xX Γ cells slots n T pc L (xI z :: st) M := by
  obtain ⟨D, p, l, e, R, s, m, args, below, meth, c, Q⟩ := Γ
  obtain ⟨hx, hb, hml, hown, hts, hE, hB, hR⟩ := G
  subst hz
  intro ls H locs hll hL hs hH
  obtain ⟨hv, hs⟩ := List.forall_mem_cons.mp hs
  have hv : i32 (N : Int) := hv
  have hq : D.1 n = H.size := by rw [hE.1 n hn, hH.2.2.2.2]
  refine va_newaK (atype := .byte) hx hb (hts _ w1) rfl hd rfl (n := Int32.ofInt N) (N := N) (by
    intro h
    have := (x_lt hv (y := 0) (by decide)).mp h
    omega) (by rw [x_nat hv]; rfl) (by
    show N * componentBytes .byte ≤ _
    have : componentBytes .byte ≤ 8 := by decide
    have := Nat.mul_le_mul_left N this
    omega) (by rw [hR]; exact hCe.1) (by rw [hR]; exact hCe.2) rfl fun H1 cA e1 z1 o1 hAr hNm => ?_
  have hcA : D.2.1 8 = cA := by
    have h2 : s.vm.findClass ("[" ++ (FieldType.toString .byte)) = some (D.2.1 8) := (hE.2.1.2 0 _ rfl).2
    exact Option.some.inj (h2.symm.trans hNm)
  have h9 := kk ls H1 locs hll hL (List.forall_mem_cons.mpr ⟨True.intro, hs⟩) (xH_push hH hE.1 hn z1 o1 (by
    rw [xe_arr (c := 8) rfl (by decide) (by decide) (by decide)]
    show H1[D.1 n]? = some (vp_cell _ _)
    rw [hq, e1, vp_cell_i, hcA]
    rfl))
  rw [List.map_cons, show xc D.1 (xR n) = .ref H.size from by rw [← hq]; rfl] at h9
  exact h9
theorem x_newz {Γ : xΓ} {own : String} {cc : ByteArray} {nL fr lo mc ms : Nat} (G : xG Γ own cc nL fr lo mc ms) {cells slots n pc : Nat} {T : xT} {L : List (Nat × xV)} {st : List xV} {M : xM} {z : Int} {N : Nat} (hz : z = N) (hN : N ≤ 100000) (w1 : Cond.arrayClass .boolean ∈ WS) (hn : n < 1000000) (hCe : cells + 1 ≤ mc ∧ slots + N ≤ ms) (hd : decode cc pc = .ok (.newarray .boolean, 2)) (kk : xX Γ (cells + 1) (slots + N) (n + 1) (xTn T n 11 N) (pc + 2) L (xR n :: st) (xsr M n fun _ => 0)) : xX Γ cells slots n T pc L (xI z :: st) M := by
  obtain ⟨D, p, l, e, R, s, m, args, below, meth, c, Q⟩ := Γ
  obtain ⟨hx, hb, hml, hown, hts, hE, hB, hR⟩ := G
  subst hz
  intro ls H locs hll hL hs hH
  obtain ⟨hv, hs⟩ := List.forall_mem_cons.mp hs
  have hv : i32 (N : Int) := hv
  have hq : D.1 n = H.size := by rw [hE.1 n hn, hH.2.2.2.2]
  refine va_newaK (atype := .boolean) hx hb (hts _ w1) rfl hd rfl (n := Int32.ofInt N) (N := N) (by
    intro h
    have := (x_lt hv (y := 0) (by decide)).mp h
    omega) (by rw [x_nat hv]; rfl) (by
    show N * componentBytes .boolean ≤ _
    have : componentBytes .boolean ≤ 8 := by decide
    have := Nat.mul_le_mul_left N this
    omega) (by rw [hR]; exact hCe.1) (by rw [hR]; exact hCe.2) rfl fun H1 cA e1 z1 o1 hAr hNm => ?_
  have hcA : D.2.1 11 = cA := by
    have h2 : s.vm.findClass ("[" ++ (FieldType.toString .boolean)) = some (D.2.1 11) := (hE.2.1.2 3 _ rfl).2
    exact Option.some.inj (h2.symm.trans hNm)
  have h9 := kk ls H1 locs hll hL (List.forall_mem_cons.mpr ⟨True.intro, hs⟩) (xH_push hH hE.1 hn z1 o1 (by
    rw [xe_arr (c := 11) rfl (by decide) (by decide) (by decide)]
    show H1[D.1 n]? = some (vp_cell _ _)
    rw [hq, e1, vp_cell_i, hcA]
    rfl))
  rw [List.map_cons, show xc D.1 (xR n) = .ref H.size from by rw [← hq]; rfl] at h9
  exact h9
theorem x_newl {Γ : xΓ} {own : String} {cc : ByteArray} {nL fr lo mc ms : Nat} (G : xG Γ own cc nL fr lo mc ms) {cells slots n pc : Nat} {T : xT} {L : List (Nat × xV)} {st : List xV} {M : xM} {z : Int} {N : Nat} (hz : z = N) (hN : N ≤ 100000) (w1 : Cond.arrayClass .long ∈ WS) (hn : n < 1000000) (hCe : cells + 1 ≤ mc ∧ slots + N ≤ ms) (hd : decode cc pc = .ok (.newarray .long, 2)) (kk : xX Γ (cells + 1) (slots + N) (n + 1) (xTn T n 10 N) (pc + 2) L (xR n :: st) (xsr M n fun _ => 0)) : xX Γ cells slots n T pc L (xI z :: st) M := by
  obtain ⟨D, p, l, e, R, s, m, args, below, meth, c, Q⟩ := Γ
  obtain ⟨hx, hb, hml, hown, hts, hE, hB, hR⟩ := G
  subst hz
  intro ls H locs hll hL hs hH
  obtain ⟨hv, hs⟩ := List.forall_mem_cons.mp hs
  have hv : i32 (N : Int) := hv
  have hq : D.1 n = H.size := by rw [hE.1 n hn, hH.2.2.2.2]
  refine va_newaK (atype := .long) hx hb (hts _ w1) rfl hd rfl (n := Int32.ofInt N) (N := N) (by
    intro h
    have := (x_lt hv (y := 0) (by decide)).mp h
    omega) (by rw [x_nat hv]; rfl) (by
    show N * componentBytes .long ≤ _
    have : componentBytes .long ≤ 8 := by decide
    have := Nat.mul_le_mul_left N this
    omega) (by rw [hR]; exact hCe.1) (by rw [hR]; exact hCe.2) rfl fun H1 cA e1 z1 o1 hAr hNm => ?_
  have hcA : D.2.1 10 = cA := by
    have h2 : s.vm.findClass ("[" ++ (FieldType.toString .long)) = some (D.2.1 10) := (hE.2.1.2 2 _ rfl).2
    exact Option.some.inj (h2.symm.trans hNm)
  have h9 := kk ls H1 locs hll hL (List.forall_mem_cons.mpr ⟨True.intro, hs⟩) (xH_push hH hE.1 hn z1 o1 (by
    rw [xe_arrL rfl]
    show H1[D.1 n]? = some (vp_cell _ _)
    rw [hq, e1, vp_cell_l, hcA]
    rfl))
  rw [List.map_cons, show xc D.1 (xR n) = .ref H.size from by rw [← hq]; rfl] at h9
  exact h9
theorem x_newR {Γ : xΓ} {own : String} {cc : ByteArray} {nL fr lo mc ms : Nat} (G : xG Γ own cc nL fr lo mc ms) {cells slots n pc : Nat} {T : xT} {L : List (Nat × xV)} {st : List xV} {M : xM} {z : Int} {N idx : Nat} (hz : z = N) (hN : N ≤ 100000) (w1 : Cond.classLink own idx "FairDraws$State" ∈ WS) (hn : n < 1000000) (hCe : cells + 1 ≤ mc ∧ slots + N ≤ ms) (hd : decode cc pc = .ok (.anewarray idx, 3)) (kk : xX Γ (cells + 1) (slots + N) (n + 1) (xTn T n 12 N) (pc + 3) L (xR n :: st) (xsr M n fun _ => 0)) : xX Γ cells slots n T pc L (xI z :: st) M := by
  obtain ⟨D, p, l, e, R, s, m, args, below, meth, c, Q⟩ := Γ
  obtain ⟨hx, hb, hml, hown, hts, hE, hB, hR⟩ := G
  subst hz
  intro ls H locs hll hL hs hH
  obtain ⟨hv, hs⟩ := List.forall_mem_cons.mp hs
  have hv : i32 (N : Int) := hv
  have hq : D.1 n = H.size := by rw [hE.1 n hn, hH.2.2.2.2]
  have hnat : (Int32.ofInt N).toNatClampNeg = N := by rw [x_nat hv]; rfl
  refine W.anew hx hb hown (hts _ w1) (va_AO.use hE.2.2.2.2.1) rfl hd rfl (n := Int32.ofInt N) (by
    intro h
    have := (x_lt hv (y := 0) (by decide)).mp h
    omega) (by rw [hnat]; omega) (by rw [hR]; exact hCe.1) (by rw [hR, hnat]; exact hCe.2) fun cA kA comp f1 f2 f3 f4 => ?_
  rw [hnat]
  have hcA : D.2.1 12 = cA := by
    obtain ⟨kA', comp', k1, k2, k3, k4⟩ := (hE.2.1.2 4 _ rfl).2
    exact Option.some.inj (k4.symm.trans f1)
  have h9 := kk ls (H.push { cls := cA, slots := Array.replicate N .null, vm := .none }) locs hll hL (List.forall_mem_cons.mpr ⟨True.intro, hs⟩) (xH_push hH hE.1 hn (by rw [Array.size_push]) (fun q hq => by rw [Array.getElem?_push, if_neg (Nat.ne_of_lt hq)]) (by
    rw [xe_arrR rfl]
    show (H.push _)[D.1 n]? = some (vp_cell _ _)
    rw [hq, vp_cell_q, Array.getElem?_push_size, hcA, arrV_new]
    rfl))
  rw [List.map_cons, show xc D.1 (xR n) = .ref H.size from by rw [← hq]; rfl] at h9
  exact h9
theorem x_objInit {Γ : xΓ} {own : String} {cc : ByteArray} {nL fr lo mc ms : Nat} (G : xG Γ own cc nL fr lo mc ms) {cells slots n pc : Nat} {T : xT} {L : List (Nat × xV)} {st : List xV} {M : xM} {a idx : Nat} (w1 : Cond.methodLink own idx Lib.objectInit ∈ WS) (w2 : Cond.instanceMethod Lib.objectInit ∈ WS) (w3 : Cond.code Lib.objectInit ⟨#[0xb1]⟩ 1 none ∈ WS) (hRo : 1 ≤ fr ∧ 20 ≤ lo) (hcat : (st.map xcat).sum ≤ 8) (hd : decode cc pc = .ok (.invokespecial idx, 3)) (kk : xX Γ cells slots n T (pc + 3) L st M) : xX Γ cells slots n T pc L (xR a :: st) M := by
  obtain ⟨D, p, l, e, R, s, m, args, below, meth, c, Q⟩ := Γ
  obtain ⟨hx, hb, hml, hown, hts, hE, hB, hR⟩ := G
  intro ls H locs hll hL hs hH
  have h8 := xroom (m := m) (pc := pc) (ls := ls) (σ := D.1) (st0 := (xR a :: st).map (xc D.1)) hcat
  exact W.objInit hx hb hown (hts _ w1) (hts _ w2) (hts _ w3) rfl (by rw [hml]; rw [← hml]; exact hll.1) rfl hd (by rw [hR]; exact hRo.1) (by rw [hR]; show _ ≤ lo; omega) (kk ls H locs hll hL (List.forall_mem_cons.mp hs).2 hH)
theorem x_min {Γ : xΓ} {own : String} {cc : ByteArray} {nL fr lo mc ms : Nat} (G : xG Γ own cc nL fr lo mc ms) {cells slots n pc : Nat} {T : xT} {L : List (Nat × xV)} {st : List xV} {M : xM} {x y : Int} {idx : Nat} (w1 : Cond.methodLink own idx Lib.Math.min.name ∈ WS) (w2 : Cond.static Lib.Math.min.name ∈ WS) (w3 : Cond.initialized "java/lang/Math" ∈ WS) (w4 : Cond.code Lib.Math.min.name Lib.Math.min.code 2 (some .int) ∈ WS) (hRo : 1 ≤ fr ∧ 21 ≤ lo) (hCe : cells ≤ mc ∧ slots ≤ ms) (hcat : (st.map xcat).sum ≤ 8) (hd : decode cc pc = .ok (.invokestatic idx, 3)) (kk : xX Γ cells slots n T (pc + 3) L (xI (if y < x then y else x) :: st) M) : xX Γ cells slots n T pc L (xI y :: xI x :: st) M := by
  obtain ⟨D, p, l, e, R, s, m, args, below, meth, c, Q⟩ := Γ
  obtain ⟨hx, hb, hml, hown, hts, hE, hB, hR⟩ := G
  intro ls H locs hll hL hs hH
  obtain ⟨hy, hs⟩ := List.forall_mem_cons.mp hs
  obtain ⟨hxx, hs⟩ := List.forall_mem_cons.mp hs
  have e : (st.map (xc D.1)).map (fun v => v.category) = st.map xcat := by
    rw [List.map_map]
    exact List.map_congr_left fun v _ => xcat_eq D.1 v
  refine va_mmin hx hb hll.1.symm hown (hts _ w1) (hts _ w2) (hts _ w3) (hts _ w4) (by rw [hR]; exact hRo.1) (by rw [hR, e]; show _ ≤ lo; omega) (by rw [hR]; exact hCe.1) (by rw [hR]; exact hCe.2) hd ?_
  have h9 := kk ls H locs hll hL (List.forall_mem_cons.mpr ⟨by split; exact hy; exact hxx, hs⟩) hH
  rw [List.map_cons] at h9
  rw [show (if Int32.ofInt y < Int32.ofInt x then Int32.ofInt y else Int32.ofInt x) = Int32.ofInt (if y < x then y else x) by
    by_cases h : y < x
    · rw [if_pos h, if_pos ((x_lt hy hxx).mpr h)]
    · rw [if_neg h, if_neg (fun q => h ((x_lt hy hxx).mp q))]]
  exact h9
theorem x_abs {Γ : xΓ} {own : String} {cc : ByteArray} {nL fr lo mc ms : Nat} (G : xG Γ own cc nL fr lo mc ms) {cells slots n pc : Nat} {T : xT} {L : List (Nat × xV)} {st : List xV} {M : xM} {x : Int} {idx : Nat} (h0 : -1000000 ≤ x) (w1 : Cond.methodLink own idx Lib.Math.abs.name ∈ WS) (w2 : Cond.static Lib.Math.abs.name ∈ WS) (w3 : Cond.initialized "java/lang/Math" ∈ WS) (w4 : Cond.code Lib.Math.abs.name Lib.Math.abs.code 1 (some .int) ∈ WS) (hRo : 1 ≤ fr ∧ 21 ≤ lo) (hCe : cells ≤ mc ∧ slots ≤ ms) (hcat : (st.map xcat).sum ≤ 8) (hd : decode cc pc = .ok (.invokestatic idx, 3)) (kk : xX Γ cells slots n T (pc + 3) L (xI (if 0 ≤ x then x else -x) :: st) M) : xX Γ cells slots n T pc L (xI x :: st) M := by
  obtain ⟨D, p, l, e, R, s, m, args, below, meth, c, Q⟩ := Γ
  obtain ⟨hx, hb, hml, hown, hts, hE, hB, hR⟩ := G
  intro ls H locs hll hL hs hH
  obtain ⟨hxx, hs⟩ := List.forall_mem_cons.mp hs
  have hxx : i32 x := hxx
  have e : (st.map (xc D.1)).map (fun v => v.category) = st.map xcat := by
    rw [List.map_map]
    exact List.map_congr_left fun v _ => xcat_eq D.1 v
  refine va_mabs hx hb hll.1.symm hown (hts _ w1) (hts _ w2) (hts _ w3) (hts _ w4) (by rw [hR]; exact hRo.1) (by rw [hR, e]; show _ ≤ lo; omega) (by rw [hR]; exact hCe.1) (by rw [hR]; exact hCe.2) hd ?_
  have h9 := kk ls H locs hll hL (List.forall_mem_cons.mpr ⟨by show i32 _; split <;> omega, hs⟩) hH
  rw [List.map_cons] at h9
  rw [show (if (0 : Int32) ≤ Int32.ofInt x then Int32.ofInt x else 0 - Int32.ofInt x) = Int32.ofInt (if 0 ≤ x then x else -x) by
    have h2 := x_le (x := 0) (y := x) (by decide) hxx
    rw [show Int32.ofInt 0 = 0 from rfl] at h2
    by_cases h : 0 ≤ x
    · rw [if_pos h, if_pos (h2.mpr h)]
    · rw [if_neg h, if_neg (fun q => h (h2.mp q)), Int32.ofInt_neg]; simp]
  exact h9
end
