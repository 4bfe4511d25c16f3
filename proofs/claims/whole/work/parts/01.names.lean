-- ===== PART A: goes FIRST, ahead of the names: the tables' words, and 'selects' of the private methods out of them =====
/-- a private method of a class that the tables say can be made, by its rows of tables_1 -/
def lw_okq (q : MethodName × Nat) : Prop := (q.1.cls ≠ "java/lang/invoke/MethodHandle" ∧ q.1.cls ≠ "java/lang/invoke/VarHandle") ∧ Cond.instantiable q.1.cls q.2 ∈ tables_1 ∧ Cond.privateMethod q.1 ∈ tables_1 ∧ Cond.instanceMethod q.1 ∈ tables_1
theorem lw_p0 : lw_okq (⟨"LotsBid$Text", "readNumbers", "(II)I"⟩, 3) := ⟨⟨by decide +kernel, by decide +kernel⟩, List.mem_of_getElem? (i := 24) (by decide +kernel), List.mem_of_getElem? (i := 323) (by decide +kernel), List.mem_of_getElem? (i := 324) (by decide +kernel)⟩
theorem lw_p1 : lw_okq (⟨"LotsBid$Text", "figuresAt", "(I)I"⟩, 3) := ⟨⟨by decide +kernel, by decide +kernel⟩, List.mem_of_getElem? (i := 24) (by decide +kernel), List.mem_of_getElem? (i := 327) (by decide +kernel), List.mem_of_getElem? (i := 328) (by decide +kernel)⟩
theorem lw_p2 : lw_okq (⟨"LotsBid$Text", "isFigureAt", "(I)Z"⟩, 3) := ⟨⟨by decide +kernel, by decide +kernel⟩, List.mem_of_getElem? (i := 24) (by decide +kernel), List.mem_of_getElem? (i := 331) (by decide +kernel), List.mem_of_getElem? (i := 332) (by decide +kernel)⟩
theorem lw_p3 : lw_okq (⟨"LotsBid$Text", "numberAt", "(II)I"⟩, 3) := ⟨⟨by decide +kernel, by decide +kernel⟩, List.mem_of_getElem? (i := 24) (by decide +kernel), List.mem_of_getElem? (i := 335) (by decide +kernel), List.mem_of_getElem? (i := 336) (by decide +kernel)⟩
theorem lw_p4 : lw_okq (⟨"LotsBid$Text", "isSignAt", "(IC)Z"⟩, 3) := ⟨⟨by decide +kernel, by decide +kernel⟩, List.mem_of_getElem? (i := 24) (by decide +kernel), List.mem_of_getElem? (i := 339) (by decide +kernel), List.mem_of_getElem? (i := 340) (by decide +kernel)⟩
theorem lw_p5 : lw_okq (⟨"LotsBid$Text", "tell", "(LLotsBid$Plan;I)Z"⟩, 3) := ⟨⟨by decide +kernel, by decide +kernel⟩, List.mem_of_getElem? (i := 24) (by decide +kernel), List.mem_of_getElem? (i := 343) (by decide +kernel), List.mem_of_getElem? (i := 344) (by decide +kernel)⟩
theorem lw_p6 : lw_okq (⟨"LotsBid$Hiring", "callFromBelow", "(LLotsBid$Plan;I)V"⟩, 4) := ⟨⟨by decide +kernel, by decide +kernel⟩, List.mem_of_getElem? (i := 92) (by decide +kernel), List.mem_of_getElem? (i := 386) (by decide +kernel), List.mem_of_getElem? (i := 387) (by decide +kernel)⟩
theorem lw_p7 : lw_okq (⟨"LotsBid$Hiring", "howManyIn", "(LLotsBid$Plan;I)I"⟩, 4) := ⟨⟨by decide +kernel, by decide +kernel⟩, List.mem_of_getElem? (i := 92) (by decide +kernel), List.mem_of_getElem? (i := 397) (by decide +kernel), List.mem_of_getElem? (i := 398) (by decide +kernel)⟩
theorem lw_p8 : lw_okq (⟨"LotsBid$Hiring", "isIn", "(II)Z"⟩, 4) := ⟨⟨by decide +kernel, by decide +kernel⟩, List.mem_of_getElem? (i := 92) (by decide +kernel), List.mem_of_getElem? (i := 401) (by decide +kernel), List.mem_of_getElem? (i := 402) (by decide +kernel)⟩
theorem lw_p9 : lw_okq (⟨"LotsBid$Hiring", "hire", "(LLotsBid$Plan;III)I"⟩, 4) := ⟨⟨by decide +kernel, by decide +kernel⟩, List.mem_of_getElem? (i := 92) (by decide +kernel), List.mem_of_getElem? (i := 405) (by decide +kernel), List.mem_of_getElem? (i := 406) (by decide +kernel)⟩
theorem lw_p10 : lw_okq (⟨"LotsBid$Hiring", "callFromAbove", "(LLotsBid$Plan;II)V"⟩, 4) := ⟨⟨by decide +kernel, by decide +kernel⟩, List.mem_of_getElem? (i := 92) (by decide +kernel), List.mem_of_getElem? (i := 409) (by decide +kernel), List.mem_of_getElem? (i := 410) (by decide +kernel)⟩
theorem lw_p11 : lw_okq (⟨"LotsBid", "change", "(II)I"⟩, 10) := ⟨⟨by decide +kernel, by decide +kernel⟩, List.mem_of_getElem? (i := 16) (by decide +kernel), List.mem_of_getElem? (i := 457) (by decide +kernel), List.mem_of_getElem? (i := 458) (by decide +kernel)⟩
theorem lw_p12 : lw_okq (⟨"LotsBid", "gainBySaying", "(II)I"⟩, 10) := ⟨⟨by decide +kernel, by decide +kernel⟩, List.mem_of_getElem? (i := 16) (by decide +kernel), List.mem_of_getElem? (i := 486) (by decide +kernel), List.mem_of_getElem? (i := 487) (by decide +kernel)⟩
theorem lw_p13 : lw_okq (⟨"LotsBid$Game", "isRest", "(II)Z"⟩, 5) := ⟨⟨by decide +kernel, by decide +kernel⟩, List.mem_of_getElem? (i := 113) (by decide +kernel), List.mem_of_getElem? (i := 504) (by decide +kernel), List.mem_of_getElem? (i := 505) (by decide +kernel)⟩
theorem lw_p14 : lw_okq (⟨"LotsBid$Game", "noteRest", "(II)V"⟩, 5) := ⟨⟨by decide +kernel, by decide +kernel⟩, List.mem_of_getElem? (i := 113) (by decide +kernel), List.mem_of_getElem? (i := 508) (by decide +kernel), List.mem_of_getElem? (i := 509) (by decide +kernel)⟩
theorem lw_p15 : lw_okq (⟨"LotsBid$Prices", "countHeld", "(LLotsBid$Plan;[I)V"⟩, 5) := ⟨⟨by decide +kernel, by decide +kernel⟩, List.mem_of_getElem? (i := 163) (by decide +kernel), List.mem_of_getElem? (i := 532) (by decide +kernel), List.mem_of_getElem? (i := 533) (by decide +kernel)⟩
def lw_privs_1 : List (MethodName × Nat) := [(⟨"LotsBid$Text", "readNumbers", "(II)I"⟩, 3), (⟨"LotsBid$Text", "figuresAt", "(I)I"⟩, 3), (⟨"LotsBid$Text", "isFigureAt", "(I)Z"⟩, 3), (⟨"LotsBid$Text", "numberAt", "(II)I"⟩, 3), (⟨"LotsBid$Text", "isSignAt", "(IC)Z"⟩, 3), (⟨"LotsBid$Text", "tell", "(LLotsBid$Plan;I)Z"⟩, 3), (⟨"LotsBid$Hiring", "callFromBelow", "(LLotsBid$Plan;I)V"⟩, 4), (⟨"LotsBid$Hiring", "howManyIn", "(LLotsBid$Plan;I)I"⟩, 4), (⟨"LotsBid$Hiring", "isIn", "(II)Z"⟩, 4), (⟨"LotsBid$Hiring", "hire", "(LLotsBid$Plan;III)I"⟩, 4), (⟨"LotsBid$Hiring", "callFromAbove", "(LLotsBid$Plan;II)V"⟩, 4), (⟨"LotsBid", "change", "(II)I"⟩, 10), (⟨"LotsBid", "gainBySaying", "(II)I"⟩, 10), (⟨"LotsBid$Game", "isRest", "(II)Z"⟩, 5), (⟨"LotsBid$Game", "noteRest", "(II)V"⟩, 5), (⟨"LotsBid$Prices", "countHeld", "(LLotsBid$Plan;[I)V"⟩, 5)]
theorem lw_r1 : ∀ q ∈ lw_privs_1, lw_okq q := List.forall_mem_cons.mpr ⟨lw_p0, List.forall_mem_cons.mpr ⟨lw_p1, List.forall_mem_cons.mpr ⟨lw_p2, List.forall_mem_cons.mpr ⟨lw_p3, List.forall_mem_cons.mpr ⟨lw_p4, List.forall_mem_cons.mpr ⟨lw_p5, List.forall_mem_cons.mpr ⟨lw_p6, List.forall_mem_cons.mpr ⟨lw_p7, List.forall_mem_cons.mpr ⟨lw_p8, List.forall_mem_cons.mpr ⟨lw_p9, List.forall_mem_cons.mpr ⟨lw_p10, List.forall_mem_cons.mpr ⟨lw_p11, List.forall_mem_cons.mpr ⟨lw_p12, List.forall_mem_cons.mpr ⟨lw_p13, List.forall_mem_cons.mpr ⟨lw_p14, List.forall_mem_cons.mpr ⟨lw_p15, fun _ h => absurd h List.not_mem_nil⟩⟩⟩⟩⟩⟩⟩⟩⟩⟩⟩⟩⟩⟩⟩⟩
theorem lw_p16 : lw_okq (⟨"LotsBid$Prices", "isBetter", "(IZ)Z"⟩, 5) := ⟨⟨by decide +kernel, by decide +kernel⟩, List.mem_of_getElem? (i := 163) (by decide +kernel), List.mem_of_getElem? (i := 537) (by decide +kernel), List.mem_of_getElem? (i := 538) (by decide +kernel)⟩
theorem lw_p17 : lw_okq (⟨"LotsBid$Prices", "isAtRest", "(LLotsBid$Plan;[I)Z"⟩, 5) := ⟨⟨by decide +kernel, by decide +kernel⟩, List.mem_of_getElem? (i := 163) (by decide +kernel), List.mem_of_getElem? (i := 541) (by decide +kernel), List.mem_of_getElem? (i := 542) (by decide +kernel)⟩
theorem lw_p18 : lw_okq (⟨"LotsBid$Prices", "isContent", "(LLotsBid$Plan;II)Z"⟩, 5) := ⟨⟨by decide +kernel, by decide +kernel⟩, List.mem_of_getElem? (i := 163) (by decide +kernel), List.mem_of_getElem? (i := 545) (by decide +kernel), List.mem_of_getElem? (i := 546) (by decide +kernel)⟩
theorem lw_p19 : lw_okq (⟨"LotsBid$Prices", "noteAsked", "(I)V"⟩, 5) := ⟨⟨by decide +kernel, by decide +kernel⟩, List.mem_of_getElem? (i := 163) (by decide +kernel), List.mem_of_getElem? (i := 549) (by decide +kernel), List.mem_of_getElem? (i := 550) (by decide +kernel)⟩
theorem lw_p20 : lw_okq (⟨"LotsBid", "isAsSeenWithout", "(I)Z"⟩, 10) := ⟨⟨by decide +kernel, by decide +kernel⟩, List.mem_of_getElem? (i := 16) (by decide +kernel), List.mem_of_getElem? (i := 578) (by decide +kernel), List.mem_of_getElem? (i := 579) (by decide +kernel)⟩
theorem lw_p21 : lw_okq (⟨"LotsBid$Hiring", "hadGotAnother", "(II)Z"⟩, 4) := ⟨⟨by decide +kernel, by decide +kernel⟩, List.mem_of_getElem? (i := 92) (by decide +kernel), List.mem_of_getElem? (i := 595) (by decide +kernel), List.mem_of_getElem? (i := 596) (by decide +kernel)⟩
theorem lw_p22 : lw_okq (⟨"LotsBid$Hiring", "firstCallOut", "(LLotsBid$Plan;II)I"⟩, 4) := ⟨⟨by decide +kernel, by decide +kernel⟩, List.mem_of_getElem? (i := 92) (by decide +kernel), List.mem_of_getElem? (i := 599) (by decide +kernel), List.mem_of_getElem? (i := 600) (by decide +kernel)⟩
theorem lw_p23 : lw_okq (⟨"LotsBidModel", "noFair", "(I)V"⟩, 29) := ⟨⟨by decide +kernel, by decide +kernel⟩, List.mem_of_getElem? (i := 646) (by decide +kernel), List.mem_of_getElem? (i := 652) (by decide +kernel), List.mem_of_getElem? (i := 653) (by decide +kernel)⟩
theorem lw_p24 : lw_okq (⟨"LotsBidModel", "readAll", "()I"⟩, 29) := ⟨⟨by decide +kernel, by decide +kernel⟩, List.mem_of_getElem? (i := 646) (by decide +kernel), List.mem_of_getElem? (i := 761) (by decide +kernel), List.mem_of_getElem? (i := 762) (by decide +kernel)⟩
theorem lw_p25 : lw_okq (⟨"LotsBidModel", "item", "()Z"⟩, 29) := ⟨⟨by decide +kernel, by decide +kernel⟩, List.mem_of_getElem? (i := 646) (by decide +kernel), List.mem_of_getElem? (i := 765) (by decide +kernel), List.mem_of_getElem? (i := 766) (by decide +kernel)⟩
theorem lw_p26 : lw_okq (⟨"LotsBidModel", "byteAt", "(I)I"⟩, 29) := ⟨⟨by decide +kernel, by decide +kernel⟩, List.mem_of_getElem? (i := 646) (by decide +kernel), List.mem_of_getElem? (i := 769) (by decide +kernel), List.mem_of_getElem? (i := 770) (by decide +kernel)⟩
theorem lw_p27 : lw_okq (⟨"LotsBidModel", "figures", "(I)Z"⟩, 29) := ⟨⟨by decide +kernel, by decide +kernel⟩, List.mem_of_getElem? (i := 646) (by decide +kernel), List.mem_of_getElem? (i := 773) (by decide +kernel), List.mem_of_getElem? (i := 774) (by decide +kernel)⟩
theorem lw_p28 : lw_okq (⟨"LotsBidModel", "copy", "(II)V"⟩, 29) := ⟨⟨by decide +kernel, by decide +kernel⟩, List.mem_of_getElem? (i := 646) (by decide +kernel), List.mem_of_getElem? (i := 786) (by decide +kernel), List.mem_of_getElem? (i := 787) (by decide +kernel)⟩
theorem lw_p29 : lw_okq (⟨"LotsBidModel", "isLad", "(I)Z"⟩, 29) := ⟨⟨by decide +kernel, by decide +kernel⟩, List.mem_of_getElem? (i := 646) (by decide +kernel), List.mem_of_getElem? (i := 794) (by decide +kernel), List.mem_of_getElem? (i := 795) (by decide +kernel)⟩
theorem lw_p30 : lw_okq (⟨"LotsBidModel", "goFair", "(I)V"⟩, 29) := ⟨⟨by decide +kernel, by decide +kernel⟩, List.mem_of_getElem? (i := 646) (by decide +kernel), List.mem_of_getElem? (i := 799) (by decide +kernel), List.mem_of_getElem? (i := 800) (by decide +kernel)⟩
theorem lw_p31 : lw_okq (⟨"LotsBidModel", "begin", "(I)V"⟩, 29) := ⟨⟨by decide +kernel, by decide +kernel⟩, List.mem_of_getElem? (i := 646) (by decide +kernel), List.mem_of_getElem? (i := 803) (by decide +kernel), List.mem_of_getElem? (i := 804) (by decide +kernel)⟩
def lw_privs_2 : List (MethodName × Nat) := [(⟨"LotsBid$Prices", "isBetter", "(IZ)Z"⟩, 5), (⟨"LotsBid$Prices", "isAtRest", "(LLotsBid$Plan;[I)Z"⟩, 5), (⟨"LotsBid$Prices", "isContent", "(LLotsBid$Plan;II)Z"⟩, 5), (⟨"LotsBid$Prices", "noteAsked", "(I)V"⟩, 5), (⟨"LotsBid", "isAsSeenWithout", "(I)Z"⟩, 10), (⟨"LotsBid$Hiring", "hadGotAnother", "(II)Z"⟩, 4), (⟨"LotsBid$Hiring", "firstCallOut", "(LLotsBid$Plan;II)I"⟩, 4), (⟨"LotsBidModel", "noFair", "(I)V"⟩, 29), (⟨"LotsBidModel", "readAll", "()I"⟩, 29), (⟨"LotsBidModel", "item", "()Z"⟩, 29), (⟨"LotsBidModel", "byteAt", "(I)I"⟩, 29), (⟨"LotsBidModel", "figures", "(I)Z"⟩, 29), (⟨"LotsBidModel", "copy", "(II)V"⟩, 29), (⟨"LotsBidModel", "isLad", "(I)Z"⟩, 29), (⟨"LotsBidModel", "goFair", "(I)V"⟩, 29), (⟨"LotsBidModel", "begin", "(I)V"⟩, 29)]
theorem lw_r2 : ∀ q ∈ lw_privs_2, lw_okq q := List.forall_mem_cons.mpr ⟨lw_p16, List.forall_mem_cons.mpr ⟨lw_p17, List.forall_mem_cons.mpr ⟨lw_p18, List.forall_mem_cons.mpr ⟨lw_p19, List.forall_mem_cons.mpr ⟨lw_p20, List.forall_mem_cons.mpr ⟨lw_p21, List.forall_mem_cons.mpr ⟨lw_p22, List.forall_mem_cons.mpr ⟨lw_p23, List.forall_mem_cons.mpr ⟨lw_p24, List.forall_mem_cons.mpr ⟨lw_p25, List.forall_mem_cons.mpr ⟨lw_p26, List.forall_mem_cons.mpr ⟨lw_p27, List.forall_mem_cons.mpr ⟨lw_p28, List.forall_mem_cons.mpr ⟨lw_p29, List.forall_mem_cons.mpr ⟨lw_p30, List.forall_mem_cons.mpr ⟨lw_p31, fun _ h => absurd h List.not_mem_nil⟩⟩⟩⟩⟩⟩⟩⟩⟩⟩⟩⟩⟩⟩⟩⟩
theorem lw_p32 : lw_okq (⟨"LotsBidModel", "callOne", "(II)V"⟩, 29) := ⟨⟨by decide +kernel, by decide +kernel⟩, List.mem_of_getElem? (i := 646) (by decide +kernel), List.mem_of_getElem? (i := 807) (by decide +kernel), List.mem_of_getElem? (i := 808) (by decide +kernel)⟩
theorem lw_p33 : lw_okq (⟨"LotsBidModel", "callBelow", "(I)V"⟩, 29) := ⟨⟨by decide +kernel, by decide +kernel⟩, List.mem_of_getElem? (i := 646) (by decide +kernel), List.mem_of_getElem? (i := 811) (by decide +kernel), List.mem_of_getElem? (i := 812) (by decide +kernel)⟩
theorem lw_p34 : lw_okq (⟨"LotsBidModel", "inSet", "(II)I"⟩, 29) := ⟨⟨by decide +kernel, by decide +kernel⟩, List.mem_of_getElem? (i := 646) (by decide +kernel), List.mem_of_getElem? (i := 815) (by decide +kernel), List.mem_of_getElem? (i := 816) (by decide +kernel)⟩
theorem lw_p35 : lw_okq (⟨"LotsBidModel", "isIn", "(III)Z"⟩, 29) := ⟨⟨by decide +kernel, by decide +kernel⟩, List.mem_of_getElem? (i := 646) (by decide +kernel), List.mem_of_getElem? (i := 819) (by decide +kernel), List.mem_of_getElem? (i := 820) (by decide +kernel)⟩
theorem lw_p36 : lw_okq (⟨"LotsBidModel", "boundOf", "(II)I"⟩, 29) := ⟨⟨by decide +kernel, by decide +kernel⟩, List.mem_of_getElem? (i := 646) (by decide +kernel), List.mem_of_getElem? (i := 823) (by decide +kernel), List.mem_of_getElem? (i := 824) (by decide +kernel)⟩
theorem lw_p37 : lw_okq (⟨"LotsBidModel", "give", "(III)V"⟩, 29) := ⟨⟨by decide +kernel, by decide +kernel⟩, List.mem_of_getElem? (i := 646) (by decide +kernel), List.mem_of_getElem? (i := 830) (by decide +kernel), List.mem_of_getElem? (i := 831) (by decide +kernel)⟩
theorem lw_p38 : lw_okq (⟨"LotsBidModel", "callAbove", "(I)V"⟩, 29) := ⟨⟨by decide +kernel, by decide +kernel⟩, List.mem_of_getElem? (i := 646) (by decide +kernel), List.mem_of_getElem? (i := 837) (by decide +kernel), List.mem_of_getElem? (i := 838) (by decide +kernel)⟩
theorem lw_p39 : lw_okq (⟨"LotsBidModel", "callSealed", "(I)V"⟩, 29) := ⟨⟨by decide +kernel, by decide +kernel⟩, List.mem_of_getElem? (i := 646) (by decide +kernel), List.mem_of_getElem? (i := 841) (by decide +kernel), List.mem_of_getElem? (i := 842) (by decide +kernel)⟩
theorem lw_p40 : lw_okq (⟨"LotsBidModel", "gainOf", "(I)I"⟩, 29) := ⟨⟨by decide +kernel, by decide +kernel⟩, List.mem_of_getElem? (i := 646) (by decide +kernel), List.mem_of_getElem? (i := 845) (by decide +kernel), List.mem_of_getElem? (i := 846) (by decide +kernel)⟩
theorem lw_p41 : lw_okq (⟨"LotsBidModel", "isMaster", "(I)Z"⟩, 29) := ⟨⟨by decide +kernel, by decide +kernel⟩, List.mem_of_getElem? (i := 646) (by decide +kernel), List.mem_of_getElem? (i := 853) (by decide +kernel), List.mem_of_getElem? (i := 854) (by decide +kernel)⟩
theorem lw_p42 : lw_okq (⟨"LotsBidModel", "ladsOf", "(I)I"⟩, 29) := ⟨⟨by decide +kernel, by decide +kernel⟩, List.mem_of_getElem? (i := 646) (by decide +kernel), List.mem_of_getElem? (i := 857) (by decide +kernel), List.mem_of_getElem? (i := 858) (by decide +kernel)⟩
theorem lw_p43 : lw_okq (⟨"LotsBidModel", "mostOf", "(I)I"⟩, 29) := ⟨⟨by decide +kernel, by decide +kernel⟩, List.mem_of_getElem? (i := 646) (by decide +kernel), List.mem_of_getElem? (i := 861) (by decide +kernel), List.mem_of_getElem? (i := 862) (by decide +kernel)⟩
theorem lw_p44 : lw_okq (⟨"LotsBidModel", "note", "(II)I"⟩, 29) := ⟨⟨by decide +kernel, by decide +kernel⟩, List.mem_of_getElem? (i := 646) (by decide +kernel), List.mem_of_getElem? (i := 877) (by decide +kernel), List.mem_of_getElem? (i := 878) (by decide +kernel)⟩
theorem lw_p45 : lw_okq (⟨"LotsBidModel", "takePrices", "(I)I"⟩, 29) := ⟨⟨by decide +kernel, by decide +kernel⟩, List.mem_of_getElem? (i := 646) (by decide +kernel), List.mem_of_getElem? (i := 905) (by decide +kernel), List.mem_of_getElem? (i := 906) (by decide +kernel)⟩
theorem lw_p46 : lw_okq (⟨"LotsBidModel", "canRest", "()Z"⟩, 29) := ⟨⟨by decide +kernel, by decide +kernel⟩, List.mem_of_getElem? (i := 646) (by decide +kernel), List.mem_of_getElem? (i := 909) (by decide +kernel), List.mem_of_getElem? (i := 910) (by decide +kernel)⟩
theorem lw_p47 : lw_okq (⟨"LotsBidModel", "codes", "()I"⟩, 29) := ⟨⟨by decide +kernel, by decide +kernel⟩, List.mem_of_getElem? (i := 646) (by decide +kernel), List.mem_of_getElem? (i := 913) (by decide +kernel), List.mem_of_getElem? (i := 914) (by decide +kernel)⟩
def lw_privs_3 : List (MethodName × Nat) := [(⟨"LotsBidModel", "callOne", "(II)V"⟩, 29), (⟨"LotsBidModel", "callBelow", "(I)V"⟩, 29), (⟨"LotsBidModel", "inSet", "(II)I"⟩, 29), (⟨"LotsBidModel", "isIn", "(III)Z"⟩, 29), (⟨"LotsBidModel", "boundOf", "(II)I"⟩, 29), (⟨"LotsBidModel", "give", "(III)V"⟩, 29), (⟨"LotsBidModel", "callAbove", "(I)V"⟩, 29), (⟨"LotsBidModel", "callSealed", "(I)V"⟩, 29), (⟨"LotsBidModel", "gainOf", "(I)I"⟩, 29), (⟨"LotsBidModel", "isMaster", "(I)Z"⟩, 29), (⟨"LotsBidModel", "ladsOf", "(I)I"⟩, 29), (⟨"LotsBidModel", "mostOf", "(I)I"⟩, 29), (⟨"LotsBidModel", "note", "(II)I"⟩, 29), (⟨"LotsBidModel", "takePrices", "(I)I"⟩, 29), (⟨"LotsBidModel", "canRest", "()Z"⟩, 29), (⟨"LotsBidModel", "codes", "()I"⟩, 29)]
theorem lw_r3 : ∀ q ∈ lw_privs_3, lw_okq q := List.forall_mem_cons.mpr ⟨lw_p32, List.forall_mem_cons.mpr ⟨lw_p33, List.forall_mem_cons.mpr ⟨lw_p34, List.forall_mem_cons.mpr ⟨lw_p35, List.forall_mem_cons.mpr ⟨lw_p36, List.forall_mem_cons.mpr ⟨lw_p37, List.forall_mem_cons.mpr ⟨lw_p38, List.forall_mem_cons.mpr ⟨lw_p39, List.forall_mem_cons.mpr ⟨lw_p40, List.forall_mem_cons.mpr ⟨lw_p41, List.forall_mem_cons.mpr ⟨lw_p42, List.forall_mem_cons.mpr ⟨lw_p43, List.forall_mem_cons.mpr ⟨lw_p44, List.forall_mem_cons.mpr ⟨lw_p45, List.forall_mem_cons.mpr ⟨lw_p46, List.forall_mem_cons.mpr ⟨lw_p47, fun _ h => absurd h List.not_mem_nil⟩⟩⟩⟩⟩⟩⟩⟩⟩⟩⟩⟩⟩⟩⟩⟩
theorem lw_p48 : lw_okq (⟨"LotsBidModel", "seatAll", "(I)Z"⟩, 29) := ⟨⟨by decide +kernel, by decide +kernel⟩, List.mem_of_getElem? (i := 646) (by decide +kernel), List.mem_of_getElem? (i := 917) (by decide +kernel), List.mem_of_getElem? (i := 918) (by decide +kernel)⟩
theorem lw_p49 : lw_okq (⟨"LotsBidModel", "isAtRest", "()Z"⟩, 29) := ⟨⟨by decide +kernel, by decide +kernel⟩, List.mem_of_getElem? (i := 646) (by decide +kernel), List.mem_of_getElem? (i := 921) (by decide +kernel), List.mem_of_getElem? (i := 922) (by decide +kernel)⟩
theorem lw_p50 : lw_okq (⟨"LotsBidModel", "bestWay", "(I)I"⟩, 29) := ⟨⟨by decide +kernel, by decide +kernel⟩, List.mem_of_getElem? (i := 646) (by decide +kernel), List.mem_of_getElem? (i := 929) (by decide +kernel), List.mem_of_getElem? (i := 930) (by decide +kernel)⟩
theorem lw_p51 : lw_okq (⟨"LotsBidModel", "sumOf", "(I)I"⟩, 29) := ⟨⟨by decide +kernel, by decide +kernel⟩, List.mem_of_getElem? (i := 646) (by decide +kernel), List.mem_of_getElem? (i := 933) (by decide +kernel), List.mem_of_getElem? (i := 934) (by decide +kernel)⟩
theorem lw_p52 : lw_okq (⟨"LotsBidModel", "isSeenSo", "(I)Z"⟩, 29) := ⟨⟨by decide +kernel, by decide +kernel⟩, List.mem_of_getElem? (i := 646) (by decide +kernel), List.mem_of_getElem? (i := 953) (by decide +kernel), List.mem_of_getElem? (i := 954) (by decide +kernel)⟩
def lw_privs_4 : List (MethodName × Nat) := [(⟨"LotsBidModel", "seatAll", "(I)Z"⟩, 29), (⟨"LotsBidModel", "isAtRest", "()Z"⟩, 29), (⟨"LotsBidModel", "bestWay", "(I)I"⟩, 29), (⟨"LotsBidModel", "sumOf", "(I)I"⟩, 29), (⟨"LotsBidModel", "isSeenSo", "(I)Z"⟩, 29)]
theorem lw_r4 : ∀ q ∈ lw_privs_4, lw_okq q := List.forall_mem_cons.mpr ⟨lw_p48, List.forall_mem_cons.mpr ⟨lw_p49, List.forall_mem_cons.mpr ⟨lw_p50, List.forall_mem_cons.mpr ⟨lw_p51, List.forall_mem_cons.mpr ⟨lw_p52, fun _ h => absurd h List.not_mem_nil⟩⟩⟩⟩⟩
def lw_privs : List (MethodName × Nat) := lw_privs_1 ++ (lw_privs_2 ++ (lw_privs_3 ++ (lw_privs_4)))
def lw_tbl : List Cond := k2_sels lw_privs ++ tables_1
theorem lw_privs_ok : ∀ q ∈ lw_privs, lw_okq q := by
  show ∀ q ∈ lw_privs_1 ++ (lw_privs_2 ++ (lw_privs_3 ++ (lw_privs_4))), lw_okq q
  exact List.forall_mem_append.mpr ⟨lw_r1, List.forall_mem_append.mpr ⟨lw_r2, List.forall_mem_append.mpr ⟨lw_r3, lw_r4⟩⟩⟩
def va_AOA (ty : FieldType) (U : State) : Prop := (Cond.arrayOver (.array ty)).before #[] U = true
theorem va_AOA.use {ty : FieldType} {A : Array Value} {U : State} (h : va_AOA ty U) : (Cond.arrayOver (.array ty)).before A U = true := h
/-! ===== BEGIN new T[n][m]: the outer array a place, the inner ones among the pooled ===== -/
/-- f, but v at every address of l -/
def vr_up {α : Type} (f : Nat → α) (l : List Nat) (v : α) : Nat → α := fun a => if a ∈ l then v else f a
theorem vr_up_in {α : Type} {f : Nat → α} {l : List Nat} {v : α} {a : Nat} (h : a ∈ l) : vr_up f l v a = v := if_pos h
theorem vr_up_ne {α : Type} {f : Nat → α} {l : List Nat} {v : α} {a : Nat} (h : a ∉ l) : vr_up f l v a = f a := if_neg h
theorem vr_rows {L l : List Nat} {f : Nat → va_E} {e : va_E} (h : ∀ a, a ∈ l → a ∉ L) : va_pl L f ++ l.map (fun a => (a, e)) = va_pl (L ++ l) (vr_up f l e) := by
  unfold va_pl
  rw [List.map_append]
  congr 1
  · apply List.map_congr_left
    intro a ha
    rw [vr_up_ne (fun q => h a q ha)]
  · apply List.map_congr_left
    intro a ha
    rw [vr_up_in ha]
theorem vr_lay {X rows : va_W} {x : Nat × va_E} {pl : va_W} {D : va_G} {cl : List vw_C} {H : Heap} (hP : va_P D cl (((X ++ pl) ++ [x]) ++ rows) H) : va_P D cl ((X ++ [x]) ++ (pl ++ rows)) H := by
  rw [List.append_assoc (X ++ pl)] at hP
  have h := va_P.swap hP
  rw [← List.append_assoc X] at h
  have h2 := va_P.swap h
  rw [List.append_assoc (X ++ [x])] at h2
  exact h2
theorem vr_layD {X rows : va_W} {x : Nat × va_E} {pl : va_W} {A : Nat → Prop} (hD : va_D A (((X ++ pl) ++ [x]) ++ rows)) : va_D A ((X ++ [x]) ++ (pl ++ rows)) := by
  rw [List.append_assoc (X ++ pl)] at hD
  have h := va_D.swap hD
  rw [← List.append_assoc X] at h
  have h2 := va_D.swap h
  rw [List.append_assoc (X ++ [x])] at h2
  exact h2
theorem vr_outer (c : ClassId) (N h0 : Nat) : ∀ i : Nat, Jvm.Free.Multi.outerC c N h0 i = arrV c N (fun j => va_rf (if j < i then some (h0 + 1 + j) else none))
  | 0 => by
    show ({ cls := c, slots := Array.replicate N .null, vm := .none } : Cell) = _
    rw [arrV_new]
    refine congrArg (arrV c N) (funext fun j => ?_)
    simp [va_rf]
  | i + 1 => by
    show (Jvm.Free.Multi.outerC c N h0 i).setSlot i (.ref (h0 + 1 + i)) = _
    rw [vr_outer c N h0 i, arrV_store]
    refine congrArg (arrV c N) (funext fun j => ?_)
    by_cases e : j = i
    · subst e
      simp [updV, va_rf]
    · by_cases h : j < i
      · simp [updV, e, h, Nat.lt_succ_of_lt h]
      · simp [updV, e, h, show ¬ j < i + 1 by omega]
section VGM
variable {p : Program} {l : Launch} {e : Env} {R : Room} {s : State} {m : MethodId} {args : Array Value} {below : List Frame} {meth : Method} {c : Code} {H : Heap} {locs : List Loc} {cells slots : Nat} {Q : State → Prop}
variable {cc : ByteArray} {pc : Nat} {ls : Array Slot} {rest : List Value} {D : va_G} {cl : List vw_C} {A : Nat → Prop} {a : Nat} {tys : List (ClassId × FieldType)} {ws : va_W} {H0 : Heap}
theorem va_mna {X : va_W} {L : List Nat} {f : Nat → va_E} {cc : ByteArray} (hexec : p.tables.exec = Jvm.exec) (hb : c.code = cc) {own : String} {index : Nat} {ty : FieldType} {cy : ClassId} (hown : s.vm.findClass own = some m.cls) (hclink : (Cond.classLink own index ("[" ++ (FieldType.array ty).toString)).before args s = true) (hover : va_AOA ty s) (harr : (Cond.arrayClass ty).before args s = true) (hcy : s.vm.findClass (FieldType.array ty).toString = some cy)
    (hK : va_K D cl tys s) (hP : va_P D cl (X ++ va_pl L f) H) (hD : va_D A (X ++ va_pl L f)) (hS : va_S A H0 H locs) (hA : ∀ q, H0.size ≤ q → A q) {n k : Int32} {N' K' : Nat} {z : vp_A} (hn : ¬ n < 0) (hk : ¬ k < 0) (hN : n.toNatClampNeg = N') (hM : k.toNatClampNeg = K')
    (hb1 : N' * 4 ≤ 536870912) (hb2 : K' * componentBytes ty ≤ 536870912) (hb3 : K' ≤ 536870912) (hdf : fits ty (defaultValue ty) = true) (hdd : (defaultValue ty).isDefault = true) (hcells : cells + (1 + N') ≤ R.cells) (hslots : slots + (N' + N' * K') ≤ R.slots) (hz : ∀ c : ClassId, Jvm.Free.Multi.innerC c K' (defaultValue ty) = vp_cell c z) (hdg : decode cc pc = .ok (.multianewarray index 2, 4))
    (kk : ∀ (q : Nat) (r : Nat → Nat) (cA : ClassId) (H1 : Heap), (∀ i j : Nat, i < N' → j < N' → r i = r j → i = j) → (∀ i : Nat, i < N' → r i ∉ L) → va_K D cl (tys ++ [(cA, .array ty)]) s →
      va_P D cl ((X ++ [(q, .inl (cA, N', .inr (.inr (.inr (.inr (fun i => if i < N' then some (r i) else none))))))]) ++ va_pl (L ++ (List.range N').map r) (vr_up f ((List.range N').map r) (.inl (cy, z)))) H1 → va_D A ((X ++ [(q, .inl (cA, N', .inr (.inr (.inr (.inr (fun i => if i < N' then some (r i) else none))))))]) ++ va_pl (L ++ (List.range N').map r) (vr_up f ((List.range N').map r) (.inl (cy, z)))) → va_S A H0 H1 locs →
      W p l e R s m args below meth c H1 locs (cells + 1 + N') (slots + N' + N' * K') Q (F0 m (pc + 4) ls (.ref q :: rest))) : W p l e R s m args below meth c H locs cells slots Q (F0 m pc ls (.int k :: .int n :: rest)) := by
  subst hN
  subst hM
  intro T hT Xs
  obtain ⟨vm₁, cA, comp, -, fA, fC, hO, -, X', step⟩ := Xs.multianewarray2F hexec hown hclink (va_AOA.use hover) harr (g := F0 m pc ls (.int k :: .int n :: rest)) rfl (by rw [hb]; exact hdg) rfl hn hk hb1 hb2 hb3 hdf hdd hcells hslots
  have ec : some cy = some comp := hcy.symm.trans fC
  cases ec
  generalize hF : Jvm.Free.Multi.fill (T.setVm vm₁) cA cy n.toNatClampNeg k.toNatClampNeg (defaultValue ty) n.toNatClampNeg = F at X' step
  have hTh : (T.setVm vm₁).heap = H := hT
  obtain ⟨f1, f2, -, -⟩ := Jvm.Free.Multi.fill_facts (T.setVm vm₁) cA cy n.toNatClampNeg k.toNatClampNeg (defaultValue ty) n.toNatClampNeg
  rw [hF, hTh] at f1 f2
  have hold : ∀ x : Nat, x < H.size → F.heap[x]? = H[x]? := fun x hx => by
    have := Jvm.Free.Multi.fill_old (T.setVm vm₁) cA cy n.toNatClampNeg k.toNatClampNeg (defaultValue ty) (a := x) (by rw [hTh]; exact hx) n.toNatClampNeg
    rw [hF, hTh] at this
    exact this
  have hrow : ∀ j : Nat, j < n.toNatClampNeg → F.heap[H.size + 1 + j]? = some (vp_cell cy z) := fun j hj => by
    have := Jvm.Free.Multi.fill_inner (T.setVm vm₁) cA cy n.toNatClampNeg k.toNatClampNeg (defaultValue ty) n.toNatClampNeg j hj
    rw [hF, hTh, hz] at this
    exact this
  have hout : Jvm.Free.Multi.outerC cA n.toNatClampNeg H.size n.toNatClampNeg = vp_cell cA (n.toNatClampNeg, .inr (.inr (.inr (.inr (fun i => if i < n.toNatClampNeg then some (H.size + 1 + i) else none))))) := by
    rw [vp_cell_q]
    exact vr_outer cA n.toNatClampNeg H.size n.toNatClampNeg
  rw [hout] at f2
  have hlt : ∀ a, a ∈ L → a < H.size := fun a ha => by
    obtain ⟨k9, hk9⟩ := va_pl_get (X := X) (f := f) ha
    exact (hP k9 _ hk9).lt
  have hnl : ∀ i : Nat, i < n.toNatClampNeg → H.size + 1 + i ∉ L := fun i _ h => by
    have := hlt _ h
    omega
  have hnm : ∀ a, a ∈ (List.range n.toNatClampNeg).map (fun i => H.size + 1 + i) → a ∉ L := fun a ha h => by
    obtain ⟨i, -, rfl⟩ := List.mem_map.mp ha
    have := hlt _ h
    omega
  have hP0 : va_P D cl (X ++ va_pl L f) F.heap := hP.kept (fun k9 x hx => hold x.1 ((hP k9 x hx).lt))
  have hP1 : va_P D cl ((X ++ va_pl L f) ++ [(H.size, .inl (cA, n.toNatClampNeg, .inr (.inr (.inr (.inr (fun i => if i < n.toNatClampNeg then some (H.size + 1 + i) else none))))))]) F.heap := hP0.app (fun k9 x hx => by
    have h0 : k9 < 1 := (List.getElem?_eq_some_iff.mp hx).1
    rw [show k9 = 0 by omega] at hx
    cases hx
    exact f2)
  have hP2 : va_P D cl (((X ++ va_pl L f) ++ [(H.size, .inl (cA, n.toNatClampNeg, .inr (.inr (.inr (.inr (fun i => if i < n.toNatClampNeg then some (H.size + 1 + i) else none))))))]) ++ ((List.range n.toNatClampNeg).map (fun i => H.size + 1 + i)).map (fun a => (a, .inl (cy, z)))) F.heap := hP1.app (fun k9 x hx => by
    obtain ⟨a, ha, rfl⟩ := List.mem_map.mp (List.mem_of_getElem? hx)
    obtain ⟨i, hi, rfl⟩ := List.mem_map.mp ha
    exact hrow i (List.mem_range.mp hi))
  have hD2 : va_D A (((X ++ va_pl L f) ++ [(H.size, .inl (cA, n.toNatClampNeg, .inr (.inr (.inr (.inr (fun i => if i < n.toNatClampNeg then some (H.size + 1 + i) else none))))))]) ++ ((List.range n.toNatClampNeg).map (fun i => H.size + 1 + i)).map (fun a => (a, .inl (cy, z)))) := by
    have hD1 := hD.push (e := .inl (cA, n.toNatClampNeg, .inr (.inr (.inr (.inr (fun i => if i < n.toNatClampNeg then some (H.size + 1 + i) else none)))))) hP rfl (hA _ hS.1)
    generalize hW1 : (X ++ va_pl L f) ++ [(H.size, .inl (cA, n.toNatClampNeg, .inr (.inr (.inr (.inr (fun i => if i < n.toNatClampNeg then some (H.size + 1 + i) else none))))))] = W1 at hD1 hP1 ⊢
    have hle : ∀ (k9 : Nat) (x : Nat × va_E), W1[k9]? = some x → x.1 ≤ H.size := fun k9 x hx => by
      rw [← hW1] at hx
      by_cases hl : k9 < (X ++ va_pl L f).length
      · rw [List.getElem?_append_left hl] at hx
        exact Nat.le_of_lt ((hP k9 x hx).lt)
      · rw [List.getElem?_append_right (by omega)] at hx
        have h0 : k9 - (X ++ va_pl L f).length < 1 := (List.getElem?_eq_some_iff.mp hx).1
        rw [show k9 - (X ++ va_pl L f).length = 0 by omega] at hx
        cases hx
        exact Nat.le_refl _
    have hr : ∀ (k9 : Nat) (x : Nat × va_E), (((List.range n.toNatClampNeg).map (fun i => H.size + 1 + i)).map (fun a => ((a, .inl (cy, z)) : Nat × va_E)))[k9]? = some x → x.1 = H.size + 1 + k9 := fun k9 x hx => by
      rw [List.getElem?_map, List.getElem?_map] at hx
      by_cases h9 : k9 < n.toNatClampNeg
      · rw [List.getElem?_range h9] at hx
        cases hx
        rfl
      · have hn0 : (List.range n.toNatClampNeg)[k9]? = none := List.getElem?_eq_none (by rw [List.length_range]; omega)
        rw [hn0] at hx
        cases hx
    refine ⟨fun i j x y hi hj hxy => ?_, fun k9 x hx => ?_⟩
    · by_cases h1 : i < W1.length <;> by_cases h2 : j < W1.length
      · rw [List.getElem?_append_left h1] at hi
        rw [List.getElem?_append_left h2] at hj
        exact hD1.1 i j x y hi hj hxy
      · rw [List.getElem?_append_left h1] at hi
        rw [List.getElem?_append_right (by omega)] at hj
        have := hle _ _ hi
        have := hr _ _ hj
        omega
      · rw [List.getElem?_append_right (by omega)] at hi
        rw [List.getElem?_append_left h2] at hj
        have := hle _ _ hj
        have := hr _ _ hi
        omega
      · rw [List.getElem?_append_right (by omega)] at hi hj
        have := hr _ _ hi
        have := hr _ _ hj
        omega
    · by_cases h1 : k9 < W1.length
      · rw [List.getElem?_append_left h1] at hx
        exact hD1.2 k9 x hx
      · rw [List.getElem?_append_right (by omega)] at hx
        have := hr _ _ hx
        exact hA _ (by have := hS.1; omega)
  have hAr : ArrOfT s cA (.array ty) := fun N9 z9 => by
    obtain ⟨-, k9, hk9, cm9, hkk9⟩ := (hO 0 0 0).1
    exact ⟨(fun q hq => by cases hq), k9, hk9, cm9, hkk9⟩
  have hK2 : va_K D cl (tys ++ [(cA, .array ty)]) s := ⟨hK.1, fun k9 x hx => by
    by_cases hl : k9 < tys.length
    · rw [List.getElem?_append_left hl] at hx
      exact hK.2 k9 x hx
    · rw [List.getElem?_append_right (by omega)] at hx
      have h0 : k9 - tys.length < 1 := (List.getElem?_eq_some_iff.mp hx).1
      rw [show k9 - tys.length = 0 by omega] at hx
      cases hx
      exact ⟨hAr, fA⟩⟩
  obtain ⟨t, a1, b1⟩ := kk H.size (fun i => H.size + 1 + i) cA F.heap (fun i j _ _ h => by have h9 : H.size + 1 + i = H.size + 1 + j := h; omega) hnl hK2 (by rw [← vr_rows hnm]; exact vr_lay hP2) (by rw [← vr_rows hnm]; exact vr_layD hD2) ⟨by rw [f1]; have := hS.1; omega, fun x h1 h2 => (hold x (Nat.lt_of_lt_of_le h1 hS.1)).trans (hS.2.1 x h1 h2), hS.2.2⟩ F rfl X'
  refine ⟨t, step t ?_, b1⟩
  have e : T.heap.size = H.size := by rw [hT]
  rw [e]
  exact a1
end VGM
/-! ===== END ===== -/

def RX0 : String := "LotsBid$Changes"
def TX0 : u_T := fun k => match k with
  | 0 => ("LotsBid$Changes", "many", "I", false)
  | 1 => ("LotsBid$Changes", "which", "[I", true)
  | _ => ("LotsBid$Changes", "was", "[I", true)
def tyX0 : Nat → FieldType := fun k => match k with
  | 0 => .int
  | 1 => .array .int
  | _ => .array .int
abbrev wsX00 : List Cond := u_ws RX0 TX0 3
theorem nmX0 : ∀ a, a < 3 → ∀ b, b < 3 → a ≠ b → (TX0 a).2.1 ≠ (TX0 b).2.1 := by decide +kernel
theorem tyX0_ok : ∀ k, k < 3 → parseFieldDescriptor (TX0 k).2.2.1 = some (tyX0 k) := by decide +kernel
abbrev cX0_init : ByteArray := prog_2_method_1_code
def yX0_init : MethodName := ⟨RX0, "<init>", "()V"⟩
abbrev cX0_note : ByteArray := prog_2_method_2_code
def yX0_note : MethodName := ⟨RX0, "note", "(II)V"⟩
abbrev cX0_takeBack : ByteArray := prog_2_method_3_code
def yX0_takeBack : MethodName := ⟨RX0, "takeBack", "(LLotsBid$Plan;)V"⟩
def RX1 : String := "LotsBid$Game"
def TX1 : u_T := fun k => match k with
  | 0 => ("LotsBid$Game", "rests", "I", false)
  | 1 => ("LotsBid$Game", "limitOfOne", "I", false)
  | 2 => ("LotsBid$Game", "limitOfOther", "I", false)
  | 3 => ("LotsBid$Game", "gainOfOne", "[[I", true)
  | _ => ("LotsBid$Game", "gainOfOther", "[[I", true)
def tyX1 : Nat → FieldType := fun k => match k with
  | 0 => .int
  | 1 => .int
  | 2 => .int
  | 3 => .array (.array .int)
  | _ => .array (.array .int)
abbrev wsX10 : List Cond := u_ws RX1 TX1 5
theorem nmX1 : ∀ a, a < 5 → ∀ b, b < 5 → a ≠ b → (TX1 a).2.1 ≠ (TX1 b).2.1 := by decide +kernel
theorem tyX1_ok : ∀ k, k < 5 → parseFieldDescriptor (TX1 k).2.2.1 = some (tyX1 k) := by decide +kernel
abbrev cX1_init : ByteArray := prog_3_method_1_code
def yX1_init : MethodName := ⟨RX1, "<init>", "()V"⟩
abbrev cX1_play : ByteArray := prog_3_method_2_code
def yX1_play : MethodName := ⟨RX1, "play", "(LLotsBid$Plan;LLotsBid$Hiring;II)V"⟩
abbrev cX1_findRests : ByteArray := prog_3_method_3_code
def yX1_findRests : MethodName := ⟨RX1, "findRests", "()V"⟩
abbrev cX1_noteRest : ByteArray := prog_3_method_4_code
def yX1_noteRest : MethodName := ⟨RX1, "noteRest", "(II)V"⟩
abbrev cX1_isRest : ByteArray := prog_3_method_5_code
def yX1_isRest : MethodName := ⟨RX1, "isRest", "(II)Z"⟩
def RX2 : String := "LotsBid$Hiring"
def TX2 : u_T := fun k => match k with
  | 0 => ("LotsBid$Hiring", "got", "[I", true)
  | 1 => ("LotsBid$Hiring", "years", "[I", true)
  | 2 => ("LotsBid$Hiring", "bound", "[I", true)
  | _ => ("LotsBid$Hiring", "lastCall", "[I", true)
def tyX2 : Nat → FieldType := fun k => match k with
  | 0 => .array .int
  | 1 => .array .int
  | 2 => .array .int
  | _ => .array .int
abbrev wsX20 : List Cond := u_ws RX2 TX2 4
theorem nmX2 : ∀ a, a < 4 → ∀ b, b < 4 → a ≠ b → (TX2 a).2.1 ≠ (TX2 b).2.1 := by decide +kernel
theorem tyX2_ok : ∀ k, k < 4 → parseFieldDescriptor (TX2 k).2.2.1 = some (tyX2 k) := by decide +kernel
abbrev cX2_init : ByteArray := prog_4_method_1_code
def yX2_init : MethodName := ⟨RX2, "<init>", "()V"⟩
abbrev cX2_hold : ByteArray := prog_4_method_2_code
def yX2_hold : MethodName := ⟨RX2, "hold", "(LLotsBid$Plan;I)V"⟩
abbrev cX2_callFromBelow : ByteArray := prog_4_method_3_code
def yX2_callFromBelow : MethodName := ⟨RX2, "callFromBelow", "(LLotsBid$Plan;I)V"⟩
abbrev cX2_callFromAbove : ByteArray := prog_4_method_4_code
def yX2_callFromAbove : MethodName := ⟨RX2, "callFromAbove", "(LLotsBid$Plan;II)V"⟩
abbrev cX2_isIn : ByteArray := prog_4_method_5_code
def yX2_isIn : MethodName := ⟨RX2, "isIn", "(II)Z"⟩
abbrev cX2_howManyIn : ByteArray := prog_4_method_6_code
def yX2_howManyIn : MethodName := ⟨RX2, "howManyIn", "(LLotsBid$Plan;I)I"⟩
abbrev cX2_hire : ByteArray := prog_4_method_7_code
def yX2_hire : MethodName := ⟨RX2, "hire", "(LLotsBid$Plan;III)I"⟩
abbrev cX2_gainOf : ByteArray := prog_4_method_8_code
def yX2_gainOf : MethodName := ⟨RX2, "gainOf", "(LLotsBid$Plan;I)I"⟩
abbrev cX2_ladsOf : ByteArray := prog_4_method_9_code
def yX2_ladsOf : MethodName := ⟨RX2, "ladsOf", "(LLotsBid$Plan;I)I"⟩
abbrev cX2_mostYearsOf : ByteArray := prog_4_method_10_code
def yX2_mostYearsOf : MethodName := ⟨RX2, "mostYearsOf", "(LLotsBid$Plan;I)I"⟩
abbrev cX2_yearsOfAll : ByteArray := prog_4_method_11_code
def yX2_yearsOfAll : MethodName := ⟨RX2, "yearsOfAll", "(LLotsBid$Plan;)I"⟩
abbrev cX2_gainsOfAll : ByteArray := prog_4_method_12_code
def yX2_gainsOfAll : MethodName := ⟨RX2, "gainsOfAll", "(LLotsBid$Plan;)I"⟩
abbrev cX2_ladsHired : ByteArray := prog_4_method_13_code
def yX2_ladsHired : MethodName := ⟨RX2, "ladsHired", "(LLotsBid$Plan;)I"⟩
abbrev cX2_mastersAlone : ByteArray := prog_4_method_14_code
def yX2_mastersAlone : MethodName := ⟨RX2, "mastersAlone", "(LLotsBid$Plan;)I"⟩
abbrev cX2_hadGotAnother : ByteArray := prog_4_method_15_code
def yX2_hadGotAnother : MethodName := ⟨RX2, "hadGotAnother", "(II)Z"⟩
abbrev cX2_firstCallOut : ByteArray := prog_4_method_16_code
def yX2_firstCallOut : MethodName := ⟨RX2, "firstCallOut", "(LLotsBid$Plan;II)I"⟩
abbrev cX2_spanFrom : ByteArray := prog_4_method_17_code
def yX2_spanFrom : MethodName := ⟨RX2, "spanFrom", "(LLotsBid$Plan;II)I"⟩
abbrev cX2_spanTo : ByteArray := prog_4_method_18_code
def yX2_spanTo : MethodName := ⟨RX2, "spanTo", "(LLotsBid$Plan;II)I"⟩
def RX3 : String := "LotsBid$Pairing"
def TX3 : u_T := fun k => match k with
  | 0 => ("LotsBid$Pairing", "most", "I", false)
  | 1 => ("LotsBid$Pairing", "best", "[I", true)
  | 2 => ("LotsBid$Pairing", "way", "[I", true)
  | 3 => ("LotsBid$Pairing", "left", "[I", true)
  | _ => ("LotsBid$Pairing", "hope", "[I", true)
def tyX3 : Nat → FieldType := fun k => match k with
  | 0 => .int
  | 1 => .array .int
  | 2 => .array .int
  | 3 => .array .int
  | _ => .array .int
abbrev wsX30 : List Cond := u_ws RX3 TX3 5
theorem nmX3 : ∀ a, a < 5 → ∀ b, b < 5 → a ≠ b → (TX3 a).2.1 ≠ (TX3 b).2.1 := by decide +kernel
theorem tyX3_ok : ∀ k, k < 5 → parseFieldDescriptor (TX3 k).2.2.1 = some (tyX3 k) := by decide +kernel
abbrev cX3_init : ByteArray := prog_5_method_1_code
def yX3_init : MethodName := ⟨RX3, "<init>", "()V"⟩
abbrev cX3_search : ByteArray := prog_5_method_2_code
def yX3_search : MethodName := ⟨RX3, "search", "(LLotsBid$Plan;I)V"⟩
abbrev cX3_mostWantOf : ByteArray := prog_5_method_3_code
def yX3_mostWantOf : MethodName := ⟨RX3, "mostWantOf", "(LLotsBid$Plan;I)I"⟩
abbrev cX3_place : ByteArray := prog_5_method_4_code
def yX3_place : MethodName := ⟨RX3, "place", "(LLotsBid$Pairing;LLotsBid$Plan;III)V"⟩
def RX4 : String := "LotsBid$Plan"
def TX4 : u_T := fun k => match k with
  | 0 => ("LotsBid$Plan", "masters", "I", false)
  | 1 => ("LotsBid$Plan", "lads", "I", false)
  | 2 => ("LotsBid$Plan", "room", "[I", true)
  | 3 => ("LotsBid$Plan", "kind", "[I", true)
  | 4 => ("LotsBid$Plan", "want", "[[I", true)
  | _ => ("LotsBid$Plan", "law", "[I", true)
def tyX4 : Nat → FieldType := fun k => match k with
  | 0 => .int
  | 1 => .int
  | 2 => .array .int
  | 3 => .array .int
  | 4 => .array (.array .int)
  | _ => .array .int
abbrev wsX40 : List Cond := u_ws RX4 TX4 6
theorem nmX4 : ∀ a, a < 6 → ∀ b, b < 6 → a ≠ b → (TX4 a).2.1 ≠ (TX4 b).2.1 := by decide +kernel
theorem tyX4_ok : ∀ k, k < 6 → parseFieldDescriptor (TX4 k).2.2.1 = some (tyX4 k) := by decide +kernel
abbrev cX4_init : ByteArray := prog_6_method_1_code
def yX4_init : MethodName := ⟨RX4, "<init>", "()V"⟩
abbrev cX4_clear : ByteArray := prog_6_method_2_code
def yX4_clear : MethodName := ⟨RX4, "clear", "()V"⟩
abbrev cX4_copyFrom : ByteArray := prog_6_method_3_code
def yX4_copyFrom : MethodName := ⟨RX4, "copyFrom", "(LLotsBid$Plan;)V"⟩
abbrev cX4_hasMaster : ByteArray := prog_6_method_4_code
def yX4_hasMaster : MethodName := ⟨RX4, "hasMaster", "(I)Z"⟩
abbrev cX4_hasLad : ByteArray := prog_6_method_5_code
def yX4_hasLad : MethodName := ⟨RX4, "hasLad", "(I)Z"⟩
abbrev cX4_addMaster : ByteArray := prog_6_method_6_code
def yX4_addMaster : MethodName := ⟨RX4, "addMaster", "(I)Z"⟩
abbrev cX4_addLad : ByteArray := prog_6_method_7_code
def yX4_addLad : MethodName := ⟨RX4, "addLad", "(II)Z"⟩
abbrev cX4_addWant : ByteArray := prog_6_method_8_code
def yX4_addWant : MethodName := ⟨RX4, "addWant", "(III)Z"⟩
abbrev cX4_tellCalls : ByteArray := prog_6_method_9_code
def yX4_tellCalls : MethodName := ⟨RX4, "tellCalls", "(I)Z"⟩
abbrev cX4_tellStep : ByteArray := prog_6_method_10_code
def yX4_tellStep : MethodName := ⟨RX4, "tellStep", "(I)Z"⟩
abbrev cX4_stride : ByteArray := prog_6_method_11_code
def yX4_stride : MethodName := ⟨RX4, "stride", "()I"⟩
abbrev cX4_boundOf : ByteArray := prog_6_method_12_code
def yX4_boundOf : MethodName := ⟨RX4, "boundOf", "(II)I"⟩
abbrev cX4_drawWants : ByteArray := prog_6_method_13_code
def yX4_drawWants : MethodName := ⟨RX4, "drawWants", "(I)V"⟩
def RX5 : String := "LotsBid$Prices"
def TX5 : u_T := fun k => match k with
  | 0 => ("LotsBid$Prices", "found", "Z", false)
  | 1 => ("LotsBid$Prices", "sum", "I", false)
  | 2 => ("LotsBid$Prices", "best", "[I", true)
  | 3 => ("LotsBid$Prices", "asked", "[I", true)
  | _ => ("LotsBid$Prices", "held", "[I", true)
def tyX5 : Nat → FieldType := fun k => match k with
  | 0 => .boolean
  | 1 => .int
  | 2 => .array .int
  | 3 => .array .int
  | _ => .array .int
abbrev wsX50 : List Cond := u_ws RX5 TX5 5
theorem nmX5 : ∀ a, a < 5 → ∀ b, b < 5 → a ≠ b → (TX5 a).2.1 ≠ (TX5 b).2.1 := by decide +kernel
theorem tyX5_ok : ∀ k, k < 5 → parseFieldDescriptor (TX5 k).2.2.1 = some (tyX5 k) := by decide +kernel
abbrev cX5_init : ByteArray := prog_7_method_1_code
def yX5_init : MethodName := ⟨RX5, "<init>", "()V"⟩
abbrev cX5_search : ByteArray := prog_7_method_2_code
def yX5_search : MethodName := ⟨RX5, "search", "(LLotsBid$Plan;[IZ)V"⟩
abbrev cX5_countHeld : ByteArray := prog_7_method_3_code
def yX5_countHeld : MethodName := ⟨RX5, "countHeld", "(LLotsBid$Plan;[I)V"⟩
abbrev cX5_isBetter : ByteArray := prog_7_method_4_code
def yX5_isBetter : MethodName := ⟨RX5, "isBetter", "(IZ)Z"⟩
abbrev cX5_noteAsked : ByteArray := prog_7_method_5_code
def yX5_noteAsked : MethodName := ⟨RX5, "noteAsked", "(I)V"⟩
abbrev cX5_isAtRest : ByteArray := prog_7_method_6_code
def yX5_isAtRest : MethodName := ⟨RX5, "isAtRest", "(LLotsBid$Plan;[I)Z"⟩
abbrev cX5_isContent : ByteArray := prog_7_method_7_code
def yX5_isContent : MethodName := ⟨RX5, "isContent", "(LLotsBid$Plan;II)Z"⟩
def RX6 : String := "LotsBid$Shelf"
def TX6 : u_T := fun k => match k with
  | 0 => ("LotsBid$Shelf", "many", "I", false)
  | _ => ("LotsBid$Shelf", "laws", "[[I", true)
def tyX6 : Nat → FieldType := fun k => match k with
  | 0 => .int
  | _ => .array (.array .int)
abbrev wsX60 : List Cond := u_ws RX6 TX6 2
theorem nmX6 : ∀ a, a < 2 → ∀ b, b < 2 → a ≠ b → (TX6 a).2.1 ≠ (TX6 b).2.1 := by decide +kernel
theorem tyX6_ok : ∀ k, k < 2 → parseFieldDescriptor (TX6 k).2.2.1 = some (tyX6 k) := by decide +kernel
abbrev cX6_init : ByteArray := prog_8_method_1_code
def yX6_init : MethodName := ⟨RX6, "<init>", "()V"⟩
abbrev cX6_put : ByteArray := prog_8_method_2_code
def yX6_put : MethodName := ⟨RX6, "put", "(LLotsBid$Plan;)V"⟩
abbrev cX6_takeInto : ByteArray := prog_8_method_3_code
def yX6_takeInto : MethodName := ⟨RX6, "takeInto", "(LLotsBid$Plan;)V"⟩
def RX7 : String := "LotsBid$Sightings"
def TX7 : u_T := fun k => match k with
  | 0 => ("LotsBid$Sightings", "many", "I", false)
  | 1 => ("LotsBid$Sightings", "master", "[I", true)
  | _ => ("LotsBid$Sightings", "years", "[I", true)
def tyX7 : Nat → FieldType := fun k => match k with
  | 0 => .int
  | 1 => .array .int
  | _ => .array .int
abbrev wsX70 : List Cond := u_ws RX7 TX7 3
theorem nmX7 : ∀ a, a < 3 → ∀ b, b < 3 → a ≠ b → (TX7 a).2.1 ≠ (TX7 b).2.1 := by decide +kernel
theorem tyX7_ok : ∀ k, k < 3 → parseFieldDescriptor (TX7 k).2.2.1 = some (tyX7 k) := by decide +kernel
abbrev cX7_init : ByteArray := prog_9_method_1_code
def yX7_init : MethodName := ⟨RX7, "<init>", "()V"⟩
abbrev cX7_add : ByteArray := prog_9_method_2_code
def yX7_add : MethodName := ⟨RX7, "add", "(II)V"⟩
abbrev cX7_fit : ByteArray := prog_9_method_3_code
def yX7_fit : MethodName := ⟨RX7, "fit", "(LLotsBid$Plan;LLotsBid$Hiring;)Z"⟩
def RX8 : String := "LotsBid$Text"
def TX8 : u_T := fun k => match k with
  | 0 => ("LotsBid$Text", "length", "I", false)
  | 1 => ("LotsBid$Text", "bytes", "[B", true)
  | _ => ("LotsBid$Text", "number", "[I", true)
def tyX8 : Nat → FieldType := fun k => match k with
  | 0 => .int
  | 1 => .array .byte
  | _ => .array .int
abbrev wsX80 : List Cond := u_ws RX8 TX8 3
theorem nmX8 : ∀ a, a < 3 → ∀ b, b < 3 → a ≠ b → (TX8 a).2.1 ≠ (TX8 b).2.1 := by decide +kernel
theorem tyX8_ok : ∀ k, k < 3 → parseFieldDescriptor (TX8 k).2.2.1 = some (tyX8 k) := by decide +kernel
abbrev cX8_init : ByteArray := prog_10_method_1_code
def yX8_init : MethodName := ⟨RX8, "<init>", "()V"⟩
abbrev cX8_append : ByteArray := prog_10_method_2_code
def yX8_append : MethodName := ⟨RX8, "append", "(IJ)V"⟩
abbrev cX8_readInto : ByteArray := prog_10_method_3_code
def yX8_readInto : MethodName := ⟨RX8, "readInto", "(LLotsBid$Plan;)I"⟩
abbrev cX8_numbersOf : ByteArray := prog_10_method_4_code
def yX8_numbersOf : MethodName := ⟨RX8, "numbersOf", "(I)I"⟩
abbrev cX8_tell : ByteArray := prog_10_method_5_code
def yX8_tell : MethodName := ⟨RX8, "tell", "(LLotsBid$Plan;I)Z"⟩
abbrev cX8_readNumbers : ByteArray := prog_10_method_6_code
def yX8_readNumbers : MethodName := ⟨RX8, "readNumbers", "(II)I"⟩
abbrev cX8_figuresAt : ByteArray := prog_10_method_7_code
def yX8_figuresAt : MethodName := ⟨RX8, "figuresAt", "(I)I"⟩
abbrev cX8_numberAt : ByteArray := prog_10_method_8_code
def yX8_numberAt : MethodName := ⟨RX8, "numberAt", "(II)I"⟩
abbrev cX8_isFigureAt : ByteArray := prog_10_method_9_code
def yX8_isFigureAt : MethodName := ⟨RX8, "isFigureAt", "(I)Z"⟩
abbrev cX8_isSignAt : ByteArray := prog_10_method_10_code
def yX8_isSignAt : MethodName := ⟨RX8, "isSignAt", "(IC)Z"⟩
def RX9 : String := "LotsBid"
def TX9 : u_T := fun k => match k with
  | 0 => ("LotsBid", "text", "LLotsBid$Text;", true)
  | 1 => ("LotsBid", "plan", "LLotsBid$Plan;", true)
  | 2 => ("LotsBid", "trial", "LLotsBid$Plan;", true)
  | 3 => ("LotsBid", "hiring", "LLotsBid$Hiring;", true)
  | 4 => ("LotsBid", "game", "LLotsBid$Game;", true)
  | 5 => ("LotsBid", "pairing", "LLotsBid$Pairing;", true)
  | 6 => ("LotsBid", "prices", "LLotsBid$Prices;", true)
  | 7 => ("LotsBid", "sightings", "LLotsBid$Sightings;", true)
  | 8 => ("LotsBid", "changes", "LLotsBid$Changes;", true)
  | _ => ("LotsBid", "shelf", "LLotsBid$Shelf;", true)
def tyX9 : Nat → FieldType := fun k => match k with
  | 0 => .object "LotsBid$Text"
  | 1 => .object "LotsBid$Plan"
  | 2 => .object "LotsBid$Plan"
  | 3 => .object "LotsBid$Hiring"
  | 4 => .object "LotsBid$Game"
  | 5 => .object "LotsBid$Pairing"
  | 6 => .object "LotsBid$Prices"
  | 7 => .object "LotsBid$Sightings"
  | 8 => .object "LotsBid$Changes"
  | _ => .object "LotsBid$Shelf"
abbrev wsX90 : List Cond := u_ws RX9 TX9 10
theorem nmX9 : ∀ a, a < 10 → ∀ b, b < 10 → a ≠ b → (TX9 a).2.1 ≠ (TX9 b).2.1 := by decide +kernel
theorem tyX9_ok : ∀ k, k < 10 → parseFieldDescriptor (TX9 k).2.2.1 = some (tyX9 k) := by decide +kernel
abbrev cX9_init : ByteArray := prog_1_method_1_code
def yX9_init : MethodName := ⟨RX9, "<init>", "()V"⟩
abbrev cX9_write : ByteArray := prog_1_method_2_code
def yX9_write : MethodName := ⟨RX9, "write", "(IJ)I"⟩
abbrev cX9_wipe : ByteArray := prog_1_method_3_code
def yX9_wipe : MethodName := ⟨RX9, "wipe", "()I"⟩
abbrev cX9_fault : ByteArray := prog_1_method_4_code
def yX9_fault : MethodName := ⟨RX9, "fault", "()I"⟩
abbrev cX9_lay : ByteArray := prog_1_method_5_code
def yX9_lay : MethodName := ⟨RX9, "lay", "()I"⟩
abbrev cX9_lad : ByteArray := prog_1_method_6_code
def yX9_lad : MethodName := ⟨RX9, "lad", "(II)I"⟩
abbrev cX9_master : ByteArray := prog_1_method_7_code
def yX9_master : MethodName := ⟨RX9, "master", "(II)I"⟩
abbrev cX9_wants : ByteArray := prog_1_method_8_code
def yX9_wants : MethodName := ⟨RX9, "wants", "(III)I"⟩
abbrev cX9_all : ByteArray := prog_1_method_9_code
def yX9_all : MethodName := ⟨RX9, "all", "(I)I"⟩
abbrev cX9_limit : ByteArray := prog_1_method_10_code
def yX9_limit : MethodName := ⟨RX9, "limit", "(II)I"⟩
abbrev cX9_calls : ByteArray := prog_1_method_11_code
def yX9_calls : MethodName := ⟨RX9, "calls", "(I)I"⟩
abbrev cX9_step : ByteArray := prog_1_method_12_code
def yX9_step : MethodName := ⟨RX9, "step", "(I)I"⟩
abbrev cX9_undo : ByteArray := prog_1_method_13_code
def yX9_undo : MethodName := ⟨RX9, "undo", "()I"⟩
abbrev cX9_lie : ByteArray := prog_1_method_14_code
def yX9_lie : MethodName := ⟨RX9, "lie", "(II)I"⟩
abbrev cX9_game : ByteArray := prog_1_method_15_code
def yX9_game : MethodName := ⟨RX9, "game", "(III)I"⟩
abbrev cX9_rest : ByteArray := prog_1_method_16_code
def yX9_rest : MethodName := ⟨RX9, "rest", "(IZ)I"⟩
abbrev cX9_joint : ByteArray := prog_1_method_17_code
def yX9_joint : MethodName := ⟨RX9, "joint", "(I)I"⟩
abbrev cX9_pay : ByteArray := prog_1_method_18_code
def yX9_pay : MethodName := ⟨RX9, "pay", "(I)I"⟩
abbrev cX9_seen : ByteArray := prog_1_method_19_code
def yX9_seen : MethodName := ⟨RX9, "seen", "(II)I"⟩
abbrev cX9_forget : ByteArray := prog_1_method_20_code
def yX9_forget : MethodName := ⟨RX9, "forget", "()I"⟩
abbrev cX9_cousins : ByteArray := prog_1_method_21_code
def yX9_cousins : MethodName := ⟨RX9, "cousins", "()I"⟩
abbrev cX9_span : ByteArray := prog_1_method_22_code
def yX9_span : MethodName := ⟨RX9, "span", "(III)I"⟩
abbrev cX9_year : ByteArray := prog_1_method_23_code
def yX9_year : MethodName := ⟨RX9, "year", "(II)I"⟩
abbrev cX9_keep : ByteArray := prog_1_method_24_code
def yX9_keep : MethodName := ⟨RX9, "keep", "()I"⟩
abbrev cX9_back : ByteArray := prog_1_method_25_code
def yX9_back : MethodName := ⟨RX9, "back", "()I"⟩
abbrev cX9_count : ByteArray := prog_1_method_26_code
def yX9_count : MethodName := ⟨RX9, "count", "(I)I"⟩
abbrev cX9_isWithin : ByteArray := prog_1_method_27_code
def yX9_isWithin : MethodName := ⟨RX9, "isWithin", "(III)Z"⟩
abbrev cX9_change : ByteArray := prog_1_method_28_code
def yX9_change : MethodName := ⟨RX9, "change", "(II)I"⟩
abbrev cX9_gainBySaying : ByteArray := prog_1_method_29_code
def yX9_gainBySaying : MethodName := ⟨RX9, "gainBySaying", "(II)I"⟩
abbrev cX9_isAsSeenWithout : ByteArray := prog_1_method_30_code
def yX9_isAsSeenWithout : MethodName := ⟨RX9, "isAsSeenWithout", "(I)Z"⟩
def RX10 : String := "LotsBidModel"
def TX10 : u_T := fun k => match k with
  | 0 => ("LotsBidModel", "length", "I", false)
  | 1 => ("LotsBidModel", "text", "[I", true)
  | 2 => ("LotsBidModel", "masters", "[I", true)
  | 3 => ("LotsBidModel", "rooms", "[I", true)
  | 4 => ("LotsBidModel", "lads", "[I", true)
  | 5 => ("LotsBidModel", "kinds", "[I", true)
  | 6 => ("LotsBidModel", "wanted", "[I", true)
  | 7 => ("LotsBidModel", "limits", "[I", true)
  | 8 => ("LotsBidModel", "call", "[I", true)
  | 9 => ("LotsBidModel", "steps", "[I", true)
  | 10 => ("LotsBidModel", "keptMany", "I", false)
  | 11 => ("LotsBidModel", "undoMany", "I", false)
  | 12 => ("LotsBidModel", "undos", "[I", true)
  | 13 => ("LotsBidModel", "seenMany", "I", false)
  | 14 => ("LotsBidModel", "seenOf", "[I", true)
  | 15 => ("LotsBidModel", "seenYears", "[I", true)
  | 16 => ("LotsBidModel", "place", "I", false)
  | 17 => ("LotsBidModel", "told", "[I", true)
  | 18 => ("LotsBidModel", "got", "[I", true)
  | 19 => ("LotsBidModel", "years", "[I", true)
  | 20 => ("LotsBidModel", "out", "I", false)
  | 21 => ("LotsBidModel", "left", "I", false)
  | 22 => ("LotsBidModel", "ends", "I", false)
  | 23 => ("LotsBidModel", "gainOne", "[I", true)
  | 24 => ("LotsBidModel", "gainTwo", "[I", true)
  | 25 => ("LotsBidModel", "price", "[I", true)
  | 26 => ("LotsBidModel", "with", "[I", true)
  | 27 => ("LotsBidModel", "used", "[I", true)
  | _ => ("LotsBidModel", "held", "[I", true)
def tyX10 : Nat → FieldType := fun k => match k with
  | 0 => .int
  | 1 => .array .int
  | 2 => .array .int
  | 3 => .array .int
  | 4 => .array .int
  | 5 => .array .int
  | 6 => .array .int
  | 7 => .array .int
  | 8 => .array .int
  | 9 => .array .int
  | 10 => .int
  | 11 => .int
  | 12 => .array .int
  | 13 => .int
  | 14 => .array .int
  | 15 => .array .int
  | 16 => .int
  | 17 => .array .int
  | 18 => .array .int
  | 19 => .array .int
  | 20 => .int
  | 21 => .int
  | 22 => .int
  | 23 => .array .int
  | 24 => .array .int
  | 25 => .array .int
  | 26 => .array .int
  | 27 => .array .int
  | _ => .array .int
abbrev wsX100 : List Cond := u_ws RX10 TX10 29
theorem nmX10 : ∀ a, a < 29 → ∀ b, b < 29 → a ≠ b → (TX10 a).2.1 ≠ (TX10 b).2.1 := by decide +kernel
theorem tyX10_ok : ∀ k, k < 29 → parseFieldDescriptor (TX10 k).2.2.1 = some (tyX10 k) := by decide +kernel
abbrev cX10_init : ByteArray := prog_12_method_1_code
def yX10_init : MethodName := ⟨RX10, "<init>", "()V"⟩
abbrev cX10_in : ByteArray := prog_12_method_2_code
def yX10_in : MethodName := ⟨RX10, "in", "(JJJ)Z"⟩
abbrev cX10_has : ByteArray := prog_12_method_3_code
def yX10_has : MethodName := ⟨RX10, "has", "(II)Z"⟩
abbrev cX10_noFair : ByteArray := prog_12_method_4_code
def yX10_noFair : MethodName := ⟨RX10, "noFair", "(I)V"⟩
abbrev cX10_write : ByteArray := prog_12_method_5_code
def yX10_write : MethodName := ⟨RX10, "write", "(IJ)I"⟩
abbrev cX10_wipe : ByteArray := prog_12_method_6_code
def yX10_wipe : MethodName := ⟨RX10, "wipe", "()I"⟩
abbrev cX10_byteAt : ByteArray := prog_12_method_7_code
def yX10_byteAt : MethodName := ⟨RX10, "byteAt", "(I)I"⟩
abbrev cX10_figures : ByteArray := prog_12_method_8_code
def yX10_figures : MethodName := ⟨RX10, "figures", "(I)Z"⟩
abbrev cX10_item : ByteArray := prog_12_method_9_code
def yX10_item : MethodName := ⟨RX10, "item", "()Z"⟩
abbrev cX10_readAll : ByteArray := prog_12_method_10_code
def yX10_readAll : MethodName := ⟨RX10, "readAll", "()I"⟩
abbrev cX10_fault : ByteArray := prog_12_method_11_code
def yX10_fault : MethodName := ⟨RX10, "fault", "()I"⟩
abbrev cX10_copy : ByteArray := prog_12_method_12_code
def yX10_copy : MethodName := ⟨RX10, "copy", "(II)V"⟩
abbrev cX10_lay : ByteArray := prog_12_method_13_code
def yX10_lay : MethodName := ⟨RX10, "lay", "()I"⟩
abbrev cX10_isLad : ByteArray := prog_12_method_14_code
def yX10_isLad : MethodName := ⟨RX10, "isLad", "(I)Z"⟩
abbrev cX10_isMaster : ByteArray := prog_12_method_15_code
def yX10_isMaster : MethodName := ⟨RX10, "isMaster", "(I)Z"⟩
abbrev cX10_boundOf : ByteArray := prog_12_method_16_code
def yX10_boundOf : MethodName := ⟨RX10, "boundOf", "(II)I"⟩
abbrev cX10_isIn : ByteArray := prog_12_method_17_code
def yX10_isIn : MethodName := ⟨RX10, "isIn", "(III)Z"⟩
abbrev cX10_inSet : ByteArray := prog_12_method_18_code
def yX10_inSet : MethodName := ⟨RX10, "inSet", "(II)I"⟩
abbrev cX10_bits : ByteArray := prog_12_method_19_code
def yX10_bits : MethodName := ⟨RX10, "bits", "(I)I"⟩
abbrev cX10_give : ByteArray := prog_12_method_20_code
def yX10_give : MethodName := ⟨RX10, "give", "(III)V"⟩
abbrev cX10_callBelow : ByteArray := prog_12_method_21_code
def yX10_callBelow : MethodName := ⟨RX10, "callBelow", "(I)V"⟩
abbrev cX10_callAbove : ByteArray := prog_12_method_22_code
def yX10_callAbove : MethodName := ⟨RX10, "callAbove", "(I)V"⟩
abbrev cX10_callSealed : ByteArray := prog_12_method_23_code
def yX10_callSealed : MethodName := ⟨RX10, "callSealed", "(I)V"⟩
abbrev cX10_callOne : ByteArray := prog_12_method_24_code
def yX10_callOne : MethodName := ⟨RX10, "callOne", "(II)V"⟩
abbrev cX10_begin : ByteArray := prog_12_method_25_code
def yX10_begin : MethodName := ⟨RX10, "begin", "(I)V"⟩
abbrev cX10_goFair : ByteArray := prog_12_method_26_code
def yX10_goFair : MethodName := ⟨RX10, "goFair", "(I)V"⟩
abbrev cX10_gainOf : ByteArray := prog_12_method_27_code
def yX10_gainOf : MethodName := ⟨RX10, "gainOf", "(I)I"⟩
abbrev cX10_lad : ByteArray := prog_12_method_28_code
def yX10_lad : MethodName := ⟨RX10, "lad", "(II)I"⟩
abbrev cX10_mostOf : ByteArray := prog_12_method_29_code
def yX10_mostOf : MethodName := ⟨RX10, "mostOf", "(I)I"⟩
abbrev cX10_ladsOf : ByteArray := prog_12_method_30_code
def yX10_ladsOf : MethodName := ⟨RX10, "ladsOf", "(I)I"⟩
abbrev cX10_master : ByteArray := prog_12_method_31_code
def yX10_master : MethodName := ⟨RX10, "master", "(II)I"⟩
abbrev cX10_wants : ByteArray := prog_12_method_32_code
def yX10_wants : MethodName := ⟨RX10, "wants", "(III)I"⟩
abbrev cX10_all : ByteArray := prog_12_method_33_code
def yX10_all : MethodName := ⟨RX10, "all", "(I)I"⟩
abbrev cX10_note : ByteArray := prog_12_method_34_code
def yX10_note : MethodName := ⟨RX10, "note", "(II)I"⟩
abbrev cX10_limit : ByteArray := prog_12_method_35_code
def yX10_limit : MethodName := ⟨RX10, "limit", "(II)I"⟩
abbrev cX10_calls : ByteArray := prog_12_method_36_code
def yX10_calls : MethodName := ⟨RX10, "calls", "(I)I"⟩
abbrev cX10_step : ByteArray := prog_12_method_37_code
def yX10_step : MethodName := ⟨RX10, "step", "(I)I"⟩
abbrev cX10_undo : ByteArray := prog_12_method_38_code
def yX10_undo : MethodName := ⟨RX10, "undo", "()I"⟩
abbrev cX10_lie : ByteArray := prog_12_method_39_code
def yX10_lie : MethodName := ⟨RX10, "lie", "(II)I"⟩
abbrev cX10_game : ByteArray := prog_12_method_40_code
def yX10_game : MethodName := ⟨RX10, "game", "(III)I"⟩
abbrev cX10_seatAll : ByteArray := prog_12_method_41_code
def yX10_seatAll : MethodName := ⟨RX10, "seatAll", "(I)Z"⟩
abbrev cX10_codes : ByteArray := prog_12_method_42_code
def yX10_codes : MethodName := ⟨RX10, "codes", "()I"⟩
abbrev cX10_isAtRest : ByteArray := prog_12_method_43_code
def yX10_isAtRest : MethodName := ⟨RX10, "isAtRest", "()Z"⟩
abbrev cX10_takePrices : ByteArray := prog_12_method_44_code
def yX10_takePrices : MethodName := ⟨RX10, "takePrices", "(I)I"⟩
abbrev cX10_canRest : ByteArray := prog_12_method_45_code
def yX10_canRest : MethodName := ⟨RX10, "canRest", "()Z"⟩
abbrev cX10_rest : ByteArray := prog_12_method_46_code
def yX10_rest : MethodName := ⟨RX10, "rest", "(IZ)I"⟩
abbrev cX10_sumOf : ByteArray := prog_12_method_47_code
def yX10_sumOf : MethodName := ⟨RX10, "sumOf", "(I)I"⟩
abbrev cX10_bestWay : ByteArray := prog_12_method_48_code
def yX10_bestWay : MethodName := ⟨RX10, "bestWay", "(I)I"⟩
abbrev cX10_joint : ByteArray := prog_12_method_49_code
def yX10_joint : MethodName := ⟨RX10, "joint", "(I)I"⟩
abbrev cX10_pay : ByteArray := prog_12_method_50_code
def yX10_pay : MethodName := ⟨RX10, "pay", "(I)I"⟩
abbrev cX10_seen : ByteArray := prog_12_method_51_code
def yX10_seen : MethodName := ⟨RX10, "seen", "(II)I"⟩
abbrev cX10_forget : ByteArray := prog_12_method_52_code
def yX10_forget : MethodName := ⟨RX10, "forget", "()I"⟩
abbrev cX10_isSeenSo : ByteArray := prog_12_method_53_code
def yX10_isSeenSo : MethodName := ⟨RX10, "isSeenSo", "(I)Z"⟩
abbrev cX10_cousins : ByteArray := prog_12_method_54_code
def yX10_cousins : MethodName := ⟨RX10, "cousins", "()I"⟩
abbrev cX10_span : ByteArray := prog_12_method_55_code
def yX10_span : MethodName := ⟨RX10, "span", "(III)I"⟩
abbrev cX10_year : ByteArray := prog_12_method_56_code
def yX10_year : MethodName := ⟨RX10, "year", "(II)I"⟩
abbrev cX10_keep : ByteArray := prog_12_method_57_code
def yX10_keep : MethodName := ⟨RX10, "keep", "()I"⟩
abbrev cX10_back : ByteArray := prog_12_method_58_code
def yX10_back : MethodName := ⟨RX10, "back", "()I"⟩
abbrev cX10_count : ByteArray := prog_12_method_59_code
def yX10_count : MethodName := ⟨RX10, "count", "(I)I"⟩
def RJ9 : String := "java/lang/Math"
def TJ9 : u_T := fun k => match k with
  | _ => ("", "", "", false)
def tyJ9 : Nat → FieldType := fun k => match k with
  | _ => .int
abbrev wsJ90 : List Cond := u_ws RJ9 TJ9 0
theorem nmJ9 : ∀ a, a < 0 → ∀ b, b < 0 → a ≠ b → (TJ9 a).2.1 ≠ (TJ9 b).2.1 := by decide +kernel
theorem tyJ9_ok : ∀ k, k < 0 → parseFieldDescriptor (TJ9 k).2.2.1 = some (tyJ9 k) := by decide +kernel
abbrev cJ9_max_7cf53 : ByteArray := prog_13_method_65_code
def yJ9_max_7cf53 : MethodName := ⟨RJ9, "max", "(II)I"⟩
abbrev cJ9_min_7cf53 : ByteArray := prog_13_method_69_code
def yJ9_min_7cf53 : MethodName := ⟨RJ9, "min", "(II)I"⟩
def RJ10 : String := "java/lang/System"
def TJ10 : u_T := fun k => match k with
  | _ => ("", "", "", false)
def tyJ10 : Nat → FieldType := fun k => match k with
  | _ => .int
abbrev wsJ100 : List Cond := u_ws RJ10 TJ10 0
theorem nmJ10 : ∀ a, a < 0 → ∀ b, b < 0 → a ≠ b → (TJ10 a).2.1 ≠ (TJ10 b).2.1 := by decide +kernel
theorem tyJ10_ok : ∀ k, k < 0 → parseFieldDescriptor (TJ10 k).2.2.1 = some (tyJ10 k) := by decide +kernel
def RJ7 : String := "java/util/Arrays"
def TJ7 : u_T := fun k => match k with
  | _ => ("", "", "", false)
def tyJ7 : Nat → FieldType := fun k => match k with
  | _ => .int
abbrev wsJ70 : List Cond := u_ws RJ7 TJ7 0
theorem nmJ7 : ∀ a, a < 0 → ∀ b, b < 0 → a ≠ b → (TJ7 a).2.1 ≠ (TJ7 b).2.1 := by decide +kernel
theorem tyJ7_ok : ∀ k, k < 0 → parseFieldDescriptor (TJ7 k).2.2.1 = some (tyJ7 k) := by decide +kernel
abbrev cJ7_fill_53178 : ByteArray := prog_15_method_103_code
def yJ7_fill_53178 : MethodName := ⟨RJ7, "fill", "([II)V"⟩
def RL : String := "LotsBidLaw"
abbrev cL_law : ByteArray := code
def yL_law : MethodName := ⟨RL, "law", "([I)Z"⟩
