section
-- ===== PART A: goes FIRST, ahead of the names: the tables' words, and 'selects' of the private methods out of them =====
/-- a private method of a class that the tables say can be made, by its rows of tables_1 -/
def lw_okq (q : MethodName × Nat) : Prop := (q.1.cls ≠ "java/lang/invoke/MethodHandle" ∧ q.1.cls ≠ "java/lang/invoke/VarHandle") ∧ Cond.instantiable q.1.cls q.2 ∈ tables_1 ∧ Cond.privateMethod q.1 ∈ tables_1 ∧ Cond.instanceMethod q.1 ∈ tables_1
theorem lw_p0 : lw_okq (⟨"LotsBid$Text", "readNumbers", "(II)I"⟩, 3) := ⟨⟨by decide +kernel, by decide +kernel⟩, List.mem_of_getElem? (i := 24) (by decide +kernel), List.mem_of_getElem? (i := 323) (by decide +kernel), List.mem_of_getElem? (i := 324) (by decide +kernel)⟩
theorem lw_p1 : lw_okq (⟨"LotsBid$Text", "figuresAt", "(I)I"⟩, 3) := ⟨⟨by decide +kernel, by decide +kernel⟩, List.mem_of_getElem? (i := 24) (by decide +kernel), List.mem_of_getElem? (i := 327) (by decide +kernel), List.mem_of_getElem? (i := 328) (by decide +kernel)⟩
theorem lw_p2 : lw_okq (⟨"LotsBid$Text", "isFigureAt", "(I)Z"⟩, 3) := ⟨⟨by decide +kernel, by decide +kernel⟩, List.mem_of_getElem? (i := 24) (by decide +kernel), List.mem_of_getElem? (i := 331) (by decide +kernel), List.mem_of_getElem? (i := 332) (by decide +kernel)⟩
theorem lw_p3 : lw_okq (⟨"LotsBid$Text", "numberAt", "(II)I"⟩, 3) := ⟨⟨by decide +kernel, by decide +kernel⟩, List.mem_of_getElem? (i := 24) (by decide +kernel), List.mem_of_getElem? (i := 335) (by decide +kernel), List.mem_of_getElem? (i := 336) (by decide +kernel)⟩
theorem lw_p4 : lw_okq (⟨"LotsBid$Text", "isSignAt", "(IC)Z"⟩, 3) := ⟨⟨by decide +kernel, by decide +kernel⟩, List.mem_of_getElem? (i := 24) (by decide +kernel), List.mem_of_getElem? (i := 339) (by decide +kernel), List.mem_of_getElem? (i := 340) (by decide +kernel)⟩
theorem lw_p5 : lw_okq (⟨"LotsBid$Text", "tell", "(LLotsBid$Plan;I)Z"⟩, 3) := ⟨⟨by decide +kernel, by decide +kernel⟩, List.mem_of_getElem? (i := 24) (by decide +kernel), List.mem_of_getElem? (i := 343) (by decide +kernel), List.mem_of_getElem? (i := 344) (by decide +kernel)⟩
theorem lw_p6 : lw_okq (⟨"LotsBid$Hiring", "callFromBelow", "(LLotsBid$Plan;I)V"⟩, 4) := ⟨⟨by decide +kernel, by decide +kernel⟩, List.mem_of_getElem? (i := 92) (by decide +kernel), List.mem_of_getElem? (i := 386) (by decide +kernel), List.mem_of_getElem? (i := 387) (by decide +kernel)⟩
theorem lw_p7 : lw_okq (⟨"LotsBid$Hiring", "howManyIn", "(LLotsBid$Plan;I)I"⟩, 4) := ⟨⟨by decide +kernel, by decide +kernel⟩, List.mem_of_getElem? (i := 92) (by decide +kernel), List.mem_of_getElem? (i := 390) (by decide +kernel), List.mem_of_getElem? (i := 391) (by decide +kernel)⟩
theorem lw_p8 : lw_okq (⟨"LotsBid$Hiring", "isIn", "(II)Z"⟩, 4) := ⟨⟨by decide +kernel, by decide +kernel⟩, List.mem_of_getElem? (i := 92) (by decide +kernel), List.mem_of_getElem? (i := 394) (by decide +kernel), List.mem_of_getElem? (i := 395) (by decide +kernel)⟩
theorem lw_p9 : lw_okq (⟨"LotsBid$Hiring", "hire", "(LLotsBid$Plan;III)I"⟩, 4) := ⟨⟨by decide +kernel, by decide +kernel⟩, List.mem_of_getElem? (i := 92) (by decide +kernel), List.mem_of_getElem? (i := 398) (by decide +kernel), List.mem_of_getElem? (i := 399) (by decide +kernel)⟩
theorem lw_p10 : lw_okq (⟨"LotsBid$Hiring", "callFromAbove", "(LLotsBid$Plan;II)V"⟩, 4) := ⟨⟨by decide +kernel, by decide +kernel⟩, List.mem_of_getElem? (i := 92) (by decide +kernel), List.mem_of_getElem? (i := 402) (by decide +kernel), List.mem_of_getElem? (i := 403) (by decide +kernel)⟩
theorem lw_p11 : lw_okq (⟨"LotsBid", "change", "(II)I"⟩, 10) := ⟨⟨by decide +kernel, by decide +kernel⟩, List.mem_of_getElem? (i := 16) (by decide +kernel), List.mem_of_getElem? (i := 452) (by decide +kernel), List.mem_of_getElem? (i := 453) (by decide +kernel)⟩
theorem lw_p12 : lw_okq (⟨"LotsBid", "gainBySaying", "(II)I"⟩, 10) := ⟨⟨by decide +kernel, by decide +kernel⟩, List.mem_of_getElem? (i := 16) (by decide +kernel), List.mem_of_getElem? (i := 481) (by decide +kernel), List.mem_of_getElem? (i := 482) (by decide +kernel)⟩
theorem lw_p13 : lw_okq (⟨"LotsBid$Game", "isRest", "(II)Z"⟩, 5) := ⟨⟨by decide +kernel, by decide +kernel⟩, List.mem_of_getElem? (i := 113) (by decide +kernel), List.mem_of_getElem? (i := 499) (by decide +kernel), List.mem_of_getElem? (i := 500) (by decide +kernel)⟩
theorem lw_p14 : lw_okq (⟨"LotsBid$Game", "noteRest", "(II)V"⟩, 5) := ⟨⟨by decide +kernel, by decide +kernel⟩, List.mem_of_getElem? (i := 113) (by decide +kernel), List.mem_of_getElem? (i := 503) (by decide +kernel), List.mem_of_getElem? (i := 504) (by decide +kernel)⟩
theorem lw_p15 : lw_okq (⟨"LotsBid$Prices", "countHeld", "(LLotsBid$Plan;[I)V"⟩, 5) := ⟨⟨by decide +kernel, by decide +kernel⟩, List.mem_of_getElem? (i := 163) (by decide +kernel), List.mem_of_getElem? (i := 527) (by decide +kernel), List.mem_of_getElem? (i := 528) (by decide +kernel)⟩
def lw_privs_1 : List (MethodName × Nat) := [(⟨"LotsBid$Text", "readNumbers", "(II)I"⟩, 3), (⟨"LotsBid$Text", "figuresAt", "(I)I"⟩, 3), (⟨"LotsBid$Text", "isFigureAt", "(I)Z"⟩, 3), (⟨"LotsBid$Text", "numberAt", "(II)I"⟩, 3), (⟨"LotsBid$Text", "isSignAt", "(IC)Z"⟩, 3), (⟨"LotsBid$Text", "tell", "(LLotsBid$Plan;I)Z"⟩, 3), (⟨"LotsBid$Hiring", "callFromBelow", "(LLotsBid$Plan;I)V"⟩, 4), (⟨"LotsBid$Hiring", "howManyIn", "(LLotsBid$Plan;I)I"⟩, 4), (⟨"LotsBid$Hiring", "isIn", "(II)Z"⟩, 4), (⟨"LotsBid$Hiring", "hire", "(LLotsBid$Plan;III)I"⟩, 4), (⟨"LotsBid$Hiring", "callFromAbove", "(LLotsBid$Plan;II)V"⟩, 4), (⟨"LotsBid", "change", "(II)I"⟩, 10), (⟨"LotsBid", "gainBySaying", "(II)I"⟩, 10), (⟨"LotsBid$Game", "isRest", "(II)Z"⟩, 5), (⟨"LotsBid$Game", "noteRest", "(II)V"⟩, 5), (⟨"LotsBid$Prices", "countHeld", "(LLotsBid$Plan;[I)V"⟩, 5)]
theorem lw_r1 : ∀ q ∈ lw_privs_1, lw_okq q := List.forall_mem_cons.mpr ⟨lw_p0, List.forall_mem_cons.mpr ⟨lw_p1, List.forall_mem_cons.mpr ⟨lw_p2, List.forall_mem_cons.mpr ⟨lw_p3, List.forall_mem_cons.mpr ⟨lw_p4, List.forall_mem_cons.mpr ⟨lw_p5, List.forall_mem_cons.mpr ⟨lw_p6, List.forall_mem_cons.mpr ⟨lw_p7, List.forall_mem_cons.mpr ⟨lw_p8, List.forall_mem_cons.mpr ⟨lw_p9, List.forall_mem_cons.mpr ⟨lw_p10, List.forall_mem_cons.mpr ⟨lw_p11, List.forall_mem_cons.mpr ⟨lw_p12, List.forall_mem_cons.mpr ⟨lw_p13, List.forall_mem_cons.mpr ⟨lw_p14, List.forall_mem_cons.mpr ⟨lw_p15, fun _ h => absurd h List.not_mem_nil⟩⟩⟩⟩⟩⟩⟩⟩⟩⟩⟩⟩⟩⟩⟩⟩
theorem lw_p16 : lw_okq (⟨"LotsBid$Prices", "isBetter", "(IZ)Z"⟩, 5) := ⟨⟨by decide +kernel, by decide +kernel⟩, List.mem_of_getElem? (i := 163) (by decide +kernel), List.mem_of_getElem? (i := 532) (by decide +kernel), List.mem_of_getElem? (i := 533) (by decide +kernel)⟩
theorem lw_p17 : lw_okq (⟨"LotsBid$Prices", "isAtRest", "(LLotsBid$Plan;[I)Z"⟩, 5) := ⟨⟨by decide +kernel, by decide +kernel⟩, List.mem_of_getElem? (i := 163) (by decide +kernel), List.mem_of_getElem? (i := 536) (by decide +kernel), List.mem_of_getElem? (i := 537) (by decide +kernel)⟩
theorem lw_p18 : lw_okq (⟨"LotsBid$Prices", "isContent", "(LLotsBid$Plan;II)Z"⟩, 5) := ⟨⟨by decide +kernel, by decide +kernel⟩, List.mem_of_getElem? (i := 163) (by decide +kernel), List.mem_of_getElem? (i := 540) (by decide +kernel), List.mem_of_getElem? (i := 541) (by decide +kernel)⟩
theorem lw_p19 : lw_okq (⟨"LotsBid$Prices", "noteAsked", "(I)V"⟩, 5) := ⟨⟨by decide +kernel, by decide +kernel⟩, List.mem_of_getElem? (i := 163) (by decide +kernel), List.mem_of_getElem? (i := 544) (by decide +kernel), List.mem_of_getElem? (i := 545) (by decide +kernel)⟩
theorem lw_p20 : lw_okq (⟨"LotsBid", "isAsSeenWithout", "(I)Z"⟩, 10) := ⟨⟨by decide +kernel, by decide +kernel⟩, List.mem_of_getElem? (i := 16) (by decide +kernel), List.mem_of_getElem? (i := 573) (by decide +kernel), List.mem_of_getElem? (i := 574) (by decide +kernel)⟩
theorem lw_p21 : lw_okq (⟨"LotsBid$Hiring", "hadGotAnother", "(II)Z"⟩, 4) := ⟨⟨by decide +kernel, by decide +kernel⟩, List.mem_of_getElem? (i := 92) (by decide +kernel), List.mem_of_getElem? (i := 590) (by decide +kernel), List.mem_of_getElem? (i := 591) (by decide +kernel)⟩
theorem lw_p22 : lw_okq (⟨"LotsBid$Hiring", "firstCallOut", "(LLotsBid$Plan;II)I"⟩, 4) := ⟨⟨by decide +kernel, by decide +kernel⟩, List.mem_of_getElem? (i := 92) (by decide +kernel), List.mem_of_getElem? (i := 594) (by decide +kernel), List.mem_of_getElem? (i := 595) (by decide +kernel)⟩
theorem lw_p23 : lw_okq (⟨"LotsBidModel", "noFair", "(I)V"⟩, 29) := ⟨⟨by decide +kernel, by decide +kernel⟩, List.mem_of_getElem? (i := 641) (by decide +kernel), List.mem_of_getElem? (i := 647) (by decide +kernel), List.mem_of_getElem? (i := 648) (by decide +kernel)⟩
theorem lw_p24 : lw_okq (⟨"LotsBidModel", "readAll", "()I"⟩, 29) := ⟨⟨by decide +kernel, by decide +kernel⟩, List.mem_of_getElem? (i := 641) (by decide +kernel), List.mem_of_getElem? (i := 756) (by decide +kernel), List.mem_of_getElem? (i := 757) (by decide +kernel)⟩
theorem lw_p25 : lw_okq (⟨"LotsBidModel", "item", "()Z"⟩, 29) := ⟨⟨by decide +kernel, by decide +kernel⟩, List.mem_of_getElem? (i := 641) (by decide +kernel), List.mem_of_getElem? (i := 760) (by decide +kernel), List.mem_of_getElem? (i := 761) (by decide +kernel)⟩
theorem lw_p26 : lw_okq (⟨"LotsBidModel", "byteAt", "(I)I"⟩, 29) := ⟨⟨by decide +kernel, by decide +kernel⟩, List.mem_of_getElem? (i := 641) (by decide +kernel), List.mem_of_getElem? (i := 764) (by decide +kernel), List.mem_of_getElem? (i := 765) (by decide +kernel)⟩
theorem lw_p27 : lw_okq (⟨"LotsBidModel", "figures", "(I)Z"⟩, 29) := ⟨⟨by decide +kernel, by decide +kernel⟩, List.mem_of_getElem? (i := 641) (by decide +kernel), List.mem_of_getElem? (i := 768) (by decide +kernel), List.mem_of_getElem? (i := 769) (by decide +kernel)⟩
theorem lw_p28 : lw_okq (⟨"LotsBidModel", "copy", "(II)V"⟩, 29) := ⟨⟨by decide +kernel, by decide +kernel⟩, List.mem_of_getElem? (i := 641) (by decide +kernel), List.mem_of_getElem? (i := 781) (by decide +kernel), List.mem_of_getElem? (i := 782) (by decide +kernel)⟩
theorem lw_p29 : lw_okq (⟨"LotsBidModel", "isLad", "(I)Z"⟩, 29) := ⟨⟨by decide +kernel, by decide +kernel⟩, List.mem_of_getElem? (i := 641) (by decide +kernel), List.mem_of_getElem? (i := 789) (by decide +kernel), List.mem_of_getElem? (i := 790) (by decide +kernel)⟩
theorem lw_p30 : lw_okq (⟨"LotsBidModel", "goFair", "(I)V"⟩, 29) := ⟨⟨by decide +kernel, by decide +kernel⟩, List.mem_of_getElem? (i := 641) (by decide +kernel), List.mem_of_getElem? (i := 794) (by decide +kernel), List.mem_of_getElem? (i := 795) (by decide +kernel)⟩
theorem lw_p31 : lw_okq (⟨"LotsBidModel", "begin", "(I)V"⟩, 29) := ⟨⟨by decide +kernel, by decide +kernel⟩, List.mem_of_getElem? (i := 641) (by decide +kernel), List.mem_of_getElem? (i := 798) (by decide +kernel), List.mem_of_getElem? (i := 799) (by decide +kernel)⟩
def lw_privs_2 : List (MethodName × Nat) := [(⟨"LotsBid$Prices", "isBetter", "(IZ)Z"⟩, 5), (⟨"LotsBid$Prices", "isAtRest", "(LLotsBid$Plan;[I)Z"⟩, 5), (⟨"LotsBid$Prices", "isContent", "(LLotsBid$Plan;II)Z"⟩, 5), (⟨"LotsBid$Prices", "noteAsked", "(I)V"⟩, 5), (⟨"LotsBid", "isAsSeenWithout", "(I)Z"⟩, 10), (⟨"LotsBid$Hiring", "hadGotAnother", "(II)Z"⟩, 4), (⟨"LotsBid$Hiring", "firstCallOut", "(LLotsBid$Plan;II)I"⟩, 4), (⟨"LotsBidModel", "noFair", "(I)V"⟩, 29), (⟨"LotsBidModel", "readAll", "()I"⟩, 29), (⟨"LotsBidModel", "item", "()Z"⟩, 29), (⟨"LotsBidModel", "byteAt", "(I)I"⟩, 29), (⟨"LotsBidModel", "figures", "(I)Z"⟩, 29), (⟨"LotsBidModel", "copy", "(II)V"⟩, 29), (⟨"LotsBidModel", "isLad", "(I)Z"⟩, 29), (⟨"LotsBidModel", "goFair", "(I)V"⟩, 29), (⟨"LotsBidModel", "begin", "(I)V"⟩, 29)]
theorem lw_r2 : ∀ q ∈ lw_privs_2, lw_okq q := List.forall_mem_cons.mpr ⟨lw_p16, List.forall_mem_cons.mpr ⟨lw_p17, List.forall_mem_cons.mpr ⟨lw_p18, List.forall_mem_cons.mpr ⟨lw_p19, List.forall_mem_cons.mpr ⟨lw_p20, List.forall_mem_cons.mpr ⟨lw_p21, List.forall_mem_cons.mpr ⟨lw_p22, List.forall_mem_cons.mpr ⟨lw_p23, List.forall_mem_cons.mpr ⟨lw_p24, List.forall_mem_cons.mpr ⟨lw_p25, List.forall_mem_cons.mpr ⟨lw_p26, List.forall_mem_cons.mpr ⟨lw_p27, List.forall_mem_cons.mpr ⟨lw_p28, List.forall_mem_cons.mpr ⟨lw_p29, List.forall_mem_cons.mpr ⟨lw_p30, List.forall_mem_cons.mpr ⟨lw_p31, fun _ h => absurd h List.not_mem_nil⟩⟩⟩⟩⟩⟩⟩⟩⟩⟩⟩⟩⟩⟩⟩⟩
theorem lw_p32 : lw_okq (⟨"LotsBidModel", "callOne", "(II)V"⟩, 29) := ⟨⟨by decide +kernel, by decide +kernel⟩, List.mem_of_getElem? (i := 641) (by decide +kernel), List.mem_of_getElem? (i := 802) (by decide +kernel), List.mem_of_getElem? (i := 803) (by decide +kernel)⟩
theorem lw_p33 : lw_okq (⟨"LotsBidModel", "callBelow", "(I)V"⟩, 29) := ⟨⟨by decide +kernel, by decide +kernel⟩, List.mem_of_getElem? (i := 641) (by decide +kernel), List.mem_of_getElem? (i := 806) (by decide +kernel), List.mem_of_getElem? (i := 807) (by decide +kernel)⟩
theorem lw_p34 : lw_okq (⟨"LotsBidModel", "inSet", "(II)I"⟩, 29) := ⟨⟨by decide +kernel, by decide +kernel⟩, List.mem_of_getElem? (i := 641) (by decide +kernel), List.mem_of_getElem? (i := 810) (by decide +kernel), List.mem_of_getElem? (i := 811) (by decide +kernel)⟩
theorem lw_p35 : lw_okq (⟨"LotsBidModel", "isIn", "(III)Z"⟩, 29) := ⟨⟨by decide +kernel, by decide +kernel⟩, List.mem_of_getElem? (i := 641) (by decide +kernel), List.mem_of_getElem? (i := 814) (by decide +kernel), List.mem_of_getElem? (i := 815) (by decide +kernel)⟩
theorem lw_p36 : lw_okq (⟨"LotsBidModel", "boundOf", "(II)I"⟩, 29) := ⟨⟨by decide +kernel, by decide +kernel⟩, List.mem_of_getElem? (i := 641) (by decide +kernel), List.mem_of_getElem? (i := 818) (by decide +kernel), List.mem_of_getElem? (i := 819) (by decide +kernel)⟩
theorem lw_p37 : lw_okq (⟨"LotsBidModel", "give", "(III)V"⟩, 29) := ⟨⟨by decide +kernel, by decide +kernel⟩, List.mem_of_getElem? (i := 641) (by decide +kernel), List.mem_of_getElem? (i := 825) (by decide +kernel), List.mem_of_getElem? (i := 826) (by decide +kernel)⟩
theorem lw_p38 : lw_okq (⟨"LotsBidModel", "callAbove", "(I)V"⟩, 29) := ⟨⟨by decide +kernel, by decide +kernel⟩, List.mem_of_getElem? (i := 641) (by decide +kernel), List.mem_of_getElem? (i := 832) (by decide +kernel), List.mem_of_getElem? (i := 833) (by decide +kernel)⟩
theorem lw_p39 : lw_okq (⟨"LotsBidModel", "callSealed", "(I)V"⟩, 29) := ⟨⟨by decide +kernel, by decide +kernel⟩, List.mem_of_getElem? (i := 641) (by decide +kernel), List.mem_of_getElem? (i := 836) (by decide +kernel), List.mem_of_getElem? (i := 837) (by decide +kernel)⟩
theorem lw_p40 : lw_okq (⟨"LotsBidModel", "gainOf", "(I)I"⟩, 29) := ⟨⟨by decide +kernel, by decide +kernel⟩, List.mem_of_getElem? (i := 641) (by decide +kernel), List.mem_of_getElem? (i := 840) (by decide +kernel), List.mem_of_getElem? (i := 841) (by decide +kernel)⟩
theorem lw_p41 : lw_okq (⟨"LotsBidModel", "isMaster", "(I)Z"⟩, 29) := ⟨⟨by decide +kernel, by decide +kernel⟩, List.mem_of_getElem? (i := 641) (by decide +kernel), List.mem_of_getElem? (i := 848) (by decide +kernel), List.mem_of_getElem? (i := 849) (by decide +kernel)⟩
theorem lw_p42 : lw_okq (⟨"LotsBidModel", "ladsOf", "(I)I"⟩, 29) := ⟨⟨by decide +kernel, by decide +kernel⟩, List.mem_of_getElem? (i := 641) (by decide +kernel), List.mem_of_getElem? (i := 852) (by decide +kernel), List.mem_of_getElem? (i := 853) (by decide +kernel)⟩
theorem lw_p43 : lw_okq (⟨"LotsBidModel", "mostOf", "(I)I"⟩, 29) := ⟨⟨by decide +kernel, by decide +kernel⟩, List.mem_of_getElem? (i := 641) (by decide +kernel), List.mem_of_getElem? (i := 856) (by decide +kernel), List.mem_of_getElem? (i := 857) (by decide +kernel)⟩
theorem lw_p44 : lw_okq (⟨"LotsBidModel", "note", "(II)I"⟩, 29) := ⟨⟨by decide +kernel, by decide +kernel⟩, List.mem_of_getElem? (i := 641) (by decide +kernel), List.mem_of_getElem? (i := 872) (by decide +kernel), List.mem_of_getElem? (i := 873) (by decide +kernel)⟩
theorem lw_p45 : lw_okq (⟨"LotsBidModel", "takePrices", "(I)I"⟩, 29) := ⟨⟨by decide +kernel, by decide +kernel⟩, List.mem_of_getElem? (i := 641) (by decide +kernel), List.mem_of_getElem? (i := 900) (by decide +kernel), List.mem_of_getElem? (i := 901) (by decide +kernel)⟩
theorem lw_p46 : lw_okq (⟨"LotsBidModel", "canRest", "()Z"⟩, 29) := ⟨⟨by decide +kernel, by decide +kernel⟩, List.mem_of_getElem? (i := 641) (by decide +kernel), List.mem_of_getElem? (i := 904) (by decide +kernel), List.mem_of_getElem? (i := 905) (by decide +kernel)⟩
theorem lw_p47 : lw_okq (⟨"LotsBidModel", "codes", "()I"⟩, 29) := ⟨⟨by decide +kernel, by decide +kernel⟩, List.mem_of_getElem? (i := 641) (by decide +kernel), List.mem_of_getElem? (i := 908) (by decide +kernel), List.mem_of_getElem? (i := 909) (by decide +kernel)⟩
def lw_privs_3 : List (MethodName × Nat) := [(⟨"LotsBidModel", "callOne", "(II)V"⟩, 29), (⟨"LotsBidModel", "callBelow", "(I)V"⟩, 29), (⟨"LotsBidModel", "inSet", "(II)I"⟩, 29), (⟨"LotsBidModel", "isIn", "(III)Z"⟩, 29), (⟨"LotsBidModel", "boundOf", "(II)I"⟩, 29), (⟨"LotsBidModel", "give", "(III)V"⟩, 29), (⟨"LotsBidModel", "callAbove", "(I)V"⟩, 29), (⟨"LotsBidModel", "callSealed", "(I)V"⟩, 29), (⟨"LotsBidModel", "gainOf", "(I)I"⟩, 29), (⟨"LotsBidModel", "isMaster", "(I)Z"⟩, 29), (⟨"LotsBidModel", "ladsOf", "(I)I"⟩, 29), (⟨"LotsBidModel", "mostOf", "(I)I"⟩, 29), (⟨"LotsBidModel", "note", "(II)I"⟩, 29), (⟨"LotsBidModel", "takePrices", "(I)I"⟩, 29), (⟨"LotsBidModel", "canRest", "()Z"⟩, 29), (⟨"LotsBidModel", "codes", "()I"⟩, 29)]
theorem lw_r3 : ∀ q ∈ lw_privs_3, lw_okq q := List.forall_mem_cons.mpr ⟨lw_p32, List.forall_mem_cons.mpr ⟨lw_p33, List.forall_mem_cons.mpr ⟨lw_p34, List.forall_mem_cons.mpr ⟨lw_p35, List.forall_mem_cons.mpr ⟨lw_p36, List.forall_mem_cons.mpr ⟨lw_p37, List.forall_mem_cons.mpr ⟨lw_p38, List.forall_mem_cons.mpr ⟨lw_p39, List.forall_mem_cons.mpr ⟨lw_p40, List.forall_mem_cons.mpr ⟨lw_p41, List.forall_mem_cons.mpr ⟨lw_p42, List.forall_mem_cons.mpr ⟨lw_p43, List.forall_mem_cons.mpr ⟨lw_p44, List.forall_mem_cons.mpr ⟨lw_p45, List.forall_mem_cons.mpr ⟨lw_p46, List.forall_mem_cons.mpr ⟨lw_p47, fun _ h => absurd h List.not_mem_nil⟩⟩⟩⟩⟩⟩⟩⟩⟩⟩⟩⟩⟩⟩⟩⟩
theorem lw_p48 : lw_okq (⟨"LotsBidModel", "seatAll", "(I)Z"⟩, 29) := ⟨⟨by decide +kernel, by decide +kernel⟩, List.mem_of_getElem? (i := 641) (by decide +kernel), List.mem_of_getElem? (i := 912) (by decide +kernel), List.mem_of_getElem? (i := 913) (by decide +kernel)⟩
theorem lw_p49 : lw_okq (⟨"LotsBidModel", "isAtRest", "()Z"⟩, 29) := ⟨⟨by decide +kernel, by decide +kernel⟩, List.mem_of_getElem? (i := 641) (by decide +kernel), List.mem_of_getElem? (i := 916) (by decide +kernel), List.mem_of_getElem? (i := 917) (by decide +kernel)⟩
theorem lw_p50 : lw_okq (⟨"LotsBidModel", "bestWay", "(I)I"⟩, 29) := ⟨⟨by decide +kernel, by decide +kernel⟩, List.mem_of_getElem? (i := 641) (by decide +kernel), List.mem_of_getElem? (i := 924) (by decide +kernel), List.mem_of_getElem? (i := 925) (by decide +kernel)⟩
theorem lw_p51 : lw_okq (⟨"LotsBidModel", "sumOf", "(I)I"⟩, 29) := ⟨⟨by decide +kernel, by decide +kernel⟩, List.mem_of_getElem? (i := 641) (by decide +kernel), List.mem_of_getElem? (i := 928) (by decide +kernel), List.mem_of_getElem? (i := 929) (by decide +kernel)⟩
theorem lw_p52 : lw_okq (⟨"LotsBidModel", "isSeenSo", "(I)Z"⟩, 29) := ⟨⟨by decide +kernel, by decide +kernel⟩, List.mem_of_getElem? (i := 641) (by decide +kernel), List.mem_of_getElem? (i := 948) (by decide +kernel), List.mem_of_getElem? (i := 949) (by decide +kernel)⟩
def lw_privs_4 : List (MethodName × Nat) := [(⟨"LotsBidModel", "seatAll", "(I)Z"⟩, 29), (⟨"LotsBidModel", "isAtRest", "()Z"⟩, 29), (⟨"LotsBidModel", "bestWay", "(I)I"⟩, 29), (⟨"LotsBidModel", "sumOf", "(I)I"⟩, 29), (⟨"LotsBidModel", "isSeenSo", "(I)Z"⟩, 29)]
theorem lw_r4 : ∀ q ∈ lw_privs_4, lw_okq q := List.forall_mem_cons.mpr ⟨lw_p48, List.forall_mem_cons.mpr ⟨lw_p49, List.forall_mem_cons.mpr ⟨lw_p50, List.forall_mem_cons.mpr ⟨lw_p51, List.forall_mem_cons.mpr ⟨lw_p52, fun _ h => absurd h List.not_mem_nil⟩⟩⟩⟩⟩
def lw_privs : List (MethodName × Nat) := lw_privs_1 ++ (lw_privs_2 ++ (lw_privs_3 ++ (lw_privs_4)))
def lw_tbl : List Cond := k2_sels lw_privs ++ tables_1
theorem lw_privs_ok : ∀ q ∈ lw_privs, lw_okq q := by
  show ∀ q ∈ lw_privs_1 ++ (lw_privs_2 ++ (lw_privs_3 ++ (lw_privs_4))), lw_okq q
  exact List.forall_mem_append.mpr ⟨lw_r1, List.forall_mem_append.mpr ⟨lw_r2, List.forall_mem_append.mpr ⟨lw_r3, lw_r4⟩⟩⟩
def va_AOA (ty : FieldType) (U : State) : Prop := (Cond.arrayOver (.array ty)).before #[] U = true
theorem va_AOA.use {ty : FieldType} {A : Array Value} {U : State} (h : va_AOA ty U) : (Cond.arrayOver (.array ty)).before A U = true := h
/-! ===== BEGIN new T[n][m]: the outer array a place, the inner ones among the pooled ===== -/
/-- f, but v at every address of l -/
def vr_up {α : Type} (f : Nat → α) (l : List Nat) (v : α) : Nat → α := fun a => if a ∈ l then v else f a
theorem vr_up_in {α : Type} {f : Nat → α} {l : List Nat} {v : α} {a : Nat} (h : a ∈ l) : vr_up f l v a = v := if_pos h
theorem vr_up_ne {α : Type} {f : Nat → α} {l : List Nat} {v : α} {a : Nat} (h : a ∉ l) : vr_up f l v a = f a := if_neg h
theorem vr_rows {L l : List Nat} {f : Nat → va_E} {e : va_E} (h : ∀ a, a ∈ l → a ∉ L) : va_pl L f ++ l.map (fun a => (a, e)) = va_pl (L ++ l) (vr_up f l e) := by
  unfold va_pl
  rw [List.map_append]
  congr 1
  · apply List.map_congr_left
    intro a ha
    rw [vr_up_ne (fun q => h a q ha)]
  · apply List.map_congr_left
    intro a ha
    rw [vr_up_in ha]
theorem vr_lay {X rows : va_W} {x : Nat × va_E} {pl : va_W} {D : va_G} {cl : List vw_C} {H : Heap} (hP : va_P D cl (((X ++ pl) ++ [x]) ++ rows) H) : va_P D cl ((X ++ [x]) ++ (pl ++ rows)) H := by
  rw [List.append_assoc (X ++ pl)] at hP
  have h := va_P.swap hP
  rw [← List.append_assoc X] at h
  have h2 := va_P.swap h
  rw [List.append_assoc (X ++ [x])] at h2
  exact h2
theorem vr_layD {X rows : va_W} {x : Nat × va_E} {pl : va_W} {A : Nat → Prop} (hD : va_D A (((X ++ pl) ++ [x]) ++ rows)) : va_D A ((X ++ [x]) ++ (pl ++ rows)) := by
  rw [List.append_assoc (X ++ pl)] at hD
  have h := va_D.swap hD
  rw [← List.append_assoc X] at h
  have h2 := va_D.swap h
  rw [List.append_assoc (X ++ [x])] at h2
  exact h2
theorem vr_outer (c : ClassId) (N h0 : Nat) : ∀ i : Nat, Jvm.Free.Multi.outerC c N h0 i = arrV c N (fun j => va_rf (if j < i then some (h0 + 1 + j) else none))
  | 0 => by
    show ({ cls := c, slots := Array.replicate N .null, vm := .none } : Cell) = _
    rw [arrV_new]
    refine congrArg (arrV c N) (funext fun j => ?_)
    simp [va_rf]
  | i + 1 => by
    show (Jvm.Free.Multi.outerC c N h0 i).setSlot i (.ref (h0 + 1 + i)) = _
    rw [vr_outer c N h0 i, arrV_store]
    refine congrArg (arrV c N) (funext fun j => ?_)
    by_cases e : j = i
    · subst e
      simp [updV, va_rf]
    · by_cases h : j < i
      · simp [updV, e, h, Nat.lt_succ_of_lt h]
      · simp [updV, e, h, show ¬ j < i + 1 by omega]
section VGM
variable {p : Program} {l : Launch} {e : Env} {R : Room} {s : State} {m : MethodId} {args : Array Value} {below : List Frame} {meth : Method} {c : Code} {H : Heap} {locs : List Loc} {cells slots : Nat} {Q : State → Prop}
variable {cc : ByteArray} {pc : Nat} {ls : Array Slot} {rest : List Value} {D : va_G} {cl : List vw_C} {A : Nat → Prop} {a : Nat} {tys : List (ClassId × FieldType)} {ws : va_W} {H0 : Heap}
theorem va_mna {X : va_W} {L : List Nat} {f : Nat → va_E} {cc : ByteArray} (hexec : p.tables.exec = Jvm.exec) (hb : c.code = cc) {own : String} {index : Nat} {ty : FieldType} {cy : ClassId} (hown : s.vm.findClass own = some m.cls) (hclink : (Cond.classLink own index ("[" ++ (FieldType.array ty).toString)).before args s = true) (hover : va_AOA ty s) (harr : (Cond.arrayClass ty).before args s = true) (hcy : s.vm.findClass (FieldType.array ty).toString = some cy)
    (hK : va_K D cl tys s) (hP : va_P D cl (X ++ va_pl L f) H) (hD : va_D A (X ++ va_pl L f)) (hS : va_S A H0 H locs) (hA : ∀ q, H0.size ≤ q → A q) {n k : Int32} {N' K' : Nat} {z : vp_A} (hn : ¬ n < 0) (hk : ¬ k < 0) (hN : n.toNatClampNeg = N') (hM : k.toNatClampNeg = K')
    (hb1 : N' * 4 ≤ 536870912) (hb2 : K' * componentBytes ty ≤ 536870912) (hb3 : K' ≤ 536870912) (hdf : fits ty (defaultValue ty) = true) (hdd : (defaultValue ty).isDefault = true) (hcells : cells + (1 + N') ≤ R.cells) (hslots : slots + (N' + N' * K') ≤ R.slots) (hz : ∀ c : ClassId, Jvm.Free.Multi.innerC c K' (defaultValue ty) = vp_cell c z) (hdg : decode cc pc = .ok (.multianewarray index 2, 4))
    (kk : ∀ (q : Nat) (r : Nat → Nat) (cA : ClassId) (H1 : Heap), (∀ i j : Nat, i < N' → j < N' → r i = r j → i = j) → (∀ i : Nat, i < N' → r i ∉ L) → va_K D cl (tys ++ [(cA, .array ty)]) s →
      va_P D cl ((X ++ [(q, .inl (cA, N', .inr (.inr (.inr (.inr (fun i => if i < N' then some (r i) else none))))))]) ++ va_pl (L ++ (List.range N').map r) (vr_up f ((List.range N').map r) (.inl (cy, z)))) H1 → va_D A ((X ++ [(q, .inl (cA, N', .inr (.inr (.inr (.inr (fun i => if i < N' then some (r i) else none))))))]) ++ va_pl (L ++ (List.range N').map r) (vr_up f ((List.range N').map r) (.inl (cy, z)))) → va_S A H0 H1 locs →
      W p l e R s m args below meth c H1 locs (cells + 1 + N') (slots + N' + N' * K') Q (F0 m (pc + 4) ls (.ref q :: rest))) : W p l e R s m args below meth c H locs cells slots Q (F0 m pc ls (.int k :: .int n :: rest)) := by
  subst hN
  subst hM
  intro T hT Xs
  obtain ⟨vm₁, cA, comp, -, fA, fC, hO, -, X', step⟩ := Xs.multianewarray2F hexec hown hclink (va_AOA.use hover) harr (g := F0 m pc ls (.int k :: .int n :: rest)) rfl (by rw [hb]; exact hdg) rfl hn hk hb1 hb2 hb3 hdf hdd hcells hslots
  have ec : some cy = some comp := hcy.symm.trans fC
  cases ec
  generalize hF : Jvm.Free.Multi.fill (T.setVm vm₁) cA cy n.toNatClampNeg k.toNatClampNeg (defaultValue ty) n.toNatClampNeg = F at X' step
  have hTh : (T.setVm vm₁).heap = H := hT
  obtain ⟨f1, f2, -, -⟩ := Jvm.Free.Multi.fill_facts (T.setVm vm₁) cA cy n.toNatClampNeg k.toNatClampNeg (defaultValue ty) n.toNatClampNeg
  rw [hF, hTh] at f1 f2
  have hold : ∀ x : Nat, x < H.size → F.heap[x]? = H[x]? := fun x hx => by
    have := Jvm.Free.Multi.fill_old (T.setVm vm₁) cA cy n.toNatClampNeg k.toNatClampNeg (defaultValue ty) (a := x) (by rw [hTh]; exact hx) n.toNatClampNeg
    rw [hF, hTh] at this
    exact this
  have hrow : ∀ j : Nat, j < n.toNatClampNeg → F.heap[H.size + 1 + j]? = some (vp_cell cy z) := fun j hj => by
    have := Jvm.Free.Multi.fill_inner (T.setVm vm₁) cA cy n.toNatClampNeg k.toNatClampNeg (defaultValue ty) n.toNatClampNeg j hj
    rw [hF, hTh, hz] at this
    exact this
  have hout : Jvm.Free.Multi.outerC cA n.toNatClampNeg H.size n.toNatClampNeg = vp_cell cA (n.toNatClampNeg, .inr (.inr (.inr (.inr (fun i => if i < n.toNatClampNeg then some (H.size + 1 + i) else none))))) := by
    rw [vp_cell_q]
    exact vr_outer cA n.toNatClampNeg H.size n.toNatClampNeg
  rw [hout] at f2
  have hlt : ∀ a, a ∈ L → a < H.size := fun a ha => by
    obtain ⟨k9, hk9⟩ := va_pl_get (X := X) (f := f) ha
    exact (hP k9 _ hk9).lt
  have hnl : ∀ i : Nat, i < n.toNatClampNeg → H.size + 1 + i ∉ L := fun i _ h => by
    have := hlt _ h
    omega
  have hnm : ∀ a, a ∈ (List.range n.toNatClampNeg).map (fun i => H.size + 1 + i) → a ∉ L := fun a ha h => by
    obtain ⟨i, -, rfl⟩ := List.mem_map.mp ha
    have := hlt _ h
    omega
  have hP0 : va_P D cl (X ++ va_pl L f) F.heap := hP.kept (fun k9 x hx => hold x.1 ((hP k9 x hx).lt))
  have hP1 : va_P D cl ((X ++ va_pl L f) ++ [(H.size, .inl (cA, n.toNatClampNeg, .inr (.inr (.inr (.inr (fun i => if i < n.toNatClampNeg then some (H.size + 1 + i) else none))))))]) F.heap := hP0.app (fun k9 x hx => by
    have h0 : k9 < 1 := (List.getElem?_eq_some_iff.mp hx).1
    rw [show k9 = 0 by omega] at hx
    cases hx
    exact f2)
  have hP2 : va_P D cl (((X ++ va_pl L f) ++ [(H.size, .inl (cA, n.toNatClampNeg, .inr (.inr (.inr (.inr (fun i => if i < n.toNatClampNeg then some (H.size + 1 + i) else none))))))]) ++ ((List.range n.toNatClampNeg).map (fun i => H.size + 1 + i)).map (fun a => (a, .inl (cy, z)))) F.heap := hP1.app (fun k9 x hx => by
    obtain ⟨a, ha, rfl⟩ := List.mem_map.mp (List.mem_of_getElem? hx)
    obtain ⟨i, hi, rfl⟩ := List.mem_map.mp ha
    exact hrow i (List.mem_range.mp hi))
  have hD2 : va_D A (((X ++ va_pl L f) ++ [(H.size, .inl (cA, n.toNatClampNeg, .inr (.inr (.inr (.inr (fun i => if i < n.toNatClampNeg then some (H.size + 1 + i) else none))))))]) ++ ((List.range n.toNatClampNeg).map (fun i => H.size + 1 + i)).map (fun a => (a, .inl (cy, z)))) := by
    have hD1 := hD.push (e := .inl (cA, n.toNatClampNeg, .inr (.inr (.inr (.inr (fun i => if i < n.toNatClampNeg then some (H.size + 1 + i) else none)))))) hP rfl (hA _ hS.1)
    generalize hW1 : (X ++ va_pl L f) ++ [(H.size, .inl (cA, n.toNatClampNeg, .inr (.inr (.inr (.inr (fun i => if i < n.toNatClampNeg then some (H.size + 1 + i) else none))))))] = W1 at hD1 hP1 ⊢
    have hle : ∀ (k9 : Nat) (x : Nat × va_E), W1[k9]? = some x → x.1 ≤ H.size := fun k9 x hx => by
      rw [← hW1] at hx
      by_cases hl : k9 < (X ++ va_pl L f).length
      · rw [List.getElem?_append_left hl] at hx
        exact Nat.le_of_lt ((hP k9 x hx).lt)
      · rw [List.getElem?_append_right (by omega)] at hx
        have h0 : k9 - (X ++ va_pl L f).length < 1 := (List.getElem?_eq_some_iff.mp hx).1
        rw [show k9 - (X ++ va_pl L f).length = 0 by omega] at hx
        cases hx
        exact Nat.le_refl _
    have hr : ∀ (k9 : Nat) (x : Nat × va_E), (((List.range n.toNatClampNeg).map (fun i => H.size + 1 + i)).map (fun a => ((a, .inl (cy, z)) : Nat × va_E)))[k9]? = some x → x.1 = H.size + 1 + k9 := fun k9 x hx => by
      rw [List.getElem?_map, List.getElem?_map] at hx
      by_cases h9 : k9 < n.toNatClampNeg
      · rw [List.getElem?_range h9] at hx
        cases hx
        rfl
      · have hn0 : (List.range n.toNatClampNeg)[k9]? = none := List.getElem?_eq_none (by rw [List.length_range]; omega)
        rw [hn0] at hx
        cases hx
    refine ⟨fun i j x y hi hj hxy => ?_, fun k9 x hx => ?_⟩
    · by_cases h1 : i < W1.length <;> by_cases h2 : j < W1.length
      · rw [List.getElem?_append_left h1] at hi
        rw [List.getElem?_append_left h2] at hj
        exact hD1.1 i j x y hi hj hxy
      · rw [List.getElem?_append_left h1] at hi
        rw [List.getElem?_append_right (by omega)] at hj
        have := hle _ _ hi
        have := hr _ _ hj
        omega
      · rw [List.getElem?_append_right (by omega)] at hi
        rw [List.getElem?_append_left h2] at hj
        have := hle _ _ hj
        have := hr _ _ hi
        omega
      · rw [List.getElem?_append_right (by omega)] at hi hj
        have := hr _ _ hi
        have := hr _ _ hj
        omega
    · by_cases h1 : k9 < W1.length
      · rw [List.getElem?_append_left h1] at hx
        exact hD1.2 k9 x hx
      · rw [List.getElem?_append_right (by omega)] at hx
        have := hr _ _ hx
        exact hA _ (by have := hS.1; omega)
  have hAr : ArrOfT s cA (.array ty) := fun N9 z9 => by
    obtain ⟨-, k9, hk9, cm9, hkk9⟩ := (hO 0 0 0).1
    exact ⟨(fun q hq => by cases hq), k9, hk9, cm9, hkk9⟩
  have hK2 : va_K D cl (tys ++ [(cA, .array ty)]) s := ⟨hK.1, fun k9 x hx => by
    by_cases hl : k9 < tys.length
    · rw [List.getElem?_append_left hl] at hx
      exact hK.2 k9 x hx
    · rw [List.getElem?_append_right (by omega)] at hx
      have h0 : k9 - tys.length < 1 := (List.getElem?_eq_some_iff.mp hx).1
      rw [show k9 - tys.length = 0 by omega] at hx
      cases hx
      exact ⟨hAr, fA⟩⟩
  obtain ⟨t, a1, b1⟩ := kk H.size (fun i => H.size + 1 + i) cA F.heap (fun i j _ _ h => by have h9 : H.size + 1 + i = H.size + 1 + j := h; omega) hnl hK2 (by rw [← vr_rows hnm]; exact vr_lay hP2) (by rw [← vr_rows hnm]; exact vr_layD hD2) ⟨by rw [f1]; have := hS.1; omega, fun x h1 h2 => (hold x (Nat.lt_of_lt_of_le h1 hS.1)).trans (hS.2.1 x h1 h2), hS.2.2⟩ F rfl X'
  refine ⟨t, step t ?_, b1⟩
  have e : T.heap.size = H.size := by rw [hT]
  rw [e]
  exact a1
end VGM
/-! ===== END ===== -/

def RX0 : String := "LotsBid$Changes"
def TX0 : u_T := fun k => match k with
  | 0 => ("LotsBid$Changes", "many", "I", false)
  | 1 => ("LotsBid$Changes", "which", "[I", true)
  | _ => ("LotsBid$Changes", "was", "[I", true)
def tyX0 : Nat → FieldType := fun k => match k with
  | 0 => .int
  | 1 => .array .int
  | _ => .array .int
abbrev wsX00 : List Cond := u_ws RX0 TX0 3
theorem nmX0 : ∀ a, a < 3 → ∀ b, b < 3 → a ≠ b → (TX0 a).2.1 ≠ (TX0 b).2.1 := by decide +kernel
theorem tyX0_ok : ∀ k, k < 3 → parseFieldDescriptor (TX0 k).2.2.1 = some (tyX0 k) := by decide +kernel
abbrev cX0_init : ByteArray := prog_2_method_1_code
def yX0_init : MethodName := ⟨RX0, "<init>", "()V"⟩
abbrev cX0_note : ByteArray := prog_2_method_2_code
def yX0_note : MethodName := ⟨RX0, "note", "(II)V"⟩
abbrev cX0_takeBack : ByteArray := prog_2_method_3_code
def yX0_takeBack : MethodName := ⟨RX0, "takeBack", "(LLotsBid$Plan;)V"⟩
def RX1 : String := "LotsBid$Game"
def TX1 : u_T := fun k => match k with
  | 0 => ("LotsBid$Game", "rests", "I", false)
  | 1 => ("LotsBid$Game", "limitOfOne", "I", false)
  | 2 => ("LotsBid$Game", "limitOfOther", "I", false)
  | 3 => ("LotsBid$Game", "gainOfOne", "[[I", true)
  | _ => ("LotsBid$Game", "gainOfOther", "[[I", true)
def tyX1 : Nat → FieldType := fun k => match k with
  | 0 => .int
  | 1 => .int
  | 2 => .int
  | 3 => .array (.array .int)
  | _ => .array (.array .int)
abbrev wsX10 : List Cond := u_ws RX1 TX1 5
theorem nmX1 : ∀ a, a < 5 → ∀ b, b < 5 → a ≠ b → (TX1 a).2.1 ≠ (TX1 b).2.1 := by decide +kernel
theorem tyX1_ok : ∀ k, k < 5 → parseFieldDescriptor (TX1 k).2.2.1 = some (tyX1 k) := by decide +kernel
abbrev cX1_init : ByteArray := prog_3_method_1_code
def yX1_init : MethodName := ⟨RX1, "<init>", "()V"⟩
abbrev cX1_play : ByteArray := prog_3_method_2_code
def yX1_play : MethodName := ⟨RX1, "play", "(LLotsBid$Plan;LLotsBid$Hiring;II)V"⟩
abbrev cX1_findRests : ByteArray := prog_3_method_3_code
def yX1_findRests : MethodName := ⟨RX1, "findRests", "()V"⟩
abbrev cX1_noteRest : ByteArray := prog_3_method_4_code
def yX1_noteRest : MethodName := ⟨RX1, "noteRest", "(II)V"⟩
abbrev cX1_isRest : ByteArray := prog_3_method_5_code
def yX1_isRest : MethodName := ⟨RX1, "isRest", "(II)Z"⟩
def RX2 : String := "LotsBid$Hiring"
def TX2 : u_T := fun k => match k with
  | 0 => ("LotsBid$Hiring", "got", "[I", true)
  | 1 => ("LotsBid$Hiring", "years", "[I", true)
  | 2 => ("LotsBid$Hiring", "bound", "[I", true)
  | _ => ("LotsBid$Hiring", "lastCall", "[I", true)
def tyX2 : Nat → FieldType := fun k => match k with
  | 0 => .array .int
  | 1 => .array .int
  | 2 => .array .int
  | _ => .array .int
abbrev wsX20 : List Cond := u_ws RX2 TX2 4
theorem nmX2 : ∀ a, a < 4 → ∀ b, b < 4 → a ≠ b → (TX2 a).2.1 ≠ (TX2 b).2.1 := by decide +kernel
theorem tyX2_ok : ∀ k, k < 4 → parseFieldDescriptor (TX2 k).2.2.1 = some (tyX2 k) := by decide +kernel
abbrev cX2_init : ByteArray := prog_4_method_1_code
def yX2_init : MethodName := ⟨RX2, "<init>", "()V"⟩
abbrev cX2_hold : ByteArray := prog_4_method_2_code
def yX2_hold : MethodName := ⟨RX2, "hold", "(LLotsBid$Plan;I)V"⟩
abbrev cX2_callFromBelow : ByteArray := prog_4_method_3_code
def yX2_callFromBelow : MethodName := ⟨RX2, "callFromBelow", "(LLotsBid$Plan;I)V"⟩
abbrev cX2_callFromAbove : ByteArray := prog_4_method_4_code
def yX2_callFromAbove : MethodName := ⟨RX2, "callFromAbove", "(LLotsBid$Plan;II)V"⟩
abbrev cX2_isIn : ByteArray := prog_4_method_5_code
def yX2_isIn : MethodName := ⟨RX2, "isIn", "(II)Z"⟩
abbrev cX2_howManyIn : ByteArray := prog_4_method_6_code
def yX2_howManyIn : MethodName := ⟨RX2, "howManyIn", "(LLotsBid$Plan;I)I"⟩
abbrev cX2_hire : ByteArray := prog_4_method_7_code
def yX2_hire : MethodName := ⟨RX2, "hire", "(LLotsBid$Plan;III)I"⟩
abbrev cX2_gainOf : ByteArray := prog_4_method_8_code
def yX2_gainOf : MethodName := ⟨RX2, "gainOf", "(LLotsBid$Plan;I)I"⟩
abbrev cX2_ladsOf : ByteArray := prog_4_method_9_code
def yX2_ladsOf : MethodName := ⟨RX2, "ladsOf", "(LLotsBid$Plan;I)I"⟩
abbrev cX2_mostYearsOf : ByteArray := prog_4_method_10_code
def yX2_mostYearsOf : MethodName := ⟨RX2, "mostYearsOf", "(LLotsBid$Plan;I)I"⟩
abbrev cX2_yearsOfAll : ByteArray := prog_4_method_11_code
def yX2_yearsOfAll : MethodName := ⟨RX2, "yearsOfAll", "(LLotsBid$Plan;)I"⟩
abbrev cX2_gainsOfAll : ByteArray := prog_4_method_12_code
def yX2_gainsOfAll : MethodName := ⟨RX2, "gainsOfAll", "(LLotsBid$Plan;)I"⟩
abbrev cX2_ladsHired : ByteArray := prog_4_method_13_code
def yX2_ladsHired : MethodName := ⟨RX2, "ladsHired", "(LLotsBid$Plan;)I"⟩
abbrev cX2_mastersAlone : ByteArray := prog_4_method_14_code
def yX2_mastersAlone : MethodName := ⟨RX2, "mastersAlone", "(LLotsBid$Plan;)I"⟩
abbrev cX2_hadGotAnother : ByteArray := prog_4_method_15_code
def yX2_hadGotAnother : MethodName := ⟨RX2, "hadGotAnother", "(II)Z"⟩
abbrev cX2_firstCallOut : ByteArray := prog_4_method_16_code
def yX2_firstCallOut : MethodName := ⟨RX2, "firstCallOut", "(LLotsBid$Plan;II)I"⟩
abbrev cX2_spanFrom : ByteArray := prog_4_method_17_code
def yX2_spanFrom : MethodName := ⟨RX2, "spanFrom", "(LLotsBid$Plan;II)I"⟩
abbrev cX2_spanTo : ByteArray := prog_4_method_18_code
def yX2_spanTo : MethodName := ⟨RX2, "spanTo", "(LLotsBid$Plan;II)I"⟩
def RX3 : String := "LotsBid$Pairing"
def TX3 : u_T := fun k => match k with
  | 0 => ("LotsBid$Pairing", "most", "I", false)
  | 1 => ("LotsBid$Pairing", "best", "[I", true)
  | 2 => ("LotsBid$Pairing", "way", "[I", true)
  | 3 => ("LotsBid$Pairing", "left", "[I", true)
  | _ => ("LotsBid$Pairing", "hope", "[I", true)
def tyX3 : Nat → FieldType := fun k => match k with
  | 0 => .int
  | 1 => .array .int
  | 2 => .array .int
  | 3 => .array .int
  | _ => .array .int
abbrev wsX30 : List Cond := u_ws RX3 TX3 5
theorem nmX3 : ∀ a, a < 5 → ∀ b, b < 5 → a ≠ b → (TX3 a).2.1 ≠ (TX3 b).2.1 := by decide +kernel
theorem tyX3_ok : ∀ k, k < 5 → parseFieldDescriptor (TX3 k).2.2.1 = some (tyX3 k) := by decide +kernel
abbrev cX3_init : ByteArray := prog_5_method_1_code
def yX3_init : MethodName := ⟨RX3, "<init>", "()V"⟩
abbrev cX3_search : ByteArray := prog_5_method_2_code
def yX3_search : MethodName := ⟨RX3, "search", "(LLotsBid$Plan;I)V"⟩
abbrev cX3_mostWantOf : ByteArray := prog_5_method_3_code
def yX3_mostWantOf : MethodName := ⟨RX3, "mostWantOf", "(LLotsBid$Plan;I)I"⟩
abbrev cX3_place : ByteArray := prog_5_method_4_code
def yX3_place : MethodName := ⟨RX3, "place", "(LLotsBid$Pairing;LLotsBid$Plan;III)V"⟩
def RX4 : String := "LotsBid$Plan"
def TX4 : u_T := fun k => match k with
  | 0 => ("LotsBid$Plan", "masters", "I", false)
  | 1 => ("LotsBid$Plan", "lads", "I", false)
  | 2 => ("LotsBid$Plan", "room", "[I", true)
  | 3 => ("LotsBid$Plan", "kind", "[I", true)
  | 4 => ("LotsBid$Plan", "want", "[[I", true)
  | _ => ("LotsBid$Plan", "law", "[I", true)
def tyX4 : Nat → FieldType := fun k => match k with
  | 0 => .int
  | 1 => .int
  | 2 => .array .int
  | 3 => .array .int
  | 4 => .array (.array .int)
  | _ => .array .int
abbrev wsX40 : List Cond := u_ws RX4 TX4 6
theorem nmX4 : ∀ a, a < 6 → ∀ b, b < 6 → a ≠ b → (TX4 a).2.1 ≠ (TX4 b).2.1 := by decide +kernel
theorem tyX4_ok : ∀ k, k < 6 → parseFieldDescriptor (TX4 k).2.2.1 = some (tyX4 k) := by decide +kernel
abbrev cX4_init : ByteArray := prog_6_method_1_code
def yX4_init : MethodName := ⟨RX4, "<init>", "()V"⟩
abbrev cX4_clear : ByteArray := prog_6_method_2_code
def yX4_clear : MethodName := ⟨RX4, "clear", "()V"⟩
abbrev cX4_copyFrom : ByteArray := prog_6_method_3_code
def yX4_copyFrom : MethodName := ⟨RX4, "copyFrom", "(LLotsBid$Plan;)V"⟩
abbrev cX4_hasMaster : ByteArray := prog_6_method_4_code
def yX4_hasMaster : MethodName := ⟨RX4, "hasMaster", "(I)Z"⟩
abbrev cX4_hasLad : ByteArray := prog_6_method_5_code
def yX4_hasLad : MethodName := ⟨RX4, "hasLad", "(I)Z"⟩
abbrev cX4_addMaster : ByteArray := prog_6_method_6_code
def yX4_addMaster : MethodName := ⟨RX4, "addMaster", "(I)Z"⟩
abbrev cX4_addLad : ByteArray := prog_6_method_7_code
def yX4_addLad : MethodName := ⟨RX4, "addLad", "(II)Z"⟩
abbrev cX4_addWant : ByteArray := prog_6_method_8_code
def yX4_addWant : MethodName := ⟨RX4, "addWant", "(III)Z"⟩
abbrev cX4_tellCalls : ByteArray := prog_6_method_9_code
def yX4_tellCalls : MethodName := ⟨RX4, "tellCalls", "(I)Z"⟩
abbrev cX4_tellStep : ByteArray := prog_6_method_10_code
def yX4_tellStep : MethodName := ⟨RX4, "tellStep", "(I)Z"⟩
abbrev cX4_boundOf : ByteArray := prog_6_method_11_code
def yX4_boundOf : MethodName := ⟨RX4, "boundOf", "(II)I"⟩
abbrev cX4_drawWants : ByteArray := prog_6_method_12_code
def yX4_drawWants : MethodName := ⟨RX4, "drawWants", "(I)V"⟩
def RX5 : String := "LotsBid$Prices"
def TX5 : u_T := fun k => match k with
  | 0 => ("LotsBid$Prices", "found", "Z", false)
  | 1 => ("LotsBid$Prices", "sum", "I", false)
  | 2 => ("LotsBid$Prices", "best", "[I", true)
  | 3 => ("LotsBid$Prices", "asked", "[I", true)
  | _ => ("LotsBid$Prices", "held", "[I", true)
def tyX5 : Nat → FieldType := fun k => match k with
  | 0 => .boolean
  | 1 => .int
  | 2 => .array .int
  | 3 => .array .int
  | _ => .array .int
abbrev wsX50 : List Cond := u_ws RX5 TX5 5
theorem nmX5 : ∀ a, a < 5 → ∀ b, b < 5 → a ≠ b → (TX5 a).2.1 ≠ (TX5 b).2.1 := by decide +kernel
theorem tyX5_ok : ∀ k, k < 5 → parseFieldDescriptor (TX5 k).2.2.1 = some (tyX5 k) := by decide +kernel
abbrev cX5_init : ByteArray := prog_7_method_1_code
def yX5_init : MethodName := ⟨RX5, "<init>", "()V"⟩
abbrev cX5_search : ByteArray := prog_7_method_2_code
def yX5_search : MethodName := ⟨RX5, "search", "(LLotsBid$Plan;[IZ)V"⟩
abbrev cX5_countHeld : ByteArray := prog_7_method_3_code
def yX5_countHeld : MethodName := ⟨RX5, "countHeld", "(LLotsBid$Plan;[I)V"⟩
abbrev cX5_isBetter : ByteArray := prog_7_method_4_code
def yX5_isBetter : MethodName := ⟨RX5, "isBetter", "(IZ)Z"⟩
abbrev cX5_noteAsked : ByteArray := prog_7_method_5_code
def yX5_noteAsked : MethodName := ⟨RX5, "noteAsked", "(I)V"⟩
abbrev cX5_isAtRest : ByteArray := prog_7_method_6_code
def yX5_isAtRest : MethodName := ⟨RX5, "isAtRest", "(LLotsBid$Plan;[I)Z"⟩
abbrev cX5_isContent : ByteArray := prog_7_method_7_code
def yX5_isContent : MethodName := ⟨RX5, "isContent", "(LLotsBid$Plan;II)Z"⟩
def RX6 : String := "LotsBid$Shelf"
def TX6 : u_T := fun k => match k with
  | 0 => ("LotsBid$Shelf", "many", "I", false)
  | _ => ("LotsBid$Shelf", "laws", "[[I", true)
def tyX6 : Nat → FieldType := fun k => match k with
  | 0 => .int
  | _ => .array (.array .int)
abbrev wsX60 : List Cond := u_ws RX6 TX6 2
theorem nmX6 : ∀ a, a < 2 → ∀ b, b < 2 → a ≠ b → (TX6 a).2.1 ≠ (TX6 b).2.1 := by decide +kernel
theorem tyX6_ok : ∀ k, k < 2 → parseFieldDescriptor (TX6 k).2.2.1 = some (tyX6 k) := by decide +kernel
abbrev cX6_init : ByteArray := prog_8_method_1_code
def yX6_init : MethodName := ⟨RX6, "<init>", "()V"⟩
abbrev cX6_put : ByteArray := prog_8_method_2_code
def yX6_put : MethodName := ⟨RX6, "put", "(LLotsBid$Plan;)V"⟩
abbrev cX6_takeInto : ByteArray := prog_8_method_3_code
def yX6_takeInto : MethodName := ⟨RX6, "takeInto", "(LLotsBid$Plan;)V"⟩
def RX7 : String := "LotsBid$Sightings"
def TX7 : u_T := fun k => match k with
  | 0 => ("LotsBid$Sightings", "many", "I", false)
  | 1 => ("LotsBid$Sightings", "master", "[I", true)
  | _ => ("LotsBid$Sightings", "years", "[I", true)
def tyX7 : Nat → FieldType := fun k => match k with
  | 0 => .int
  | 1 => .array .int
  | _ => .array .int
abbrev wsX70 : List Cond := u_ws RX7 TX7 3
theorem nmX7 : ∀ a, a < 3 → ∀ b, b < 3 → a ≠ b → (TX7 a).2.1 ≠ (TX7 b).2.1 := by decide +kernel
theorem tyX7_ok : ∀ k, k < 3 → parseFieldDescriptor (TX7 k).2.2.1 = some (tyX7 k) := by decide +kernel
abbrev cX7_init : ByteArray := prog_9_method_1_code
def yX7_init : MethodName := ⟨RX7, "<init>", "()V"⟩
abbrev cX7_add : ByteArray := prog_9_method_2_code
def yX7_add : MethodName := ⟨RX7, "add", "(II)V"⟩
abbrev cX7_fit : ByteArray := prog_9_method_3_code
def yX7_fit : MethodName := ⟨RX7, "fit", "(LLotsBid$Plan;LLotsBid$Hiring;)Z"⟩
def RX8 : String := "LotsBid$Text"
def TX8 : u_T := fun k => match k with
  | 0 => ("LotsBid$Text", "length", "I", false)
  | 1 => ("LotsBid$Text", "bytes", "[B", true)
  | _ => ("LotsBid$Text", "number", "[I", true)
def tyX8 : Nat → FieldType := fun k => match k with
  | 0 => .int
  | 1 => .array .byte
  | _ => .array .int
abbrev wsX80 : List Cond := u_ws RX8 TX8 3
theorem nmX8 : ∀ a, a < 3 → ∀ b, b < 3 → a ≠ b → (TX8 a).2.1 ≠ (TX8 b).2.1 := by decide +kernel
theorem tyX8_ok : ∀ k, k < 3 → parseFieldDescriptor (TX8 k).2.2.1 = some (tyX8 k) := by decide +kernel
abbrev cX8_init : ByteArray := prog_10_method_1_code
def yX8_init : MethodName := ⟨RX8, "<init>", "()V"⟩
abbrev cX8_append : ByteArray := prog_10_method_2_code
def yX8_append : MethodName := ⟨RX8, "append", "(IJ)V"⟩
abbrev cX8_readInto : ByteArray := prog_10_method_3_code
def yX8_readInto : MethodName := ⟨RX8, "readInto", "(LLotsBid$Plan;)I"⟩
abbrev cX8_numbersOf : ByteArray := prog_10_method_4_code
def yX8_numbersOf : MethodName := ⟨RX8, "numbersOf", "(I)I"⟩
abbrev cX8_tell : ByteArray := prog_10_method_5_code
def yX8_tell : MethodName := ⟨RX8, "tell", "(LLotsBid$Plan;I)Z"⟩
abbrev cX8_readNumbers : ByteArray := prog_10_method_6_code
def yX8_readNumbers : MethodName := ⟨RX8, "readNumbers", "(II)I"⟩
abbrev cX8_figuresAt : ByteArray := prog_10_method_7_code
def yX8_figuresAt : MethodName := ⟨RX8, "figuresAt", "(I)I"⟩
abbrev cX8_numberAt : ByteArray := prog_10_method_8_code
def yX8_numberAt : MethodName := ⟨RX8, "numberAt", "(II)I"⟩
abbrev cX8_isFigureAt : ByteArray := prog_10_method_9_code
def yX8_isFigureAt : MethodName := ⟨RX8, "isFigureAt", "(I)Z"⟩
abbrev cX8_isSignAt : ByteArray := prog_10_method_10_code
def yX8_isSignAt : MethodName := ⟨RX8, "isSignAt", "(IC)Z"⟩
def RX9 : String := "LotsBid"
def TX9 : u_T := fun k => match k with
  | 0 => ("LotsBid", "text", "LLotsBid$Text;", true)
  | 1 => ("LotsBid", "plan", "LLotsBid$Plan;", true)
  | 2 => ("LotsBid", "trial", "LLotsBid$Plan;", true)
  | 3 => ("LotsBid", "hiring", "LLotsBid$Hiring;", true)
  | 4 => ("LotsBid", "game", "LLotsBid$Game;", true)
  | 5 => ("LotsBid", "pairing", "LLotsBid$Pairing;", true)
  | 6 => ("LotsBid", "prices", "LLotsBid$Prices;", true)
  | 7 => ("LotsBid", "sightings", "LLotsBid$Sightings;", true)
  | 8 => ("LotsBid", "changes", "LLotsBid$Changes;", true)
  | _ => ("LotsBid", "shelf", "LLotsBid$Shelf;", true)
def tyX9 : Nat → FieldType := fun k => match k with
  | 0 => .object "LotsBid$Text"
  | 1 => .object "LotsBid$Plan"
  | 2 => .object "LotsBid$Plan"
  | 3 => .object "LotsBid$Hiring"
  | 4 => .object "LotsBid$Game"
  | 5 => .object "LotsBid$Pairing"
  | 6 => .object "LotsBid$Prices"
  | 7 => .object "LotsBid$Sightings"
  | 8 => .object "LotsBid$Changes"
  | _ => .object "LotsBid$Shelf"
abbrev wsX90 : List Cond := u_ws RX9 TX9 10
theorem nmX9 : ∀ a, a < 10 → ∀ b, b < 10 → a ≠ b → (TX9 a).2.1 ≠ (TX9 b).2.1 := by decide +kernel
theorem tyX9_ok : ∀ k, k < 10 → parseFieldDescriptor (TX9 k).2.2.1 = some (tyX9 k) := by decide +kernel
abbrev cX9_init : ByteArray := prog_1_method_1_code
def yX9_init : MethodName := ⟨RX9, "<init>", "()V"⟩
abbrev cX9_write : ByteArray := prog_1_method_2_code
def yX9_write : MethodName := ⟨RX9, "write", "(IJ)I"⟩
abbrev cX9_wipe : ByteArray := prog_1_method_3_code
def yX9_wipe : MethodName := ⟨RX9, "wipe", "()I"⟩
abbrev cX9_fault : ByteArray := prog_1_method_4_code
def yX9_fault : MethodName := ⟨RX9, "fault", "()I"⟩
abbrev cX9_lay : ByteArray := prog_1_method_5_code
def yX9_lay : MethodName := ⟨RX9, "lay", "()I"⟩
abbrev cX9_lad : ByteArray := prog_1_method_6_code
def yX9_lad : MethodName := ⟨RX9, "lad", "(II)I"⟩
abbrev cX9_master : ByteArray := prog_1_method_7_code
def yX9_master : MethodName := ⟨RX9, "master", "(II)I"⟩
abbrev cX9_wants : ByteArray := prog_1_method_8_code
def yX9_wants : MethodName := ⟨RX9, "wants", "(III)I"⟩
abbrev cX9_all : ByteArray := prog_1_method_9_code
def yX9_all : MethodName := ⟨RX9, "all", "(I)I"⟩
abbrev cX9_limit : ByteArray := prog_1_method_10_code
def yX9_limit : MethodName := ⟨RX9, "limit", "(II)I"⟩
abbrev cX9_calls : ByteArray := prog_1_method_11_code
def yX9_calls : MethodName := ⟨RX9, "calls", "(I)I"⟩
abbrev cX9_step : ByteArray := prog_1_method_12_code
def yX9_step : MethodName := ⟨RX9, "step", "(I)I"⟩
abbrev cX9_undo : ByteArray := prog_1_method_13_code
def yX9_undo : MethodName := ⟨RX9, "undo", "()I"⟩
abbrev cX9_lie : ByteArray := prog_1_method_14_code
def yX9_lie : MethodName := ⟨RX9, "lie", "(II)I"⟩
abbrev cX9_game : ByteArray := prog_1_method_15_code
def yX9_game : MethodName := ⟨RX9, "game", "(III)I"⟩
abbrev cX9_rest : ByteArray := prog_1_method_16_code
def yX9_rest : MethodName := ⟨RX9, "rest", "(IZ)I"⟩
abbrev cX9_joint : ByteArray := prog_1_method_17_code
def yX9_joint : MethodName := ⟨RX9, "joint", "(I)I"⟩
abbrev cX9_pay : ByteArray := prog_1_method_18_code
def yX9_pay : MethodName := ⟨RX9, "pay", "(I)I"⟩
abbrev cX9_seen : ByteArray := prog_1_method_19_code
def yX9_seen : MethodName := ⟨RX9, "seen", "(II)I"⟩
abbrev cX9_forget : ByteArray := prog_1_method_20_code
def yX9_forget : MethodName := ⟨RX9, "forget", "()I"⟩
abbrev cX9_cousins : ByteArray := prog_1_method_21_code
def yX9_cousins : MethodName := ⟨RX9, "cousins", "()I"⟩
abbrev cX9_span : ByteArray := prog_1_method_22_code
def yX9_span : MethodName := ⟨RX9, "span", "(III)I"⟩
abbrev cX9_year : ByteArray := prog_1_method_23_code
def yX9_year : MethodName := ⟨RX9, "year", "(II)I"⟩
abbrev cX9_keep : ByteArray := prog_1_method_24_code
def yX9_keep : MethodName := ⟨RX9, "keep", "()I"⟩
abbrev cX9_back : ByteArray := prog_1_method_25_code
def yX9_back : MethodName := ⟨RX9, "back", "()I"⟩
abbrev cX9_count : ByteArray := prog_1_method_26_code
def yX9_count : MethodName := ⟨RX9, "count", "(I)I"⟩
abbrev cX9_isWithin : ByteArray := prog_1_method_27_code
def yX9_isWithin : MethodName := ⟨RX9, "isWithin", "(III)Z"⟩
abbrev cX9_change : ByteArray := prog_1_method_28_code
def yX9_change : MethodName := ⟨RX9, "change", "(II)I"⟩
abbrev cX9_gainBySaying : ByteArray := prog_1_method_29_code
def yX9_gainBySaying : MethodName := ⟨RX9, "gainBySaying", "(II)I"⟩
abbrev cX9_isAsSeenWithout : ByteArray := prog_1_method_30_code
def yX9_isAsSeenWithout : MethodName := ⟨RX9, "isAsSeenWithout", "(I)Z"⟩
def RX10 : String := "LotsBidModel"
def TX10 : u_T := fun k => match k with
  | 0 => ("LotsBidModel", "length", "I", false)
  | 1 => ("LotsBidModel", "text", "[I", true)
  | 2 => ("LotsBidModel", "masters", "[I", true)
  | 3 => ("LotsBidModel", "rooms", "[I", true)
  | 4 => ("LotsBidModel", "lads", "[I", true)
  | 5 => ("LotsBidModel", "kinds", "[I", true)
  | 6 => ("LotsBidModel", "wanted", "[I", true)
  | 7 => ("LotsBidModel", "limits", "[I", true)
  | 8 => ("LotsBidModel", "call", "[I", true)
  | 9 => ("LotsBidModel", "steps", "[I", true)
  | 10 => ("LotsBidModel", "keptMany", "I", false)
  | 11 => ("LotsBidModel", "undoMany", "I", false)
  | 12 => ("LotsBidModel", "undos", "[I", true)
  | 13 => ("LotsBidModel", "seenMany", "I", false)
  | 14 => ("LotsBidModel", "seenOf", "[I", true)
  | 15 => ("LotsBidModel", "seenYears", "[I", true)
  | 16 => ("LotsBidModel", "place", "I", false)
  | 17 => ("LotsBidModel", "told", "[I", true)
  | 18 => ("LotsBidModel", "got", "[I", true)
  | 19 => ("LotsBidModel", "years", "[I", true)
  | 20 => ("LotsBidModel", "out", "I", false)
  | 21 => ("LotsBidModel", "left", "I", false)
  | 22 => ("LotsBidModel", "ends", "I", false)
  | 23 => ("LotsBidModel", "gainOne", "[I", true)
  | 24 => ("LotsBidModel", "gainTwo", "[I", true)
  | 25 => ("LotsBidModel", "price", "[I", true)
  | 26 => ("LotsBidModel", "with", "[I", true)
  | 27 => ("LotsBidModel", "used", "[I", true)
  | _ => ("LotsBidModel", "held", "[I", true)
def tyX10 : Nat → FieldType := fun k => match k with
  | 0 => .int
  | 1 => .array .int
  | 2 => .array .int
  | 3 => .array .int
  | 4 => .array .int
  | 5 => .array .int
  | 6 => .array .int
  | 7 => .array .int
  | 8 => .array .int
  | 9 => .array .int
  | 10 => .int
  | 11 => .int
  | 12 => .array .int
  | 13 => .int
  | 14 => .array .int
  | 15 => .array .int
  | 16 => .int
  | 17 => .array .int
  | 18 => .array .int
  | 19 => .array .int
  | 20 => .int
  | 21 => .int
  | 22 => .int
  | 23 => .array .int
  | 24 => .array .int
  | 25 => .array .int
  | 26 => .array .int
  | 27 => .array .int
  | _ => .array .int
abbrev wsX100 : List Cond := u_ws RX10 TX10 29
theorem nmX10 : ∀ a, a < 29 → ∀ b, b < 29 → a ≠ b → (TX10 a).2.1 ≠ (TX10 b).2.1 := by decide +kernel
theorem tyX10_ok : ∀ k, k < 29 → parseFieldDescriptor (TX10 k).2.2.1 = some (tyX10 k) := by decide +kernel
abbrev cX10_init : ByteArray := prog_12_method_1_code
def yX10_init : MethodName := ⟨RX10, "<init>", "()V"⟩
abbrev cX10_in : ByteArray := prog_12_method_2_code
def yX10_in : MethodName := ⟨RX10, "in", "(JJJ)Z"⟩
abbrev cX10_has : ByteArray := prog_12_method_3_code
def yX10_has : MethodName := ⟨RX10, "has", "(II)Z"⟩
abbrev cX10_noFair : ByteArray := prog_12_method_4_code
def yX10_noFair : MethodName := ⟨RX10, "noFair", "(I)V"⟩
abbrev cX10_write : ByteArray := prog_12_method_5_code
def yX10_write : MethodName := ⟨RX10, "write", "(IJ)I"⟩
abbrev cX10_wipe : ByteArray := prog_12_method_6_code
def yX10_wipe : MethodName := ⟨RX10, "wipe", "()I"⟩
abbrev cX10_byteAt : ByteArray := prog_12_method_7_code
def yX10_byteAt : MethodName := ⟨RX10, "byteAt", "(I)I"⟩
abbrev cX10_figures : ByteArray := prog_12_method_8_code
def yX10_figures : MethodName := ⟨RX10, "figures", "(I)Z"⟩
abbrev cX10_item : ByteArray := prog_12_method_9_code
def yX10_item : MethodName := ⟨RX10, "item", "()Z"⟩
abbrev cX10_readAll : ByteArray := prog_12_method_10_code
def yX10_readAll : MethodName := ⟨RX10, "readAll", "()I"⟩
abbrev cX10_fault : ByteArray := prog_12_method_11_code
def yX10_fault : MethodName := ⟨RX10, "fault", "()I"⟩
abbrev cX10_copy : ByteArray := prog_12_method_12_code
def yX10_copy : MethodName := ⟨RX10, "copy", "(II)V"⟩
abbrev cX10_lay : ByteArray := prog_12_method_13_code
def yX10_lay : MethodName := ⟨RX10, "lay", "()I"⟩
abbrev cX10_isLad : ByteArray := prog_12_method_14_code
def yX10_isLad : MethodName := ⟨RX10, "isLad", "(I)Z"⟩
abbrev cX10_isMaster : ByteArray := prog_12_method_15_code
def yX10_isMaster : MethodName := ⟨RX10, "isMaster", "(I)Z"⟩
abbrev cX10_boundOf : ByteArray := prog_12_method_16_code
def yX10_boundOf : MethodName := ⟨RX10, "boundOf", "(II)I"⟩
abbrev cX10_isIn : ByteArray := prog_12_method_17_code
def yX10_isIn : MethodName := ⟨RX10, "isIn", "(III)Z"⟩
abbrev cX10_inSet : ByteArray := prog_12_method_18_code
def yX10_inSet : MethodName := ⟨RX10, "inSet", "(II)I"⟩
abbrev cX10_bits : ByteArray := prog_12_method_19_code
def yX10_bits : MethodName := ⟨RX10, "bits", "(I)I"⟩
abbrev cX10_give : ByteArray := prog_12_method_20_code
def yX10_give : MethodName := ⟨RX10, "give", "(III)V"⟩
abbrev cX10_callBelow : ByteArray := prog_12_method_21_code
def yX10_callBelow : MethodName := ⟨RX10, "callBelow", "(I)V"⟩
abbrev cX10_callAbove : ByteArray := prog_12_method_22_code
def yX10_callAbove : MethodName := ⟨RX10, "callAbove", "(I)V"⟩
abbrev cX10_callSealed : ByteArray := prog_12_method_23_code
def yX10_callSealed : MethodName := ⟨RX10, "callSealed", "(I)V"⟩
abbrev cX10_callOne : ByteArray := prog_12_method_24_code
def yX10_callOne : MethodName := ⟨RX10, "callOne", "(II)V"⟩
abbrev cX10_begin : ByteArray := prog_12_method_25_code
def yX10_begin : MethodName := ⟨RX10, "begin", "(I)V"⟩
abbrev cX10_goFair : ByteArray := prog_12_method_26_code
def yX10_goFair : MethodName := ⟨RX10, "goFair", "(I)V"⟩
abbrev cX10_gainOf : ByteArray := prog_12_method_27_code
def yX10_gainOf : MethodName := ⟨RX10, "gainOf", "(I)I"⟩
abbrev cX10_lad : ByteArray := prog_12_method_28_code
def yX10_lad : MethodName := ⟨RX10, "lad", "(II)I"⟩
abbrev cX10_mostOf : ByteArray := prog_12_method_29_code
def yX10_mostOf : MethodName := ⟨RX10, "mostOf", "(I)I"⟩
abbrev cX10_ladsOf : ByteArray := prog_12_method_30_code
def yX10_ladsOf : MethodName := ⟨RX10, "ladsOf", "(I)I"⟩
abbrev cX10_master : ByteArray := prog_12_method_31_code
def yX10_master : MethodName := ⟨RX10, "master", "(II)I"⟩
abbrev cX10_wants : ByteArray := prog_12_method_32_code
def yX10_wants : MethodName := ⟨RX10, "wants", "(III)I"⟩
abbrev cX10_all : ByteArray := prog_12_method_33_code
def yX10_all : MethodName := ⟨RX10, "all", "(I)I"⟩
abbrev cX10_note : ByteArray := prog_12_method_34_code
def yX10_note : MethodName := ⟨RX10, "note", "(II)I"⟩
abbrev cX10_limit : ByteArray := prog_12_method_35_code
def yX10_limit : MethodName := ⟨RX10, "limit", "(II)I"⟩
abbrev cX10_calls : ByteArray := prog_12_method_36_code
def yX10_calls : MethodName := ⟨RX10, "calls", "(I)I"⟩
abbrev cX10_step : ByteArray := prog_12_method_37_code
def yX10_step : MethodName := ⟨RX10, "step", "(I)I"⟩
abbrev cX10_undo : ByteArray := prog_12_method_38_code
def yX10_undo : MethodName := ⟨RX10, "undo", "()I"⟩
abbrev cX10_lie : ByteArray := prog_12_method_39_code
def yX10_lie : MethodName := ⟨RX10, "lie", "(II)I"⟩
abbrev cX10_game : ByteArray := prog_12_method_40_code
def yX10_game : MethodName := ⟨RX10, "game", "(III)I"⟩
abbrev cX10_seatAll : ByteArray := prog_12_method_41_code
def yX10_seatAll : MethodName := ⟨RX10, "seatAll", "(I)Z"⟩
abbrev cX10_codes : ByteArray := prog_12_method_42_code
def yX10_codes : MethodName := ⟨RX10, "codes", "()I"⟩
abbrev cX10_isAtRest : ByteArray := prog_12_method_43_code
def yX10_isAtRest : MethodName := ⟨RX10, "isAtRest", "()Z"⟩
abbrev cX10_takePrices : ByteArray := prog_12_method_44_code
def yX10_takePrices : MethodName := ⟨RX10, "takePrices", "(I)I"⟩
abbrev cX10_canRest : ByteArray := prog_12_method_45_code
def yX10_canRest : MethodName := ⟨RX10, "canRest", "()Z"⟩
abbrev cX10_rest : ByteArray := prog_12_method_46_code
def yX10_rest : MethodName := ⟨RX10, "rest", "(IZ)I"⟩
abbrev cX10_sumOf : ByteArray := prog_12_method_47_code
def yX10_sumOf : MethodName := ⟨RX10, "sumOf", "(I)I"⟩
abbrev cX10_bestWay : ByteArray := prog_12_method_48_code
def yX10_bestWay : MethodName := ⟨RX10, "bestWay", "(I)I"⟩
abbrev cX10_joint : ByteArray := prog_12_method_49_code
def yX10_joint : MethodName := ⟨RX10, "joint", "(I)I"⟩
abbrev cX10_pay : ByteArray := prog_12_method_50_code
def yX10_pay : MethodName := ⟨RX10, "pay", "(I)I"⟩
abbrev cX10_seen : ByteArray := prog_12_method_51_code
def yX10_seen : MethodName := ⟨RX10, "seen", "(II)I"⟩
abbrev cX10_forget : ByteArray := prog_12_method_52_code
def yX10_forget : MethodName := ⟨RX10, "forget", "()I"⟩
abbrev cX10_isSeenSo : ByteArray := prog_12_method_53_code
def yX10_isSeenSo : MethodName := ⟨RX10, "isSeenSo", "(I)Z"⟩
abbrev cX10_cousins : ByteArray := prog_12_method_54_code
def yX10_cousins : MethodName := ⟨RX10, "cousins", "()I"⟩
abbrev cX10_span : ByteArray := prog_12_method_55_code
def yX10_span : MethodName := ⟨RX10, "span", "(III)I"⟩
abbrev cX10_year : ByteArray := prog_12_method_56_code
def yX10_year : MethodName := ⟨RX10, "year", "(II)I"⟩
abbrev cX10_keep : ByteArray := prog_12_method_57_code
def yX10_keep : MethodName := ⟨RX10, "keep", "()I"⟩
abbrev cX10_back : ByteArray := prog_12_method_58_code
def yX10_back : MethodName := ⟨RX10, "back", "()I"⟩
abbrev cX10_count : ByteArray := prog_12_method_59_code
def yX10_count : MethodName := ⟨RX10, "count", "(I)I"⟩
def RJ9 : String := "java/lang/Math"
def TJ9 : u_T := fun k => match k with
  | _ => ("", "", "", false)
def tyJ9 : Nat → FieldType := fun k => match k with
  | _ => .int
abbrev wsJ90 : List Cond := u_ws RJ9 TJ9 0
theorem nmJ9 : ∀ a, a < 0 → ∀ b, b < 0 → a ≠ b → (TJ9 a).2.1 ≠ (TJ9 b).2.1 := by decide +kernel
theorem tyJ9_ok : ∀ k, k < 0 → parseFieldDescriptor (TJ9 k).2.2.1 = some (tyJ9 k) := by decide +kernel
abbrev cJ9_max_7cf53 : ByteArray := prog_13_method_65_code
def yJ9_max_7cf53 : MethodName := ⟨RJ9, "max", "(II)I"⟩
abbrev cJ9_min_7cf53 : ByteArray := prog_13_method_69_code
def yJ9_min_7cf53 : MethodName := ⟨RJ9, "min", "(II)I"⟩
def RJ10 : String := "java/lang/System"
def TJ10 : u_T := fun k => match k with
  | _ => ("", "", "", false)
def tyJ10 : Nat → FieldType := fun k => match k with
  | _ => .int
abbrev wsJ100 : List Cond := u_ws RJ10 TJ10 0
theorem nmJ10 : ∀ a, a < 0 → ∀ b, b < 0 → a ≠ b → (TJ10 a).2.1 ≠ (TJ10 b).2.1 := by decide +kernel
theorem tyJ10_ok : ∀ k, k < 0 → parseFieldDescriptor (TJ10 k).2.2.1 = some (tyJ10 k) := by decide +kernel
def RJ7 : String := "java/util/Arrays"
def TJ7 : u_T := fun k => match k with
  | _ => ("", "", "", false)
def tyJ7 : Nat → FieldType := fun k => match k with
  | _ => .int
abbrev wsJ70 : List Cond := u_ws RJ7 TJ7 0
theorem nmJ7 : ∀ a, a < 0 → ∀ b, b < 0 → a ≠ b → (TJ7 a).2.1 ≠ (TJ7 b).2.1 := by decide +kernel
theorem tyJ7_ok : ∀ k, k < 0 → parseFieldDescriptor (TJ7 k).2.2.1 = some (tyJ7 k) := by decide +kernel
abbrev cJ7_fill_53178 : ByteArray := prog_15_method_103_code
def yJ7_fill_53178 : MethodName := ⟨RJ7, "fill", "([II)V"⟩
def RL : String := "LotsBidLaw"
abbrev cL_law : ByteArray := code
def yL_law : MethodName := ⟨RL, "law", "([I)Z"⟩
end
section
def wsT : List Cond := lw_tbl.filter goodWord
theorem mT {w : Cond} (i : Nat) (h : lw_tbl[i]? = some w) (g : goodWord w = true) : w ∈ wsT := List.mem_filter.mpr ⟨List.mem_of_getElem? h, g⟩
theorem wsT_good : ∀ w ∈ wsT, goodWord w = true := fun w h => (List.mem_filter.mp h).2
theorem goodT {w : Cond} (h : w ∈ wsT) : GoodIn wsT (w :: wsT) := fun x hx => (List.mem_cons.mp hx).elim (fun e => ⟨e ▸ h, good_of_word (wsT_good _ (e ▸ h))⟩) (fun h2 => ⟨h2, good_of_word (wsT_good _ h2)⟩)
end
section
theorem dX0_init_0 : decode cX0_init 0 = .ok (.aload_n 0, 1) := by decide +kernel
theorem dX0_init_1 : decode cX0_init 1 = .ok (.invokespecial 3, 3) := by decide +kernel
theorem dX0_init_4 : decode cX0_init 4 = .ok (.aload_n 0, 1) := by decide +kernel
theorem dX0_init_5 : decode cX0_init 5 = .ok (.bipush 8, 2) := by decide +kernel
theorem dX0_init_7 : decode cX0_init 7 = .ok (.newarray .int, 2) := by decide +kernel
theorem dX0_init_9 : decode cX0_init 9 = .ok (.putfield 9, 3) := by decide +kernel
theorem dX0_init_12 : decode cX0_init 12 = .ok (.aload_n 0, 1) := by decide +kernel
theorem dX0_init_13 : decode cX0_init 13 = .ok (.bipush 8, 2) := by decide +kernel
theorem dX0_init_15 : decode cX0_init 15 = .ok (.newarray .int, 2) := by decide +kernel
theorem dX0_init_17 : decode cX0_init 17 = .ok (.putfield 15, 3) := by decide +kernel
theorem dX0_init_20 : decode cX0_init 20 = .ok (.return_, 1) := by decide +kernel
theorem dX0_note_0 : decode cX0_note 0 = .ok (.aload_n 0, 1) := by decide +kernel
theorem dX0_note_1 : decode cX0_note 1 = .ok (.getfield 18, 3) := by decide +kernel
theorem dX0_note_4 : decode cX0_note 4 = .ok (.bipush 8, 2) := by decide +kernel
theorem dX0_note_6 : decode cX0_note 6 = .ok (.if_icmp .lt 39, 3) := by decide +kernel
theorem dX0_note_9 : decode cX0_note 9 = .ok (.aload_n 0, 1) := by decide +kernel
theorem dX0_note_10 : decode cX0_note 10 = .ok (.getfield 9, 3) := by decide +kernel
theorem dX0_note_13 : decode cX0_note 13 = .ok (.iconst 1, 1) := by decide +kernel
theorem dX0_note_14 : decode cX0_note 14 = .ok (.aload_n 0, 1) := by decide +kernel
theorem dX0_note_15 : decode cX0_note 15 = .ok (.getfield 9, 3) := by decide +kernel
theorem dX0_note_18 : decode cX0_note 18 = .ok (.iconst 0, 1) := by decide +kernel
theorem dX0_note_19 : decode cX0_note 19 = .ok (.bipush 7, 2) := by decide +kernel
theorem dX0_note_21 : decode cX0_note 21 = .ok (.invokestatic 22, 3) := by decide +kernel
theorem dX0_note_24 : decode cX0_note 24 = .ok (.aload_n 0, 1) := by decide +kernel
theorem dX0_note_25 : decode cX0_note 25 = .ok (.getfield 15, 3) := by decide +kernel
theorem dX0_note_28 : decode cX0_note 28 = .ok (.iconst 1, 1) := by decide +kernel
theorem dX0_note_29 : decode cX0_note 29 = .ok (.aload_n 0, 1) := by decide +kernel
theorem dX0_note_30 : decode cX0_note 30 = .ok (.getfield 15, 3) := by decide +kernel
theorem dX0_note_33 : decode cX0_note 33 = .ok (.iconst 0, 1) := by decide +kernel
theorem dX0_note_34 : decode cX0_note 34 = .ok (.bipush 7, 2) := by decide +kernel
theorem dX0_note_36 : decode cX0_note 36 = .ok (.invokestatic 22, 3) := by decide +kernel
theorem dX0_note_39 : decode cX0_note 39 = .ok (.aload_n 0, 1) := by decide +kernel
theorem dX0_note_40 : decode cX0_note 40 = .ok (.bipush 7, 2) := by decide +kernel
theorem dX0_note_42 : decode cX0_note 42 = .ok (.putfield 18, 3) := by decide +kernel
theorem dX0_note_45 : decode cX0_note 45 = .ok (.aload_n 0, 1) := by decide +kernel
theorem dX0_note_46 : decode cX0_note 46 = .ok (.getfield 9, 3) := by decide +kernel
theorem dX0_note_49 : decode cX0_note 49 = .ok (.aload_n 0, 1) := by decide +kernel
theorem dX0_note_50 : decode cX0_note 50 = .ok (.getfield 18, 3) := by decide +kernel
theorem dX0_note_53 : decode cX0_note 53 = .ok (.iload_n 1, 1) := by decide +kernel
theorem dX0_note_54 : decode cX0_note 54 = .ok (.iastore, 1) := by decide +kernel
theorem dX0_note_55 : decode cX0_note 55 = .ok (.aload_n 0, 1) := by decide +kernel
theorem dX0_note_56 : decode cX0_note 56 = .ok (.getfield 15, 3) := by decide +kernel
theorem dX0_note_59 : decode cX0_note 59 = .ok (.aload_n 0, 1) := by decide +kernel
theorem dX0_note_60 : decode cX0_note 60 = .ok (.getfield 18, 3) := by decide +kernel
theorem dX0_note_63 : decode cX0_note 63 = .ok (.iload_n 2, 1) := by decide +kernel
theorem dX0_note_64 : decode cX0_note 64 = .ok (.iastore, 1) := by decide +kernel
theorem dX0_note_65 : decode cX0_note 65 = .ok (.aload_n 0, 1) := by decide +kernel
theorem dX0_note_66 : decode cX0_note 66 = .ok (.dup, 1) := by decide +kernel
theorem dX0_note_67 : decode cX0_note 67 = .ok (.getfield 18, 3) := by decide +kernel
theorem dX0_note_70 : decode cX0_note 70 = .ok (.iconst 1, 1) := by decide +kernel
theorem dX0_note_71 : decode cX0_note 71 = .ok (.iadd, 1) := by decide +kernel
theorem dX0_note_72 : decode cX0_note 72 = .ok (.putfield 18, 3) := by decide +kernel
theorem dX0_note_75 : decode cX0_note 75 = .ok (.return_, 1) := by decide +kernel
theorem dX0_takeBack_0 : decode cX0_takeBack 0 = .ok (.aload_n 0, 1) := by decide +kernel
theorem dX0_takeBack_1 : decode cX0_takeBack 1 = .ok (.dup, 1) := by decide +kernel
theorem dX0_takeBack_2 : decode cX0_takeBack 2 = .ok (.getfield 18, 3) := by decide +kernel
theorem dX0_takeBack_5 : decode cX0_takeBack 5 = .ok (.iconst 1, 1) := by decide +kernel
theorem dX0_takeBack_6 : decode cX0_takeBack 6 = .ok (.isub, 1) := by decide +kernel
theorem dX0_takeBack_7 : decode cX0_takeBack 7 = .ok (.putfield 18, 3) := by decide +kernel
theorem dX0_takeBack_10 : decode cX0_takeBack 10 = .ok (.aload_n 1, 1) := by decide +kernel
theorem dX0_takeBack_11 : decode cX0_takeBack 11 = .ok (.getfield 28, 3) := by decide +kernel
theorem dX0_takeBack_14 : decode cX0_takeBack 14 = .ok (.aload_n 0, 1) := by decide +kernel
theorem dX0_takeBack_15 : decode cX0_takeBack 15 = .ok (.getfield 9, 3) := by decide +kernel
theorem dX0_takeBack_18 : decode cX0_takeBack 18 = .ok (.aload_n 0, 1) := by decide +kernel
theorem dX0_takeBack_19 : decode cX0_takeBack 19 = .ok (.getfield 18, 3) := by decide +kernel
theorem dX0_takeBack_22 : decode cX0_takeBack 22 = .ok (.iaload, 1) := by decide +kernel
theorem dX0_takeBack_23 : decode cX0_takeBack 23 = .ok (.aload_n 0, 1) := by decide +kernel
theorem dX0_takeBack_24 : decode cX0_takeBack 24 = .ok (.getfield 15, 3) := by decide +kernel
theorem dX0_takeBack_27 : decode cX0_takeBack 27 = .ok (.aload_n 0, 1) := by decide +kernel
theorem dX0_takeBack_28 : decode cX0_takeBack 28 = .ok (.getfield 18, 3) := by decide +kernel
theorem dX0_takeBack_31 : decode cX0_takeBack 31 = .ok (.iaload, 1) := by decide +kernel
theorem dX0_takeBack_32 : decode cX0_takeBack 32 = .ok (.iastore, 1) := by decide +kernel
theorem dX0_takeBack_33 : decode cX0_takeBack 33 = .ok (.return_, 1) := by decide +kernel
theorem dX1_init_0 : decode cX1_init 0 = .ok (.aload_n 0, 1) := by decide +kernel
theorem dX1_init_1 : decode cX1_init 1 = .ok (.invokespecial 3, 3) := by decide +kernel
theorem dX1_init_4 : decode cX1_init 4 = .ok (.aload_n 0, 1) := by decide +kernel
theorem dX1_init_5 : decode cX1_init 5 = .ok (.bipush 11, 2) := by decide +kernel
theorem dX1_init_7 : decode cX1_init 7 = .ok (.bipush 11, 2) := by decide +kernel
theorem dX1_init_9 : decode cX1_init 9 = .ok (.multianewarray 9 2, 4) := by decide +kernel
theorem dX1_init_13 : decode cX1_init 13 = .ok (.putfield 11, 3) := by decide +kernel
theorem dX1_init_16 : decode cX1_init 16 = .ok (.aload_n 0, 1) := by decide +kernel
theorem dX1_init_17 : decode cX1_init 17 = .ok (.bipush 11, 2) := by decide +kernel
theorem dX1_init_19 : decode cX1_init 19 = .ok (.bipush 11, 2) := by decide +kernel
theorem dX1_init_21 : decode cX1_init 21 = .ok (.multianewarray 9 2, 4) := by decide +kernel
theorem dX1_init_25 : decode cX1_init 25 = .ok (.putfield 16, 3) := by decide +kernel
theorem dX1_init_28 : decode cX1_init 28 = .ok (.return_, 1) := by decide +kernel
theorem dX1_play_0 : decode cX1_play 0 = .ok (.iconst 1, 1) := by decide +kernel
theorem dX1_play_1 : decode cX1_play 1 = .ok (.istore 5, 2) := by decide +kernel
theorem dX1_play_3 : decode cX1_play 3 = .ok (.iload 5, 2) := by decide +kernel
theorem dX1_play_5 : decode cX1_play 5 = .ok (.bipush 10, 2) := by decide +kernel
theorem dX1_play_7 : decode cX1_play 7 = .ok (.if_icmp .gt 81, 3) := by decide +kernel
theorem dX1_play_10 : decode cX1_play 10 = .ok (.aload_n 1, 1) := by decide +kernel
theorem dX1_play_11 : decode cX1_play 11 = .ok (.getfield 19, 3) := by decide +kernel
theorem dX1_play_14 : decode cX1_play 14 = .ok (.iload_n 3, 1) := by decide +kernel
theorem dX1_play_15 : decode cX1_play 15 = .ok (.iload 5, 2) := by decide +kernel
theorem dX1_play_17 : decode cX1_play 17 = .ok (.iastore, 1) := by decide +kernel
theorem dX1_play_18 : decode cX1_play 18 = .ok (.iconst 1, 1) := by decide +kernel
theorem dX1_play_19 : decode cX1_play 19 = .ok (.istore 6, 2) := by decide +kernel
theorem dX1_play_21 : decode cX1_play 21 = .ok (.iload 6, 2) := by decide +kernel
theorem dX1_play_23 : decode cX1_play 23 = .ok (.bipush 10, 2) := by decide +kernel
theorem dX1_play_25 : decode cX1_play 25 = .ok (.if_icmp .gt 57, 3) := by decide +kernel
theorem dX1_play_28 : decode cX1_play 28 = .ok (.aload_n 1, 1) := by decide +kernel
theorem dX1_play_29 : decode cX1_play 29 = .ok (.getfield 19, 3) := by decide +kernel
theorem dX1_play_32 : decode cX1_play 32 = .ok (.iload 4, 2) := by decide +kernel
theorem dX1_play_34 : decode cX1_play 34 = .ok (.iload 6, 2) := by decide +kernel
theorem dX1_play_36 : decode cX1_play 36 = .ok (.iastore, 1) := by decide +kernel
theorem dX1_play_37 : decode cX1_play 37 = .ok (.aload_n 2, 1) := by decide +kernel
theorem dX1_play_38 : decode cX1_play 38 = .ok (.aload_n 1, 1) := by decide +kernel
theorem dX1_play_39 : decode cX1_play 39 = .ok (.iconst (-1), 1) := by decide +kernel
theorem dX1_play_40 : decode cX1_play 40 = .ok (.invokevirtual 25, 3) := by decide +kernel
theorem dX1_play_43 : decode cX1_play 43 = .ok (.aload_n 0, 1) := by decide +kernel
theorem dX1_play_44 : decode cX1_play 44 = .ok (.getfield 11, 3) := by decide +kernel
theorem dX1_play_47 : decode cX1_play 47 = .ok (.iload 5, 2) := by decide +kernel
theorem dX1_play_49 : decode cX1_play 49 = .ok (.aaload, 1) := by decide +kernel
theorem dX1_play_50 : decode cX1_play 50 = .ok (.iload 6, 2) := by decide +kernel
theorem dX1_play_52 : decode cX1_play 52 = .ok (.aload_n 2, 1) := by decide +kernel
theorem dX1_play_53 : decode cX1_play 53 = .ok (.aload_n 1, 1) := by decide +kernel
theorem dX1_play_54 : decode cX1_play 54 = .ok (.iload_n 3, 1) := by decide +kernel
theorem dX1_play_55 : decode cX1_play 55 = .ok (.invokevirtual 31, 3) := by decide +kernel
theorem dX1_play_58 : decode cX1_play 58 = .ok (.iastore, 1) := by decide +kernel
theorem dX1_play_59 : decode cX1_play 59 = .ok (.aload_n 0, 1) := by decide +kernel
theorem dX1_play_60 : decode cX1_play 60 = .ok (.getfield 16, 3) := by decide +kernel
theorem dX1_play_63 : decode cX1_play 63 = .ok (.iload 5, 2) := by decide +kernel
theorem dX1_play_65 : decode cX1_play 65 = .ok (.aaload, 1) := by decide +kernel
theorem dX1_play_66 : decode cX1_play 66 = .ok (.iload 6, 2) := by decide +kernel
theorem dX1_play_68 : decode cX1_play 68 = .ok (.aload_n 2, 1) := by decide +kernel
theorem dX1_play_69 : decode cX1_play 69 = .ok (.aload_n 1, 1) := by decide +kernel
theorem dX1_play_70 : decode cX1_play 70 = .ok (.iload 4, 2) := by decide +kernel
theorem dX1_play_72 : decode cX1_play 72 = .ok (.invokevirtual 31, 3) := by decide +kernel
theorem dX1_play_75 : decode cX1_play 75 = .ok (.iastore, 1) := by decide +kernel
theorem dX1_play_76 : decode cX1_play 76 = .ok (.iinc 6 1, 3) := by decide +kernel
theorem dX1_play_79 : decode cX1_play 79 = .ok (.goto (-58), 3) := by decide +kernel
theorem dX1_play_82 : decode cX1_play 82 = .ok (.iinc 5 1, 3) := by decide +kernel
theorem dX1_play_85 : decode cX1_play 85 = .ok (.goto (-82), 3) := by decide +kernel
theorem dX1_play_88 : decode cX1_play 88 = .ok (.return_, 1) := by decide +kernel
theorem dX1_findRests_0 : decode cX1_findRests 0 = .ok (.aload_n 0, 1) := by decide +kernel
theorem dX1_findRests_1 : decode cX1_findRests 1 = .ok (.iconst 0, 1) := by decide +kernel
theorem dX1_findRests_2 : decode cX1_findRests 2 = .ok (.putfield 35, 3) := by decide +kernel
theorem dX1_findRests_5 : decode cX1_findRests 5 = .ok (.iconst 1, 1) := by decide +kernel
theorem dX1_findRests_6 : decode cX1_findRests 6 = .ok (.istore_n 1, 1) := by decide +kernel
theorem dX1_findRests_7 : decode cX1_findRests 7 = .ok (.iload_n 1, 1) := by decide +kernel
theorem dX1_findRests_8 : decode cX1_findRests 8 = .ok (.bipush 10, 2) := by decide +kernel
theorem dX1_findRests_10 : decode cX1_findRests 10 = .ok (.if_icmp .gt 38, 3) := by decide +kernel
theorem dX1_findRests_13 : decode cX1_findRests 13 = .ok (.iconst 1, 1) := by decide +kernel
theorem dX1_findRests_14 : decode cX1_findRests 14 = .ok (.istore_n 2, 1) := by decide +kernel
theorem dX1_findRests_15 : decode cX1_findRests 15 = .ok (.iload_n 2, 1) := by decide +kernel
theorem dX1_findRests_16 : decode cX1_findRests 16 = .ok (.bipush 10, 2) := by decide +kernel
theorem dX1_findRests_18 : decode cX1_findRests 18 = .ok (.if_icmp .gt 24, 3) := by decide +kernel
theorem dX1_findRests_21 : decode cX1_findRests 21 = .ok (.aload_n 0, 1) := by decide +kernel
theorem dX1_findRests_22 : decode cX1_findRests 22 = .ok (.iload_n 1, 1) := by decide +kernel
theorem dX1_findRests_23 : decode cX1_findRests 23 = .ok (.iload_n 2, 1) := by decide +kernel
theorem dX1_findRests_24 : decode cX1_findRests 24 = .ok (.invokevirtual 39, 3) := by decide +kernel
theorem dX1_findRests_27 : decode cX1_findRests 27 = .ok (.ifCond .eq 9, 3) := by decide +kernel
theorem dX1_findRests_30 : decode cX1_findRests 30 = .ok (.aload_n 0, 1) := by decide +kernel
theorem dX1_findRests_31 : decode cX1_findRests 31 = .ok (.iload_n 1, 1) := by decide +kernel
theorem dX1_findRests_32 : decode cX1_findRests 32 = .ok (.iload_n 2, 1) := by decide +kernel
theorem dX1_findRests_33 : decode cX1_findRests 33 = .ok (.invokevirtual 43, 3) := by decide +kernel
theorem dX1_findRests_36 : decode cX1_findRests 36 = .ok (.iinc 2 1, 3) := by decide +kernel
theorem dX1_findRests_39 : decode cX1_findRests 39 = .ok (.goto (-24), 3) := by decide +kernel
theorem dX1_findRests_42 : decode cX1_findRests 42 = .ok (.iinc 1 1, 3) := by decide +kernel
theorem dX1_findRests_45 : decode cX1_findRests 45 = .ok (.goto (-38), 3) := by decide +kernel
theorem dX1_findRests_48 : decode cX1_findRests 48 = .ok (.return_, 1) := by decide +kernel
theorem dX1_noteRest_0 : decode cX1_noteRest 0 = .ok (.aload_n 0, 1) := by decide +kernel
theorem dX1_noteRest_1 : decode cX1_noteRest 1 = .ok (.getfield 35, 3) := by decide +kernel
theorem dX1_noteRest_4 : decode cX1_noteRest 4 = .ok (.ifCond .ne 13, 3) := by decide +kernel
theorem dX1_noteRest_7 : decode cX1_noteRest 7 = .ok (.aload_n 0, 1) := by decide +kernel
theorem dX1_noteRest_8 : decode cX1_noteRest 8 = .ok (.iload_n 1, 1) := by decide +kernel
theorem dX1_noteRest_9 : decode cX1_noteRest 9 = .ok (.putfield 47, 3) := by decide +kernel
theorem dX1_noteRest_12 : decode cX1_noteRest 12 = .ok (.aload_n 0, 1) := by decide +kernel
theorem dX1_noteRest_13 : decode cX1_noteRest 13 = .ok (.iload_n 2, 1) := by decide +kernel
theorem dX1_noteRest_14 : decode cX1_noteRest 14 = .ok (.putfield 50, 3) := by decide +kernel
theorem dX1_noteRest_17 : decode cX1_noteRest 17 = .ok (.aload_n 0, 1) := by decide +kernel
theorem dX1_noteRest_18 : decode cX1_noteRest 18 = .ok (.dup, 1) := by decide +kernel
theorem dX1_noteRest_19 : decode cX1_noteRest 19 = .ok (.getfield 35, 3) := by decide +kernel
theorem dX1_noteRest_22 : decode cX1_noteRest 22 = .ok (.iconst 1, 1) := by decide +kernel
theorem dX1_noteRest_23 : decode cX1_noteRest 23 = .ok (.iadd, 1) := by decide +kernel
theorem dX1_noteRest_24 : decode cX1_noteRest 24 = .ok (.putfield 35, 3) := by decide +kernel
theorem dX1_noteRest_27 : decode cX1_noteRest 27 = .ok (.return_, 1) := by decide +kernel
theorem dX1_isRest_0 : decode cX1_isRest 0 = .ok (.iconst 1, 1) := by decide +kernel
theorem dX1_isRest_1 : decode cX1_isRest 1 = .ok (.istore_n 3, 1) := by decide +kernel
theorem dX1_isRest_2 : decode cX1_isRest 2 = .ok (.iload_n 3, 1) := by decide +kernel
theorem dX1_isRest_3 : decode cX1_isRest 3 = .ok (.bipush 10, 2) := by decide +kernel
theorem dX1_isRest_5 : decode cX1_isRest 5 = .ok (.if_icmp .gt 49, 3) := by decide +kernel
theorem dX1_isRest_8 : decode cX1_isRest 8 = .ok (.aload_n 0, 1) := by decide +kernel
theorem dX1_isRest_9 : decode cX1_isRest 9 = .ok (.getfield 11, 3) := by decide +kernel
theorem dX1_isRest_12 : decode cX1_isRest 12 = .ok (.iload_n 3, 1) := by decide +kernel
theorem dX1_isRest_13 : decode cX1_isRest 13 = .ok (.aaload, 1) := by decide +kernel
theorem dX1_isRest_14 : decode cX1_isRest 14 = .ok (.iload_n 2, 1) := by decide +kernel
theorem dX1_isRest_15 : decode cX1_isRest 15 = .ok (.iaload, 1) := by decide +kernel
theorem dX1_isRest_16 : decode cX1_isRest 16 = .ok (.aload_n 0, 1) := by decide +kernel
theorem dX1_isRest_17 : decode cX1_isRest 17 = .ok (.getfield 11, 3) := by decide +kernel
theorem dX1_isRest_20 : decode cX1_isRest 20 = .ok (.iload_n 1, 1) := by decide +kernel
theorem dX1_isRest_21 : decode cX1_isRest 21 = .ok (.aaload, 1) := by decide +kernel
theorem dX1_isRest_22 : decode cX1_isRest 22 = .ok (.iload_n 2, 1) := by decide +kernel
theorem dX1_isRest_23 : decode cX1_isRest 23 = .ok (.iaload, 1) := by decide +kernel
theorem dX1_isRest_24 : decode cX1_isRest 24 = .ok (.if_icmp .gt 22, 3) := by decide +kernel
theorem dX1_isRest_27 : decode cX1_isRest 27 = .ok (.aload_n 0, 1) := by decide +kernel
theorem dX1_isRest_28 : decode cX1_isRest 28 = .ok (.getfield 16, 3) := by decide +kernel
theorem dX1_isRest_31 : decode cX1_isRest 31 = .ok (.iload_n 1, 1) := by decide +kernel
theorem dX1_isRest_32 : decode cX1_isRest 32 = .ok (.aaload, 1) := by decide +kernel
theorem dX1_isRest_33 : decode cX1_isRest 33 = .ok (.iload_n 3, 1) := by decide +kernel
theorem dX1_isRest_34 : decode cX1_isRest 34 = .ok (.iaload, 1) := by decide +kernel
theorem dX1_isRest_35 : decode cX1_isRest 35 = .ok (.aload_n 0, 1) := by decide +kernel
theorem dX1_isRest_36 : decode cX1_isRest 36 = .ok (.getfield 16, 3) := by decide +kernel
theorem dX1_isRest_39 : decode cX1_isRest 39 = .ok (.iload_n 1, 1) := by decide +kernel
theorem dX1_isRest_40 : decode cX1_isRest 40 = .ok (.aaload, 1) := by decide +kernel
theorem dX1_isRest_41 : decode cX1_isRest 41 = .ok (.iload_n 2, 1) := by decide +kernel
theorem dX1_isRest_42 : decode cX1_isRest 42 = .ok (.iaload, 1) := by decide +kernel
theorem dX1_isRest_43 : decode cX1_isRest 43 = .ok (.if_icmp .le 5, 3) := by decide +kernel
theorem dX1_isRest_46 : decode cX1_isRest 46 = .ok (.iconst 0, 1) := by decide +kernel
theorem dX1_isRest_47 : decode cX1_isRest 47 = .ok (.ireturn, 1) := by decide +kernel
theorem dX1_isRest_48 : decode cX1_isRest 48 = .ok (.iinc 3 1, 3) := by decide +kernel
theorem dX1_isRest_51 : decode cX1_isRest 51 = .ok (.goto (-49), 3) := by decide +kernel
theorem dX1_isRest_54 : decode cX1_isRest 54 = .ok (.iconst 1, 1) := by decide +kernel
theorem dX1_isRest_55 : decode cX1_isRest 55 = .ok (.ireturn, 1) := by decide +kernel
theorem dX2_init_0 : decode cX2_init 0 = .ok (.aload_n 0, 1) := by decide +kernel
theorem dX2_init_1 : decode cX2_init 1 = .ok (.invokespecial 3, 3) := by decide +kernel
theorem dX2_init_4 : decode cX2_init 4 = .ok (.aload_n 0, 1) := by decide +kernel
theorem dX2_init_5 : decode cX2_init 5 = .ok (.iconst 5, 1) := by decide +kernel
theorem dX2_init_6 : decode cX2_init 6 = .ok (.newarray .int, 2) := by decide +kernel
theorem dX2_init_8 : decode cX2_init 8 = .ok (.putfield 9, 3) := by decide +kernel
theorem dX2_init_11 : decode cX2_init 11 = .ok (.aload_n 0, 1) := by decide +kernel
theorem dX2_init_12 : decode cX2_init 12 = .ok (.iconst 5, 1) := by decide +kernel
theorem dX2_init_13 : decode cX2_init 13 = .ok (.newarray .int, 2) := by decide +kernel
theorem dX2_init_15 : decode cX2_init 15 = .ok (.putfield 15, 3) := by decide +kernel
theorem dX2_init_18 : decode cX2_init 18 = .ok (.aload_n 0, 1) := by decide +kernel
theorem dX2_init_19 : decode cX2_init 19 = .ok (.iconst 5, 1) := by decide +kernel
theorem dX2_init_20 : decode cX2_init 20 = .ok (.newarray .int, 2) := by decide +kernel
theorem dX2_init_22 : decode cX2_init 22 = .ok (.putfield 18, 3) := by decide +kernel
theorem dX2_init_25 : decode cX2_init 25 = .ok (.aload_n 0, 1) := by decide +kernel
theorem dX2_init_26 : decode cX2_init 26 = .ok (.iconst 3, 1) := by decide +kernel
theorem dX2_init_27 : decode cX2_init 27 = .ok (.newarray .int, 2) := by decide +kernel
theorem dX2_init_29 : decode cX2_init 29 = .ok (.putfield 21, 3) := by decide +kernel
theorem dX2_init_32 : decode cX2_init 32 = .ok (.return_, 1) := by decide +kernel
theorem dX2_hold_0 : decode cX2_hold 0 = .ok (.aload_n 0, 1) := by decide +kernel
theorem dX2_hold_1 : decode cX2_hold 1 = .ok (.getfield 9, 3) := by decide +kernel
theorem dX2_hold_4 : decode cX2_hold 4 = .ok (.bipush (-4), 2) := by decide +kernel
theorem dX2_hold_6 : decode cX2_hold 6 = .ok (.invokestatic 24, 3) := by decide +kernel
theorem dX2_hold_9 : decode cX2_hold 9 = .ok (.aload_n 0, 1) := by decide +kernel
theorem dX2_hold_10 : decode cX2_hold 10 = .ok (.getfield 15, 3) := by decide +kernel
theorem dX2_hold_13 : decode cX2_hold 13 = .ok (.iconst 0, 1) := by decide +kernel
theorem dX2_hold_14 : decode cX2_hold 14 = .ok (.invokestatic 24, 3) := by decide +kernel
theorem dX2_hold_17 : decode cX2_hold 17 = .ok (.iconst 0, 1) := by decide +kernel
theorem dX2_hold_18 : decode cX2_hold 18 = .ok (.istore_n 3, 1) := by decide +kernel
theorem dX2_hold_19 : decode cX2_hold 19 = .ok (.iload_n 3, 1) := by decide +kernel
theorem dX2_hold_20 : decode cX2_hold 20 = .ok (.aload_n 1, 1) := by decide +kernel
theorem dX2_hold_21 : decode cX2_hold 21 = .ok (.getfield 30, 3) := by decide +kernel
theorem dX2_hold_24 : decode cX2_hold 24 = .ok (.if_icmp .ge 96, 3) := by decide +kernel
theorem dX2_hold_27 : decode cX2_hold 27 = .ok (.iconst 0, 1) := by decide +kernel
theorem dX2_hold_28 : decode cX2_hold 28 = .ok (.istore 4, 2) := by decide +kernel
theorem dX2_hold_30 : decode cX2_hold 30 = .ok (.iload 4, 2) := by decide +kernel
theorem dX2_hold_32 : decode cX2_hold 32 = .ok (.aload_n 1, 1) := by decide +kernel
theorem dX2_hold_33 : decode cX2_hold 33 = .ok (.getfield 36, 3) := by decide +kernel
theorem dX2_hold_36 : decode cX2_hold 36 = .ok (.if_icmp .ge 33, 3) := by decide +kernel
theorem dX2_hold_39 : decode cX2_hold 39 = .ok (.aload_n 0, 1) := by decide +kernel
theorem dX2_hold_40 : decode cX2_hold 40 = .ok (.getfield 18, 3) := by decide +kernel
theorem dX2_hold_43 : decode cX2_hold 43 = .ok (.iload 4, 2) := by decide +kernel
theorem dX2_hold_45 : decode cX2_hold 45 = .ok (.iload 4, 2) := by decide +kernel
theorem dX2_hold_47 : decode cX2_hold 47 = .ok (.iload_n 2, 1) := by decide +kernel
theorem dX2_hold_48 : decode cX2_hold 48 = .ok (.if_icmp .ne 7, 3) := by decide +kernel
theorem dX2_hold_51 : decode cX2_hold 51 = .ok (.iconst 0, 1) := by decide +kernel
theorem dX2_hold_52 : decode cX2_hold 52 = .ok (.goto 10, 3) := by decide +kernel
theorem dX2_hold_55 : decode cX2_hold 55 = .ok (.aload_n 1, 1) := by decide +kernel
theorem dX2_hold_56 : decode cX2_hold 56 = .ok (.iload 4, 2) := by decide +kernel
theorem dX2_hold_58 : decode cX2_hold 58 = .ok (.iload_n 3, 1) := by decide +kernel
theorem dX2_hold_59 : decode cX2_hold 59 = .ok (.invokevirtual 39, 3) := by decide +kernel
theorem dX2_hold_62 : decode cX2_hold 62 = .ok (.iastore, 1) := by decide +kernel
theorem dX2_hold_63 : decode cX2_hold 63 = .ok (.iinc 4 1, 3) := by decide +kernel
theorem dX2_hold_66 : decode cX2_hold 66 = .ok (.goto (-36), 3) := by decide +kernel
theorem dX2_hold_69 : decode cX2_hold 69 = .ok (.aload_n 1, 1) := by decide +kernel
theorem dX2_hold_70 : decode cX2_hold 70 = .ok (.getfield 43, 3) := by decide +kernel
theorem dX2_hold_73 : decode cX2_hold 73 = .ok (.iconst 5, 1) := by decide +kernel
theorem dX2_hold_74 : decode cX2_hold 74 = .ok (.iaload, 1) := by decide +kernel
theorem dX2_hold_75 : decode cX2_hold 75 = .ok (.ifCond .ne 12, 3) := by decide +kernel
theorem dX2_hold_78 : decode cX2_hold 78 = .ok (.aload_n 0, 1) := by decide +kernel
theorem dX2_hold_79 : decode cX2_hold 79 = .ok (.aload_n 1, 1) := by decide +kernel
theorem dX2_hold_80 : decode cX2_hold 80 = .ok (.iload_n 3, 1) := by decide +kernel
theorem dX2_hold_81 : decode cX2_hold 81 = .ok (.invokevirtual 46, 3) := by decide +kernel
theorem dX2_hold_84 : decode cX2_hold 84 = .ok (.goto 30, 3) := by decide +kernel
theorem dX2_hold_87 : decode cX2_hold 87 = .ok (.aload_n 0, 1) := by decide +kernel
theorem dX2_hold_88 : decode cX2_hold 88 = .ok (.aload_n 1, 1) := by decide +kernel
theorem dX2_hold_89 : decode cX2_hold 89 = .ok (.iload_n 3, 1) := by decide +kernel
theorem dX2_hold_90 : decode cX2_hold 90 = .ok (.aload_n 1, 1) := by decide +kernel
theorem dX2_hold_91 : decode cX2_hold 91 = .ok (.getfield 43, 3) := by decide +kernel
theorem dX2_hold_94 : decode cX2_hold 94 = .ok (.iconst 5, 1) := by decide +kernel
theorem dX2_hold_95 : decode cX2_hold 95 = .ok (.iaload, 1) := by decide +kernel
theorem dX2_hold_96 : decode cX2_hold 96 = .ok (.iconst 1, 1) := by decide +kernel
theorem dX2_hold_97 : decode cX2_hold 97 = .ok (.if_icmp .ne 13, 3) := by decide +kernel
theorem dX2_hold_100 : decode cX2_hold 100 = .ok (.aload_n 1, 1) := by decide +kernel
theorem dX2_hold_101 : decode cX2_hold 101 = .ok (.getfield 43, 3) := by decide +kernel
theorem dX2_hold_104 : decode cX2_hold 104 = .ok (.bipush 6, 2) := by decide +kernel
theorem dX2_hold_106 : decode cX2_hold 106 = .ok (.iaload, 1) := by decide +kernel
theorem dX2_hold_107 : decode cX2_hold 107 = .ok (.goto 4, 3) := by decide +kernel
theorem dX2_hold_110 : decode cX2_hold 110 = .ok (.iconst 1, 1) := by decide +kernel
theorem dX2_hold_111 : decode cX2_hold 111 = .ok (.invokevirtual 50, 3) := by decide +kernel
theorem dX2_hold_114 : decode cX2_hold 114 = .ok (.iinc 3 1, 3) := by decide +kernel
theorem dX2_hold_117 : decode cX2_hold 117 = .ok (.goto (-98), 3) := by decide +kernel
theorem dX2_hold_120 : decode cX2_hold 120 = .ok (.return_, 1) := by decide +kernel
theorem dX2_callFromBelow_0 : decode cX2_callFromBelow 0 = .ok (.aload_n 1, 1) := by decide +kernel
theorem dX2_callFromBelow_1 : decode cX2_callFromBelow 1 = .ok (.getfield 43, 3) := by decide +kernel
theorem dX2_callFromBelow_4 : decode cX2_callFromBelow 4 = .ok (.bipush 6, 2) := by decide +kernel
theorem dX2_callFromBelow_6 : decode cX2_callFromBelow 6 = .ok (.iaload, 1) := by decide +kernel
theorem dX2_callFromBelow_7 : decode cX2_callFromBelow 7 = .ok (.istore_n 3, 1) := by decide +kernel
theorem dX2_callFromBelow_8 : decode cX2_callFromBelow 8 = .ok (.iconst 1, 1) := by decide +kernel
theorem dX2_callFromBelow_9 : decode cX2_callFromBelow 9 = .ok (.istore 4, 2) := by decide +kernel
theorem dX2_callFromBelow_11 : decode cX2_callFromBelow 11 = .ok (.iload 4, 2) := by decide +kernel
theorem dX2_callFromBelow_13 : decode cX2_callFromBelow 13 = .ok (.bipush 10, 2) := by decide +kernel
theorem dX2_callFromBelow_15 : decode cX2_callFromBelow 15 = .ok (.if_icmp .gt 28, 3) := by decide +kernel
theorem dX2_callFromBelow_18 : decode cX2_callFromBelow 18 = .ok (.aload_n 0, 1) := by decide +kernel
theorem dX2_callFromBelow_19 : decode cX2_callFromBelow 19 = .ok (.aload_n 1, 1) := by decide +kernel
theorem dX2_callFromBelow_20 : decode cX2_callFromBelow 20 = .ok (.iload 4, 2) := by decide +kernel
theorem dX2_callFromBelow_22 : decode cX2_callFromBelow 22 = .ok (.invokevirtual 54, 3) := by decide +kernel
theorem dX2_callFromBelow_25 : decode cX2_callFromBelow 25 = .ok (.aload_n 1, 1) := by decide +kernel
theorem dX2_callFromBelow_26 : decode cX2_callFromBelow 26 = .ok (.getfield 58, 3) := by decide +kernel
theorem dX2_callFromBelow_29 : decode cX2_callFromBelow 29 = .ok (.iload_n 2, 1) := by decide +kernel
theorem dX2_callFromBelow_30 : decode cX2_callFromBelow 30 = .ok (.iaload, 1) := by decide +kernel
theorem dX2_callFromBelow_31 : decode cX2_callFromBelow 31 = .ok (.if_icmp .le 12, 3) := by decide +kernel
theorem dX2_callFromBelow_34 : decode cX2_callFromBelow 34 = .ok (.iload 4, 2) := by decide +kernel
theorem dX2_callFromBelow_36 : decode cX2_callFromBelow 36 = .ok (.iload_n 3, 1) := by decide +kernel
theorem dX2_callFromBelow_37 : decode cX2_callFromBelow 37 = .ok (.iadd, 1) := by decide +kernel
theorem dX2_callFromBelow_38 : decode cX2_callFromBelow 38 = .ok (.istore 4, 2) := by decide +kernel
theorem dX2_callFromBelow_40 : decode cX2_callFromBelow 40 = .ok (.goto (-29), 3) := by decide +kernel
theorem dX2_callFromBelow_43 : decode cX2_callFromBelow 43 = .ok (.aload_n 0, 1) := by decide +kernel
theorem dX2_callFromBelow_44 : decode cX2_callFromBelow 44 = .ok (.getfield 21, 3) := by decide +kernel
theorem dX2_callFromBelow_47 : decode cX2_callFromBelow 47 = .ok (.iload_n 2, 1) := by decide +kernel
theorem dX2_callFromBelow_48 : decode cX2_callFromBelow 48 = .ok (.iload 4, 2) := by decide +kernel
theorem dX2_callFromBelow_50 : decode cX2_callFromBelow 50 = .ok (.iastore, 1) := by decide +kernel
theorem dX2_callFromBelow_51 : decode cX2_callFromBelow 51 = .ok (.aload_n 0, 1) := by decide +kernel
theorem dX2_callFromBelow_52 : decode cX2_callFromBelow 52 = .ok (.aload_n 1, 1) := by decide +kernel
theorem dX2_callFromBelow_53 : decode cX2_callFromBelow 53 = .ok (.iload_n 2, 1) := by decide +kernel
theorem dX2_callFromBelow_54 : decode cX2_callFromBelow 54 = .ok (.iload 4, 2) := by decide +kernel
theorem dX2_callFromBelow_56 : decode cX2_callFromBelow 56 = .ok (.aload_n 1, 1) := by decide +kernel
theorem dX2_callFromBelow_57 : decode cX2_callFromBelow 57 = .ok (.getfield 58, 3) := by decide +kernel
theorem dX2_callFromBelow_60 : decode cX2_callFromBelow 60 = .ok (.iload_n 2, 1) := by decide +kernel
theorem dX2_callFromBelow_61 : decode cX2_callFromBelow 61 = .ok (.iaload, 1) := by decide +kernel
theorem dX2_callFromBelow_62 : decode cX2_callFromBelow 62 = .ok (.invokevirtual 61, 3) := by decide +kernel
theorem dX2_callFromBelow_65 : decode cX2_callFromBelow 65 = .ok (.istore 5, 2) := by decide +kernel
theorem dX2_callFromBelow_67 : decode cX2_callFromBelow 67 = .ok (.iload 4, 2) := by decide +kernel
theorem dX2_callFromBelow_69 : decode cX2_callFromBelow 69 = .ok (.iconst 1, 1) := by decide +kernel
theorem dX2_callFromBelow_70 : decode cX2_callFromBelow 70 = .ok (.if_icmp .le 16, 3) := by decide +kernel
theorem dX2_callFromBelow_73 : decode cX2_callFromBelow 73 = .ok (.aload_n 0, 1) := by decide +kernel
theorem dX2_callFromBelow_74 : decode cX2_callFromBelow 74 = .ok (.aload_n 1, 1) := by decide +kernel
theorem dX2_callFromBelow_75 : decode cX2_callFromBelow 75 = .ok (.iload_n 2, 1) := by decide +kernel
theorem dX2_callFromBelow_76 : decode cX2_callFromBelow 76 = .ok (.iload 4, 2) := by decide +kernel
theorem dX2_callFromBelow_78 : decode cX2_callFromBelow 78 = .ok (.iload_n 3, 1) := by decide +kernel
theorem dX2_callFromBelow_79 : decode cX2_callFromBelow 79 = .ok (.isub, 1) := by decide +kernel
theorem dX2_callFromBelow_80 : decode cX2_callFromBelow 80 = .ok (.iload 5, 2) := by decide +kernel
theorem dX2_callFromBelow_82 : decode cX2_callFromBelow 82 = .ok (.invokevirtual 61, 3) := by decide +kernel
theorem dX2_callFromBelow_85 : decode cX2_callFromBelow 85 = .ok (.pop, 1) := by decide +kernel
theorem dX2_callFromBelow_86 : decode cX2_callFromBelow 86 = .ok (.return_, 1) := by decide +kernel
theorem dX2_callFromAbove_0 : decode cX2_callFromAbove 0 = .ok (.aload_n 1, 1) := by decide +kernel
theorem dX2_callFromAbove_1 : decode cX2_callFromAbove 1 = .ok (.getfield 58, 3) := by decide +kernel
theorem dX2_callFromAbove_4 : decode cX2_callFromAbove 4 = .ok (.iload_n 2, 1) := by decide +kernel
theorem dX2_callFromAbove_5 : decode cX2_callFromAbove 5 = .ok (.iaload, 1) := by decide +kernel
theorem dX2_callFromAbove_6 : decode cX2_callFromAbove 6 = .ok (.istore 4, 2) := by decide +kernel
theorem dX2_callFromAbove_8 : decode cX2_callFromAbove 8 = .ok (.bipush 10, 2) := by decide +kernel
theorem dX2_callFromAbove_10 : decode cX2_callFromAbove 10 = .ok (.istore 5, 2) := by decide +kernel
theorem dX2_callFromAbove_12 : decode cX2_callFromAbove 12 = .ok (.iload 5, 2) := by decide +kernel
theorem dX2_callFromAbove_14 : decode cX2_callFromAbove 14 = .ok (.iconst 1, 1) := by decide +kernel
theorem dX2_callFromAbove_15 : decode cX2_callFromAbove 15 = .ok (.if_icmp .lt 29, 3) := by decide +kernel
theorem dX2_callFromAbove_18 : decode cX2_callFromAbove 18 = .ok (.iload 4, 2) := by decide +kernel
theorem dX2_callFromAbove_20 : decode cX2_callFromAbove 20 = .ok (.ifCond .le 24, 3) := by decide +kernel
theorem dX2_callFromAbove_23 : decode cX2_callFromAbove 23 = .ok (.aload_n 0, 1) := by decide +kernel
theorem dX2_callFromAbove_24 : decode cX2_callFromAbove 24 = .ok (.aload_n 1, 1) := by decide +kernel
theorem dX2_callFromAbove_25 : decode cX2_callFromAbove 25 = .ok (.iload_n 2, 1) := by decide +kernel
theorem dX2_callFromAbove_26 : decode cX2_callFromAbove 26 = .ok (.iload 5, 2) := by decide +kernel
theorem dX2_callFromAbove_28 : decode cX2_callFromAbove 28 = .ok (.iload 4, 2) := by decide +kernel
theorem dX2_callFromAbove_30 : decode cX2_callFromAbove 30 = .ok (.invokevirtual 61, 3) := by decide +kernel
theorem dX2_callFromAbove_33 : decode cX2_callFromAbove 33 = .ok (.istore 4, 2) := by decide +kernel
theorem dX2_callFromAbove_35 : decode cX2_callFromAbove 35 = .ok (.iload 5, 2) := by decide +kernel
theorem dX2_callFromAbove_37 : decode cX2_callFromAbove 37 = .ok (.iload_n 3, 1) := by decide +kernel
theorem dX2_callFromAbove_38 : decode cX2_callFromAbove 38 = .ok (.isub, 1) := by decide +kernel
theorem dX2_callFromAbove_39 : decode cX2_callFromAbove 39 = .ok (.istore 5, 2) := by decide +kernel
theorem dX2_callFromAbove_41 : decode cX2_callFromAbove 41 = .ok (.goto (-29), 3) := by decide +kernel
theorem dX2_callFromAbove_44 : decode cX2_callFromAbove 44 = .ok (.return_, 1) := by decide +kernel
theorem dX2_isIn_0 : decode cX2_isIn 0 = .ok (.aload_n 0, 1) := by decide +kernel
theorem dX2_isIn_1 : decode cX2_isIn 1 = .ok (.getfield 9, 3) := by decide +kernel
theorem dX2_isIn_4 : decode cX2_isIn 4 = .ok (.iload_n 1, 1) := by decide +kernel
theorem dX2_isIn_5 : decode cX2_isIn 5 = .ok (.iaload, 1) := by decide +kernel
theorem dX2_isIn_6 : decode cX2_isIn 6 = .ok (.bipush (-4), 2) := by decide +kernel
theorem dX2_isIn_8 : decode cX2_isIn 8 = .ok (.if_icmp .ne 17, 3) := by decide +kernel
theorem dX2_isIn_11 : decode cX2_isIn 11 = .ok (.aload_n 0, 1) := by decide +kernel
theorem dX2_isIn_12 : decode cX2_isIn 12 = .ok (.getfield 18, 3) := by decide +kernel
theorem dX2_isIn_15 : decode cX2_isIn 15 = .ok (.iload_n 1, 1) := by decide +kernel
theorem dX2_isIn_16 : decode cX2_isIn 16 = .ok (.iaload, 1) := by decide +kernel
theorem dX2_isIn_17 : decode cX2_isIn 17 = .ok (.iload_n 2, 1) := by decide +kernel
theorem dX2_isIn_18 : decode cX2_isIn 18 = .ok (.if_icmp .lt 7, 3) := by decide +kernel
theorem dX2_isIn_21 : decode cX2_isIn 21 = .ok (.iconst 1, 1) := by decide +kernel
theorem dX2_isIn_22 : decode cX2_isIn 22 = .ok (.goto 4, 3) := by decide +kernel
theorem dX2_isIn_25 : decode cX2_isIn 25 = .ok (.iconst 0, 1) := by decide +kernel
theorem dX2_isIn_26 : decode cX2_isIn 26 = .ok (.ireturn, 1) := by decide +kernel
theorem dX2_howManyIn_0 : decode cX2_howManyIn 0 = .ok (.iconst 0, 1) := by decide +kernel
theorem dX2_howManyIn_1 : decode cX2_howManyIn 1 = .ok (.istore_n 3, 1) := by decide +kernel
theorem dX2_howManyIn_2 : decode cX2_howManyIn 2 = .ok (.iconst 0, 1) := by decide +kernel
theorem dX2_howManyIn_3 : decode cX2_howManyIn 3 = .ok (.istore 4, 2) := by decide +kernel
theorem dX2_howManyIn_5 : decode cX2_howManyIn 5 = .ok (.iload 4, 2) := by decide +kernel
theorem dX2_howManyIn_7 : decode cX2_howManyIn 7 = .ok (.aload_n 1, 1) := by decide +kernel
theorem dX2_howManyIn_8 : decode cX2_howManyIn 8 = .ok (.getfield 36, 3) := by decide +kernel
theorem dX2_howManyIn_11 : decode cX2_howManyIn 11 = .ok (.if_icmp .ge 22, 3) := by decide +kernel
theorem dX2_howManyIn_14 : decode cX2_howManyIn 14 = .ok (.aload_n 0, 1) := by decide +kernel
theorem dX2_howManyIn_15 : decode cX2_howManyIn 15 = .ok (.iload 4, 2) := by decide +kernel
theorem dX2_howManyIn_17 : decode cX2_howManyIn 17 = .ok (.iload_n 2, 1) := by decide +kernel
theorem dX2_howManyIn_18 : decode cX2_howManyIn 18 = .ok (.invokevirtual 65, 3) := by decide +kernel
theorem dX2_howManyIn_21 : decode cX2_howManyIn 21 = .ok (.ifCond .eq 6, 3) := by decide +kernel
theorem dX2_howManyIn_24 : decode cX2_howManyIn 24 = .ok (.iinc 3 1, 3) := by decide +kernel
theorem dX2_howManyIn_27 : decode cX2_howManyIn 27 = .ok (.iinc 4 1, 3) := by decide +kernel
theorem dX2_howManyIn_30 : decode cX2_howManyIn 30 = .ok (.goto (-25), 3) := by decide +kernel
theorem dX2_howManyIn_33 : decode cX2_howManyIn 33 = .ok (.iload_n 3, 1) := by decide +kernel
theorem dX2_howManyIn_34 : decode cX2_howManyIn 34 = .ok (.ireturn, 1) := by decide +kernel
theorem dX2_hire_0 : decode cX2_hire 0 = .ok (.iload 4, 2) := by decide +kernel
theorem dX2_hire_2 : decode cX2_hire 2 = .ok (.istore 5, 2) := by decide +kernel
theorem dX2_hire_4 : decode cX2_hire 4 = .ok (.iconst 0, 1) := by decide +kernel
theorem dX2_hire_5 : decode cX2_hire 5 = .ok (.istore 6, 2) := by decide +kernel
theorem dX2_hire_7 : decode cX2_hire 7 = .ok (.iload 6, 2) := by decide +kernel
theorem dX2_hire_9 : decode cX2_hire 9 = .ok (.aload_n 1, 1) := by decide +kernel
theorem dX2_hire_10 : decode cX2_hire 10 = .ok (.getfield 36, 3) := by decide +kernel
theorem dX2_hire_13 : decode cX2_hire 13 = .ok (.if_icmp .ge 43, 3) := by decide +kernel
theorem dX2_hire_16 : decode cX2_hire 16 = .ok (.iload 5, 2) := by decide +kernel
theorem dX2_hire_18 : decode cX2_hire 18 = .ok (.ifCond .le 38, 3) := by decide +kernel
theorem dX2_hire_21 : decode cX2_hire 21 = .ok (.aload_n 0, 1) := by decide +kernel
theorem dX2_hire_22 : decode cX2_hire 22 = .ok (.iload 6, 2) := by decide +kernel
theorem dX2_hire_24 : decode cX2_hire 24 = .ok (.iload_n 3, 1) := by decide +kernel
theorem dX2_hire_25 : decode cX2_hire 25 = .ok (.invokevirtual 65, 3) := by decide +kernel
theorem dX2_hire_28 : decode cX2_hire 28 = .ok (.ifCond .eq 22, 3) := by decide +kernel
theorem dX2_hire_31 : decode cX2_hire 31 = .ok (.aload_n 0, 1) := by decide +kernel
theorem dX2_hire_32 : decode cX2_hire 32 = .ok (.getfield 9, 3) := by decide +kernel
theorem dX2_hire_35 : decode cX2_hire 35 = .ok (.iload 6, 2) := by decide +kernel
theorem dX2_hire_37 : decode cX2_hire 37 = .ok (.iload_n 2, 1) := by decide +kernel
theorem dX2_hire_38 : decode cX2_hire 38 = .ok (.iastore, 1) := by decide +kernel
theorem dX2_hire_39 : decode cX2_hire 39 = .ok (.aload_n 0, 1) := by decide +kernel
theorem dX2_hire_40 : decode cX2_hire 40 = .ok (.getfield 15, 3) := by decide +kernel
theorem dX2_hire_43 : decode cX2_hire 43 = .ok (.iload 6, 2) := by decide +kernel
theorem dX2_hire_45 : decode cX2_hire 45 = .ok (.iload_n 3, 1) := by decide +kernel
theorem dX2_hire_46 : decode cX2_hire 46 = .ok (.iastore, 1) := by decide +kernel
theorem dX2_hire_47 : decode cX2_hire 47 = .ok (.iinc 5 (-1), 3) := by decide +kernel
theorem dX2_hire_50 : decode cX2_hire 50 = .ok (.iinc 6 1, 3) := by decide +kernel
theorem dX2_hire_53 : decode cX2_hire 53 = .ok (.goto (-46), 3) := by decide +kernel
theorem dX2_hire_56 : decode cX2_hire 56 = .ok (.iload 5, 2) := by decide +kernel
theorem dX2_hire_58 : decode cX2_hire 58 = .ok (.ireturn, 1) := by decide +kernel
theorem dX2_gainOf_0 : decode cX2_gainOf 0 = .ok (.aload_n 0, 1) := by decide +kernel
theorem dX2_gainOf_1 : decode cX2_gainOf 1 = .ok (.getfield 9, 3) := by decide +kernel
theorem dX2_gainOf_4 : decode cX2_gainOf 4 = .ok (.iload_n 2, 1) := by decide +kernel
theorem dX2_gainOf_5 : decode cX2_gainOf 5 = .ok (.iaload, 1) := by decide +kernel
theorem dX2_gainOf_6 : decode cX2_gainOf 6 = .ok (.bipush (-4), 2) := by decide +kernel
theorem dX2_gainOf_8 : decode cX2_gainOf 8 = .ok (.if_icmp .ne 7, 3) := by decide +kernel
theorem dX2_gainOf_11 : decode cX2_gainOf 11 = .ok (.iconst 0, 1) := by decide +kernel
theorem dX2_gainOf_12 : decode cX2_gainOf 12 = .ok (.goto 23, 3) := by decide +kernel
theorem dX2_gainOf_15 : decode cX2_gainOf 15 = .ok (.aload_n 1, 1) := by decide +kernel
theorem dX2_gainOf_16 : decode cX2_gainOf 16 = .ok (.getfield 69, 3) := by decide +kernel
theorem dX2_gainOf_19 : decode cX2_gainOf 19 = .ok (.iload_n 2, 1) := by decide +kernel
theorem dX2_gainOf_20 : decode cX2_gainOf 20 = .ok (.aaload, 1) := by decide +kernel
theorem dX2_gainOf_21 : decode cX2_gainOf 21 = .ok (.aload_n 0, 1) := by decide +kernel
theorem dX2_gainOf_22 : decode cX2_gainOf 22 = .ok (.getfield 9, 3) := by decide +kernel
theorem dX2_gainOf_25 : decode cX2_gainOf 25 = .ok (.iload_n 2, 1) := by decide +kernel
theorem dX2_gainOf_26 : decode cX2_gainOf 26 = .ok (.iaload, 1) := by decide +kernel
theorem dX2_gainOf_27 : decode cX2_gainOf 27 = .ok (.iaload, 1) := by decide +kernel
theorem dX2_gainOf_28 : decode cX2_gainOf 28 = .ok (.aload_n 0, 1) := by decide +kernel
theorem dX2_gainOf_29 : decode cX2_gainOf 29 = .ok (.getfield 15, 3) := by decide +kernel
theorem dX2_gainOf_32 : decode cX2_gainOf 32 = .ok (.iload_n 2, 1) := by decide +kernel
theorem dX2_gainOf_33 : decode cX2_gainOf 33 = .ok (.iaload, 1) := by decide +kernel
theorem dX2_gainOf_34 : decode cX2_gainOf 34 = .ok (.isub, 1) := by decide +kernel
theorem dX2_gainOf_35 : decode cX2_gainOf 35 = .ok (.ireturn, 1) := by decide +kernel
theorem dX2_ladsOf_0 : decode cX2_ladsOf 0 = .ok (.iconst 0, 1) := by decide +kernel
theorem dX2_ladsOf_1 : decode cX2_ladsOf 1 = .ok (.istore_n 3, 1) := by decide +kernel
theorem dX2_ladsOf_2 : decode cX2_ladsOf 2 = .ok (.iconst 0, 1) := by decide +kernel
theorem dX2_ladsOf_3 : decode cX2_ladsOf 3 = .ok (.istore 4, 2) := by decide +kernel
theorem dX2_ladsOf_5 : decode cX2_ladsOf 5 = .ok (.iload 4, 2) := by decide +kernel
theorem dX2_ladsOf_7 : decode cX2_ladsOf 7 = .ok (.aload_n 1, 1) := by decide +kernel
theorem dX2_ladsOf_8 : decode cX2_ladsOf 8 = .ok (.getfield 36, 3) := by decide +kernel
theorem dX2_ladsOf_11 : decode cX2_ladsOf 11 = .ok (.if_icmp .ge 27, 3) := by decide +kernel
theorem dX2_ladsOf_14 : decode cX2_ladsOf 14 = .ok (.aload_n 0, 1) := by decide +kernel
theorem dX2_ladsOf_15 : decode cX2_ladsOf 15 = .ok (.getfield 9, 3) := by decide +kernel
theorem dX2_ladsOf_18 : decode cX2_ladsOf 18 = .ok (.iload 4, 2) := by decide +kernel
theorem dX2_ladsOf_20 : decode cX2_ladsOf 20 = .ok (.iaload, 1) := by decide +kernel
theorem dX2_ladsOf_21 : decode cX2_ladsOf 21 = .ok (.iload_n 2, 1) := by decide +kernel
theorem dX2_ladsOf_22 : decode cX2_ladsOf 22 = .ok (.if_icmp .ne 10, 3) := by decide +kernel
theorem dX2_ladsOf_25 : decode cX2_ladsOf 25 = .ok (.iload_n 3, 1) := by decide +kernel
theorem dX2_ladsOf_26 : decode cX2_ladsOf 26 = .ok (.iconst 1, 1) := by decide +kernel
theorem dX2_ladsOf_27 : decode cX2_ladsOf 27 = .ok (.iload 4, 2) := by decide +kernel
theorem dX2_ladsOf_29 : decode cX2_ladsOf 29 = .ok (.ishl, 1) := by decide +kernel
theorem dX2_ladsOf_30 : decode cX2_ladsOf 30 = .ok (.ior, 1) := by decide +kernel
theorem dX2_ladsOf_31 : decode cX2_ladsOf 31 = .ok (.istore_n 3, 1) := by decide +kernel
theorem dX2_ladsOf_32 : decode cX2_ladsOf 32 = .ok (.iinc 4 1, 3) := by decide +kernel
theorem dX2_ladsOf_35 : decode cX2_ladsOf 35 = .ok (.goto (-30), 3) := by decide +kernel
theorem dX2_ladsOf_38 : decode cX2_ladsOf 38 = .ok (.iload_n 3, 1) := by decide +kernel
theorem dX2_ladsOf_39 : decode cX2_ladsOf 39 = .ok (.ireturn, 1) := by decide +kernel
theorem dX2_mostYearsOf_0 : decode cX2_mostYearsOf 0 = .ok (.iconst 0, 1) := by decide +kernel
theorem dX2_mostYearsOf_1 : decode cX2_mostYearsOf 1 = .ok (.istore_n 3, 1) := by decide +kernel
theorem dX2_mostYearsOf_2 : decode cX2_mostYearsOf 2 = .ok (.iconst 0, 1) := by decide +kernel
theorem dX2_mostYearsOf_3 : decode cX2_mostYearsOf 3 = .ok (.istore 4, 2) := by decide +kernel
theorem dX2_mostYearsOf_5 : decode cX2_mostYearsOf 5 = .ok (.iload 4, 2) := by decide +kernel
theorem dX2_mostYearsOf_7 : decode cX2_mostYearsOf 7 = .ok (.aload_n 1, 1) := by decide +kernel
theorem dX2_mostYearsOf_8 : decode cX2_mostYearsOf 8 = .ok (.getfield 36, 3) := by decide +kernel
theorem dX2_mostYearsOf_11 : decode cX2_mostYearsOf 11 = .ok (.if_icmp .ge 32, 3) := by decide +kernel
theorem dX2_mostYearsOf_14 : decode cX2_mostYearsOf 14 = .ok (.aload_n 0, 1) := by decide +kernel
theorem dX2_mostYearsOf_15 : decode cX2_mostYearsOf 15 = .ok (.getfield 9, 3) := by decide +kernel
theorem dX2_mostYearsOf_18 : decode cX2_mostYearsOf 18 = .ok (.iload 4, 2) := by decide +kernel
theorem dX2_mostYearsOf_20 : decode cX2_mostYearsOf 20 = .ok (.iaload, 1) := by decide +kernel
theorem dX2_mostYearsOf_21 : decode cX2_mostYearsOf 21 = .ok (.iload_n 2, 1) := by decide +kernel
theorem dX2_mostYearsOf_22 : decode cX2_mostYearsOf 22 = .ok (.if_icmp .ne 15, 3) := by decide +kernel
theorem dX2_mostYearsOf_25 : decode cX2_mostYearsOf 25 = .ok (.iload_n 3, 1) := by decide +kernel
theorem dX2_mostYearsOf_26 : decode cX2_mostYearsOf 26 = .ok (.aload_n 0, 1) := by decide +kernel
theorem dX2_mostYearsOf_27 : decode cX2_mostYearsOf 27 = .ok (.getfield 15, 3) := by decide +kernel
theorem dX2_mostYearsOf_30 : decode cX2_mostYearsOf 30 = .ok (.iload 4, 2) := by decide +kernel
theorem dX2_mostYearsOf_32 : decode cX2_mostYearsOf 32 = .ok (.iaload, 1) := by decide +kernel
theorem dX2_mostYearsOf_33 : decode cX2_mostYearsOf 33 = .ok (.invokestatic 73, 3) := by decide +kernel
theorem dX2_mostYearsOf_36 : decode cX2_mostYearsOf 36 = .ok (.istore_n 3, 1) := by decide +kernel
theorem dX2_mostYearsOf_37 : decode cX2_mostYearsOf 37 = .ok (.iinc 4 1, 3) := by decide +kernel
theorem dX2_mostYearsOf_40 : decode cX2_mostYearsOf 40 = .ok (.goto (-35), 3) := by decide +kernel
theorem dX2_mostYearsOf_43 : decode cX2_mostYearsOf 43 = .ok (.iload_n 3, 1) := by decide +kernel
theorem dX2_mostYearsOf_44 : decode cX2_mostYearsOf 44 = .ok (.ireturn, 1) := by decide +kernel
theorem dX2_yearsOfAll_0 : decode cX2_yearsOfAll 0 = .ok (.iconst 0, 1) := by decide +kernel
theorem dX2_yearsOfAll_1 : decode cX2_yearsOfAll 1 = .ok (.istore_n 2, 1) := by decide +kernel
theorem dX2_yearsOfAll_2 : decode cX2_yearsOfAll 2 = .ok (.iconst 0, 1) := by decide +kernel
theorem dX2_yearsOfAll_3 : decode cX2_yearsOfAll 3 = .ok (.istore_n 3, 1) := by decide +kernel
theorem dX2_yearsOfAll_4 : decode cX2_yearsOfAll 4 = .ok (.iload_n 3, 1) := by decide +kernel
theorem dX2_yearsOfAll_5 : decode cX2_yearsOfAll 5 = .ok (.aload_n 1, 1) := by decide +kernel
theorem dX2_yearsOfAll_6 : decode cX2_yearsOfAll 6 = .ok (.getfield 36, 3) := by decide +kernel
theorem dX2_yearsOfAll_9 : decode cX2_yearsOfAll 9 = .ok (.if_icmp .ge 18, 3) := by decide +kernel
theorem dX2_yearsOfAll_12 : decode cX2_yearsOfAll 12 = .ok (.iload_n 2, 1) := by decide +kernel
theorem dX2_yearsOfAll_13 : decode cX2_yearsOfAll 13 = .ok (.aload_n 0, 1) := by decide +kernel
theorem dX2_yearsOfAll_14 : decode cX2_yearsOfAll 14 = .ok (.getfield 15, 3) := by decide +kernel
theorem dX2_yearsOfAll_17 : decode cX2_yearsOfAll 17 = .ok (.iload_n 3, 1) := by decide +kernel
theorem dX2_yearsOfAll_18 : decode cX2_yearsOfAll 18 = .ok (.iaload, 1) := by decide +kernel
theorem dX2_yearsOfAll_19 : decode cX2_yearsOfAll 19 = .ok (.iadd, 1) := by decide +kernel
theorem dX2_yearsOfAll_20 : decode cX2_yearsOfAll 20 = .ok (.istore_n 2, 1) := by decide +kernel
theorem dX2_yearsOfAll_21 : decode cX2_yearsOfAll 21 = .ok (.iinc 3 1, 3) := by decide +kernel
theorem dX2_yearsOfAll_24 : decode cX2_yearsOfAll 24 = .ok (.goto (-20), 3) := by decide +kernel
theorem dX2_yearsOfAll_27 : decode cX2_yearsOfAll 27 = .ok (.iload_n 2, 1) := by decide +kernel
theorem dX2_yearsOfAll_28 : decode cX2_yearsOfAll 28 = .ok (.ireturn, 1) := by decide +kernel
theorem dX2_gainsOfAll_0 : decode cX2_gainsOfAll 0 = .ok (.iconst 0, 1) := by decide +kernel
theorem dX2_gainsOfAll_1 : decode cX2_gainsOfAll 1 = .ok (.istore_n 2, 1) := by decide +kernel
theorem dX2_gainsOfAll_2 : decode cX2_gainsOfAll 2 = .ok (.iconst 0, 1) := by decide +kernel
theorem dX2_gainsOfAll_3 : decode cX2_gainsOfAll 3 = .ok (.istore_n 3, 1) := by decide +kernel
theorem dX2_gainsOfAll_4 : decode cX2_gainsOfAll 4 = .ok (.iload_n 3, 1) := by decide +kernel
theorem dX2_gainsOfAll_5 : decode cX2_gainsOfAll 5 = .ok (.aload_n 1, 1) := by decide +kernel
theorem dX2_gainsOfAll_6 : decode cX2_gainsOfAll 6 = .ok (.getfield 36, 3) := by decide +kernel
theorem dX2_gainsOfAll_9 : decode cX2_gainsOfAll 9 = .ok (.if_icmp .ge 18, 3) := by decide +kernel
theorem dX2_gainsOfAll_12 : decode cX2_gainsOfAll 12 = .ok (.iload_n 2, 1) := by decide +kernel
theorem dX2_gainsOfAll_13 : decode cX2_gainsOfAll 13 = .ok (.aload_n 0, 1) := by decide +kernel
theorem dX2_gainsOfAll_14 : decode cX2_gainsOfAll 14 = .ok (.aload_n 1, 1) := by decide +kernel
theorem dX2_gainsOfAll_15 : decode cX2_gainsOfAll 15 = .ok (.iload_n 3, 1) := by decide +kernel
theorem dX2_gainsOfAll_16 : decode cX2_gainsOfAll 16 = .ok (.invokevirtual 78, 3) := by decide +kernel
theorem dX2_gainsOfAll_19 : decode cX2_gainsOfAll 19 = .ok (.iadd, 1) := by decide +kernel
theorem dX2_gainsOfAll_20 : decode cX2_gainsOfAll 20 = .ok (.istore_n 2, 1) := by decide +kernel
theorem dX2_gainsOfAll_21 : decode cX2_gainsOfAll 21 = .ok (.iinc 3 1, 3) := by decide +kernel
theorem dX2_gainsOfAll_24 : decode cX2_gainsOfAll 24 = .ok (.goto (-20), 3) := by decide +kernel
theorem dX2_gainsOfAll_27 : decode cX2_gainsOfAll 27 = .ok (.iload_n 2, 1) := by decide +kernel
theorem dX2_gainsOfAll_28 : decode cX2_gainsOfAll 28 = .ok (.ireturn, 1) := by decide +kernel
theorem dX2_ladsHired_0 : decode cX2_ladsHired 0 = .ok (.iconst 0, 1) := by decide +kernel
theorem dX2_ladsHired_1 : decode cX2_ladsHired 1 = .ok (.istore_n 2, 1) := by decide +kernel
theorem dX2_ladsHired_2 : decode cX2_ladsHired 2 = .ok (.iconst 0, 1) := by decide +kernel
theorem dX2_ladsHired_3 : decode cX2_ladsHired 3 = .ok (.istore_n 3, 1) := by decide +kernel
theorem dX2_ladsHired_4 : decode cX2_ladsHired 4 = .ok (.iload_n 3, 1) := by decide +kernel
theorem dX2_ladsHired_5 : decode cX2_ladsHired 5 = .ok (.aload_n 1, 1) := by decide +kernel
theorem dX2_ladsHired_6 : decode cX2_ladsHired 6 = .ok (.getfield 36, 3) := by decide +kernel
theorem dX2_ladsHired_9 : decode cX2_ladsHired 9 = .ok (.if_icmp .ge 23, 3) := by decide +kernel
theorem dX2_ladsHired_12 : decode cX2_ladsHired 12 = .ok (.aload_n 0, 1) := by decide +kernel
theorem dX2_ladsHired_13 : decode cX2_ladsHired 13 = .ok (.getfield 9, 3) := by decide +kernel
theorem dX2_ladsHired_16 : decode cX2_ladsHired 16 = .ok (.iload_n 3, 1) := by decide +kernel
theorem dX2_ladsHired_17 : decode cX2_ladsHired 17 = .ok (.iaload, 1) := by decide +kernel
theorem dX2_ladsHired_18 : decode cX2_ladsHired 18 = .ok (.bipush (-4), 2) := by decide +kernel
theorem dX2_ladsHired_20 : decode cX2_ladsHired 20 = .ok (.if_icmp .eq 6, 3) := by decide +kernel
theorem dX2_ladsHired_23 : decode cX2_ladsHired 23 = .ok (.iinc 2 1, 3) := by decide +kernel
theorem dX2_ladsHired_26 : decode cX2_ladsHired 26 = .ok (.iinc 3 1, 3) := by decide +kernel
theorem dX2_ladsHired_29 : decode cX2_ladsHired 29 = .ok (.goto (-25), 3) := by decide +kernel
theorem dX2_ladsHired_32 : decode cX2_ladsHired 32 = .ok (.iload_n 2, 1) := by decide +kernel
theorem dX2_ladsHired_33 : decode cX2_ladsHired 33 = .ok (.ireturn, 1) := by decide +kernel
theorem dX2_mastersAlone_0 : decode cX2_mastersAlone 0 = .ok (.iconst 0, 1) := by decide +kernel
theorem dX2_mastersAlone_1 : decode cX2_mastersAlone 1 = .ok (.istore_n 2, 1) := by decide +kernel
theorem dX2_mastersAlone_2 : decode cX2_mastersAlone 2 = .ok (.iconst 0, 1) := by decide +kernel
theorem dX2_mastersAlone_3 : decode cX2_mastersAlone 3 = .ok (.istore_n 3, 1) := by decide +kernel
theorem dX2_mastersAlone_4 : decode cX2_mastersAlone 4 = .ok (.iload_n 3, 1) := by decide +kernel
theorem dX2_mastersAlone_5 : decode cX2_mastersAlone 5 = .ok (.aload_n 1, 1) := by decide +kernel
theorem dX2_mastersAlone_6 : decode cX2_mastersAlone 6 = .ok (.getfield 30, 3) := by decide +kernel
theorem dX2_mastersAlone_9 : decode cX2_mastersAlone 9 = .ok (.if_icmp .ge 21, 3) := by decide +kernel
theorem dX2_mastersAlone_12 : decode cX2_mastersAlone 12 = .ok (.aload_n 0, 1) := by decide +kernel
theorem dX2_mastersAlone_13 : decode cX2_mastersAlone 13 = .ok (.aload_n 1, 1) := by decide +kernel
theorem dX2_mastersAlone_14 : decode cX2_mastersAlone 14 = .ok (.iload_n 3, 1) := by decide +kernel
theorem dX2_mastersAlone_15 : decode cX2_mastersAlone 15 = .ok (.invokevirtual 81, 3) := by decide +kernel
theorem dX2_mastersAlone_18 : decode cX2_mastersAlone 18 = .ok (.ifCond .ne 6, 3) := by decide +kernel
theorem dX2_mastersAlone_21 : decode cX2_mastersAlone 21 = .ok (.iinc 2 1, 3) := by decide +kernel
theorem dX2_mastersAlone_24 : decode cX2_mastersAlone 24 = .ok (.iinc 3 1, 3) := by decide +kernel
theorem dX2_mastersAlone_27 : decode cX2_mastersAlone 27 = .ok (.goto (-23), 3) := by decide +kernel
theorem dX2_mastersAlone_30 : decode cX2_mastersAlone 30 = .ok (.iload_n 2, 1) := by decide +kernel
theorem dX2_mastersAlone_31 : decode cX2_mastersAlone 31 = .ok (.ireturn, 1) := by decide +kernel
theorem dX2_hadGotAnother_0 : decode cX2_hadGotAnother 0 = .ok (.aload_n 0, 1) := by decide +kernel
theorem dX2_hadGotAnother_1 : decode cX2_hadGotAnother 1 = .ok (.getfield 9, 3) := by decide +kernel
theorem dX2_hadGotAnother_4 : decode cX2_hadGotAnother 4 = .ok (.iload_n 1, 1) := by decide +kernel
theorem dX2_hadGotAnother_5 : decode cX2_hadGotAnother 5 = .ok (.iaload, 1) := by decide +kernel
theorem dX2_hadGotAnother_6 : decode cX2_hadGotAnother 6 = .ok (.bipush (-4), 2) := by decide +kernel
theorem dX2_hadGotAnother_8 : decode cX2_hadGotAnother 8 = .ok (.if_icmp .eq 17, 3) := by decide +kernel
theorem dX2_hadGotAnother_11 : decode cX2_hadGotAnother 11 = .ok (.aload_n 0, 1) := by decide +kernel
theorem dX2_hadGotAnother_12 : decode cX2_hadGotAnother 12 = .ok (.getfield 9, 3) := by decide +kernel
theorem dX2_hadGotAnother_15 : decode cX2_hadGotAnother 15 = .ok (.iload_n 1, 1) := by decide +kernel
theorem dX2_hadGotAnother_16 : decode cX2_hadGotAnother 16 = .ok (.iaload, 1) := by decide +kernel
theorem dX2_hadGotAnother_17 : decode cX2_hadGotAnother 17 = .ok (.iload_n 2, 1) := by decide +kernel
theorem dX2_hadGotAnother_18 : decode cX2_hadGotAnother 18 = .ok (.if_icmp .ge 7, 3) := by decide +kernel
theorem dX2_hadGotAnother_21 : decode cX2_hadGotAnother 21 = .ok (.iconst 1, 1) := by decide +kernel
theorem dX2_hadGotAnother_22 : decode cX2_hadGotAnother 22 = .ok (.goto 4, 3) := by decide +kernel
theorem dX2_hadGotAnother_25 : decode cX2_hadGotAnother 25 = .ok (.iconst 0, 1) := by decide +kernel
theorem dX2_hadGotAnother_26 : decode cX2_hadGotAnother 26 = .ok (.ireturn, 1) := by decide +kernel
theorem dX2_firstCallOut_0 : decode cX2_firstCallOut 0 = .ok (.aload_n 1, 1) := by decide +kernel
theorem dX2_firstCallOut_1 : decode cX2_firstCallOut 1 = .ok (.iload_n 2, 1) := by decide +kernel
theorem dX2_firstCallOut_2 : decode cX2_firstCallOut 2 = .ok (.iload_n 3, 1) := by decide +kernel
theorem dX2_firstCallOut_3 : decode cX2_firstCallOut 3 = .ok (.invokevirtual 39, 3) := by decide +kernel
theorem dX2_firstCallOut_6 : decode cX2_firstCallOut 6 = .ok (.istore 4, 2) := by decide +kernel
theorem dX2_firstCallOut_8 : decode cX2_firstCallOut 8 = .ok (.iconst 1, 1) := by decide +kernel
theorem dX2_firstCallOut_9 : decode cX2_firstCallOut 9 = .ok (.istore 5, 2) := by decide +kernel
theorem dX2_firstCallOut_11 : decode cX2_firstCallOut 11 = .ok (.iload 5, 2) := by decide +kernel
theorem dX2_firstCallOut_13 : decode cX2_firstCallOut 13 = .ok (.aload_n 0, 1) := by decide +kernel
theorem dX2_firstCallOut_14 : decode cX2_firstCallOut 14 = .ok (.getfield 21, 3) := by decide +kernel
theorem dX2_firstCallOut_17 : decode cX2_firstCallOut 17 = .ok (.iload_n 3, 1) := by decide +kernel
theorem dX2_firstCallOut_18 : decode cX2_firstCallOut 18 = .ok (.iaload, 1) := by decide +kernel
theorem dX2_firstCallOut_19 : decode cX2_firstCallOut 19 = .ok (.if_icmp .gt 25, 3) := by decide +kernel
theorem dX2_firstCallOut_22 : decode cX2_firstCallOut 22 = .ok (.iload 5, 2) := by decide +kernel
theorem dX2_firstCallOut_24 : decode cX2_firstCallOut 24 = .ok (.iload 4, 2) := by decide +kernel
theorem dX2_firstCallOut_26 : decode cX2_firstCallOut 26 = .ok (.if_icmp .gt 18, 3) := by decide +kernel
theorem dX2_firstCallOut_29 : decode cX2_firstCallOut 29 = .ok (.iload 5, 2) := by decide +kernel
theorem dX2_firstCallOut_31 : decode cX2_firstCallOut 31 = .ok (.aload_n 1, 1) := by decide +kernel
theorem dX2_firstCallOut_32 : decode cX2_firstCallOut 32 = .ok (.getfield 43, 3) := by decide +kernel
theorem dX2_firstCallOut_35 : decode cX2_firstCallOut 35 = .ok (.bipush 6, 2) := by decide +kernel
theorem dX2_firstCallOut_37 : decode cX2_firstCallOut 37 = .ok (.iaload, 1) := by decide +kernel
theorem dX2_firstCallOut_38 : decode cX2_firstCallOut 38 = .ok (.iadd, 1) := by decide +kernel
theorem dX2_firstCallOut_39 : decode cX2_firstCallOut 39 = .ok (.istore 5, 2) := by decide +kernel
theorem dX2_firstCallOut_41 : decode cX2_firstCallOut 41 = .ok (.goto (-30), 3) := by decide +kernel
theorem dX2_firstCallOut_44 : decode cX2_firstCallOut 44 = .ok (.iload 5, 2) := by decide +kernel
theorem dX2_firstCallOut_46 : decode cX2_firstCallOut 46 = .ok (.ireturn, 1) := by decide +kernel
theorem dX2_spanFrom_0 : decode cX2_spanFrom 0 = .ok (.aload_n 0, 1) := by decide +kernel
theorem dX2_spanFrom_1 : decode cX2_spanFrom 1 = .ok (.iload_n 2, 1) := by decide +kernel
theorem dX2_spanFrom_2 : decode cX2_spanFrom 2 = .ok (.iload_n 3, 1) := by decide +kernel
theorem dX2_spanFrom_3 : decode cX2_spanFrom 3 = .ok (.invokevirtual 84, 3) := by decide +kernel
theorem dX2_spanFrom_6 : decode cX2_spanFrom 6 = .ok (.ifCond .eq 5, 3) := by decide +kernel
theorem dX2_spanFrom_9 : decode cX2_spanFrom 9 = .ok (.iconst 0, 1) := by decide +kernel
theorem dX2_spanFrom_10 : decode cX2_spanFrom 10 = .ok (.ireturn, 1) := by decide +kernel
theorem dX2_spanFrom_11 : decode cX2_spanFrom 11 = .ok (.iconst 0, 1) := by decide +kernel
theorem dX2_spanFrom_12 : decode cX2_spanFrom 12 = .ok (.aload_n 0, 1) := by decide +kernel
theorem dX2_spanFrom_13 : decode cX2_spanFrom 13 = .ok (.aload_n 1, 1) := by decide +kernel
theorem dX2_spanFrom_14 : decode cX2_spanFrom 14 = .ok (.iload_n 2, 1) := by decide +kernel
theorem dX2_spanFrom_15 : decode cX2_spanFrom 15 = .ok (.iload_n 3, 1) := by decide +kernel
theorem dX2_spanFrom_16 : decode cX2_spanFrom 16 = .ok (.invokevirtual 87, 3) := by decide +kernel
theorem dX2_spanFrom_19 : decode cX2_spanFrom 19 = .ok (.aload_n 1, 1) := by decide +kernel
theorem dX2_spanFrom_20 : decode cX2_spanFrom 20 = .ok (.getfield 43, 3) := by decide +kernel
theorem dX2_spanFrom_23 : decode cX2_spanFrom 23 = .ok (.bipush 6, 2) := by decide +kernel
theorem dX2_spanFrom_25 : decode cX2_spanFrom 25 = .ok (.iaload, 1) := by decide +kernel
theorem dX2_spanFrom_26 : decode cX2_spanFrom 26 = .ok (.isub, 1) := by decide +kernel
theorem dX2_spanFrom_27 : decode cX2_spanFrom 27 = .ok (.invokestatic 73, 3) := by decide +kernel
theorem dX2_spanFrom_30 : decode cX2_spanFrom 30 = .ok (.ireturn, 1) := by decide +kernel
theorem dX2_spanTo_0 : decode cX2_spanTo 0 = .ok (.aload_n 0, 1) := by decide +kernel
theorem dX2_spanTo_1 : decode cX2_spanTo 1 = .ok (.iload_n 2, 1) := by decide +kernel
theorem dX2_spanTo_2 : decode cX2_spanTo 2 = .ok (.iload_n 3, 1) := by decide +kernel
theorem dX2_spanTo_3 : decode cX2_spanTo 3 = .ok (.invokevirtual 84, 3) := by decide +kernel
theorem dX2_spanTo_6 : decode cX2_spanTo 6 = .ok (.ifCond .eq 6, 3) := by decide +kernel
theorem dX2_spanTo_9 : decode cX2_spanTo 9 = .ok (.bipush 10, 2) := by decide +kernel
theorem dX2_spanTo_11 : decode cX2_spanTo 11 = .ok (.ireturn, 1) := by decide +kernel
theorem dX2_spanTo_12 : decode cX2_spanTo 12 = .ok (.aload_n 0, 1) := by decide +kernel
theorem dX2_spanTo_13 : decode cX2_spanTo 13 = .ok (.aload_n 1, 1) := by decide +kernel
theorem dX2_spanTo_14 : decode cX2_spanTo 14 = .ok (.iload_n 2, 1) := by decide +kernel
theorem dX2_spanTo_15 : decode cX2_spanTo 15 = .ok (.iload_n 3, 1) := by decide +kernel
theorem dX2_spanTo_16 : decode cX2_spanTo 16 = .ok (.invokevirtual 87, 3) := by decide +kernel
theorem dX2_spanTo_19 : decode cX2_spanTo 19 = .ok (.istore 4, 2) := by decide +kernel
theorem dX2_spanTo_21 : decode cX2_spanTo 21 = .ok (.iload 4, 2) := by decide +kernel
theorem dX2_spanTo_23 : decode cX2_spanTo 23 = .ok (.aload_n 0, 1) := by decide +kernel
theorem dX2_spanTo_24 : decode cX2_spanTo 24 = .ok (.getfield 21, 3) := by decide +kernel
theorem dX2_spanTo_27 : decode cX2_spanTo 27 = .ok (.iload_n 3, 1) := by decide +kernel
theorem dX2_spanTo_28 : decode cX2_spanTo 28 = .ok (.iaload, 1) := by decide +kernel
theorem dX2_spanTo_29 : decode cX2_spanTo 29 = .ok (.if_icmp .le 8, 3) := by decide +kernel
theorem dX2_spanTo_32 : decode cX2_spanTo 32 = .ok (.bipush 10, 2) := by decide +kernel
theorem dX2_spanTo_34 : decode cX2_spanTo 34 = .ok (.goto 7, 3) := by decide +kernel
theorem dX2_spanTo_37 : decode cX2_spanTo 37 = .ok (.iload 4, 2) := by decide +kernel
theorem dX2_spanTo_39 : decode cX2_spanTo 39 = .ok (.iconst 1, 1) := by decide +kernel
theorem dX2_spanTo_40 : decode cX2_spanTo 40 = .ok (.isub, 1) := by decide +kernel
theorem dX2_spanTo_41 : decode cX2_spanTo 41 = .ok (.ireturn, 1) := by decide +kernel
theorem dX3_init_0 : decode cX3_init 0 = .ok (.aload_n 0, 1) := by decide +kernel
theorem dX3_init_1 : decode cX3_init 1 = .ok (.invokespecial 3, 3) := by decide +kernel
theorem dX3_init_4 : decode cX3_init 4 = .ok (.aload_n 0, 1) := by decide +kernel
theorem dX3_init_5 : decode cX3_init 5 = .ok (.iconst 5, 1) := by decide +kernel
theorem dX3_init_6 : decode cX3_init 6 = .ok (.newarray .int, 2) := by decide +kernel
theorem dX3_init_8 : decode cX3_init 8 = .ok (.putfield 9, 3) := by decide +kernel
theorem dX3_init_11 : decode cX3_init 11 = .ok (.aload_n 0, 1) := by decide +kernel
theorem dX3_init_12 : decode cX3_init 12 = .ok (.iconst 5, 1) := by decide +kernel
theorem dX3_init_13 : decode cX3_init 13 = .ok (.newarray .int, 2) := by decide +kernel
theorem dX3_init_15 : decode cX3_init 15 = .ok (.putfield 15, 3) := by decide +kernel
theorem dX3_init_18 : decode cX3_init 18 = .ok (.aload_n 0, 1) := by decide +kernel
theorem dX3_init_19 : decode cX3_init 19 = .ok (.iconst 3, 1) := by decide +kernel
theorem dX3_init_20 : decode cX3_init 20 = .ok (.newarray .int, 2) := by decide +kernel
theorem dX3_init_22 : decode cX3_init 22 = .ok (.putfield 18, 3) := by decide +kernel
theorem dX3_init_25 : decode cX3_init 25 = .ok (.aload_n 0, 1) := by decide +kernel
theorem dX3_init_26 : decode cX3_init 26 = .ok (.bipush 6, 2) := by decide +kernel
theorem dX3_init_28 : decode cX3_init 28 = .ok (.newarray .int, 2) := by decide +kernel
theorem dX3_init_30 : decode cX3_init 30 = .ok (.putfield 21, 3) := by decide +kernel
theorem dX3_init_33 : decode cX3_init 33 = .ok (.return_, 1) := by decide +kernel
theorem dX3_search_0 : decode cX3_search 0 = .ok (.aload_n 1, 1) := by decide +kernel
theorem dX3_search_1 : decode cX3_search 1 = .ok (.getfield 24, 3) := by decide +kernel
theorem dX3_search_4 : decode cX3_search 4 = .ok (.iconst 0, 1) := by decide +kernel
theorem dX3_search_5 : decode cX3_search 5 = .ok (.aload_n 0, 1) := by decide +kernel
theorem dX3_search_6 : decode cX3_search 6 = .ok (.getfield 18, 3) := by decide +kernel
theorem dX3_search_9 : decode cX3_search 9 = .ok (.iconst 0, 1) := by decide +kernel
theorem dX3_search_10 : decode cX3_search 10 = .ok (.iconst 3, 1) := by decide +kernel
theorem dX3_search_11 : decode cX3_search 11 = .ok (.invokestatic 29, 3) := by decide +kernel
theorem dX3_search_14 : decode cX3_search 14 = .ok (.aload_n 0, 1) := by decide +kernel
theorem dX3_search_15 : decode cX3_search 15 = .ok (.getfield 21, 3) := by decide +kernel
theorem dX3_search_18 : decode cX3_search 18 = .ok (.aload_n 1, 1) := by decide +kernel
theorem dX3_search_19 : decode cX3_search 19 = .ok (.getfield 35, 3) := by decide +kernel
theorem dX3_search_22 : decode cX3_search 22 = .ok (.iconst 0, 1) := by decide +kernel
theorem dX3_search_23 : decode cX3_search 23 = .ok (.iastore, 1) := by decide +kernel
theorem dX3_search_24 : decode cX3_search 24 = .ok (.aload_n 1, 1) := by decide +kernel
theorem dX3_search_25 : decode cX3_search 25 = .ok (.getfield 35, 3) := by decide +kernel
theorem dX3_search_28 : decode cX3_search 28 = .ok (.iconst 1, 1) := by decide +kernel
theorem dX3_search_29 : decode cX3_search 29 = .ok (.isub, 1) := by decide +kernel
theorem dX3_search_30 : decode cX3_search 30 = .ok (.istore_n 3, 1) := by decide +kernel
theorem dX3_search_31 : decode cX3_search 31 = .ok (.iload_n 3, 1) := by decide +kernel
theorem dX3_search_32 : decode cX3_search 32 = .ok (.ifCond .lt 38, 3) := by decide +kernel
theorem dX3_search_35 : decode cX3_search 35 = .ok (.aload_n 0, 1) := by decide +kernel
theorem dX3_search_36 : decode cX3_search 36 = .ok (.getfield 21, 3) := by decide +kernel
theorem dX3_search_39 : decode cX3_search 39 = .ok (.iload_n 3, 1) := by decide +kernel
theorem dX3_search_40 : decode cX3_search 40 = .ok (.aload_n 0, 1) := by decide +kernel
theorem dX3_search_41 : decode cX3_search 41 = .ok (.getfield 21, 3) := by decide +kernel
theorem dX3_search_44 : decode cX3_search 44 = .ok (.iload_n 3, 1) := by decide +kernel
theorem dX3_search_45 : decode cX3_search 45 = .ok (.iconst 1, 1) := by decide +kernel
theorem dX3_search_46 : decode cX3_search 46 = .ok (.iadd, 1) := by decide +kernel
theorem dX3_search_47 : decode cX3_search 47 = .ok (.iaload, 1) := by decide +kernel
theorem dX3_search_48 : decode cX3_search 48 = .ok (.iload_n 3, 1) := by decide +kernel
theorem dX3_search_49 : decode cX3_search 49 = .ok (.iload_n 2, 1) := by decide +kernel
theorem dX3_search_50 : decode cX3_search 50 = .ok (.if_icmp .ne 7, 3) := by decide +kernel
theorem dX3_search_53 : decode cX3_search 53 = .ok (.iconst 0, 1) := by decide +kernel
theorem dX3_search_54 : decode cX3_search 54 = .ok (.goto 8, 3) := by decide +kernel
theorem dX3_search_57 : decode cX3_search 57 = .ok (.aload_n 1, 1) := by decide +kernel
theorem dX3_search_58 : decode cX3_search 58 = .ok (.iload_n 3, 1) := by decide +kernel
theorem dX3_search_59 : decode cX3_search 59 = .ok (.invokestatic 39, 3) := by decide +kernel
theorem dX3_search_62 : decode cX3_search 62 = .ok (.iadd, 1) := by decide +kernel
theorem dX3_search_63 : decode cX3_search 63 = .ok (.iastore, 1) := by decide +kernel
theorem dX3_search_64 : decode cX3_search 64 = .ok (.iinc 3 (-1), 3) := by decide +kernel
theorem dX3_search_67 : decode cX3_search 67 = .ok (.goto (-36), 3) := by decide +kernel
theorem dX3_search_70 : decode cX3_search 70 = .ok (.aload_n 0, 1) := by decide +kernel
theorem dX3_search_71 : decode cX3_search 71 = .ok (.iconst (-1), 1) := by decide +kernel
theorem dX3_search_72 : decode cX3_search 72 = .ok (.putfield 43, 3) := by decide +kernel
theorem dX3_search_75 : decode cX3_search 75 = .ok (.aload_n 0, 1) := by decide +kernel
theorem dX3_search_76 : decode cX3_search 76 = .ok (.aload_n 1, 1) := by decide +kernel
theorem dX3_search_77 : decode cX3_search 77 = .ok (.iload_n 2, 1) := by decide +kernel
theorem dX3_search_78 : decode cX3_search 78 = .ok (.iconst 0, 1) := by decide +kernel
theorem dX3_search_79 : decode cX3_search 79 = .ok (.iconst 0, 1) := by decide +kernel
theorem dX3_search_80 : decode cX3_search 80 = .ok (.invokestatic 46, 3) := by decide +kernel
theorem dX3_search_83 : decode cX3_search 83 = .ok (.return_, 1) := by decide +kernel
theorem dX3_mostWantOf_0 : decode cX3_mostWantOf 0 = .ok (.iconst 0, 1) := by decide +kernel
theorem dX3_mostWantOf_1 : decode cX3_mostWantOf 1 = .ok (.istore_n 2, 1) := by decide +kernel
theorem dX3_mostWantOf_2 : decode cX3_mostWantOf 2 = .ok (.iconst 0, 1) := by decide +kernel
theorem dX3_mostWantOf_3 : decode cX3_mostWantOf 3 = .ok (.istore_n 3, 1) := by decide +kernel
theorem dX3_mostWantOf_4 : decode cX3_mostWantOf 4 = .ok (.iload_n 3, 1) := by decide +kernel
theorem dX3_mostWantOf_5 : decode cX3_mostWantOf 5 = .ok (.aload_n 0, 1) := by decide +kernel
theorem dX3_mostWantOf_6 : decode cX3_mostWantOf 6 = .ok (.getfield 50, 3) := by decide +kernel
theorem dX3_mostWantOf_9 : decode cX3_mostWantOf 9 = .ok (.if_icmp .ge 22, 3) := by decide +kernel
theorem dX3_mostWantOf_12 : decode cX3_mostWantOf 12 = .ok (.iload_n 2, 1) := by decide +kernel
theorem dX3_mostWantOf_13 : decode cX3_mostWantOf 13 = .ok (.aload_n 0, 1) := by decide +kernel
theorem dX3_mostWantOf_14 : decode cX3_mostWantOf 14 = .ok (.getfield 53, 3) := by decide +kernel
theorem dX3_mostWantOf_17 : decode cX3_mostWantOf 17 = .ok (.iload_n 1, 1) := by decide +kernel
theorem dX3_mostWantOf_18 : decode cX3_mostWantOf 18 = .ok (.aaload, 1) := by decide +kernel
theorem dX3_mostWantOf_19 : decode cX3_mostWantOf 19 = .ok (.iload_n 3, 1) := by decide +kernel
theorem dX3_mostWantOf_20 : decode cX3_mostWantOf 20 = .ok (.iaload, 1) := by decide +kernel
theorem dX3_mostWantOf_21 : decode cX3_mostWantOf 21 = .ok (.invokestatic 57, 3) := by decide +kernel
theorem dX3_mostWantOf_24 : decode cX3_mostWantOf 24 = .ok (.istore_n 2, 1) := by decide +kernel
theorem dX3_mostWantOf_25 : decode cX3_mostWantOf 25 = .ok (.iinc 3 1, 3) := by decide +kernel
theorem dX3_mostWantOf_28 : decode cX3_mostWantOf 28 = .ok (.goto (-24), 3) := by decide +kernel
theorem dX3_mostWantOf_31 : decode cX3_mostWantOf 31 = .ok (.iload_n 2, 1) := by decide +kernel
theorem dX3_mostWantOf_32 : decode cX3_mostWantOf 32 = .ok (.ireturn, 1) := by decide +kernel
theorem dX3_place_0 : decode cX3_place 0 = .ok (.iload_n 3, 1) := by decide +kernel
theorem dX3_place_1 : decode cX3_place 1 = .ok (.iconst 5, 1) := by decide +kernel
theorem dX3_place_2 : decode cX3_place 2 = .ok (.if_icmp .gt 19, 3) := by decide +kernel
theorem dX3_place_5 : decode cX3_place 5 = .ok (.iload 4, 2) := by decide +kernel
theorem dX3_place_7 : decode cX3_place 7 = .ok (.aload_n 0, 1) := by decide +kernel
theorem dX3_place_8 : decode cX3_place 8 = .ok (.getfield 21, 3) := by decide +kernel
theorem dX3_place_11 : decode cX3_place 11 = .ok (.iload_n 3, 1) := by decide +kernel
theorem dX3_place_12 : decode cX3_place 12 = .ok (.iaload, 1) := by decide +kernel
theorem dX3_place_13 : decode cX3_place 13 = .ok (.iadd, 1) := by decide +kernel
theorem dX3_place_14 : decode cX3_place 14 = .ok (.aload_n 0, 1) := by decide +kernel
theorem dX3_place_15 : decode cX3_place 15 = .ok (.getfield 43, 3) := by decide +kernel
theorem dX3_place_18 : decode cX3_place 18 = .ok (.if_icmp .gt 4, 3) := by decide +kernel
theorem dX3_place_21 : decode cX3_place 21 = .ok (.return_, 1) := by decide +kernel
theorem dX3_place_22 : decode cX3_place 22 = .ok (.iload_n 3, 1) := by decide +kernel
theorem dX3_place_23 : decode cX3_place 23 = .ok (.aload_n 1, 1) := by decide +kernel
theorem dX3_place_24 : decode cX3_place 24 = .ok (.getfield 35, 3) := by decide +kernel
theorem dX3_place_27 : decode cX3_place 27 = .ok (.if_icmp .lt 24, 3) := by decide +kernel
theorem dX3_place_30 : decode cX3_place 30 = .ok (.aload_n 0, 1) := by decide +kernel
theorem dX3_place_31 : decode cX3_place 31 = .ok (.iload 4, 2) := by decide +kernel
theorem dX3_place_33 : decode cX3_place 33 = .ok (.putfield 43, 3) := by decide +kernel
theorem dX3_place_36 : decode cX3_place 36 = .ok (.aload_n 0, 1) := by decide +kernel
theorem dX3_place_37 : decode cX3_place 37 = .ok (.getfield 15, 3) := by decide +kernel
theorem dX3_place_40 : decode cX3_place 40 = .ok (.iconst 0, 1) := by decide +kernel
theorem dX3_place_41 : decode cX3_place 41 = .ok (.aload_n 0, 1) := by decide +kernel
theorem dX3_place_42 : decode cX3_place 42 = .ok (.getfield 9, 3) := by decide +kernel
theorem dX3_place_45 : decode cX3_place 45 = .ok (.iconst 0, 1) := by decide +kernel
theorem dX3_place_46 : decode cX3_place 46 = .ok (.iconst 5, 1) := by decide +kernel
theorem dX3_place_47 : decode cX3_place 47 = .ok (.invokestatic 29, 3) := by decide +kernel
theorem dX3_place_50 : decode cX3_place 50 = .ok (.return_, 1) := by decide +kernel
theorem dX3_place_51 : decode cX3_place 51 = .ok (.iconst 0, 1) := by decide +kernel
theorem dX3_place_52 : decode cX3_place 52 = .ok (.istore 5, 2) := by decide +kernel
theorem dX3_place_54 : decode cX3_place 54 = .ok (.iload 5, 2) := by decide +kernel
theorem dX3_place_56 : decode cX3_place 56 = .ok (.aload_n 1, 1) := by decide +kernel
theorem dX3_place_57 : decode cX3_place 57 = .ok (.getfield 50, 3) := by decide +kernel
theorem dX3_place_60 : decode cX3_place 60 = .ok (.if_icmp .ge 75, 3) := by decide +kernel
theorem dX3_place_63 : decode cX3_place 63 = .ok (.iload_n 3, 1) := by decide +kernel
theorem dX3_place_64 : decode cX3_place 64 = .ok (.iload_n 2, 1) := by decide +kernel
theorem dX3_place_65 : decode cX3_place 65 = .ok (.if_icmp .eq 70, 3) := by decide +kernel
theorem dX3_place_68 : decode cX3_place 68 = .ok (.aload_n 0, 1) := by decide +kernel
theorem dX3_place_69 : decode cX3_place 69 = .ok (.getfield 18, 3) := by decide +kernel
theorem dX3_place_72 : decode cX3_place 72 = .ok (.iload 5, 2) := by decide +kernel
theorem dX3_place_74 : decode cX3_place 74 = .ok (.iaload, 1) := by decide +kernel
theorem dX3_place_75 : decode cX3_place 75 = .ok (.ifCond .le 54, 3) := by decide +kernel
theorem dX3_place_78 : decode cX3_place 78 = .ok (.aload_n 0, 1) := by decide +kernel
theorem dX3_place_79 : decode cX3_place 79 = .ok (.getfield 18, 3) := by decide +kernel
theorem dX3_place_82 : decode cX3_place 82 = .ok (.iload 5, 2) := by decide +kernel
theorem dX3_place_84 : decode cX3_place 84 = .ok (.dup2, 1) := by decide +kernel
theorem dX3_place_85 : decode cX3_place 85 = .ok (.iaload, 1) := by decide +kernel
theorem dX3_place_86 : decode cX3_place 86 = .ok (.iconst 1, 1) := by decide +kernel
theorem dX3_place_87 : decode cX3_place 87 = .ok (.isub, 1) := by decide +kernel
theorem dX3_place_88 : decode cX3_place 88 = .ok (.iastore, 1) := by decide +kernel
theorem dX3_place_89 : decode cX3_place 89 = .ok (.aload_n 0, 1) := by decide +kernel
theorem dX3_place_90 : decode cX3_place 90 = .ok (.getfield 15, 3) := by decide +kernel
theorem dX3_place_93 : decode cX3_place 93 = .ok (.iload_n 3, 1) := by decide +kernel
theorem dX3_place_94 : decode cX3_place 94 = .ok (.iload 5, 2) := by decide +kernel
theorem dX3_place_96 : decode cX3_place 96 = .ok (.iastore, 1) := by decide +kernel
theorem dX3_place_97 : decode cX3_place 97 = .ok (.aload_n 0, 1) := by decide +kernel
theorem dX3_place_98 : decode cX3_place 98 = .ok (.aload_n 1, 1) := by decide +kernel
theorem dX3_place_99 : decode cX3_place 99 = .ok (.iload_n 2, 1) := by decide +kernel
theorem dX3_place_100 : decode cX3_place 100 = .ok (.iload_n 3, 1) := by decide +kernel
theorem dX3_place_101 : decode cX3_place 101 = .ok (.iconst 1, 1) := by decide +kernel
theorem dX3_place_102 : decode cX3_place 102 = .ok (.iadd, 1) := by decide +kernel
theorem dX3_place_103 : decode cX3_place 103 = .ok (.iload 4, 2) := by decide +kernel
theorem dX3_place_105 : decode cX3_place 105 = .ok (.aload_n 1, 1) := by decide +kernel
theorem dX3_place_106 : decode cX3_place 106 = .ok (.getfield 53, 3) := by decide +kernel
theorem dX3_place_109 : decode cX3_place 109 = .ok (.iload_n 3, 1) := by decide +kernel
theorem dX3_place_110 : decode cX3_place 110 = .ok (.aaload, 1) := by decide +kernel
theorem dX3_place_111 : decode cX3_place 111 = .ok (.iload 5, 2) := by decide +kernel
theorem dX3_place_113 : decode cX3_place 113 = .ok (.iaload, 1) := by decide +kernel
theorem dX3_place_114 : decode cX3_place 114 = .ok (.iadd, 1) := by decide +kernel
theorem dX3_place_115 : decode cX3_place 115 = .ok (.invokestatic 46, 3) := by decide +kernel
theorem dX3_place_118 : decode cX3_place 118 = .ok (.aload_n 0, 1) := by decide +kernel
theorem dX3_place_119 : decode cX3_place 119 = .ok (.getfield 18, 3) := by decide +kernel
theorem dX3_place_122 : decode cX3_place 122 = .ok (.iload 5, 2) := by decide +kernel
theorem dX3_place_124 : decode cX3_place 124 = .ok (.dup2, 1) := by decide +kernel
theorem dX3_place_125 : decode cX3_place 125 = .ok (.iaload, 1) := by decide +kernel
theorem dX3_place_126 : decode cX3_place 126 = .ok (.iconst 1, 1) := by decide +kernel
theorem dX3_place_127 : decode cX3_place 127 = .ok (.iadd, 1) := by decide +kernel
theorem dX3_place_128 : decode cX3_place 128 = .ok (.iastore, 1) := by decide +kernel
theorem dX3_place_129 : decode cX3_place 129 = .ok (.iinc 5 1, 3) := by decide +kernel
theorem dX3_place_132 : decode cX3_place 132 = .ok (.goto (-78), 3) := by decide +kernel
theorem dX3_place_135 : decode cX3_place 135 = .ok (.aload_n 0, 1) := by decide +kernel
theorem dX3_place_136 : decode cX3_place 136 = .ok (.getfield 15, 3) := by decide +kernel
theorem dX3_place_139 : decode cX3_place 139 = .ok (.iload_n 3, 1) := by decide +kernel
theorem dX3_place_140 : decode cX3_place 140 = .ok (.bipush (-4), 2) := by decide +kernel
theorem dX3_place_142 : decode cX3_place 142 = .ok (.iastore, 1) := by decide +kernel
theorem dX3_place_143 : decode cX3_place 143 = .ok (.aload_n 0, 1) := by decide +kernel
theorem dX3_place_144 : decode cX3_place 144 = .ok (.aload_n 1, 1) := by decide +kernel
theorem dX3_place_145 : decode cX3_place 145 = .ok (.iload_n 2, 1) := by decide +kernel
theorem dX3_place_146 : decode cX3_place 146 = .ok (.iload_n 3, 1) := by decide +kernel
theorem dX3_place_147 : decode cX3_place 147 = .ok (.iconst 1, 1) := by decide +kernel
theorem dX3_place_148 : decode cX3_place 148 = .ok (.iadd, 1) := by decide +kernel
theorem dX3_place_149 : decode cX3_place 149 = .ok (.iload 4, 2) := by decide +kernel
theorem dX3_place_151 : decode cX3_place 151 = .ok (.invokestatic 46, 3) := by decide +kernel
theorem dX3_place_154 : decode cX3_place 154 = .ok (.return_, 1) := by decide +kernel
theorem dX4_init_0 : decode cX4_init 0 = .ok (.aload_n 0, 1) := by decide +kernel
theorem dX4_init_1 : decode cX4_init 1 = .ok (.invokespecial 3, 3) := by decide +kernel
theorem dX4_init_4 : decode cX4_init 4 = .ok (.aload_n 0, 1) := by decide +kernel
theorem dX4_init_5 : decode cX4_init 5 = .ok (.iconst 3, 1) := by decide +kernel
theorem dX4_init_6 : decode cX4_init 6 = .ok (.newarray .int, 2) := by decide +kernel
theorem dX4_init_8 : decode cX4_init 8 = .ok (.putfield 9, 3) := by decide +kernel
theorem dX4_init_11 : decode cX4_init 11 = .ok (.aload_n 0, 1) := by decide +kernel
theorem dX4_init_12 : decode cX4_init 12 = .ok (.iconst 5, 1) := by decide +kernel
theorem dX4_init_13 : decode cX4_init 13 = .ok (.newarray .int, 2) := by decide +kernel
theorem dX4_init_15 : decode cX4_init 15 = .ok (.putfield 15, 3) := by decide +kernel
theorem dX4_init_18 : decode cX4_init 18 = .ok (.aload_n 0, 1) := by decide +kernel
theorem dX4_init_19 : decode cX4_init 19 = .ok (.iconst 5, 1) := by decide +kernel
theorem dX4_init_20 : decode cX4_init 20 = .ok (.iconst 3, 1) := by decide +kernel
theorem dX4_init_21 : decode cX4_init 21 = .ok (.multianewarray 18 2, 4) := by decide +kernel
theorem dX4_init_25 : decode cX4_init 25 = .ok (.putfield 20, 3) := by decide +kernel
theorem dX4_init_28 : decode cX4_init 28 = .ok (.aload_n 0, 1) := by decide +kernel
theorem dX4_init_29 : decode cX4_init 29 = .ok (.bipush 7, 2) := by decide +kernel
theorem dX4_init_31 : decode cX4_init 31 = .ok (.newarray .int, 2) := by decide +kernel
theorem dX4_init_33 : decode cX4_init 33 = .ok (.putfield 23, 3) := by decide +kernel
theorem dX4_init_36 : decode cX4_init 36 = .ok (.return_, 1) := by decide +kernel
theorem dX4_clear_0 : decode cX4_clear 0 = .ok (.aload_n 0, 1) := by decide +kernel
theorem dX4_clear_1 : decode cX4_clear 1 = .ok (.iconst 0, 1) := by decide +kernel
theorem dX4_clear_2 : decode cX4_clear 2 = .ok (.putfield 26, 3) := by decide +kernel
theorem dX4_clear_5 : decode cX4_clear 5 = .ok (.aload_n 0, 1) := by decide +kernel
theorem dX4_clear_6 : decode cX4_clear 6 = .ok (.iconst 0, 1) := by decide +kernel
theorem dX4_clear_7 : decode cX4_clear 7 = .ok (.putfield 30, 3) := by decide +kernel
theorem dX4_clear_10 : decode cX4_clear 10 = .ok (.aload_n 0, 1) := by decide +kernel
theorem dX4_clear_11 : decode cX4_clear 11 = .ok (.getfield 23, 3) := by decide +kernel
theorem dX4_clear_14 : decode cX4_clear 14 = .ok (.iconst 5, 1) := by decide +kernel
theorem dX4_clear_15 : decode cX4_clear 15 = .ok (.iconst 0, 1) := by decide +kernel
theorem dX4_clear_16 : decode cX4_clear 16 = .ok (.iastore, 1) := by decide +kernel
theorem dX4_clear_17 : decode cX4_clear 17 = .ok (.aload_n 0, 1) := by decide +kernel
theorem dX4_clear_18 : decode cX4_clear 18 = .ok (.getfield 23, 3) := by decide +kernel
theorem dX4_clear_21 : decode cX4_clear 21 = .ok (.bipush 6, 2) := by decide +kernel
theorem dX4_clear_23 : decode cX4_clear 23 = .ok (.iconst 1, 1) := by decide +kernel
theorem dX4_clear_24 : decode cX4_clear 24 = .ok (.iastore, 1) := by decide +kernel
theorem dX4_clear_25 : decode cX4_clear 25 = .ok (.return_, 1) := by decide +kernel
theorem dX4_copyFrom_0 : decode cX4_copyFrom 0 = .ok (.aload_n 0, 1) := by decide +kernel
theorem dX4_copyFrom_1 : decode cX4_copyFrom 1 = .ok (.aload_n 1, 1) := by decide +kernel
theorem dX4_copyFrom_2 : decode cX4_copyFrom 2 = .ok (.getfield 26, 3) := by decide +kernel
theorem dX4_copyFrom_5 : decode cX4_copyFrom 5 = .ok (.putfield 26, 3) := by decide +kernel
theorem dX4_copyFrom_8 : decode cX4_copyFrom 8 = .ok (.aload_n 0, 1) := by decide +kernel
theorem dX4_copyFrom_9 : decode cX4_copyFrom 9 = .ok (.aload_n 1, 1) := by decide +kernel
theorem dX4_copyFrom_10 : decode cX4_copyFrom 10 = .ok (.getfield 30, 3) := by decide +kernel
theorem dX4_copyFrom_13 : decode cX4_copyFrom 13 = .ok (.putfield 30, 3) := by decide +kernel
theorem dX4_copyFrom_16 : decode cX4_copyFrom 16 = .ok (.aload_n 1, 1) := by decide +kernel
theorem dX4_copyFrom_17 : decode cX4_copyFrom 17 = .ok (.getfield 9, 3) := by decide +kernel
theorem dX4_copyFrom_20 : decode cX4_copyFrom 20 = .ok (.iconst 0, 1) := by decide +kernel
theorem dX4_copyFrom_21 : decode cX4_copyFrom 21 = .ok (.aload_n 0, 1) := by decide +kernel
theorem dX4_copyFrom_22 : decode cX4_copyFrom 22 = .ok (.getfield 9, 3) := by decide +kernel
theorem dX4_copyFrom_25 : decode cX4_copyFrom 25 = .ok (.iconst 0, 1) := by decide +kernel
theorem dX4_copyFrom_26 : decode cX4_copyFrom 26 = .ok (.iconst 3, 1) := by decide +kernel
theorem dX4_copyFrom_27 : decode cX4_copyFrom 27 = .ok (.invokestatic 33, 3) := by decide +kernel
theorem dX4_copyFrom_30 : decode cX4_copyFrom 30 = .ok (.aload_n 1, 1) := by decide +kernel
theorem dX4_copyFrom_31 : decode cX4_copyFrom 31 = .ok (.getfield 15, 3) := by decide +kernel
theorem dX4_copyFrom_34 : decode cX4_copyFrom 34 = .ok (.iconst 0, 1) := by decide +kernel
theorem dX4_copyFrom_35 : decode cX4_copyFrom 35 = .ok (.aload_n 0, 1) := by decide +kernel
theorem dX4_copyFrom_36 : decode cX4_copyFrom 36 = .ok (.getfield 15, 3) := by decide +kernel
theorem dX4_copyFrom_39 : decode cX4_copyFrom 39 = .ok (.iconst 0, 1) := by decide +kernel
theorem dX4_copyFrom_40 : decode cX4_copyFrom 40 = .ok (.iconst 5, 1) := by decide +kernel
theorem dX4_copyFrom_41 : decode cX4_copyFrom 41 = .ok (.invokestatic 33, 3) := by decide +kernel
theorem dX4_copyFrom_44 : decode cX4_copyFrom 44 = .ok (.aload_n 1, 1) := by decide +kernel
theorem dX4_copyFrom_45 : decode cX4_copyFrom 45 = .ok (.getfield 23, 3) := by decide +kernel
theorem dX4_copyFrom_48 : decode cX4_copyFrom 48 = .ok (.iconst 0, 1) := by decide +kernel
theorem dX4_copyFrom_49 : decode cX4_copyFrom 49 = .ok (.aload_n 0, 1) := by decide +kernel
theorem dX4_copyFrom_50 : decode cX4_copyFrom 50 = .ok (.getfield 23, 3) := by decide +kernel
theorem dX4_copyFrom_53 : decode cX4_copyFrom 53 = .ok (.iconst 0, 1) := by decide +kernel
theorem dX4_copyFrom_54 : decode cX4_copyFrom 54 = .ok (.bipush 7, 2) := by decide +kernel
theorem dX4_copyFrom_56 : decode cX4_copyFrom 56 = .ok (.invokestatic 33, 3) := by decide +kernel
theorem dX4_copyFrom_59 : decode cX4_copyFrom 59 = .ok (.iconst 0, 1) := by decide +kernel
theorem dX4_copyFrom_60 : decode cX4_copyFrom 60 = .ok (.istore_n 2, 1) := by decide +kernel
theorem dX4_copyFrom_61 : decode cX4_copyFrom 61 = .ok (.iload_n 2, 1) := by decide +kernel
theorem dX4_copyFrom_62 : decode cX4_copyFrom 62 = .ok (.aload_n 0, 1) := by decide +kernel
theorem dX4_copyFrom_63 : decode cX4_copyFrom 63 = .ok (.getfield 30, 3) := by decide +kernel
theorem dX4_copyFrom_66 : decode cX4_copyFrom 66 = .ok (.if_icmp .ge 27, 3) := by decide +kernel
theorem dX4_copyFrom_69 : decode cX4_copyFrom 69 = .ok (.aload_n 1, 1) := by decide +kernel
theorem dX4_copyFrom_70 : decode cX4_copyFrom 70 = .ok (.getfield 20, 3) := by decide +kernel
theorem dX4_copyFrom_73 : decode cX4_copyFrom 73 = .ok (.iload_n 2, 1) := by decide +kernel
theorem dX4_copyFrom_74 : decode cX4_copyFrom 74 = .ok (.aaload, 1) := by decide +kernel
theorem dX4_copyFrom_75 : decode cX4_copyFrom 75 = .ok (.iconst 0, 1) := by decide +kernel
theorem dX4_copyFrom_76 : decode cX4_copyFrom 76 = .ok (.aload_n 0, 1) := by decide +kernel
theorem dX4_copyFrom_77 : decode cX4_copyFrom 77 = .ok (.getfield 20, 3) := by decide +kernel
theorem dX4_copyFrom_80 : decode cX4_copyFrom 80 = .ok (.iload_n 2, 1) := by decide +kernel
theorem dX4_copyFrom_81 : decode cX4_copyFrom 81 = .ok (.aaload, 1) := by decide +kernel
theorem dX4_copyFrom_82 : decode cX4_copyFrom 82 = .ok (.iconst 0, 1) := by decide +kernel
theorem dX4_copyFrom_83 : decode cX4_copyFrom 83 = .ok (.iconst 3, 1) := by decide +kernel
theorem dX4_copyFrom_84 : decode cX4_copyFrom 84 = .ok (.invokestatic 33, 3) := by decide +kernel
theorem dX4_copyFrom_87 : decode cX4_copyFrom 87 = .ok (.iinc 2 1, 3) := by decide +kernel
theorem dX4_copyFrom_90 : decode cX4_copyFrom 90 = .ok (.goto (-29), 3) := by decide +kernel
theorem dX4_copyFrom_93 : decode cX4_copyFrom 93 = .ok (.return_, 1) := by decide +kernel
theorem dX4_hasMaster_0 : decode cX4_hasMaster 0 = .ok (.iload_n 1, 1) := by decide +kernel
theorem dX4_hasMaster_1 : decode cX4_hasMaster 1 = .ok (.ifCond .lt 15, 3) := by decide +kernel
theorem dX4_hasMaster_4 : decode cX4_hasMaster 4 = .ok (.iload_n 1, 1) := by decide +kernel
theorem dX4_hasMaster_5 : decode cX4_hasMaster 5 = .ok (.aload_n 0, 1) := by decide +kernel
theorem dX4_hasMaster_6 : decode cX4_hasMaster 6 = .ok (.getfield 26, 3) := by decide +kernel
theorem dX4_hasMaster_9 : decode cX4_hasMaster 9 = .ok (.if_icmp .ge 7, 3) := by decide +kernel
theorem dX4_hasMaster_12 : decode cX4_hasMaster 12 = .ok (.iconst 1, 1) := by decide +kernel
theorem dX4_hasMaster_13 : decode cX4_hasMaster 13 = .ok (.goto 4, 3) := by decide +kernel
theorem dX4_hasMaster_16 : decode cX4_hasMaster 16 = .ok (.iconst 0, 1) := by decide +kernel
theorem dX4_hasMaster_17 : decode cX4_hasMaster 17 = .ok (.ireturn, 1) := by decide +kernel
theorem dX4_hasLad_0 : decode cX4_hasLad 0 = .ok (.iload_n 1, 1) := by decide +kernel
theorem dX4_hasLad_1 : decode cX4_hasLad 1 = .ok (.ifCond .lt 15, 3) := by decide +kernel
theorem dX4_hasLad_4 : decode cX4_hasLad 4 = .ok (.iload_n 1, 1) := by decide +kernel
theorem dX4_hasLad_5 : decode cX4_hasLad 5 = .ok (.aload_n 0, 1) := by decide +kernel
theorem dX4_hasLad_6 : decode cX4_hasLad 6 = .ok (.getfield 30, 3) := by decide +kernel
theorem dX4_hasLad_9 : decode cX4_hasLad 9 = .ok (.if_icmp .ge 7, 3) := by decide +kernel
theorem dX4_hasLad_12 : decode cX4_hasLad 12 = .ok (.iconst 1, 1) := by decide +kernel
theorem dX4_hasLad_13 : decode cX4_hasLad 13 = .ok (.goto 4, 3) := by decide +kernel
theorem dX4_hasLad_16 : decode cX4_hasLad 16 = .ok (.iconst 0, 1) := by decide +kernel
theorem dX4_hasLad_17 : decode cX4_hasLad 17 = .ok (.ireturn, 1) := by decide +kernel
theorem dX4_addMaster_0 : decode cX4_addMaster 0 = .ok (.aload_n 0, 1) := by decide +kernel
theorem dX4_addMaster_1 : decode cX4_addMaster 1 = .ok (.getfield 26, 3) := by decide +kernel
theorem dX4_addMaster_4 : decode cX4_addMaster 4 = .ok (.iconst 3, 1) := by decide +kernel
theorem dX4_addMaster_5 : decode cX4_addMaster 5 = .ok (.if_icmp .ge 12, 3) := by decide +kernel
theorem dX4_addMaster_8 : decode cX4_addMaster 8 = .ok (.iload_n 1, 1) := by decide +kernel
theorem dX4_addMaster_9 : decode cX4_addMaster 9 = .ok (.iconst 1, 1) := by decide +kernel
theorem dX4_addMaster_10 : decode cX4_addMaster 10 = .ok (.iconst 3, 1) := by decide +kernel
theorem dX4_addMaster_11 : decode cX4_addMaster 11 = .ok (.invokestatic 39, 3) := by decide +kernel
theorem dX4_addMaster_14 : decode cX4_addMaster 14 = .ok (.ifCond .ne 5, 3) := by decide +kernel
theorem dX4_addMaster_17 : decode cX4_addMaster 17 = .ok (.iconst 0, 1) := by decide +kernel
theorem dX4_addMaster_18 : decode cX4_addMaster 18 = .ok (.ireturn, 1) := by decide +kernel
theorem dX4_addMaster_19 : decode cX4_addMaster 19 = .ok (.aload_n 0, 1) := by decide +kernel
theorem dX4_addMaster_20 : decode cX4_addMaster 20 = .ok (.getfield 9, 3) := by decide +kernel
theorem dX4_addMaster_23 : decode cX4_addMaster 23 = .ok (.aload_n 0, 1) := by decide +kernel
theorem dX4_addMaster_24 : decode cX4_addMaster 24 = .ok (.getfield 26, 3) := by decide +kernel
theorem dX4_addMaster_27 : decode cX4_addMaster 27 = .ok (.iload_n 1, 1) := by decide +kernel
theorem dX4_addMaster_28 : decode cX4_addMaster 28 = .ok (.iastore, 1) := by decide +kernel
theorem dX4_addMaster_29 : decode cX4_addMaster 29 = .ok (.aload_n 0, 1) := by decide +kernel
theorem dX4_addMaster_30 : decode cX4_addMaster 30 = .ok (.dup, 1) := by decide +kernel
theorem dX4_addMaster_31 : decode cX4_addMaster 31 = .ok (.getfield 26, 3) := by decide +kernel
theorem dX4_addMaster_34 : decode cX4_addMaster 34 = .ok (.iconst 1, 1) := by decide +kernel
theorem dX4_addMaster_35 : decode cX4_addMaster 35 = .ok (.iadd, 1) := by decide +kernel
theorem dX4_addMaster_36 : decode cX4_addMaster 36 = .ok (.putfield 26, 3) := by decide +kernel
theorem dX4_addMaster_39 : decode cX4_addMaster 39 = .ok (.iconst 1, 1) := by decide +kernel
theorem dX4_addMaster_40 : decode cX4_addMaster 40 = .ok (.ireturn, 1) := by decide +kernel
theorem dX4_addLad_0 : decode cX4_addLad 0 = .ok (.aload_n 0, 1) := by decide +kernel
theorem dX4_addLad_1 : decode cX4_addLad 1 = .ok (.getfield 30, 3) := by decide +kernel
theorem dX4_addLad_4 : decode cX4_addLad 4 = .ok (.iconst 5, 1) := by decide +kernel
theorem dX4_addLad_5 : decode cX4_addLad 5 = .ok (.if_icmp .ge 22, 3) := by decide +kernel
theorem dX4_addLad_8 : decode cX4_addLad 8 = .ok (.iload_n 1, 1) := by decide +kernel
theorem dX4_addLad_9 : decode cX4_addLad 9 = .ok (.iconst 1, 1) := by decide +kernel
theorem dX4_addLad_10 : decode cX4_addLad 10 = .ok (.bipush 10, 2) := by decide +kernel
theorem dX4_addLad_12 : decode cX4_addLad 12 = .ok (.invokestatic 39, 3) := by decide +kernel
theorem dX4_addLad_15 : decode cX4_addLad 15 = .ok (.ifCond .eq 12, 3) := by decide +kernel
theorem dX4_addLad_18 : decode cX4_addLad 18 = .ok (.iload_n 2, 1) := by decide +kernel
theorem dX4_addLad_19 : decode cX4_addLad 19 = .ok (.iconst 0, 1) := by decide +kernel
theorem dX4_addLad_20 : decode cX4_addLad 20 = .ok (.iconst 3, 1) := by decide +kernel
theorem dX4_addLad_21 : decode cX4_addLad 21 = .ok (.invokestatic 39, 3) := by decide +kernel
theorem dX4_addLad_24 : decode cX4_addLad 24 = .ok (.ifCond .ne 5, 3) := by decide +kernel
theorem dX4_addLad_27 : decode cX4_addLad 27 = .ok (.iconst 0, 1) := by decide +kernel
theorem dX4_addLad_28 : decode cX4_addLad 28 = .ok (.ireturn, 1) := by decide +kernel
theorem dX4_addLad_29 : decode cX4_addLad 29 = .ok (.aload_n 0, 1) := by decide +kernel
theorem dX4_addLad_30 : decode cX4_addLad 30 = .ok (.getfield 23, 3) := by decide +kernel
theorem dX4_addLad_33 : decode cX4_addLad 33 = .ok (.aload_n 0, 1) := by decide +kernel
theorem dX4_addLad_34 : decode cX4_addLad 34 = .ok (.getfield 30, 3) := by decide +kernel
theorem dX4_addLad_37 : decode cX4_addLad 37 = .ok (.iload_n 1, 1) := by decide +kernel
theorem dX4_addLad_38 : decode cX4_addLad 38 = .ok (.iastore, 1) := by decide +kernel
theorem dX4_addLad_39 : decode cX4_addLad 39 = .ok (.aload_n 0, 1) := by decide +kernel
theorem dX4_addLad_40 : decode cX4_addLad 40 = .ok (.getfield 15, 3) := by decide +kernel
theorem dX4_addLad_43 : decode cX4_addLad 43 = .ok (.aload_n 0, 1) := by decide +kernel
theorem dX4_addLad_44 : decode cX4_addLad 44 = .ok (.getfield 30, 3) := by decide +kernel
theorem dX4_addLad_47 : decode cX4_addLad 47 = .ok (.iload_n 2, 1) := by decide +kernel
theorem dX4_addLad_48 : decode cX4_addLad 48 = .ok (.iastore, 1) := by decide +kernel
theorem dX4_addLad_49 : decode cX4_addLad 49 = .ok (.aload_n 0, 1) := by decide +kernel
theorem dX4_addLad_50 : decode cX4_addLad 50 = .ok (.getfield 20, 3) := by decide +kernel
theorem dX4_addLad_53 : decode cX4_addLad 53 = .ok (.aload_n 0, 1) := by decide +kernel
theorem dX4_addLad_54 : decode cX4_addLad 54 = .ok (.getfield 30, 3) := by decide +kernel
theorem dX4_addLad_57 : decode cX4_addLad 57 = .ok (.aaload, 1) := by decide +kernel
theorem dX4_addLad_58 : decode cX4_addLad 58 = .ok (.iconst 0, 1) := by decide +kernel
theorem dX4_addLad_59 : decode cX4_addLad 59 = .ok (.invokestatic 43, 3) := by decide +kernel
theorem dX4_addLad_62 : decode cX4_addLad 62 = .ok (.aload_n 0, 1) := by decide +kernel
theorem dX4_addLad_63 : decode cX4_addLad 63 = .ok (.dup, 1) := by decide +kernel
theorem dX4_addLad_64 : decode cX4_addLad 64 = .ok (.getfield 30, 3) := by decide +kernel
theorem dX4_addLad_67 : decode cX4_addLad 67 = .ok (.iconst 1, 1) := by decide +kernel
theorem dX4_addLad_68 : decode cX4_addLad 68 = .ok (.iadd, 1) := by decide +kernel
theorem dX4_addLad_69 : decode cX4_addLad 69 = .ok (.putfield 30, 3) := by decide +kernel
theorem dX4_addLad_72 : decode cX4_addLad 72 = .ok (.iconst 1, 1) := by decide +kernel
theorem dX4_addLad_73 : decode cX4_addLad 73 = .ok (.ireturn, 1) := by decide +kernel
theorem dX4_addWant_0 : decode cX4_addWant 0 = .ok (.aload_n 0, 1) := by decide +kernel
theorem dX4_addWant_1 : decode cX4_addWant 1 = .ok (.iload_n 1, 1) := by decide +kernel
theorem dX4_addWant_2 : decode cX4_addWant 2 = .ok (.invokevirtual 49, 3) := by decide +kernel
theorem dX4_addWant_5 : decode cX4_addWant 5 = .ok (.ifCond .eq 21, 3) := by decide +kernel
theorem dX4_addWant_8 : decode cX4_addWant 8 = .ok (.aload_n 0, 1) := by decide +kernel
theorem dX4_addWant_9 : decode cX4_addWant 9 = .ok (.iload_n 2, 1) := by decide +kernel
theorem dX4_addWant_10 : decode cX4_addWant 10 = .ok (.invokevirtual 53, 3) := by decide +kernel
theorem dX4_addWant_13 : decode cX4_addWant 13 = .ok (.ifCond .eq 13, 3) := by decide +kernel
theorem dX4_addWant_16 : decode cX4_addWant 16 = .ok (.iload_n 3, 1) := by decide +kernel
theorem dX4_addWant_17 : decode cX4_addWant 17 = .ok (.iconst 0, 1) := by decide +kernel
theorem dX4_addWant_18 : decode cX4_addWant 18 = .ok (.bipush 10, 2) := by decide +kernel
theorem dX4_addWant_20 : decode cX4_addWant 20 = .ok (.invokestatic 39, 3) := by decide +kernel
theorem dX4_addWant_23 : decode cX4_addWant 23 = .ok (.ifCond .ne 5, 3) := by decide +kernel
theorem dX4_addWant_26 : decode cX4_addWant 26 = .ok (.iconst 0, 1) := by decide +kernel
theorem dX4_addWant_27 : decode cX4_addWant 27 = .ok (.ireturn, 1) := by decide +kernel
theorem dX4_addWant_28 : decode cX4_addWant 28 = .ok (.aload_n 0, 1) := by decide +kernel
theorem dX4_addWant_29 : decode cX4_addWant 29 = .ok (.getfield 20, 3) := by decide +kernel
theorem dX4_addWant_32 : decode cX4_addWant 32 = .ok (.iload_n 1, 1) := by decide +kernel
theorem dX4_addWant_33 : decode cX4_addWant 33 = .ok (.aaload, 1) := by decide +kernel
theorem dX4_addWant_34 : decode cX4_addWant 34 = .ok (.iload_n 2, 1) := by decide +kernel
theorem dX4_addWant_35 : decode cX4_addWant 35 = .ok (.iload_n 3, 1) := by decide +kernel
theorem dX4_addWant_36 : decode cX4_addWant 36 = .ok (.iastore, 1) := by decide +kernel
theorem dX4_addWant_37 : decode cX4_addWant 37 = .ok (.iconst 1, 1) := by decide +kernel
theorem dX4_addWant_38 : decode cX4_addWant 38 = .ok (.ireturn, 1) := by decide +kernel
theorem dX4_tellCalls_0 : decode cX4_tellCalls 0 = .ok (.iload_n 1, 1) := by decide +kernel
theorem dX4_tellCalls_1 : decode cX4_tellCalls 1 = .ok (.iconst 0, 1) := by decide +kernel
theorem dX4_tellCalls_2 : decode cX4_tellCalls 2 = .ok (.iconst 2, 1) := by decide +kernel
theorem dX4_tellCalls_3 : decode cX4_tellCalls 3 = .ok (.invokestatic 39, 3) := by decide +kernel
theorem dX4_tellCalls_6 : decode cX4_tellCalls 6 = .ok (.ifCond .ne 5, 3) := by decide +kernel
theorem dX4_tellCalls_9 : decode cX4_tellCalls 9 = .ok (.iconst 0, 1) := by decide +kernel
theorem dX4_tellCalls_10 : decode cX4_tellCalls 10 = .ok (.ireturn, 1) := by decide +kernel
theorem dX4_tellCalls_11 : decode cX4_tellCalls 11 = .ok (.aload_n 0, 1) := by decide +kernel
theorem dX4_tellCalls_12 : decode cX4_tellCalls 12 = .ok (.getfield 23, 3) := by decide +kernel
theorem dX4_tellCalls_15 : decode cX4_tellCalls 15 = .ok (.iconst 5, 1) := by decide +kernel
theorem dX4_tellCalls_16 : decode cX4_tellCalls 16 = .ok (.iload_n 1, 1) := by decide +kernel
theorem dX4_tellCalls_17 : decode cX4_tellCalls 17 = .ok (.iastore, 1) := by decide +kernel
theorem dX4_tellCalls_18 : decode cX4_tellCalls 18 = .ok (.iconst 1, 1) := by decide +kernel
theorem dX4_tellCalls_19 : decode cX4_tellCalls 19 = .ok (.ireturn, 1) := by decide +kernel
theorem dX4_tellStep_0 : decode cX4_tellStep 0 = .ok (.iload_n 1, 1) := by decide +kernel
theorem dX4_tellStep_1 : decode cX4_tellStep 1 = .ok (.iconst 1, 1) := by decide +kernel
theorem dX4_tellStep_2 : decode cX4_tellStep 2 = .ok (.iconst 3, 1) := by decide +kernel
theorem dX4_tellStep_3 : decode cX4_tellStep 3 = .ok (.invokestatic 39, 3) := by decide +kernel
theorem dX4_tellStep_6 : decode cX4_tellStep 6 = .ok (.ifCond .ne 5, 3) := by decide +kernel
theorem dX4_tellStep_9 : decode cX4_tellStep 9 = .ok (.iconst 0, 1) := by decide +kernel
theorem dX4_tellStep_10 : decode cX4_tellStep 10 = .ok (.ireturn, 1) := by decide +kernel
theorem dX4_tellStep_11 : decode cX4_tellStep 11 = .ok (.aload_n 0, 1) := by decide +kernel
theorem dX4_tellStep_12 : decode cX4_tellStep 12 = .ok (.getfield 23, 3) := by decide +kernel
theorem dX4_tellStep_15 : decode cX4_tellStep 15 = .ok (.bipush 6, 2) := by decide +kernel
theorem dX4_tellStep_17 : decode cX4_tellStep 17 = .ok (.iload_n 1, 1) := by decide +kernel
theorem dX4_tellStep_18 : decode cX4_tellStep 18 = .ok (.iastore, 1) := by decide +kernel
theorem dX4_tellStep_19 : decode cX4_tellStep 19 = .ok (.iconst 1, 1) := by decide +kernel
theorem dX4_tellStep_20 : decode cX4_tellStep 20 = .ok (.ireturn, 1) := by decide +kernel
theorem dX4_boundOf_0 : decode cX4_boundOf 0 = .ok (.aload_n 0, 1) := by decide +kernel
theorem dX4_boundOf_1 : decode cX4_boundOf 1 = .ok (.getfield 20, 3) := by decide +kernel
theorem dX4_boundOf_4 : decode cX4_boundOf 4 = .ok (.iload_n 1, 1) := by decide +kernel
theorem dX4_boundOf_5 : decode cX4_boundOf 5 = .ok (.aaload, 1) := by decide +kernel
theorem dX4_boundOf_6 : decode cX4_boundOf 6 = .ok (.iload_n 2, 1) := by decide +kernel
theorem dX4_boundOf_7 : decode cX4_boundOf 7 = .ok (.iaload, 1) := by decide +kernel
theorem dX4_boundOf_8 : decode cX4_boundOf 8 = .ok (.aload_n 0, 1) := by decide +kernel
theorem dX4_boundOf_9 : decode cX4_boundOf 9 = .ok (.getfield 23, 3) := by decide +kernel
theorem dX4_boundOf_12 : decode cX4_boundOf 12 = .ok (.iload_n 1, 1) := by decide +kernel
theorem dX4_boundOf_13 : decode cX4_boundOf 13 = .ok (.iaload, 1) := by decide +kernel
theorem dX4_boundOf_14 : decode cX4_boundOf 14 = .ok (.invokestatic 56, 3) := by decide +kernel
theorem dX4_boundOf_17 : decode cX4_boundOf 17 = .ok (.istore_n 3, 1) := by decide +kernel
theorem dX4_boundOf_18 : decode cX4_boundOf 18 = .ok (.aload_n 0, 1) := by decide +kernel
theorem dX4_boundOf_19 : decode cX4_boundOf 19 = .ok (.getfield 15, 3) := by decide +kernel
theorem dX4_boundOf_22 : decode cX4_boundOf 22 = .ok (.iload_n 1, 1) := by decide +kernel
theorem dX4_boundOf_23 : decode cX4_boundOf 23 = .ok (.iaload, 1) := by decide +kernel
theorem dX4_boundOf_24 : decode cX4_boundOf 24 = .ok (.tableswitch 56 1 3 #[28, 32, 50], 28) := by decide +kernel
theorem dX4_boundOf_52 : decode cX4_boundOf 52 = .ok (.iload_n 3, 1) := by decide +kernel
theorem dX4_boundOf_53 : decode cX4_boundOf 53 = .ok (.iconst 2, 1) := by decide +kernel
theorem dX4_boundOf_54 : decode cX4_boundOf 54 = .ok (.idiv, 1) := by decide +kernel
theorem dX4_boundOf_55 : decode cX4_boundOf 55 = .ok (.ireturn, 1) := by decide +kernel
theorem dX4_boundOf_56 : decode cX4_boundOf 56 = .ok (.aload_n 0, 1) := by decide +kernel
theorem dX4_boundOf_57 : decode cX4_boundOf 57 = .ok (.getfield 20, 3) := by decide +kernel
theorem dX4_boundOf_60 : decode cX4_boundOf 60 = .ok (.iload_n 1, 1) := by decide +kernel
theorem dX4_boundOf_61 : decode cX4_boundOf 61 = .ok (.aaload, 1) := by decide +kernel
theorem dX4_boundOf_62 : decode cX4_boundOf 62 = .ok (.iload_n 2, 1) := by decide +kernel
theorem dX4_boundOf_63 : decode cX4_boundOf 63 = .ok (.iaload, 1) := by decide +kernel
theorem dX4_boundOf_64 : decode cX4_boundOf 64 = .ok (.iconst 5, 1) := by decide +kernel
theorem dX4_boundOf_65 : decode cX4_boundOf 65 = .ok (.if_icmp .lt 7, 3) := by decide +kernel
theorem dX4_boundOf_68 : decode cX4_boundOf 68 = .ok (.iload_n 3, 1) := by decide +kernel
theorem dX4_boundOf_69 : decode cX4_boundOf 69 = .ok (.goto 4, 3) := by decide +kernel
theorem dX4_boundOf_72 : decode cX4_boundOf 72 = .ok (.iconst 0, 1) := by decide +kernel
theorem dX4_boundOf_73 : decode cX4_boundOf 73 = .ok (.ireturn, 1) := by decide +kernel
theorem dX4_boundOf_74 : decode cX4_boundOf 74 = .ok (.iload_n 3, 1) := by decide +kernel
theorem dX4_boundOf_75 : decode cX4_boundOf 75 = .ok (.iload_n 3, 1) := by decide +kernel
theorem dX4_boundOf_76 : decode cX4_boundOf 76 = .ok (.iconst 2, 1) := by decide +kernel
theorem dX4_boundOf_77 : decode cX4_boundOf 77 = .ok (.irem, 1) := by decide +kernel
theorem dX4_boundOf_78 : decode cX4_boundOf 78 = .ok (.isub, 1) := by decide +kernel
theorem dX4_boundOf_79 : decode cX4_boundOf 79 = .ok (.ireturn, 1) := by decide +kernel
theorem dX4_boundOf_80 : decode cX4_boundOf 80 = .ok (.iload_n 3, 1) := by decide +kernel
theorem dX4_boundOf_81 : decode cX4_boundOf 81 = .ok (.ireturn, 1) := by decide +kernel
theorem dX4_drawWants_0 : decode cX4_drawWants 0 = .ok (.iconst 0, 1) := by decide +kernel
theorem dX4_drawWants_1 : decode cX4_drawWants 1 = .ok (.istore_n 2, 1) := by decide +kernel
theorem dX4_drawWants_2 : decode cX4_drawWants 2 = .ok (.iload_n 2, 1) := by decide +kernel
theorem dX4_drawWants_3 : decode cX4_drawWants 3 = .ok (.aload_n 0, 1) := by decide +kernel
theorem dX4_drawWants_4 : decode cX4_drawWants 4 = .ok (.getfield 30, 3) := by decide +kernel
theorem dX4_drawWants_7 : decode cX4_drawWants 7 = .ok (.if_icmp .ge 71, 3) := by decide +kernel
theorem dX4_drawWants_10 : decode cX4_drawWants 10 = .ok (.iconst 0, 1) := by decide +kernel
theorem dX4_drawWants_11 : decode cX4_drawWants 11 = .ok (.istore_n 3, 1) := by decide +kernel
theorem dX4_drawWants_12 : decode cX4_drawWants 12 = .ok (.iload_n 3, 1) := by decide +kernel
theorem dX4_drawWants_13 : decode cX4_drawWants 13 = .ok (.aload_n 0, 1) := by decide +kernel
theorem dX4_drawWants_14 : decode cX4_drawWants 14 = .ok (.getfield 26, 3) := by decide +kernel
theorem dX4_drawWants_17 : decode cX4_drawWants 17 = .ok (.if_icmp .ge 55, 3) := by decide +kernel
theorem dX4_drawWants_20 : decode cX4_drawWants 20 = .ok (.ldc2_w 62, 3) := by decide +kernel
theorem dX4_drawWants_23 : decode cX4_drawWants 23 = .ok (.iload_n 1, 1) := by decide +kernel
theorem dX4_drawWants_24 : decode cX4_drawWants 24 = .ok (.i2l, 1) := by decide +kernel
theorem dX4_drawWants_25 : decode cX4_drawWants 25 = .ok (.lmul, 1) := by decide +kernel
theorem dX4_drawWants_26 : decode cX4_drawWants 26 = .ok (.ldc2_w 64, 3) := by decide +kernel
theorem dX4_drawWants_29 : decode cX4_drawWants 29 = .ok (.iload_n 2, 1) := by decide +kernel
theorem dX4_drawWants_30 : decode cX4_drawWants 30 = .ok (.i2l, 1) := by decide +kernel
theorem dX4_drawWants_31 : decode cX4_drawWants 31 = .ok (.lmul, 1) := by decide +kernel
theorem dX4_drawWants_32 : decode cX4_drawWants 32 = .ok (.ladd, 1) := by decide +kernel
theorem dX4_drawWants_33 : decode cX4_drawWants 33 = .ok (.ldc2_w 66, 3) := by decide +kernel
theorem dX4_drawWants_36 : decode cX4_drawWants 36 = .ok (.iload_n 3, 1) := by decide +kernel
theorem dX4_drawWants_37 : decode cX4_drawWants 37 = .ok (.i2l, 1) := by decide +kernel
theorem dX4_drawWants_38 : decode cX4_drawWants 38 = .ok (.lmul, 1) := by decide +kernel
theorem dX4_drawWants_39 : decode cX4_drawWants 39 = .ok (.ladd, 1) := by decide +kernel
theorem dX4_drawWants_40 : decode cX4_drawWants 40 = .ok (.lconst 1, 1) := by decide +kernel
theorem dX4_drawWants_41 : decode cX4_drawWants 41 = .ok (.ladd, 1) := by decide +kernel
theorem dX4_drawWants_42 : decode cX4_drawWants 42 = .ok (.lstore 4, 2) := by decide +kernel
theorem dX4_drawWants_44 : decode cX4_drawWants 44 = .ok (.aload_n 0, 1) := by decide +kernel
theorem dX4_drawWants_45 : decode cX4_drawWants 45 = .ok (.getfield 20, 3) := by decide +kernel
theorem dX4_drawWants_48 : decode cX4_drawWants 48 = .ok (.iload_n 2, 1) := by decide +kernel
theorem dX4_drawWants_49 : decode cX4_drawWants 49 = .ok (.aaload, 1) := by decide +kernel
theorem dX4_drawWants_50 : decode cX4_drawWants 50 = .ok (.iload_n 3, 1) := by decide +kernel
theorem dX4_drawWants_51 : decode cX4_drawWants 51 = .ok (.lload 4, 2) := by decide +kernel
theorem dX4_drawWants_53 : decode cX4_drawWants 53 = .ok (.lload 4, 2) := by decide +kernel
theorem dX4_drawWants_55 : decode cX4_drawWants 55 = .ok (.lmul, 1) := by decide +kernel
theorem dX4_drawWants_56 : decode cX4_drawWants 56 = .ok (.ldc2_w 68, 3) := by decide +kernel
theorem dX4_drawWants_59 : decode cX4_drawWants 59 = .ok (.lrem, 1) := by decide +kernel
theorem dX4_drawWants_60 : decode cX4_drawWants 60 = .ok (.ldc2_w 70, 3) := by decide +kernel
theorem dX4_drawWants_63 : decode cX4_drawWants 63 = .ok (.lrem, 1) := by decide +kernel
theorem dX4_drawWants_64 : decode cX4_drawWants 64 = .ok (.l2i, 1) := by decide +kernel
theorem dX4_drawWants_65 : decode cX4_drawWants 65 = .ok (.iastore, 1) := by decide +kernel
theorem dX4_drawWants_66 : decode cX4_drawWants 66 = .ok (.iinc 3 1, 3) := by decide +kernel
theorem dX4_drawWants_69 : decode cX4_drawWants 69 = .ok (.goto (-57), 3) := by decide +kernel
theorem dX4_drawWants_72 : decode cX4_drawWants 72 = .ok (.iinc 2 1, 3) := by decide +kernel
theorem dX4_drawWants_75 : decode cX4_drawWants 75 = .ok (.goto (-73), 3) := by decide +kernel
theorem dX4_drawWants_78 : decode cX4_drawWants 78 = .ok (.return_, 1) := by decide +kernel
theorem dX5_init_0 : decode cX5_init 0 = .ok (.aload_n 0, 1) := by decide +kernel
theorem dX5_init_1 : decode cX5_init 1 = .ok (.invokespecial 3, 3) := by decide +kernel
theorem dX5_init_4 : decode cX5_init 4 = .ok (.aload_n 0, 1) := by decide +kernel
theorem dX5_init_5 : decode cX5_init 5 = .ok (.iconst 3, 1) := by decide +kernel
theorem dX5_init_6 : decode cX5_init 6 = .ok (.newarray .int, 2) := by decide +kernel
theorem dX5_init_8 : decode cX5_init 8 = .ok (.putfield 9, 3) := by decide +kernel
theorem dX5_init_11 : decode cX5_init 11 = .ok (.aload_n 0, 1) := by decide +kernel
theorem dX5_init_12 : decode cX5_init 12 = .ok (.iconst 3, 1) := by decide +kernel
theorem dX5_init_13 : decode cX5_init 13 = .ok (.newarray .int, 2) := by decide +kernel
theorem dX5_init_15 : decode cX5_init 15 = .ok (.putfield 15, 3) := by decide +kernel
theorem dX5_init_18 : decode cX5_init 18 = .ok (.aload_n 0, 1) := by decide +kernel
theorem dX5_init_19 : decode cX5_init 19 = .ok (.iconst 3, 1) := by decide +kernel
theorem dX5_init_20 : decode cX5_init 20 = .ok (.newarray .int, 2) := by decide +kernel
theorem dX5_init_22 : decode cX5_init 22 = .ok (.putfield 18, 3) := by decide +kernel
theorem dX5_init_25 : decode cX5_init 25 = .ok (.return_, 1) := by decide +kernel
theorem dX5_search_0 : decode cX5_search 0 = .ok (.aload_n 0, 1) := by decide +kernel
theorem dX5_search_1 : decode cX5_search 1 = .ok (.iconst 0, 1) := by decide +kernel
theorem dX5_search_2 : decode cX5_search 2 = .ok (.putfield 21, 3) := by decide +kernel
theorem dX5_search_5 : decode cX5_search 5 = .ok (.aload_n 0, 1) := by decide +kernel
theorem dX5_search_6 : decode cX5_search 6 = .ok (.aload_n 1, 1) := by decide +kernel
theorem dX5_search_7 : decode cX5_search 7 = .ok (.aload_n 2, 1) := by decide +kernel
theorem dX5_search_8 : decode cX5_search 8 = .ok (.invokevirtual 25, 3) := by decide +kernel
theorem dX5_search_11 : decode cX5_search 11 = .ok (.aload_n 1, 1) := by decide +kernel
theorem dX5_search_12 : decode cX5_search 12 = .ok (.getfield 29, 3) := by decide +kernel
theorem dX5_search_15 : decode cX5_search 15 = .ok (.iconst 1, 1) := by decide +kernel
theorem dX5_search_16 : decode cX5_search 16 = .ok (.if_icmp .le 8, 3) := by decide +kernel
theorem dX5_search_19 : decode cX5_search 19 = .ok (.bipush 10, 2) := by decide +kernel
theorem dX5_search_21 : decode cX5_search 21 = .ok (.goto 4, 3) := by decide +kernel
theorem dX5_search_24 : decode cX5_search 24 = .ok (.iconst 0, 1) := by decide +kernel
theorem dX5_search_25 : decode cX5_search 25 = .ok (.istore 4, 2) := by decide +kernel
theorem dX5_search_27 : decode cX5_search 27 = .ok (.aload_n 1, 1) := by decide +kernel
theorem dX5_search_28 : decode cX5_search 28 = .ok (.getfield 29, 3) := by decide +kernel
theorem dX5_search_31 : decode cX5_search 31 = .ok (.iconst 2, 1) := by decide +kernel
theorem dX5_search_32 : decode cX5_search 32 = .ok (.if_icmp .le 8, 3) := by decide +kernel
theorem dX5_search_35 : decode cX5_search 35 = .ok (.bipush 10, 2) := by decide +kernel
theorem dX5_search_37 : decode cX5_search 37 = .ok (.goto 4, 3) := by decide +kernel
theorem dX5_search_40 : decode cX5_search 40 = .ok (.iconst 0, 1) := by decide +kernel
theorem dX5_search_41 : decode cX5_search 41 = .ok (.istore 5, 2) := by decide +kernel
theorem dX5_search_43 : decode cX5_search 43 = .ok (.iconst 0, 1) := by decide +kernel
theorem dX5_search_44 : decode cX5_search 44 = .ok (.istore 6, 2) := by decide +kernel
theorem dX5_search_46 : decode cX5_search 46 = .ok (.iload 6, 2) := by decide +kernel
theorem dX5_search_48 : decode cX5_search 48 = .ok (.bipush 10, 2) := by decide +kernel
theorem dX5_search_50 : decode cX5_search 50 = .ok (.if_icmp .gt 102, 3) := by decide +kernel
theorem dX5_search_53 : decode cX5_search 53 = .ok (.iconst 0, 1) := by decide +kernel
theorem dX5_search_54 : decode cX5_search 54 = .ok (.istore 7, 2) := by decide +kernel
theorem dX5_search_56 : decode cX5_search 56 = .ok (.iload 7, 2) := by decide +kernel
theorem dX5_search_58 : decode cX5_search 58 = .ok (.iload 4, 2) := by decide +kernel
theorem dX5_search_60 : decode cX5_search 60 = .ok (.if_icmp .gt 86, 3) := by decide +kernel
theorem dX5_search_63 : decode cX5_search 63 = .ok (.iconst 0, 1) := by decide +kernel
theorem dX5_search_64 : decode cX5_search 64 = .ok (.istore 8, 2) := by decide +kernel
theorem dX5_search_66 : decode cX5_search 66 = .ok (.iload 8, 2) := by decide +kernel
theorem dX5_search_68 : decode cX5_search 68 = .ok (.iload 5, 2) := by decide +kernel
theorem dX5_search_70 : decode cX5_search 70 = .ok (.if_icmp .gt 70, 3) := by decide +kernel
theorem dX5_search_73 : decode cX5_search 73 = .ok (.aload_n 0, 1) := by decide +kernel
theorem dX5_search_74 : decode cX5_search 74 = .ok (.getfield 15, 3) := by decide +kernel
theorem dX5_search_77 : decode cX5_search 77 = .ok (.iconst 0, 1) := by decide +kernel
theorem dX5_search_78 : decode cX5_search 78 = .ok (.iload 6, 2) := by decide +kernel
theorem dX5_search_80 : decode cX5_search 80 = .ok (.iastore, 1) := by decide +kernel
theorem dX5_search_81 : decode cX5_search 81 = .ok (.aload_n 0, 1) := by decide +kernel
theorem dX5_search_82 : decode cX5_search 82 = .ok (.getfield 15, 3) := by decide +kernel
theorem dX5_search_85 : decode cX5_search 85 = .ok (.iconst 1, 1) := by decide +kernel
theorem dX5_search_86 : decode cX5_search 86 = .ok (.iload 7, 2) := by decide +kernel
theorem dX5_search_88 : decode cX5_search 88 = .ok (.iastore, 1) := by decide +kernel
theorem dX5_search_89 : decode cX5_search 89 = .ok (.aload_n 0, 1) := by decide +kernel
theorem dX5_search_90 : decode cX5_search 90 = .ok (.getfield 15, 3) := by decide +kernel
theorem dX5_search_93 : decode cX5_search 93 = .ok (.iconst 2, 1) := by decide +kernel
theorem dX5_search_94 : decode cX5_search 94 = .ok (.iload 8, 2) := by decide +kernel
theorem dX5_search_96 : decode cX5_search 96 = .ok (.iastore, 1) := by decide +kernel
theorem dX5_search_97 : decode cX5_search 97 = .ok (.aload_n 0, 1) := by decide +kernel
theorem dX5_search_98 : decode cX5_search 98 = .ok (.iload 6, 2) := by decide +kernel
theorem dX5_search_100 : decode cX5_search 100 = .ok (.iload 7, 2) := by decide +kernel
theorem dX5_search_102 : decode cX5_search 102 = .ok (.iadd, 1) := by decide +kernel
theorem dX5_search_103 : decode cX5_search 103 = .ok (.iload 8, 2) := by decide +kernel
theorem dX5_search_105 : decode cX5_search 105 = .ok (.iadd, 1) := by decide +kernel
theorem dX5_search_106 : decode cX5_search 106 = .ok (.iload_n 3, 1) := by decide +kernel
theorem dX5_search_107 : decode cX5_search 107 = .ok (.invokevirtual 35, 3) := by decide +kernel
theorem dX5_search_110 : decode cX5_search 110 = .ok (.ifCond .eq 24, 3) := by decide +kernel
theorem dX5_search_113 : decode cX5_search 113 = .ok (.aload_n 0, 1) := by decide +kernel
theorem dX5_search_114 : decode cX5_search 114 = .ok (.aload_n 1, 1) := by decide +kernel
theorem dX5_search_115 : decode cX5_search 115 = .ok (.aload_n 2, 1) := by decide +kernel
theorem dX5_search_116 : decode cX5_search 116 = .ok (.invokevirtual 39, 3) := by decide +kernel
theorem dX5_search_119 : decode cX5_search 119 = .ok (.ifCond .eq 15, 3) := by decide +kernel
theorem dX5_search_122 : decode cX5_search 122 = .ok (.aload_n 0, 1) := by decide +kernel
theorem dX5_search_123 : decode cX5_search 123 = .ok (.iload 6, 2) := by decide +kernel
theorem dX5_search_125 : decode cX5_search 125 = .ok (.iload 7, 2) := by decide +kernel
theorem dX5_search_127 : decode cX5_search 127 = .ok (.iadd, 1) := by decide +kernel
theorem dX5_search_128 : decode cX5_search 128 = .ok (.iload 8, 2) := by decide +kernel
theorem dX5_search_130 : decode cX5_search 130 = .ok (.iadd, 1) := by decide +kernel
theorem dX5_search_131 : decode cX5_search 131 = .ok (.invokevirtual 43, 3) := by decide +kernel
theorem dX5_search_134 : decode cX5_search 134 = .ok (.iinc 8 1, 3) := by decide +kernel
theorem dX5_search_137 : decode cX5_search 137 = .ok (.goto (-71), 3) := by decide +kernel
theorem dX5_search_140 : decode cX5_search 140 = .ok (.iinc 7 1, 3) := by decide +kernel
theorem dX5_search_143 : decode cX5_search 143 = .ok (.goto (-87), 3) := by decide +kernel
theorem dX5_search_146 : decode cX5_search 146 = .ok (.iinc 6 1, 3) := by decide +kernel
theorem dX5_search_149 : decode cX5_search 149 = .ok (.goto (-103), 3) := by decide +kernel
theorem dX5_search_152 : decode cX5_search 152 = .ok (.return_, 1) := by decide +kernel
theorem dX5_countHeld_0 : decode cX5_countHeld 0 = .ok (.aload_n 0, 1) := by decide +kernel
theorem dX5_countHeld_1 : decode cX5_countHeld 1 = .ok (.getfield 18, 3) := by decide +kernel
theorem dX5_countHeld_4 : decode cX5_countHeld 4 = .ok (.iconst 0, 1) := by decide +kernel
theorem dX5_countHeld_5 : decode cX5_countHeld 5 = .ok (.invokestatic 47, 3) := by decide +kernel
theorem dX5_countHeld_8 : decode cX5_countHeld 8 = .ok (.iconst 0, 1) := by decide +kernel
theorem dX5_countHeld_9 : decode cX5_countHeld 9 = .ok (.istore_n 3, 1) := by decide +kernel
theorem dX5_countHeld_10 : decode cX5_countHeld 10 = .ok (.iload_n 3, 1) := by decide +kernel
theorem dX5_countHeld_11 : decode cX5_countHeld 11 = .ok (.aload_n 1, 1) := by decide +kernel
theorem dX5_countHeld_12 : decode cX5_countHeld 12 = .ok (.getfield 53, 3) := by decide +kernel
theorem dX5_countHeld_15 : decode cX5_countHeld 15 = .ok (.if_icmp .ge 29, 3) := by decide +kernel
theorem dX5_countHeld_18 : decode cX5_countHeld 18 = .ok (.aload_n 2, 1) := by decide +kernel
theorem dX5_countHeld_19 : decode cX5_countHeld 19 = .ok (.iload_n 3, 1) := by decide +kernel
theorem dX5_countHeld_20 : decode cX5_countHeld 20 = .ok (.iaload, 1) := by decide +kernel
theorem dX5_countHeld_21 : decode cX5_countHeld 21 = .ok (.bipush (-4), 2) := by decide +kernel
theorem dX5_countHeld_23 : decode cX5_countHeld 23 = .ok (.if_icmp .eq 15, 3) := by decide +kernel
theorem dX5_countHeld_26 : decode cX5_countHeld 26 = .ok (.aload_n 0, 1) := by decide +kernel
theorem dX5_countHeld_27 : decode cX5_countHeld 27 = .ok (.getfield 18, 3) := by decide +kernel
theorem dX5_countHeld_30 : decode cX5_countHeld 30 = .ok (.aload_n 2, 1) := by decide +kernel
theorem dX5_countHeld_31 : decode cX5_countHeld 31 = .ok (.iload_n 3, 1) := by decide +kernel
theorem dX5_countHeld_32 : decode cX5_countHeld 32 = .ok (.iaload, 1) := by decide +kernel
theorem dX5_countHeld_33 : decode cX5_countHeld 33 = .ok (.dup2, 1) := by decide +kernel
theorem dX5_countHeld_34 : decode cX5_countHeld 34 = .ok (.iaload, 1) := by decide +kernel
theorem dX5_countHeld_35 : decode cX5_countHeld 35 = .ok (.iconst 1, 1) := by decide +kernel
theorem dX5_countHeld_36 : decode cX5_countHeld 36 = .ok (.iadd, 1) := by decide +kernel
theorem dX5_countHeld_37 : decode cX5_countHeld 37 = .ok (.iastore, 1) := by decide +kernel
theorem dX5_countHeld_38 : decode cX5_countHeld 38 = .ok (.iinc 3 1, 3) := by decide +kernel
theorem dX5_countHeld_41 : decode cX5_countHeld 41 = .ok (.goto (-31), 3) := by decide +kernel
theorem dX5_countHeld_44 : decode cX5_countHeld 44 = .ok (.return_, 1) := by decide +kernel
theorem dX5_isBetter_0 : decode cX5_isBetter 0 = .ok (.aload_n 0, 1) := by decide +kernel
theorem dX5_isBetter_1 : decode cX5_isBetter 1 = .ok (.getfield 21, 3) := by decide +kernel
theorem dX5_isBetter_4 : decode cX5_isBetter 4 = .ok (.ifCond .ne 5, 3) := by decide +kernel
theorem dX5_isBetter_7 : decode cX5_isBetter 7 = .ok (.iconst 1, 1) := by decide +kernel
theorem dX5_isBetter_8 : decode cX5_isBetter 8 = .ok (.ireturn, 1) := by decide +kernel
theorem dX5_isBetter_9 : decode cX5_isBetter 9 = .ok (.iload_n 2, 1) := by decide +kernel
theorem dX5_isBetter_10 : decode cX5_isBetter 10 = .ok (.ifCond .eq 19, 3) := by decide +kernel
theorem dX5_isBetter_13 : decode cX5_isBetter 13 = .ok (.iload_n 1, 1) := by decide +kernel
theorem dX5_isBetter_14 : decode cX5_isBetter 14 = .ok (.aload_n 0, 1) := by decide +kernel
theorem dX5_isBetter_15 : decode cX5_isBetter 15 = .ok (.getfield 56, 3) := by decide +kernel
theorem dX5_isBetter_18 : decode cX5_isBetter 18 = .ok (.if_icmp .le 7, 3) := by decide +kernel
theorem dX5_isBetter_21 : decode cX5_isBetter 21 = .ok (.iconst 1, 1) := by decide +kernel
theorem dX5_isBetter_22 : decode cX5_isBetter 22 = .ok (.goto 20, 3) := by decide +kernel
theorem dX5_isBetter_25 : decode cX5_isBetter 25 = .ok (.iconst 0, 1) := by decide +kernel
theorem dX5_isBetter_26 : decode cX5_isBetter 26 = .ok (.goto 16, 3) := by decide +kernel
theorem dX5_isBetter_29 : decode cX5_isBetter 29 = .ok (.iload_n 1, 1) := by decide +kernel
theorem dX5_isBetter_30 : decode cX5_isBetter 30 = .ok (.aload_n 0, 1) := by decide +kernel
theorem dX5_isBetter_31 : decode cX5_isBetter 31 = .ok (.getfield 56, 3) := by decide +kernel
theorem dX5_isBetter_34 : decode cX5_isBetter 34 = .ok (.if_icmp .ge 7, 3) := by decide +kernel
theorem dX5_isBetter_37 : decode cX5_isBetter 37 = .ok (.iconst 1, 1) := by decide +kernel
theorem dX5_isBetter_38 : decode cX5_isBetter 38 = .ok (.goto 4, 3) := by decide +kernel
theorem dX5_isBetter_41 : decode cX5_isBetter 41 = .ok (.iconst 0, 1) := by decide +kernel
theorem dX5_isBetter_42 : decode cX5_isBetter 42 = .ok (.ireturn, 1) := by decide +kernel
theorem dX5_noteAsked_0 : decode cX5_noteAsked 0 = .ok (.aload_n 0, 1) := by decide +kernel
theorem dX5_noteAsked_1 : decode cX5_noteAsked 1 = .ok (.iconst 1, 1) := by decide +kernel
theorem dX5_noteAsked_2 : decode cX5_noteAsked 2 = .ok (.putfield 21, 3) := by decide +kernel
theorem dX5_noteAsked_5 : decode cX5_noteAsked 5 = .ok (.aload_n 0, 1) := by decide +kernel
theorem dX5_noteAsked_6 : decode cX5_noteAsked 6 = .ok (.iload_n 1, 1) := by decide +kernel
theorem dX5_noteAsked_7 : decode cX5_noteAsked 7 = .ok (.putfield 56, 3) := by decide +kernel
theorem dX5_noteAsked_10 : decode cX5_noteAsked 10 = .ok (.aload_n 0, 1) := by decide +kernel
theorem dX5_noteAsked_11 : decode cX5_noteAsked 11 = .ok (.getfield 15, 3) := by decide +kernel
theorem dX5_noteAsked_14 : decode cX5_noteAsked 14 = .ok (.iconst 0, 1) := by decide +kernel
theorem dX5_noteAsked_15 : decode cX5_noteAsked 15 = .ok (.aload_n 0, 1) := by decide +kernel
theorem dX5_noteAsked_16 : decode cX5_noteAsked 16 = .ok (.getfield 9, 3) := by decide +kernel
theorem dX5_noteAsked_19 : decode cX5_noteAsked 19 = .ok (.iconst 0, 1) := by decide +kernel
theorem dX5_noteAsked_20 : decode cX5_noteAsked 20 = .ok (.iconst 3, 1) := by decide +kernel
theorem dX5_noteAsked_21 : decode cX5_noteAsked 21 = .ok (.invokestatic 59, 3) := by decide +kernel
theorem dX5_noteAsked_24 : decode cX5_noteAsked 24 = .ok (.return_, 1) := by decide +kernel
theorem dX5_isAtRest_0 : decode cX5_isAtRest 0 = .ok (.iconst 0, 1) := by decide +kernel
theorem dX5_isAtRest_1 : decode cX5_isAtRest 1 = .ok (.istore_n 3, 1) := by decide +kernel
theorem dX5_isAtRest_2 : decode cX5_isAtRest 2 = .ok (.iload_n 3, 1) := by decide +kernel
theorem dX5_isAtRest_3 : decode cX5_isAtRest 3 = .ok (.aload_n 1, 1) := by decide +kernel
theorem dX5_isAtRest_4 : decode cX5_isAtRest 4 = .ok (.getfield 29, 3) := by decide +kernel
theorem dX5_isAtRest_7 : decode cX5_isAtRest 7 = .ok (.if_icmp .ge 35, 3) := by decide +kernel
theorem dX5_isAtRest_10 : decode cX5_isAtRest 10 = .ok (.aload_n 0, 1) := by decide +kernel
theorem dX5_isAtRest_11 : decode cX5_isAtRest 11 = .ok (.getfield 15, 3) := by decide +kernel
theorem dX5_isAtRest_14 : decode cX5_isAtRest 14 = .ok (.iload_n 3, 1) := by decide +kernel
theorem dX5_isAtRest_15 : decode cX5_isAtRest 15 = .ok (.iaload, 1) := by decide +kernel
theorem dX5_isAtRest_16 : decode cX5_isAtRest 16 = .ok (.ifCond .le 20, 3) := by decide +kernel
theorem dX5_isAtRest_19 : decode cX5_isAtRest 19 = .ok (.aload_n 0, 1) := by decide +kernel
theorem dX5_isAtRest_20 : decode cX5_isAtRest 20 = .ok (.getfield 18, 3) := by decide +kernel
theorem dX5_isAtRest_23 : decode cX5_isAtRest 23 = .ok (.iload_n 3, 1) := by decide +kernel
theorem dX5_isAtRest_24 : decode cX5_isAtRest 24 = .ok (.iaload, 1) := by decide +kernel
theorem dX5_isAtRest_25 : decode cX5_isAtRest 25 = .ok (.aload_n 1, 1) := by decide +kernel
theorem dX5_isAtRest_26 : decode cX5_isAtRest 26 = .ok (.getfield 65, 3) := by decide +kernel
theorem dX5_isAtRest_29 : decode cX5_isAtRest 29 = .ok (.iload_n 3, 1) := by decide +kernel
theorem dX5_isAtRest_30 : decode cX5_isAtRest 30 = .ok (.iaload, 1) := by decide +kernel
theorem dX5_isAtRest_31 : decode cX5_isAtRest 31 = .ok (.if_icmp .eq 5, 3) := by decide +kernel
theorem dX5_isAtRest_34 : decode cX5_isAtRest 34 = .ok (.iconst 0, 1) := by decide +kernel
theorem dX5_isAtRest_35 : decode cX5_isAtRest 35 = .ok (.ireturn, 1) := by decide +kernel
theorem dX5_isAtRest_36 : decode cX5_isAtRest 36 = .ok (.iinc 3 1, 3) := by decide +kernel
theorem dX5_isAtRest_39 : decode cX5_isAtRest 39 = .ok (.goto (-37), 3) := by decide +kernel
theorem dX5_isAtRest_42 : decode cX5_isAtRest 42 = .ok (.iconst 0, 1) := by decide +kernel
theorem dX5_isAtRest_43 : decode cX5_isAtRest 43 = .ok (.istore_n 3, 1) := by decide +kernel
theorem dX5_isAtRest_44 : decode cX5_isAtRest 44 = .ok (.iload_n 3, 1) := by decide +kernel
theorem dX5_isAtRest_45 : decode cX5_isAtRest 45 = .ok (.aload_n 1, 1) := by decide +kernel
theorem dX5_isAtRest_46 : decode cX5_isAtRest 46 = .ok (.getfield 53, 3) := by decide +kernel
theorem dX5_isAtRest_49 : decode cX5_isAtRest 49 = .ok (.if_icmp .ge 23, 3) := by decide +kernel
theorem dX5_isAtRest_52 : decode cX5_isAtRest 52 = .ok (.aload_n 0, 1) := by decide +kernel
theorem dX5_isAtRest_53 : decode cX5_isAtRest 53 = .ok (.aload_n 1, 1) := by decide +kernel
theorem dX5_isAtRest_54 : decode cX5_isAtRest 54 = .ok (.iload_n 3, 1) := by decide +kernel
theorem dX5_isAtRest_55 : decode cX5_isAtRest 55 = .ok (.aload_n 2, 1) := by decide +kernel
theorem dX5_isAtRest_56 : decode cX5_isAtRest 56 = .ok (.iload_n 3, 1) := by decide +kernel
theorem dX5_isAtRest_57 : decode cX5_isAtRest 57 = .ok (.iaload, 1) := by decide +kernel
theorem dX5_isAtRest_58 : decode cX5_isAtRest 58 = .ok (.invokevirtual 68, 3) := by decide +kernel
theorem dX5_isAtRest_61 : decode cX5_isAtRest 61 = .ok (.ifCond .ne 5, 3) := by decide +kernel
theorem dX5_isAtRest_64 : decode cX5_isAtRest 64 = .ok (.iconst 0, 1) := by decide +kernel
theorem dX5_isAtRest_65 : decode cX5_isAtRest 65 = .ok (.ireturn, 1) := by decide +kernel
theorem dX5_isAtRest_66 : decode cX5_isAtRest 66 = .ok (.iinc 3 1, 3) := by decide +kernel
theorem dX5_isAtRest_69 : decode cX5_isAtRest 69 = .ok (.goto (-25), 3) := by decide +kernel
theorem dX5_isAtRest_72 : decode cX5_isAtRest 72 = .ok (.iconst 1, 1) := by decide +kernel
theorem dX5_isAtRest_73 : decode cX5_isAtRest 73 = .ok (.ireturn, 1) := by decide +kernel
theorem dX5_isContent_0 : decode cX5_isContent 0 = .ok (.iload_n 3, 1) := by decide +kernel
theorem dX5_isContent_1 : decode cX5_isContent 1 = .ok (.bipush (-4), 2) := by decide +kernel
theorem dX5_isContent_3 : decode cX5_isContent 3 = .ok (.if_icmp .ne 7, 3) := by decide +kernel
theorem dX5_isContent_6 : decode cX5_isContent 6 = .ok (.iconst 0, 1) := by decide +kernel
theorem dX5_isContent_7 : decode cX5_isContent 7 = .ok (.goto 18, 3) := by decide +kernel
theorem dX5_isContent_10 : decode cX5_isContent 10 = .ok (.aload_n 1, 1) := by decide +kernel
theorem dX5_isContent_11 : decode cX5_isContent 11 = .ok (.getfield 72, 3) := by decide +kernel
theorem dX5_isContent_14 : decode cX5_isContent 14 = .ok (.iload_n 2, 1) := by decide +kernel
theorem dX5_isContent_15 : decode cX5_isContent 15 = .ok (.aaload, 1) := by decide +kernel
theorem dX5_isContent_16 : decode cX5_isContent 16 = .ok (.iload_n 3, 1) := by decide +kernel
theorem dX5_isContent_17 : decode cX5_isContent 17 = .ok (.iaload, 1) := by decide +kernel
theorem dX5_isContent_18 : decode cX5_isContent 18 = .ok (.aload_n 0, 1) := by decide +kernel
theorem dX5_isContent_19 : decode cX5_isContent 19 = .ok (.getfield 15, 3) := by decide +kernel
theorem dX5_isContent_22 : decode cX5_isContent 22 = .ok (.iload_n 3, 1) := by decide +kernel
theorem dX5_isContent_23 : decode cX5_isContent 23 = .ok (.iaload, 1) := by decide +kernel
theorem dX5_isContent_24 : decode cX5_isContent 24 = .ok (.isub, 1) := by decide +kernel
theorem dX5_isContent_25 : decode cX5_isContent 25 = .ok (.istore 4, 2) := by decide +kernel
theorem dX5_isContent_27 : decode cX5_isContent 27 = .ok (.iload 4, 2) := by decide +kernel
theorem dX5_isContent_29 : decode cX5_isContent 29 = .ok (.ifCond .ge 5, 3) := by decide +kernel
theorem dX5_isContent_32 : decode cX5_isContent 32 = .ok (.iconst 0, 1) := by decide +kernel
theorem dX5_isContent_33 : decode cX5_isContent 33 = .ok (.ireturn, 1) := by decide +kernel
theorem dX5_isContent_34 : decode cX5_isContent 34 = .ok (.iconst 0, 1) := by decide +kernel
theorem dX5_isContent_35 : decode cX5_isContent 35 = .ok (.istore 5, 2) := by decide +kernel
theorem dX5_isContent_37 : decode cX5_isContent 37 = .ok (.iload 5, 2) := by decide +kernel
theorem dX5_isContent_39 : decode cX5_isContent 39 = .ok (.aload_n 1, 1) := by decide +kernel
theorem dX5_isContent_40 : decode cX5_isContent 40 = .ok (.getfield 29, 3) := by decide +kernel
theorem dX5_isContent_43 : decode cX5_isContent 43 = .ok (.if_icmp .ge 33, 3) := by decide +kernel
theorem dX5_isContent_46 : decode cX5_isContent 46 = .ok (.aload_n 1, 1) := by decide +kernel
theorem dX5_isContent_47 : decode cX5_isContent 47 = .ok (.getfield 72, 3) := by decide +kernel
theorem dX5_isContent_50 : decode cX5_isContent 50 = .ok (.iload_n 2, 1) := by decide +kernel
theorem dX5_isContent_51 : decode cX5_isContent 51 = .ok (.aaload, 1) := by decide +kernel
theorem dX5_isContent_52 : decode cX5_isContent 52 = .ok (.iload 5, 2) := by decide +kernel
theorem dX5_isContent_54 : decode cX5_isContent 54 = .ok (.iaload, 1) := by decide +kernel
theorem dX5_isContent_55 : decode cX5_isContent 55 = .ok (.aload_n 0, 1) := by decide +kernel
theorem dX5_isContent_56 : decode cX5_isContent 56 = .ok (.getfield 15, 3) := by decide +kernel
theorem dX5_isContent_59 : decode cX5_isContent 59 = .ok (.iload 5, 2) := by decide +kernel
theorem dX5_isContent_61 : decode cX5_isContent 61 = .ok (.iaload, 1) := by decide +kernel
theorem dX5_isContent_62 : decode cX5_isContent 62 = .ok (.isub, 1) := by decide +kernel
theorem dX5_isContent_63 : decode cX5_isContent 63 = .ok (.iload 4, 2) := by decide +kernel
theorem dX5_isContent_65 : decode cX5_isContent 65 = .ok (.if_icmp .le 5, 3) := by decide +kernel
theorem dX5_isContent_68 : decode cX5_isContent 68 = .ok (.iconst 0, 1) := by decide +kernel
theorem dX5_isContent_69 : decode cX5_isContent 69 = .ok (.ireturn, 1) := by decide +kernel
theorem dX5_isContent_70 : decode cX5_isContent 70 = .ok (.iinc 5 1, 3) := by decide +kernel
theorem dX5_isContent_73 : decode cX5_isContent 73 = .ok (.goto (-36), 3) := by decide +kernel
theorem dX5_isContent_76 : decode cX5_isContent 76 = .ok (.iconst 1, 1) := by decide +kernel
theorem dX5_isContent_77 : decode cX5_isContent 77 = .ok (.ireturn, 1) := by decide +kernel
theorem dX6_init_0 : decode cX6_init 0 = .ok (.aload_n 0, 1) := by decide +kernel
theorem dX6_init_1 : decode cX6_init 1 = .ok (.invokespecial 3, 3) := by decide +kernel
theorem dX6_init_4 : decode cX6_init 4 = .ok (.aload_n 0, 1) := by decide +kernel
theorem dX6_init_5 : decode cX6_init 5 = .ok (.iconst 2, 1) := by decide +kernel
theorem dX6_init_6 : decode cX6_init 6 = .ok (.bipush 7, 2) := by decide +kernel
theorem dX6_init_8 : decode cX6_init 8 = .ok (.multianewarray 9 2, 4) := by decide +kernel
theorem dX6_init_12 : decode cX6_init 12 = .ok (.putfield 11, 3) := by decide +kernel
theorem dX6_init_15 : decode cX6_init 15 = .ok (.return_, 1) := by decide +kernel
theorem dX6_put_0 : decode cX6_put 0 = .ok (.aload_n 1, 1) := by decide +kernel
theorem dX6_put_1 : decode cX6_put 1 = .ok (.getfield 16, 3) := by decide +kernel
theorem dX6_put_4 : decode cX6_put 4 = .ok (.iconst 0, 1) := by decide +kernel
theorem dX6_put_5 : decode cX6_put 5 = .ok (.aload_n 0, 1) := by decide +kernel
theorem dX6_put_6 : decode cX6_put 6 = .ok (.getfield 11, 3) := by decide +kernel
theorem dX6_put_9 : decode cX6_put 9 = .ok (.aload_n 0, 1) := by decide +kernel
theorem dX6_put_10 : decode cX6_put 10 = .ok (.getfield 22, 3) := by decide +kernel
theorem dX6_put_13 : decode cX6_put 13 = .ok (.aaload, 1) := by decide +kernel
theorem dX6_put_14 : decode cX6_put 14 = .ok (.iconst 0, 1) := by decide +kernel
theorem dX6_put_15 : decode cX6_put 15 = .ok (.bipush 7, 2) := by decide +kernel
theorem dX6_put_17 : decode cX6_put 17 = .ok (.invokestatic 26, 3) := by decide +kernel
theorem dX6_put_20 : decode cX6_put 20 = .ok (.aload_n 0, 1) := by decide +kernel
theorem dX6_put_21 : decode cX6_put 21 = .ok (.dup, 1) := by decide +kernel
theorem dX6_put_22 : decode cX6_put 22 = .ok (.getfield 22, 3) := by decide +kernel
theorem dX6_put_25 : decode cX6_put 25 = .ok (.iconst 1, 1) := by decide +kernel
theorem dX6_put_26 : decode cX6_put 26 = .ok (.iadd, 1) := by decide +kernel
theorem dX6_put_27 : decode cX6_put 27 = .ok (.putfield 22, 3) := by decide +kernel
theorem dX6_put_30 : decode cX6_put 30 = .ok (.return_, 1) := by decide +kernel
theorem dX6_takeInto_0 : decode cX6_takeInto 0 = .ok (.aload_n 0, 1) := by decide +kernel
theorem dX6_takeInto_1 : decode cX6_takeInto 1 = .ok (.dup, 1) := by decide +kernel
theorem dX6_takeInto_2 : decode cX6_takeInto 2 = .ok (.getfield 22, 3) := by decide +kernel
theorem dX6_takeInto_5 : decode cX6_takeInto 5 = .ok (.iconst 1, 1) := by decide +kernel
theorem dX6_takeInto_6 : decode cX6_takeInto 6 = .ok (.isub, 1) := by decide +kernel
theorem dX6_takeInto_7 : decode cX6_takeInto 7 = .ok (.putfield 22, 3) := by decide +kernel
theorem dX6_takeInto_10 : decode cX6_takeInto 10 = .ok (.aload_n 0, 1) := by decide +kernel
theorem dX6_takeInto_11 : decode cX6_takeInto 11 = .ok (.getfield 11, 3) := by decide +kernel
theorem dX6_takeInto_14 : decode cX6_takeInto 14 = .ok (.aload_n 0, 1) := by decide +kernel
theorem dX6_takeInto_15 : decode cX6_takeInto 15 = .ok (.getfield 22, 3) := by decide +kernel
theorem dX6_takeInto_18 : decode cX6_takeInto 18 = .ok (.aaload, 1) := by decide +kernel
theorem dX6_takeInto_19 : decode cX6_takeInto 19 = .ok (.iconst 0, 1) := by decide +kernel
theorem dX6_takeInto_20 : decode cX6_takeInto 20 = .ok (.aload_n 1, 1) := by decide +kernel
theorem dX6_takeInto_21 : decode cX6_takeInto 21 = .ok (.getfield 16, 3) := by decide +kernel
theorem dX6_takeInto_24 : decode cX6_takeInto 24 = .ok (.iconst 0, 1) := by decide +kernel
theorem dX6_takeInto_25 : decode cX6_takeInto 25 = .ok (.bipush 7, 2) := by decide +kernel
theorem dX6_takeInto_27 : decode cX6_takeInto 27 = .ok (.invokestatic 26, 3) := by decide +kernel
theorem dX6_takeInto_30 : decode cX6_takeInto 30 = .ok (.return_, 1) := by decide +kernel
theorem dX7_init_0 : decode cX7_init 0 = .ok (.aload_n 0, 1) := by decide +kernel
theorem dX7_init_1 : decode cX7_init 1 = .ok (.invokespecial 3, 3) := by decide +kernel
theorem dX7_init_4 : decode cX7_init 4 = .ok (.aload_n 0, 1) := by decide +kernel
theorem dX7_init_5 : decode cX7_init 5 = .ok (.bipush 6, 2) := by decide +kernel
theorem dX7_init_7 : decode cX7_init 7 = .ok (.newarray .int, 2) := by decide +kernel
theorem dX7_init_9 : decode cX7_init 9 = .ok (.putfield 9, 3) := by decide +kernel
theorem dX7_init_12 : decode cX7_init 12 = .ok (.aload_n 0, 1) := by decide +kernel
theorem dX7_init_13 : decode cX7_init 13 = .ok (.bipush 6, 2) := by decide +kernel
theorem dX7_init_15 : decode cX7_init 15 = .ok (.newarray .int, 2) := by decide +kernel
theorem dX7_init_17 : decode cX7_init 17 = .ok (.putfield 15, 3) := by decide +kernel
theorem dX7_init_20 : decode cX7_init 20 = .ok (.return_, 1) := by decide +kernel
theorem dX7_add_0 : decode cX7_add 0 = .ok (.aload_n 0, 1) := by decide +kernel
theorem dX7_add_1 : decode cX7_add 1 = .ok (.getfield 9, 3) := by decide +kernel
theorem dX7_add_4 : decode cX7_add 4 = .ok (.aload_n 0, 1) := by decide +kernel
theorem dX7_add_5 : decode cX7_add 5 = .ok (.getfield 18, 3) := by decide +kernel
theorem dX7_add_8 : decode cX7_add 8 = .ok (.iload_n 1, 1) := by decide +kernel
theorem dX7_add_9 : decode cX7_add 9 = .ok (.iastore, 1) := by decide +kernel
theorem dX7_add_10 : decode cX7_add 10 = .ok (.aload_n 0, 1) := by decide +kernel
theorem dX7_add_11 : decode cX7_add 11 = .ok (.getfield 15, 3) := by decide +kernel
theorem dX7_add_14 : decode cX7_add 14 = .ok (.aload_n 0, 1) := by decide +kernel
theorem dX7_add_15 : decode cX7_add 15 = .ok (.getfield 18, 3) := by decide +kernel
theorem dX7_add_18 : decode cX7_add 18 = .ok (.iload_n 2, 1) := by decide +kernel
theorem dX7_add_19 : decode cX7_add 19 = .ok (.iastore, 1) := by decide +kernel
theorem dX7_add_20 : decode cX7_add 20 = .ok (.aload_n 0, 1) := by decide +kernel
theorem dX7_add_21 : decode cX7_add 21 = .ok (.dup, 1) := by decide +kernel
theorem dX7_add_22 : decode cX7_add 22 = .ok (.getfield 18, 3) := by decide +kernel
theorem dX7_add_25 : decode cX7_add 25 = .ok (.iconst 1, 1) := by decide +kernel
theorem dX7_add_26 : decode cX7_add 26 = .ok (.iadd, 1) := by decide +kernel
theorem dX7_add_27 : decode cX7_add 27 = .ok (.putfield 18, 3) := by decide +kernel
theorem dX7_add_30 : decode cX7_add 30 = .ok (.return_, 1) := by decide +kernel
theorem dX7_fit_0 : decode cX7_fit 0 = .ok (.iconst 0, 1) := by decide +kernel
theorem dX7_fit_1 : decode cX7_fit 1 = .ok (.istore_n 3, 1) := by decide +kernel
theorem dX7_fit_2 : decode cX7_fit 2 = .ok (.iload_n 3, 1) := by decide +kernel
theorem dX7_fit_3 : decode cX7_fit 3 = .ok (.aload_n 0, 1) := by decide +kernel
theorem dX7_fit_4 : decode cX7_fit 4 = .ok (.getfield 18, 3) := by decide +kernel
theorem dX7_fit_7 : decode cX7_fit 7 = .ok (.if_icmp .ge 31, 3) := by decide +kernel
theorem dX7_fit_10 : decode cX7_fit 10 = .ok (.aload_n 2, 1) := by decide +kernel
theorem dX7_fit_11 : decode cX7_fit 11 = .ok (.aload_n 1, 1) := by decide +kernel
theorem dX7_fit_12 : decode cX7_fit 12 = .ok (.aload_n 0, 1) := by decide +kernel
theorem dX7_fit_13 : decode cX7_fit 13 = .ok (.getfield 9, 3) := by decide +kernel
theorem dX7_fit_16 : decode cX7_fit 16 = .ok (.iload_n 3, 1) := by decide +kernel
theorem dX7_fit_17 : decode cX7_fit 17 = .ok (.iaload, 1) := by decide +kernel
theorem dX7_fit_18 : decode cX7_fit 18 = .ok (.invokevirtual 22, 3) := by decide +kernel
theorem dX7_fit_21 : decode cX7_fit 21 = .ok (.aload_n 0, 1) := by decide +kernel
theorem dX7_fit_22 : decode cX7_fit 22 = .ok (.getfield 15, 3) := by decide +kernel
theorem dX7_fit_25 : decode cX7_fit 25 = .ok (.iload_n 3, 1) := by decide +kernel
theorem dX7_fit_26 : decode cX7_fit 26 = .ok (.iaload, 1) := by decide +kernel
theorem dX7_fit_27 : decode cX7_fit 27 = .ok (.if_icmp .eq 5, 3) := by decide +kernel
theorem dX7_fit_30 : decode cX7_fit 30 = .ok (.iconst 0, 1) := by decide +kernel
theorem dX7_fit_31 : decode cX7_fit 31 = .ok (.ireturn, 1) := by decide +kernel
theorem dX7_fit_32 : decode cX7_fit 32 = .ok (.iinc 3 1, 3) := by decide +kernel
theorem dX7_fit_35 : decode cX7_fit 35 = .ok (.goto (-33), 3) := by decide +kernel
theorem dX7_fit_38 : decode cX7_fit 38 = .ok (.iconst 1, 1) := by decide +kernel
theorem dX7_fit_39 : decode cX7_fit 39 = .ok (.ireturn, 1) := by decide +kernel
theorem dX8_init_0 : decode cX8_init 0 = .ok (.aload_n 0, 1) := by decide +kernel
theorem dX8_init_1 : decode cX8_init 1 = .ok (.invokespecial 3, 3) := by decide +kernel
theorem dX8_init_4 : decode cX8_init 4 = .ok (.aload_n 0, 1) := by decide +kernel
theorem dX8_init_5 : decode cX8_init 5 = .ok (.sipush 300, 3) := by decide +kernel
theorem dX8_init_8 : decode cX8_init 8 = .ok (.newarray .byte, 2) := by decide +kernel
theorem dX8_init_10 : decode cX8_init 10 = .ok (.putfield 9, 3) := by decide +kernel
theorem dX8_init_13 : decode cX8_init 13 = .ok (.aload_n 0, 1) := by decide +kernel
theorem dX8_init_14 : decode cX8_init 14 = .ok (.iconst 3, 1) := by decide +kernel
theorem dX8_init_15 : decode cX8_init 15 = .ok (.newarray .int, 2) := by decide +kernel
theorem dX8_init_17 : decode cX8_init 17 = .ok (.putfield 15, 3) := by decide +kernel
theorem dX8_init_20 : decode cX8_init 20 = .ok (.return_, 1) := by decide +kernel
theorem dX8_append_0 : decode cX8_append 0 = .ok (.iload_n 1, 1) := by decide +kernel
theorem dX8_append_1 : decode cX8_append 1 = .ok (.iconst 1, 1) := by decide +kernel
theorem dX8_append_2 : decode cX8_append 2 = .ok (.isub, 1) := by decide +kernel
theorem dX8_append_3 : decode cX8_append 3 = .ok (.istore 4, 2) := by decide +kernel
theorem dX8_append_5 : decode cX8_append 5 = .ok (.iload 4, 2) := by decide +kernel
theorem dX8_append_7 : decode cX8_append 7 = .ok (.ifCond .lt 47, 3) := by decide +kernel
theorem dX8_append_10 : decode cX8_append 10 = .ok (.aload_n 0, 1) := by decide +kernel
theorem dX8_append_11 : decode cX8_append 11 = .ok (.getfield 19, 3) := by decide +kernel
theorem dX8_append_14 : decode cX8_append 14 = .ok (.sipush 300, 3) := by decide +kernel
theorem dX8_append_17 : decode cX8_append 17 = .ok (.if_icmp .ge 37, 3) := by decide +kernel
theorem dX8_append_20 : decode cX8_append 20 = .ok (.aload_n 0, 1) := by decide +kernel
theorem dX8_append_21 : decode cX8_append 21 = .ok (.getfield 9, 3) := by decide +kernel
theorem dX8_append_24 : decode cX8_append 24 = .ok (.aload_n 0, 1) := by decide +kernel
theorem dX8_append_25 : decode cX8_append 25 = .ok (.getfield 19, 3) := by decide +kernel
theorem dX8_append_28 : decode cX8_append 28 = .ok (.lload_n 2, 1) := by decide +kernel
theorem dX8_append_29 : decode cX8_append 29 = .ok (.bipush 8, 2) := by decide +kernel
theorem dX8_append_31 : decode cX8_append 31 = .ok (.iload 4, 2) := by decide +kernel
theorem dX8_append_33 : decode cX8_append 33 = .ok (.imul, 1) := by decide +kernel
theorem dX8_append_34 : decode cX8_append 34 = .ok (.lshr, 1) := by decide +kernel
theorem dX8_append_35 : decode cX8_append 35 = .ok (.l2i, 1) := by decide +kernel
theorem dX8_append_36 : decode cX8_append 36 = .ok (.i2b, 1) := by decide +kernel
theorem dX8_append_37 : decode cX8_append 37 = .ok (.bastore, 1) := by decide +kernel
theorem dX8_append_38 : decode cX8_append 38 = .ok (.aload_n 0, 1) := by decide +kernel
theorem dX8_append_39 : decode cX8_append 39 = .ok (.dup, 1) := by decide +kernel
theorem dX8_append_40 : decode cX8_append 40 = .ok (.getfield 19, 3) := by decide +kernel
theorem dX8_append_43 : decode cX8_append 43 = .ok (.iconst 1, 1) := by decide +kernel
theorem dX8_append_44 : decode cX8_append 44 = .ok (.iadd, 1) := by decide +kernel
theorem dX8_append_45 : decode cX8_append 45 = .ok (.putfield 19, 3) := by decide +kernel
theorem dX8_append_48 : decode cX8_append 48 = .ok (.iinc 4 (-1), 3) := by decide +kernel
theorem dX8_append_51 : decode cX8_append 51 = .ok (.goto (-46), 3) := by decide +kernel
theorem dX8_append_54 : decode cX8_append 54 = .ok (.return_, 1) := by decide +kernel
theorem dX8_readInto_0 : decode cX8_readInto 0 = .ok (.aload_n 1, 1) := by decide +kernel
theorem dX8_readInto_1 : decode cX8_readInto 1 = .ok (.invokevirtual 23, 3) := by decide +kernel
theorem dX8_readInto_4 : decode cX8_readInto 4 = .ok (.iconst 0, 1) := by decide +kernel
theorem dX8_readInto_5 : decode cX8_readInto 5 = .ok (.istore_n 2, 1) := by decide +kernel
theorem dX8_readInto_6 : decode cX8_readInto 6 = .ok (.iconst 0, 1) := by decide +kernel
theorem dX8_readInto_7 : decode cX8_readInto 7 = .ok (.istore_n 3, 1) := by decide +kernel
theorem dX8_readInto_8 : decode cX8_readInto 8 = .ok (.iload_n 3, 1) := by decide +kernel
theorem dX8_readInto_9 : decode cX8_readInto 9 = .ok (.sipush 300, 3) := by decide +kernel
theorem dX8_readInto_12 : decode cX8_readInto 12 = .ok (.if_icmp .ge 61, 3) := by decide +kernel
theorem dX8_readInto_15 : decode cX8_readInto 15 = .ok (.iload_n 2, 1) := by decide +kernel
theorem dX8_readInto_16 : decode cX8_readInto 16 = .ok (.aload_n 0, 1) := by decide +kernel
theorem dX8_readInto_17 : decode cX8_readInto 17 = .ok (.getfield 19, 3) := by decide +kernel
theorem dX8_readInto_20 : decode cX8_readInto 20 = .ok (.if_icmp .ge 53, 3) := by decide +kernel
theorem dX8_readInto_23 : decode cX8_readInto 23 = .ok (.aload_n 0, 1) := by decide +kernel
theorem dX8_readInto_24 : decode cX8_readInto 24 = .ok (.getfield 9, 3) := by decide +kernel
theorem dX8_readInto_27 : decode cX8_readInto 27 = .ok (.iload_n 2, 1) := by decide +kernel
theorem dX8_readInto_28 : decode cX8_readInto 28 = .ok (.baload, 1) := by decide +kernel
theorem dX8_readInto_29 : decode cX8_readInto 29 = .ok (.istore 4, 2) := by decide +kernel
theorem dX8_readInto_31 : decode cX8_readInto 31 = .ok (.aload_n 0, 1) := by decide +kernel
theorem dX8_readInto_32 : decode cX8_readInto 32 = .ok (.iload_n 2, 1) := by decide +kernel
theorem dX8_readInto_33 : decode cX8_readInto 33 = .ok (.iconst 1, 1) := by decide +kernel
theorem dX8_readInto_34 : decode cX8_readInto 34 = .ok (.iadd, 1) := by decide +kernel
theorem dX8_readInto_35 : decode cX8_readInto 35 = .ok (.iload 4, 2) := by decide +kernel
theorem dX8_readInto_37 : decode cX8_readInto 37 = .ok (.invokestatic 28, 3) := by decide +kernel
theorem dX8_readInto_40 : decode cX8_readInto 40 = .ok (.invokevirtual 32, 3) := by decide +kernel
theorem dX8_readInto_43 : decode cX8_readInto 43 = .ok (.istore 5, 2) := by decide +kernel
theorem dX8_readInto_45 : decode cX8_readInto 45 = .ok (.iload 5, 2) := by decide +kernel
theorem dX8_readInto_47 : decode cX8_readInto 47 = .ok (.bipush (-4), 2) := by decide +kernel
theorem dX8_readInto_49 : decode cX8_readInto 49 = .ok (.if_icmp .eq 13, 3) := by decide +kernel
theorem dX8_readInto_52 : decode cX8_readInto 52 = .ok (.aload_n 0, 1) := by decide +kernel
theorem dX8_readInto_53 : decode cX8_readInto 53 = .ok (.aload_n 1, 1) := by decide +kernel
theorem dX8_readInto_54 : decode cX8_readInto 54 = .ok (.iload 4, 2) := by decide +kernel
theorem dX8_readInto_56 : decode cX8_readInto 56 = .ok (.invokevirtual 36, 3) := by decide +kernel
theorem dX8_readInto_59 : decode cX8_readInto 59 = .ok (.ifCond .ne 5, 3) := by decide +kernel
theorem dX8_readInto_62 : decode cX8_readInto 62 = .ok (.iload_n 2, 1) := by decide +kernel
theorem dX8_readInto_63 : decode cX8_readInto 63 = .ok (.ireturn, 1) := by decide +kernel
theorem dX8_readInto_64 : decode cX8_readInto 64 = .ok (.iload 5, 2) := by decide +kernel
theorem dX8_readInto_66 : decode cX8_readInto 66 = .ok (.istore_n 2, 1) := by decide +kernel
theorem dX8_readInto_67 : decode cX8_readInto 67 = .ok (.iinc 3 1, 3) := by decide +kernel
theorem dX8_readInto_70 : decode cX8_readInto 70 = .ok (.goto (-62), 3) := by decide +kernel
theorem dX8_readInto_73 : decode cX8_readInto 73 = .ok (.bipush (-4), 2) := by decide +kernel
theorem dX8_readInto_75 : decode cX8_readInto 75 = .ok (.ireturn, 1) := by decide +kernel
theorem dX8_numbersOf_0 : decode cX8_numbersOf 0 = .ok (.iload_n 0, 1) := by decide +kernel
theorem dX8_numbersOf_1 : decode cX8_numbersOf 1 = .ok (.lookupswitch 61 #[(99, 57), (108, 53), (109, 51), (115, 59), (119, 55)], 51) := by decide +kernel
theorem dX8_numbersOf_52 : decode cX8_numbersOf 52 = .ok (.iconst 1, 1) := by decide +kernel
theorem dX8_numbersOf_53 : decode cX8_numbersOf 53 = .ok (.ireturn, 1) := by decide +kernel
theorem dX8_numbersOf_54 : decode cX8_numbersOf 54 = .ok (.iconst 2, 1) := by decide +kernel
theorem dX8_numbersOf_55 : decode cX8_numbersOf 55 = .ok (.ireturn, 1) := by decide +kernel
theorem dX8_numbersOf_56 : decode cX8_numbersOf 56 = .ok (.iconst 3, 1) := by decide +kernel
theorem dX8_numbersOf_57 : decode cX8_numbersOf 57 = .ok (.ireturn, 1) := by decide +kernel
theorem dX8_numbersOf_58 : decode cX8_numbersOf 58 = .ok (.iconst 1, 1) := by decide +kernel
theorem dX8_numbersOf_59 : decode cX8_numbersOf 59 = .ok (.ireturn, 1) := by decide +kernel
theorem dX8_numbersOf_60 : decode cX8_numbersOf 60 = .ok (.iconst 1, 1) := by decide +kernel
theorem dX8_numbersOf_61 : decode cX8_numbersOf 61 = .ok (.ireturn, 1) := by decide +kernel
theorem dX8_numbersOf_62 : decode cX8_numbersOf 62 = .ok (.iconst 0, 1) := by decide +kernel
theorem dX8_numbersOf_63 : decode cX8_numbersOf 63 = .ok (.ireturn, 1) := by decide +kernel
theorem dX8_tell_0 : decode cX8_tell 0 = .ok (.iload_n 2, 1) := by decide +kernel
theorem dX8_tell_1 : decode cX8_tell 1 = .ok (.lookupswitch 124 #[(99, 102), (108, 62), (109, 51), (115, 113), (119, 79)], 51) := by decide +kernel
theorem dX8_tell_52 : decode cX8_tell 52 = .ok (.aload_n 1, 1) := by decide +kernel
theorem dX8_tell_53 : decode cX8_tell 53 = .ok (.aload_n 0, 1) := by decide +kernel
theorem dX8_tell_54 : decode cX8_tell 54 = .ok (.getfield 15, 3) := by decide +kernel
theorem dX8_tell_57 : decode cX8_tell 57 = .ok (.iconst 0, 1) := by decide +kernel
theorem dX8_tell_58 : decode cX8_tell 58 = .ok (.iaload, 1) := by decide +kernel
theorem dX8_tell_59 : decode cX8_tell 59 = .ok (.invokevirtual 40, 3) := by decide +kernel
theorem dX8_tell_62 : decode cX8_tell 62 = .ok (.ireturn, 1) := by decide +kernel
theorem dX8_tell_63 : decode cX8_tell 63 = .ok (.aload_n 1, 1) := by decide +kernel
theorem dX8_tell_64 : decode cX8_tell 64 = .ok (.aload_n 0, 1) := by decide +kernel
theorem dX8_tell_65 : decode cX8_tell 65 = .ok (.getfield 15, 3) := by decide +kernel
theorem dX8_tell_68 : decode cX8_tell 68 = .ok (.iconst 0, 1) := by decide +kernel
theorem dX8_tell_69 : decode cX8_tell 69 = .ok (.iaload, 1) := by decide +kernel
theorem dX8_tell_70 : decode cX8_tell 70 = .ok (.aload_n 0, 1) := by decide +kernel
theorem dX8_tell_71 : decode cX8_tell 71 = .ok (.getfield 15, 3) := by decide +kernel
theorem dX8_tell_74 : decode cX8_tell 74 = .ok (.iconst 1, 1) := by decide +kernel
theorem dX8_tell_75 : decode cX8_tell 75 = .ok (.iaload, 1) := by decide +kernel
theorem dX8_tell_76 : decode cX8_tell 76 = .ok (.invokevirtual 44, 3) := by decide +kernel
theorem dX8_tell_79 : decode cX8_tell 79 = .ok (.ireturn, 1) := by decide +kernel
theorem dX8_tell_80 : decode cX8_tell 80 = .ok (.aload_n 1, 1) := by decide +kernel
theorem dX8_tell_81 : decode cX8_tell 81 = .ok (.aload_n 0, 1) := by decide +kernel
theorem dX8_tell_82 : decode cX8_tell 82 = .ok (.getfield 15, 3) := by decide +kernel
theorem dX8_tell_85 : decode cX8_tell 85 = .ok (.iconst 0, 1) := by decide +kernel
theorem dX8_tell_86 : decode cX8_tell 86 = .ok (.iaload, 1) := by decide +kernel
theorem dX8_tell_87 : decode cX8_tell 87 = .ok (.aload_n 0, 1) := by decide +kernel
theorem dX8_tell_88 : decode cX8_tell 88 = .ok (.getfield 15, 3) := by decide +kernel
theorem dX8_tell_91 : decode cX8_tell 91 = .ok (.iconst 1, 1) := by decide +kernel
theorem dX8_tell_92 : decode cX8_tell 92 = .ok (.iaload, 1) := by decide +kernel
theorem dX8_tell_93 : decode cX8_tell 93 = .ok (.aload_n 0, 1) := by decide +kernel
theorem dX8_tell_94 : decode cX8_tell 94 = .ok (.getfield 15, 3) := by decide +kernel
theorem dX8_tell_97 : decode cX8_tell 97 = .ok (.iconst 2, 1) := by decide +kernel
theorem dX8_tell_98 : decode cX8_tell 98 = .ok (.iaload, 1) := by decide +kernel
theorem dX8_tell_99 : decode cX8_tell 99 = .ok (.invokevirtual 48, 3) := by decide +kernel
theorem dX8_tell_102 : decode cX8_tell 102 = .ok (.ireturn, 1) := by decide +kernel
theorem dX8_tell_103 : decode cX8_tell 103 = .ok (.aload_n 1, 1) := by decide +kernel
theorem dX8_tell_104 : decode cX8_tell 104 = .ok (.aload_n 0, 1) := by decide +kernel
theorem dX8_tell_105 : decode cX8_tell 105 = .ok (.getfield 15, 3) := by decide +kernel
theorem dX8_tell_108 : decode cX8_tell 108 = .ok (.iconst 0, 1) := by decide +kernel
theorem dX8_tell_109 : decode cX8_tell 109 = .ok (.iaload, 1) := by decide +kernel
theorem dX8_tell_110 : decode cX8_tell 110 = .ok (.invokevirtual 52, 3) := by decide +kernel
theorem dX8_tell_113 : decode cX8_tell 113 = .ok (.ireturn, 1) := by decide +kernel
theorem dX8_tell_114 : decode cX8_tell 114 = .ok (.aload_n 1, 1) := by decide +kernel
theorem dX8_tell_115 : decode cX8_tell 115 = .ok (.aload_n 0, 1) := by decide +kernel
theorem dX8_tell_116 : decode cX8_tell 116 = .ok (.getfield 15, 3) := by decide +kernel
theorem dX8_tell_119 : decode cX8_tell 119 = .ok (.iconst 0, 1) := by decide +kernel
theorem dX8_tell_120 : decode cX8_tell 120 = .ok (.iaload, 1) := by decide +kernel
theorem dX8_tell_121 : decode cX8_tell 121 = .ok (.invokevirtual 55, 3) := by decide +kernel
theorem dX8_tell_124 : decode cX8_tell 124 = .ok (.ireturn, 1) := by decide +kernel
theorem dX8_tell_125 : decode cX8_tell 125 = .ok (.iconst 0, 1) := by decide +kernel
theorem dX8_tell_126 : decode cX8_tell 126 = .ok (.ireturn, 1) := by decide +kernel
theorem dX8_readNumbers_0 : decode cX8_readNumbers 0 = .ok (.iload_n 1, 1) := by decide +kernel
theorem dX8_readNumbers_1 : decode cX8_readNumbers 1 = .ok (.istore_n 3, 1) := by decide +kernel
theorem dX8_readNumbers_2 : decode cX8_readNumbers 2 = .ok (.iconst 0, 1) := by decide +kernel
theorem dX8_readNumbers_3 : decode cX8_readNumbers 3 = .ok (.istore 4, 2) := by decide +kernel
theorem dX8_readNumbers_5 : decode cX8_readNumbers 5 = .ok (.iload 4, 2) := by decide +kernel
theorem dX8_readNumbers_7 : decode cX8_readNumbers 7 = .ok (.iload_n 2, 1) := by decide +kernel
theorem dX8_readNumbers_8 : decode cX8_readNumbers 8 = .ok (.if_icmp .ge 72, 3) := by decide +kernel
theorem dX8_readNumbers_11 : decode cX8_readNumbers 11 = .ok (.aload_n 0, 1) := by decide +kernel
theorem dX8_readNumbers_12 : decode cX8_readNumbers 12 = .ok (.iload_n 3, 1) := by decide +kernel
theorem dX8_readNumbers_13 : decode cX8_readNumbers 13 = .ok (.invokevirtual 58, 3) := by decide +kernel
theorem dX8_readNumbers_16 : decode cX8_readNumbers 16 = .ok (.istore 5, 2) := by decide +kernel
theorem dX8_readNumbers_18 : decode cX8_readNumbers 18 = .ok (.iload 5, 2) := by decide +kernel
theorem dX8_readNumbers_20 : decode cX8_readNumbers 20 = .ok (.ifCond .ne 6, 3) := by decide +kernel
theorem dX8_readNumbers_23 : decode cX8_readNumbers 23 = .ok (.bipush (-4), 2) := by decide +kernel
theorem dX8_readNumbers_25 : decode cX8_readNumbers 25 = .ok (.ireturn, 1) := by decide +kernel
theorem dX8_readNumbers_26 : decode cX8_readNumbers 26 = .ok (.aload_n 0, 1) := by decide +kernel
theorem dX8_readNumbers_27 : decode cX8_readNumbers 27 = .ok (.getfield 15, 3) := by decide +kernel
theorem dX8_readNumbers_30 : decode cX8_readNumbers 30 = .ok (.iload 4, 2) := by decide +kernel
theorem dX8_readNumbers_32 : decode cX8_readNumbers 32 = .ok (.aload_n 0, 1) := by decide +kernel
theorem dX8_readNumbers_33 : decode cX8_readNumbers 33 = .ok (.iload_n 3, 1) := by decide +kernel
theorem dX8_readNumbers_34 : decode cX8_readNumbers 34 = .ok (.iload 5, 2) := by decide +kernel
theorem dX8_readNumbers_36 : decode cX8_readNumbers 36 = .ok (.invokevirtual 61, 3) := by decide +kernel
theorem dX8_readNumbers_39 : decode cX8_readNumbers 39 = .ok (.iastore, 1) := by decide +kernel
theorem dX8_readNumbers_40 : decode cX8_readNumbers 40 = .ok (.iload_n 3, 1) := by decide +kernel
theorem dX8_readNumbers_41 : decode cX8_readNumbers 41 = .ok (.iload 5, 2) := by decide +kernel
theorem dX8_readNumbers_43 : decode cX8_readNumbers 43 = .ok (.iadd, 1) := by decide +kernel
theorem dX8_readNumbers_44 : decode cX8_readNumbers 44 = .ok (.istore_n 3, 1) := by decide +kernel
theorem dX8_readNumbers_45 : decode cX8_readNumbers 45 = .ok (.aload_n 0, 1) := by decide +kernel
theorem dX8_readNumbers_46 : decode cX8_readNumbers 46 = .ok (.iload_n 3, 1) := by decide +kernel
theorem dX8_readNumbers_47 : decode cX8_readNumbers 47 = .ok (.iload 4, 2) := by decide +kernel
theorem dX8_readNumbers_49 : decode cX8_readNumbers 49 = .ok (.iload_n 2, 1) := by decide +kernel
theorem dX8_readNumbers_50 : decode cX8_readNumbers 50 = .ok (.iconst 1, 1) := by decide +kernel
theorem dX8_readNumbers_51 : decode cX8_readNumbers 51 = .ok (.isub, 1) := by decide +kernel
theorem dX8_readNumbers_52 : decode cX8_readNumbers 52 = .ok (.if_icmp .ne 8, 3) := by decide +kernel
theorem dX8_readNumbers_55 : decode cX8_readNumbers 55 = .ok (.bipush 59, 2) := by decide +kernel
theorem dX8_readNumbers_57 : decode cX8_readNumbers 57 = .ok (.goto 5, 3) := by decide +kernel
theorem dX8_readNumbers_60 : decode cX8_readNumbers 60 = .ok (.bipush 44, 2) := by decide +kernel
theorem dX8_readNumbers_62 : decode cX8_readNumbers 62 = .ok (.invokevirtual 64, 3) := by decide +kernel
theorem dX8_readNumbers_65 : decode cX8_readNumbers 65 = .ok (.ifCond .ne 6, 3) := by decide +kernel
theorem dX8_readNumbers_68 : decode cX8_readNumbers 68 = .ok (.bipush (-4), 2) := by decide +kernel
theorem dX8_readNumbers_70 : decode cX8_readNumbers 70 = .ok (.ireturn, 1) := by decide +kernel
theorem dX8_readNumbers_71 : decode cX8_readNumbers 71 = .ok (.iinc 3 1, 3) := by decide +kernel
theorem dX8_readNumbers_74 : decode cX8_readNumbers 74 = .ok (.iinc 4 1, 3) := by decide +kernel
theorem dX8_readNumbers_77 : decode cX8_readNumbers 77 = .ok (.goto (-72), 3) := by decide +kernel
theorem dX8_readNumbers_80 : decode cX8_readNumbers 80 = .ok (.iload_n 3, 1) := by decide +kernel
theorem dX8_readNumbers_81 : decode cX8_readNumbers 81 = .ok (.ireturn, 1) := by decide +kernel
theorem dX8_figuresAt_0 : decode cX8_figuresAt 0 = .ok (.aload_n 0, 1) := by decide +kernel
theorem dX8_figuresAt_1 : decode cX8_figuresAt 1 = .ok (.iload_n 1, 1) := by decide +kernel
theorem dX8_figuresAt_2 : decode cX8_figuresAt 2 = .ok (.invokevirtual 68, 3) := by decide +kernel
theorem dX8_figuresAt_5 : decode cX8_figuresAt 5 = .ok (.ifCond .ne 5, 3) := by decide +kernel
theorem dX8_figuresAt_8 : decode cX8_figuresAt 8 = .ok (.iconst 0, 1) := by decide +kernel
theorem dX8_figuresAt_9 : decode cX8_figuresAt 9 = .ok (.ireturn, 1) := by decide +kernel
theorem dX8_figuresAt_10 : decode cX8_figuresAt 10 = .ok (.aload_n 0, 1) := by decide +kernel
theorem dX8_figuresAt_11 : decode cX8_figuresAt 11 = .ok (.iload_n 1, 1) := by decide +kernel
theorem dX8_figuresAt_12 : decode cX8_figuresAt 12 = .ok (.iconst 1, 1) := by decide +kernel
theorem dX8_figuresAt_13 : decode cX8_figuresAt 13 = .ok (.iadd, 1) := by decide +kernel
theorem dX8_figuresAt_14 : decode cX8_figuresAt 14 = .ok (.invokevirtual 68, 3) := by decide +kernel
theorem dX8_figuresAt_17 : decode cX8_figuresAt 17 = .ok (.ifCond .eq 7, 3) := by decide +kernel
theorem dX8_figuresAt_20 : decode cX8_figuresAt 20 = .ok (.iconst 2, 1) := by decide +kernel
theorem dX8_figuresAt_21 : decode cX8_figuresAt 21 = .ok (.goto 4, 3) := by decide +kernel
theorem dX8_figuresAt_24 : decode cX8_figuresAt 24 = .ok (.iconst 1, 1) := by decide +kernel
theorem dX8_figuresAt_25 : decode cX8_figuresAt 25 = .ok (.ireturn, 1) := by decide +kernel
theorem dX8_numberAt_0 : decode cX8_numberAt 0 = .ok (.iconst 0, 1) := by decide +kernel
theorem dX8_numberAt_1 : decode cX8_numberAt 1 = .ok (.istore_n 3, 1) := by decide +kernel
theorem dX8_numberAt_2 : decode cX8_numberAt 2 = .ok (.iconst 0, 1) := by decide +kernel
theorem dX8_numberAt_3 : decode cX8_numberAt 3 = .ok (.istore 4, 2) := by decide +kernel
theorem dX8_numberAt_5 : decode cX8_numberAt 5 = .ok (.iload 4, 2) := by decide +kernel
theorem dX8_numberAt_7 : decode cX8_numberAt 7 = .ok (.iload_n 2, 1) := by decide +kernel
theorem dX8_numberAt_8 : decode cX8_numberAt 8 = .ok (.if_icmp .ge 27, 3) := by decide +kernel
theorem dX8_numberAt_11 : decode cX8_numberAt 11 = .ok (.bipush 10, 2) := by decide +kernel
theorem dX8_numberAt_13 : decode cX8_numberAt 13 = .ok (.iload_n 3, 1) := by decide +kernel
theorem dX8_numberAt_14 : decode cX8_numberAt 14 = .ok (.imul, 1) := by decide +kernel
theorem dX8_numberAt_15 : decode cX8_numberAt 15 = .ok (.aload_n 0, 1) := by decide +kernel
theorem dX8_numberAt_16 : decode cX8_numberAt 16 = .ok (.getfield 9, 3) := by decide +kernel
theorem dX8_numberAt_19 : decode cX8_numberAt 19 = .ok (.iload_n 1, 1) := by decide +kernel
theorem dX8_numberAt_20 : decode cX8_numberAt 20 = .ok (.iload 4, 2) := by decide +kernel
theorem dX8_numberAt_22 : decode cX8_numberAt 22 = .ok (.iadd, 1) := by decide +kernel
theorem dX8_numberAt_23 : decode cX8_numberAt 23 = .ok (.baload, 1) := by decide +kernel
theorem dX8_numberAt_24 : decode cX8_numberAt 24 = .ok (.iadd, 1) := by decide +kernel
theorem dX8_numberAt_25 : decode cX8_numberAt 25 = .ok (.bipush 48, 2) := by decide +kernel
theorem dX8_numberAt_27 : decode cX8_numberAt 27 = .ok (.isub, 1) := by decide +kernel
theorem dX8_numberAt_28 : decode cX8_numberAt 28 = .ok (.istore_n 3, 1) := by decide +kernel
theorem dX8_numberAt_29 : decode cX8_numberAt 29 = .ok (.iinc 4 1, 3) := by decide +kernel
theorem dX8_numberAt_32 : decode cX8_numberAt 32 = .ok (.goto (-27), 3) := by decide +kernel
theorem dX8_numberAt_35 : decode cX8_numberAt 35 = .ok (.iload_n 3, 1) := by decide +kernel
theorem dX8_numberAt_36 : decode cX8_numberAt 36 = .ok (.ireturn, 1) := by decide +kernel
theorem dX8_isFigureAt_0 : decode cX8_isFigureAt 0 = .ok (.iload_n 1, 1) := by decide +kernel
theorem dX8_isFigureAt_1 : decode cX8_isFigureAt 1 = .ok (.aload_n 0, 1) := by decide +kernel
theorem dX8_isFigureAt_2 : decode cX8_isFigureAt 2 = .ok (.getfield 19, 3) := by decide +kernel
theorem dX8_isFigureAt_5 : decode cX8_isFigureAt 5 = .ok (.if_icmp .ge 29, 3) := by decide +kernel
theorem dX8_isFigureAt_8 : decode cX8_isFigureAt 8 = .ok (.aload_n 0, 1) := by decide +kernel
theorem dX8_isFigureAt_9 : decode cX8_isFigureAt 9 = .ok (.getfield 9, 3) := by decide +kernel
theorem dX8_isFigureAt_12 : decode cX8_isFigureAt 12 = .ok (.iload_n 1, 1) := by decide +kernel
theorem dX8_isFigureAt_13 : decode cX8_isFigureAt 13 = .ok (.baload, 1) := by decide +kernel
theorem dX8_isFigureAt_14 : decode cX8_isFigureAt 14 = .ok (.bipush 48, 2) := by decide +kernel
theorem dX8_isFigureAt_16 : decode cX8_isFigureAt 16 = .ok (.if_icmp .lt 18, 3) := by decide +kernel
theorem dX8_isFigureAt_19 : decode cX8_isFigureAt 19 = .ok (.aload_n 0, 1) := by decide +kernel
theorem dX8_isFigureAt_20 : decode cX8_isFigureAt 20 = .ok (.getfield 9, 3) := by decide +kernel
theorem dX8_isFigureAt_23 : decode cX8_isFigureAt 23 = .ok (.iload_n 1, 1) := by decide +kernel
theorem dX8_isFigureAt_24 : decode cX8_isFigureAt 24 = .ok (.baload, 1) := by decide +kernel
theorem dX8_isFigureAt_25 : decode cX8_isFigureAt 25 = .ok (.bipush 57, 2) := by decide +kernel
theorem dX8_isFigureAt_27 : decode cX8_isFigureAt 27 = .ok (.if_icmp .gt 7, 3) := by decide +kernel
theorem dX8_isFigureAt_30 : decode cX8_isFigureAt 30 = .ok (.iconst 1, 1) := by decide +kernel
theorem dX8_isFigureAt_31 : decode cX8_isFigureAt 31 = .ok (.goto 4, 3) := by decide +kernel
theorem dX8_isFigureAt_34 : decode cX8_isFigureAt 34 = .ok (.iconst 0, 1) := by decide +kernel
theorem dX8_isFigureAt_35 : decode cX8_isFigureAt 35 = .ok (.ireturn, 1) := by decide +kernel
theorem dX8_isSignAt_0 : decode cX8_isSignAt 0 = .ok (.iload_n 1, 1) := by decide +kernel
theorem dX8_isSignAt_1 : decode cX8_isSignAt 1 = .ok (.aload_n 0, 1) := by decide +kernel
theorem dX8_isSignAt_2 : decode cX8_isSignAt 2 = .ok (.getfield 19, 3) := by decide +kernel
theorem dX8_isSignAt_5 : decode cX8_isSignAt 5 = .ok (.if_icmp .ge 17, 3) := by decide +kernel
theorem dX8_isSignAt_8 : decode cX8_isSignAt 8 = .ok (.aload_n 0, 1) := by decide +kernel
theorem dX8_isSignAt_9 : decode cX8_isSignAt 9 = .ok (.getfield 9, 3) := by decide +kernel
theorem dX8_isSignAt_12 : decode cX8_isSignAt 12 = .ok (.iload_n 1, 1) := by decide +kernel
theorem dX8_isSignAt_13 : decode cX8_isSignAt 13 = .ok (.baload, 1) := by decide +kernel
theorem dX8_isSignAt_14 : decode cX8_isSignAt 14 = .ok (.iload_n 2, 1) := by decide +kernel
theorem dX8_isSignAt_15 : decode cX8_isSignAt 15 = .ok (.if_icmp .ne 7, 3) := by decide +kernel
theorem dX8_isSignAt_18 : decode cX8_isSignAt 18 = .ok (.iconst 1, 1) := by decide +kernel
theorem dX8_isSignAt_19 : decode cX8_isSignAt 19 = .ok (.goto 4, 3) := by decide +kernel
theorem dX8_isSignAt_22 : decode cX8_isSignAt 22 = .ok (.iconst 0, 1) := by decide +kernel
theorem dX8_isSignAt_23 : decode cX8_isSignAt 23 = .ok (.ireturn, 1) := by decide +kernel
theorem dX9_init_0 : decode cX9_init 0 = .ok (.aload_n 0, 1) := by decide +kernel
theorem dX9_init_1 : decode cX9_init 1 = .ok (.invokespecial 3, 3) := by decide +kernel
theorem dX9_init_4 : decode cX9_init 4 = .ok (.aload_n 0, 1) := by decide +kernel
theorem dX9_init_5 : decode cX9_init 5 = .ok (.new 9, 3) := by decide +kernel
theorem dX9_init_8 : decode cX9_init 8 = .ok (.dup, 1) := by decide +kernel
theorem dX9_init_9 : decode cX9_init 9 = .ok (.invokespecial 11, 3) := by decide +kernel
theorem dX9_init_12 : decode cX9_init 12 = .ok (.putfield 12, 3) := by decide +kernel
theorem dX9_init_15 : decode cX9_init 15 = .ok (.aload_n 0, 1) := by decide +kernel
theorem dX9_init_16 : decode cX9_init 16 = .ok (.new 16, 3) := by decide +kernel
theorem dX9_init_19 : decode cX9_init 19 = .ok (.dup, 1) := by decide +kernel
theorem dX9_init_20 : decode cX9_init 20 = .ok (.invokespecial 18, 3) := by decide +kernel
theorem dX9_init_23 : decode cX9_init 23 = .ok (.putfield 19, 3) := by decide +kernel
theorem dX9_init_26 : decode cX9_init 26 = .ok (.aload_n 0, 1) := by decide +kernel
theorem dX9_init_27 : decode cX9_init 27 = .ok (.new 16, 3) := by decide +kernel
theorem dX9_init_30 : decode cX9_init 30 = .ok (.dup, 1) := by decide +kernel
theorem dX9_init_31 : decode cX9_init 31 = .ok (.invokespecial 18, 3) := by decide +kernel
theorem dX9_init_34 : decode cX9_init 34 = .ok (.putfield 23, 3) := by decide +kernel
theorem dX9_init_37 : decode cX9_init 37 = .ok (.aload_n 0, 1) := by decide +kernel
theorem dX9_init_38 : decode cX9_init 38 = .ok (.new 26, 3) := by decide +kernel
theorem dX9_init_41 : decode cX9_init 41 = .ok (.dup, 1) := by decide +kernel
theorem dX9_init_42 : decode cX9_init 42 = .ok (.invokespecial 28, 3) := by decide +kernel
theorem dX9_init_45 : decode cX9_init 45 = .ok (.putfield 29, 3) := by decide +kernel
theorem dX9_init_48 : decode cX9_init 48 = .ok (.aload_n 0, 1) := by decide +kernel
theorem dX9_init_49 : decode cX9_init 49 = .ok (.new 33, 3) := by decide +kernel
theorem dX9_init_52 : decode cX9_init 52 = .ok (.dup, 1) := by decide +kernel
theorem dX9_init_53 : decode cX9_init 53 = .ok (.invokespecial 35, 3) := by decide +kernel
theorem dX9_init_56 : decode cX9_init 56 = .ok (.putfield 36, 3) := by decide +kernel
theorem dX9_init_59 : decode cX9_init 59 = .ok (.aload_n 0, 1) := by decide +kernel
theorem dX9_init_60 : decode cX9_init 60 = .ok (.new 40, 3) := by decide +kernel
theorem dX9_init_63 : decode cX9_init 63 = .ok (.dup, 1) := by decide +kernel
theorem dX9_init_64 : decode cX9_init 64 = .ok (.invokespecial 42, 3) := by decide +kernel
theorem dX9_init_67 : decode cX9_init 67 = .ok (.putfield 43, 3) := by decide +kernel
theorem dX9_init_70 : decode cX9_init 70 = .ok (.aload_n 0, 1) := by decide +kernel
theorem dX9_init_71 : decode cX9_init 71 = .ok (.new 47, 3) := by decide +kernel
theorem dX9_init_74 : decode cX9_init 74 = .ok (.dup, 1) := by decide +kernel
theorem dX9_init_75 : decode cX9_init 75 = .ok (.invokespecial 49, 3) := by decide +kernel
theorem dX9_init_78 : decode cX9_init 78 = .ok (.putfield 50, 3) := by decide +kernel
theorem dX9_init_81 : decode cX9_init 81 = .ok (.aload_n 0, 1) := by decide +kernel
theorem dX9_init_82 : decode cX9_init 82 = .ok (.new 54, 3) := by decide +kernel
theorem dX9_init_85 : decode cX9_init 85 = .ok (.dup, 1) := by decide +kernel
theorem dX9_init_86 : decode cX9_init 86 = .ok (.invokespecial 56, 3) := by decide +kernel
theorem dX9_init_89 : decode cX9_init 89 = .ok (.putfield 57, 3) := by decide +kernel
theorem dX9_init_92 : decode cX9_init 92 = .ok (.aload_n 0, 1) := by decide +kernel
theorem dX9_init_93 : decode cX9_init 93 = .ok (.new 61, 3) := by decide +kernel
theorem dX9_init_96 : decode cX9_init 96 = .ok (.dup, 1) := by decide +kernel
theorem dX9_init_97 : decode cX9_init 97 = .ok (.invokespecial 63, 3) := by decide +kernel
theorem dX9_init_100 : decode cX9_init 100 = .ok (.putfield 64, 3) := by decide +kernel
theorem dX9_init_103 : decode cX9_init 103 = .ok (.aload_n 0, 1) := by decide +kernel
theorem dX9_init_104 : decode cX9_init 104 = .ok (.new 68, 3) := by decide +kernel
theorem dX9_init_107 : decode cX9_init 107 = .ok (.dup, 1) := by decide +kernel
theorem dX9_init_108 : decode cX9_init 108 = .ok (.invokespecial 70, 3) := by decide +kernel
theorem dX9_init_111 : decode cX9_init 111 = .ok (.putfield 71, 3) := by decide +kernel
theorem dX9_init_114 : decode cX9_init 114 = .ok (.aload_n 0, 1) := by decide +kernel
theorem dX9_init_115 : decode cX9_init 115 = .ok (.getfield 19, 3) := by decide +kernel
theorem dX9_init_118 : decode cX9_init 118 = .ok (.invokevirtual 75, 3) := by decide +kernel
theorem dX9_init_121 : decode cX9_init 121 = .ok (.aload_n 0, 1) := by decide +kernel
theorem dX9_init_122 : decode cX9_init 122 = .ok (.getfield 19, 3) := by decide +kernel
theorem dX9_init_125 : decode cX9_init 125 = .ok (.iconst 1, 1) := by decide +kernel
theorem dX9_init_126 : decode cX9_init 126 = .ok (.invokevirtual 78, 3) := by decide +kernel
theorem dX9_init_129 : decode cX9_init 129 = .ok (.pop, 1) := by decide +kernel
theorem dX9_init_130 : decode cX9_init 130 = .ok (.aload_n 0, 1) := by decide +kernel
theorem dX9_init_131 : decode cX9_init 131 = .ok (.getfield 19, 3) := by decide +kernel
theorem dX9_init_134 : decode cX9_init 134 = .ok (.bipush 8, 2) := by decide +kernel
theorem dX9_init_136 : decode cX9_init 136 = .ok (.iconst 0, 1) := by decide +kernel
theorem dX9_init_137 : decode cX9_init 137 = .ok (.invokevirtual 82, 3) := by decide +kernel
theorem dX9_init_140 : decode cX9_init 140 = .ok (.pop, 1) := by decide +kernel
theorem dX9_init_141 : decode cX9_init 141 = .ok (.aload_n 0, 1) := by decide +kernel
theorem dX9_init_142 : decode cX9_init 142 = .ok (.getfield 19, 3) := by decide +kernel
theorem dX9_init_145 : decode cX9_init 145 = .ok (.iconst 5, 1) := by decide +kernel
theorem dX9_init_146 : decode cX9_init 146 = .ok (.iconst 0, 1) := by decide +kernel
theorem dX9_init_147 : decode cX9_init 147 = .ok (.invokevirtual 82, 3) := by decide +kernel
theorem dX9_init_150 : decode cX9_init 150 = .ok (.pop, 1) := by decide +kernel
theorem dX9_init_151 : decode cX9_init 151 = .ok (.aload_n 0, 1) := by decide +kernel
theorem dX9_init_152 : decode cX9_init 152 = .ok (.getfield 19, 3) := by decide +kernel
theorem dX9_init_155 : decode cX9_init 155 = .ok (.iconst 0, 1) := by decide +kernel
theorem dX9_init_156 : decode cX9_init 156 = .ok (.iconst 0, 1) := by decide +kernel
theorem dX9_init_157 : decode cX9_init 157 = .ok (.bipush 9, 2) := by decide +kernel
theorem dX9_init_159 : decode cX9_init 159 = .ok (.invokevirtual 86, 3) := by decide +kernel
theorem dX9_init_162 : decode cX9_init 162 = .ok (.pop, 1) := by decide +kernel
theorem dX9_init_163 : decode cX9_init 163 = .ok (.aload_n 0, 1) := by decide +kernel
theorem dX9_init_164 : decode cX9_init 164 = .ok (.getfield 19, 3) := by decide +kernel
theorem dX9_init_167 : decode cX9_init 167 = .ok (.iconst 1, 1) := by decide +kernel
theorem dX9_init_168 : decode cX9_init 168 = .ok (.iconst 0, 1) := by decide +kernel
theorem dX9_init_169 : decode cX9_init 169 = .ok (.bipush 6, 2) := by decide +kernel
theorem dX9_init_171 : decode cX9_init 171 = .ok (.invokevirtual 86, 3) := by decide +kernel
theorem dX9_init_174 : decode cX9_init 174 = .ok (.pop, 1) := by decide +kernel
theorem dX9_init_175 : decode cX9_init 175 = .ok (.return_, 1) := by decide +kernel
theorem dX9_write_0 : decode cX9_write 0 = .ok (.iload_n 1, 1) := by decide +kernel
theorem dX9_write_1 : decode cX9_write 1 = .ok (.iconst 1, 1) := by decide +kernel
theorem dX9_write_2 : decode cX9_write 2 = .ok (.bipush 8, 2) := by decide +kernel
theorem dX9_write_4 : decode cX9_write 4 = .ok (.invokestatic 90, 3) := by decide +kernel
theorem dX9_write_7 : decode cX9_write 7 = .ok (.ifCond .ne 5, 3) := by decide +kernel
theorem dX9_write_10 : decode cX9_write 10 = .ok (.iconst (-1), 1) := by decide +kernel
theorem dX9_write_11 : decode cX9_write 11 = .ok (.ireturn, 1) := by decide +kernel
theorem dX9_write_12 : decode cX9_write 12 = .ok (.aload_n 0, 1) := by decide +kernel
theorem dX9_write_13 : decode cX9_write 13 = .ok (.getfield 12, 3) := by decide +kernel
theorem dX9_write_16 : decode cX9_write 16 = .ok (.getfield 93, 3) := by decide +kernel
theorem dX9_write_19 : decode cX9_write 19 = .ok (.iload_n 1, 1) := by decide +kernel
theorem dX9_write_20 : decode cX9_write 20 = .ok (.iadd, 1) := by decide +kernel
theorem dX9_write_21 : decode cX9_write 21 = .ok (.sipush 300, 3) := by decide +kernel
theorem dX9_write_24 : decode cX9_write 24 = .ok (.if_icmp .le 6, 3) := by decide +kernel
theorem dX9_write_27 : decode cX9_write 27 = .ok (.bipush (-3), 2) := by decide +kernel
theorem dX9_write_29 : decode cX9_write 29 = .ok (.ireturn, 1) := by decide +kernel
theorem dX9_write_30 : decode cX9_write 30 = .ok (.aload_n 0, 1) := by decide +kernel
theorem dX9_write_31 : decode cX9_write 31 = .ok (.getfield 12, 3) := by decide +kernel
theorem dX9_write_34 : decode cX9_write 34 = .ok (.iload_n 1, 1) := by decide +kernel
theorem dX9_write_35 : decode cX9_write 35 = .ok (.lload_n 2, 1) := by decide +kernel
theorem dX9_write_36 : decode cX9_write 36 = .ok (.invokevirtual 97, 3) := by decide +kernel
theorem dX9_write_39 : decode cX9_write 39 = .ok (.aload_n 0, 1) := by decide +kernel
theorem dX9_write_40 : decode cX9_write 40 = .ok (.getfield 12, 3) := by decide +kernel
theorem dX9_write_43 : decode cX9_write 43 = .ok (.getfield 93, 3) := by decide +kernel
theorem dX9_write_46 : decode cX9_write 46 = .ok (.ireturn, 1) := by decide +kernel
theorem dX9_wipe_0 : decode cX9_wipe 0 = .ok (.aload_n 0, 1) := by decide +kernel
theorem dX9_wipe_1 : decode cX9_wipe 1 = .ok (.getfield 12, 3) := by decide +kernel
theorem dX9_wipe_4 : decode cX9_wipe 4 = .ok (.getfield 93, 3) := by decide +kernel
theorem dX9_wipe_7 : decode cX9_wipe 7 = .ok (.istore_n 1, 1) := by decide +kernel
theorem dX9_wipe_8 : decode cX9_wipe 8 = .ok (.aload_n 0, 1) := by decide +kernel
theorem dX9_wipe_9 : decode cX9_wipe 9 = .ok (.getfield 12, 3) := by decide +kernel
theorem dX9_wipe_12 : decode cX9_wipe 12 = .ok (.iconst 0, 1) := by decide +kernel
theorem dX9_wipe_13 : decode cX9_wipe 13 = .ok (.putfield 93, 3) := by decide +kernel
theorem dX9_wipe_16 : decode cX9_wipe 16 = .ok (.iload_n 1, 1) := by decide +kernel
theorem dX9_wipe_17 : decode cX9_wipe 17 = .ok (.ireturn, 1) := by decide +kernel
theorem dX9_fault_0 : decode cX9_fault 0 = .ok (.aload_n 0, 1) := by decide +kernel
theorem dX9_fault_1 : decode cX9_fault 1 = .ok (.getfield 12, 3) := by decide +kernel
theorem dX9_fault_4 : decode cX9_fault 4 = .ok (.aload_n 0, 1) := by decide +kernel
theorem dX9_fault_5 : decode cX9_fault 5 = .ok (.getfield 23, 3) := by decide +kernel
theorem dX9_fault_8 : decode cX9_fault 8 = .ok (.invokevirtual 101, 3) := by decide +kernel
theorem dX9_fault_11 : decode cX9_fault 11 = .ok (.ireturn, 1) := by decide +kernel
theorem dX9_lay_0 : decode cX9_lay 0 = .ok (.aload_n 0, 1) := by decide +kernel
theorem dX9_lay_1 : decode cX9_lay 1 = .ok (.getfield 12, 3) := by decide +kernel
theorem dX9_lay_4 : decode cX9_lay 4 = .ok (.aload_n 0, 1) := by decide +kernel
theorem dX9_lay_5 : decode cX9_lay 5 = .ok (.getfield 23, 3) := by decide +kernel
theorem dX9_lay_8 : decode cX9_lay 8 = .ok (.invokevirtual 101, 3) := by decide +kernel
theorem dX9_lay_11 : decode cX9_lay 11 = .ok (.bipush (-4), 2) := by decide +kernel
theorem dX9_lay_13 : decode cX9_lay 13 = .ok (.if_icmp .ne 23, 3) := by decide +kernel
theorem dX9_lay_16 : decode cX9_lay 16 = .ok (.aload_n 0, 1) := by decide +kernel
theorem dX9_lay_17 : decode cX9_lay 17 = .ok (.getfield 23, 3) := by decide +kernel
theorem dX9_lay_20 : decode cX9_lay 20 = .ok (.getfield 105, 3) := by decide +kernel
theorem dX9_lay_23 : decode cX9_lay 23 = .ok (.ifCond .eq 13, 3) := by decide +kernel
theorem dX9_lay_26 : decode cX9_lay 26 = .ok (.aload_n 0, 1) := by decide +kernel
theorem dX9_lay_27 : decode cX9_lay 27 = .ok (.getfield 23, 3) := by decide +kernel
theorem dX9_lay_30 : decode cX9_lay 30 = .ok (.getfield 108, 3) := by decide +kernel
theorem dX9_lay_33 : decode cX9_lay 33 = .ok (.ifCond .ne 6, 3) := by decide +kernel
theorem dX9_lay_36 : decode cX9_lay 36 = .ok (.bipush (-2), 2) := by decide +kernel
theorem dX9_lay_38 : decode cX9_lay 38 = .ok (.ireturn, 1) := by decide +kernel
theorem dX9_lay_39 : decode cX9_lay 39 = .ok (.aload_n 0, 1) := by decide +kernel
theorem dX9_lay_40 : decode cX9_lay 40 = .ok (.getfield 19, 3) := by decide +kernel
theorem dX9_lay_43 : decode cX9_lay 43 = .ok (.aload_n 0, 1) := by decide +kernel
theorem dX9_lay_44 : decode cX9_lay 44 = .ok (.getfield 23, 3) := by decide +kernel
theorem dX9_lay_47 : decode cX9_lay 47 = .ok (.invokevirtual 111, 3) := by decide +kernel
theorem dX9_lay_50 : decode cX9_lay 50 = .ok (.aload_n 0, 1) := by decide +kernel
theorem dX9_lay_51 : decode cX9_lay 51 = .ok (.getfield 57, 3) := by decide +kernel
theorem dX9_lay_54 : decode cX9_lay 54 = .ok (.iconst 0, 1) := by decide +kernel
theorem dX9_lay_55 : decode cX9_lay 55 = .ok (.putfield 115, 3) := by decide +kernel
theorem dX9_lay_58 : decode cX9_lay 58 = .ok (.aload_n 0, 1) := by decide +kernel
theorem dX9_lay_59 : decode cX9_lay 59 = .ok (.getfield 64, 3) := by decide +kernel
theorem dX9_lay_62 : decode cX9_lay 62 = .ok (.iconst 0, 1) := by decide +kernel
theorem dX9_lay_63 : decode cX9_lay 63 = .ok (.putfield 118, 3) := by decide +kernel
theorem dX9_lay_66 : decode cX9_lay 66 = .ok (.aload_n 0, 1) := by decide +kernel
theorem dX9_lay_67 : decode cX9_lay 67 = .ok (.getfield 71, 3) := by decide +kernel
theorem dX9_lay_70 : decode cX9_lay 70 = .ok (.iconst 0, 1) := by decide +kernel
theorem dX9_lay_71 : decode cX9_lay 71 = .ok (.putfield 119, 3) := by decide +kernel
theorem dX9_lay_74 : decode cX9_lay 74 = .ok (.aload_n 0, 1) := by decide +kernel
theorem dX9_lay_75 : decode cX9_lay 75 = .ok (.getfield 19, 3) := by decide +kernel
theorem dX9_lay_78 : decode cX9_lay 78 = .ok (.getfield 108, 3) := by decide +kernel
theorem dX9_lay_81 : decode cX9_lay 81 = .ok (.ireturn, 1) := by decide +kernel
theorem dX9_lad_0 : decode cX9_lad 0 = .ok (.aload_n 0, 1) := by decide +kernel
theorem dX9_lad_1 : decode cX9_lad 1 = .ok (.getfield 19, 3) := by decide +kernel
theorem dX9_lad_4 : decode cX9_lad 4 = .ok (.iload_n 1, 1) := by decide +kernel
theorem dX9_lad_5 : decode cX9_lad 5 = .ok (.invokevirtual 120, 3) := by decide +kernel
theorem dX9_lad_8 : decode cX9_lad 8 = .ok (.ifCond .eq 12, 3) := by decide +kernel
theorem dX9_lad_11 : decode cX9_lad 11 = .ok (.iload_n 2, 1) := by decide +kernel
theorem dX9_lad_12 : decode cX9_lad 12 = .ok (.iconst 0, 1) := by decide +kernel
theorem dX9_lad_13 : decode cX9_lad 13 = .ok (.iconst 4, 1) := by decide +kernel
theorem dX9_lad_14 : decode cX9_lad 14 = .ok (.invokestatic 90, 3) := by decide +kernel
theorem dX9_lad_17 : decode cX9_lad 17 = .ok (.ifCond .ne 5, 3) := by decide +kernel
theorem dX9_lad_20 : decode cX9_lad 20 = .ok (.iconst (-1), 1) := by decide +kernel
theorem dX9_lad_21 : decode cX9_lad 21 = .ok (.ireturn, 1) := by decide +kernel
theorem dX9_lad_22 : decode cX9_lad 22 = .ok (.iload_n 2, 1) := by decide +kernel
theorem dX9_lad_23 : decode cX9_lad 23 = .ok (.ifCond .ne 13, 3) := by decide +kernel
theorem dX9_lad_26 : decode cX9_lad 26 = .ok (.aload_n 0, 1) := by decide +kernel
theorem dX9_lad_27 : decode cX9_lad 27 = .ok (.getfield 19, 3) := by decide +kernel
theorem dX9_lad_30 : decode cX9_lad 30 = .ok (.getfield 123, 3) := by decide +kernel
theorem dX9_lad_33 : decode cX9_lad 33 = .ok (.iload_n 1, 1) := by decide +kernel
theorem dX9_lad_34 : decode cX9_lad 34 = .ok (.iaload, 1) := by decide +kernel
theorem dX9_lad_35 : decode cX9_lad 35 = .ok (.ireturn, 1) := by decide +kernel
theorem dX9_lad_36 : decode cX9_lad 36 = .ok (.iload_n 2, 1) := by decide +kernel
theorem dX9_lad_37 : decode cX9_lad 37 = .ok (.iconst 1, 1) := by decide +kernel
theorem dX9_lad_38 : decode cX9_lad 38 = .ok (.if_icmp .ne 13, 3) := by decide +kernel
theorem dX9_lad_41 : decode cX9_lad 41 = .ok (.aload_n 0, 1) := by decide +kernel
theorem dX9_lad_42 : decode cX9_lad 42 = .ok (.getfield 19, 3) := by decide +kernel
theorem dX9_lad_45 : decode cX9_lad 45 = .ok (.getfield 127, 3) := by decide +kernel
theorem dX9_lad_48 : decode cX9_lad 48 = .ok (.iload_n 1, 1) := by decide +kernel
theorem dX9_lad_49 : decode cX9_lad 49 = .ok (.iaload, 1) := by decide +kernel
theorem dX9_lad_50 : decode cX9_lad 50 = .ok (.ireturn, 1) := by decide +kernel
theorem dX9_lad_51 : decode cX9_lad 51 = .ok (.aload_n 0, 1) := by decide +kernel
theorem dX9_lad_52 : decode cX9_lad 52 = .ok (.getfield 29, 3) := by decide +kernel
theorem dX9_lad_55 : decode cX9_lad 55 = .ok (.aload_n 0, 1) := by decide +kernel
theorem dX9_lad_56 : decode cX9_lad 56 = .ok (.getfield 19, 3) := by decide +kernel
theorem dX9_lad_59 : decode cX9_lad 59 = .ok (.iconst (-1), 1) := by decide +kernel
theorem dX9_lad_60 : decode cX9_lad 60 = .ok (.invokevirtual 130, 3) := by decide +kernel
theorem dX9_lad_63 : decode cX9_lad 63 = .ok (.iload_n 2, 1) := by decide +kernel
theorem dX9_lad_64 : decode cX9_lad 64 = .ok (.iconst 2, 1) := by decide +kernel
theorem dX9_lad_65 : decode cX9_lad 65 = .ok (.if_icmp .ne 13, 3) := by decide +kernel
theorem dX9_lad_68 : decode cX9_lad 68 = .ok (.aload_n 0, 1) := by decide +kernel
theorem dX9_lad_69 : decode cX9_lad 69 = .ok (.getfield 29, 3) := by decide +kernel
theorem dX9_lad_72 : decode cX9_lad 72 = .ok (.getfield 134, 3) := by decide +kernel
theorem dX9_lad_75 : decode cX9_lad 75 = .ok (.iload_n 1, 1) := by decide +kernel
theorem dX9_lad_76 : decode cX9_lad 76 = .ok (.iaload, 1) := by decide +kernel
theorem dX9_lad_77 : decode cX9_lad 77 = .ok (.ireturn, 1) := by decide +kernel
theorem dX9_lad_78 : decode cX9_lad 78 = .ok (.iload_n 2, 1) := by decide +kernel
theorem dX9_lad_79 : decode cX9_lad 79 = .ok (.iconst 3, 1) := by decide +kernel
theorem dX9_lad_80 : decode cX9_lad 80 = .ok (.if_icmp .ne 15, 3) := by decide +kernel
theorem dX9_lad_83 : decode cX9_lad 83 = .ok (.aload_n 0, 1) := by decide +kernel
theorem dX9_lad_84 : decode cX9_lad 84 = .ok (.getfield 29, 3) := by decide +kernel
theorem dX9_lad_87 : decode cX9_lad 87 = .ok (.getfield 137, 3) := by decide +kernel
theorem dX9_lad_90 : decode cX9_lad 90 = .ok (.iload_n 1, 1) := by decide +kernel
theorem dX9_lad_91 : decode cX9_lad 91 = .ok (.iaload, 1) := by decide +kernel
theorem dX9_lad_92 : decode cX9_lad 92 = .ok (.goto 15, 3) := by decide +kernel
theorem dX9_lad_95 : decode cX9_lad 95 = .ok (.aload_n 0, 1) := by decide +kernel
theorem dX9_lad_96 : decode cX9_lad 96 = .ok (.getfield 29, 3) := by decide +kernel
theorem dX9_lad_99 : decode cX9_lad 99 = .ok (.aload_n 0, 1) := by decide +kernel
theorem dX9_lad_100 : decode cX9_lad 100 = .ok (.getfield 19, 3) := by decide +kernel
theorem dX9_lad_103 : decode cX9_lad 103 = .ok (.iload_n 1, 1) := by decide +kernel
theorem dX9_lad_104 : decode cX9_lad 104 = .ok (.invokevirtual 140, 3) := by decide +kernel
theorem dX9_lad_107 : decode cX9_lad 107 = .ok (.ireturn, 1) := by decide +kernel
theorem dX9_master_0 : decode cX9_master 0 = .ok (.aload_n 0, 1) := by decide +kernel
theorem dX9_master_1 : decode cX9_master 1 = .ok (.getfield 19, 3) := by decide +kernel
theorem dX9_master_4 : decode cX9_master 4 = .ok (.iload_n 1, 1) := by decide +kernel
theorem dX9_master_5 : decode cX9_master 5 = .ok (.invokevirtual 144, 3) := by decide +kernel
theorem dX9_master_8 : decode cX9_master 8 = .ok (.ifCond .eq 12, 3) := by decide +kernel
theorem dX9_master_11 : decode cX9_master 11 = .ok (.iload_n 2, 1) := by decide +kernel
theorem dX9_master_12 : decode cX9_master 12 = .ok (.iconst 0, 1) := by decide +kernel
theorem dX9_master_13 : decode cX9_master 13 = .ok (.iconst 2, 1) := by decide +kernel
theorem dX9_master_14 : decode cX9_master 14 = .ok (.invokestatic 90, 3) := by decide +kernel
theorem dX9_master_17 : decode cX9_master 17 = .ok (.ifCond .ne 5, 3) := by decide +kernel
theorem dX9_master_20 : decode cX9_master 20 = .ok (.iconst (-1), 1) := by decide +kernel
theorem dX9_master_21 : decode cX9_master 21 = .ok (.ireturn, 1) := by decide +kernel
theorem dX9_master_22 : decode cX9_master 22 = .ok (.iload_n 2, 1) := by decide +kernel
theorem dX9_master_23 : decode cX9_master 23 = .ok (.ifCond .ne 13, 3) := by decide +kernel
theorem dX9_master_26 : decode cX9_master 26 = .ok (.aload_n 0, 1) := by decide +kernel
theorem dX9_master_27 : decode cX9_master 27 = .ok (.getfield 19, 3) := by decide +kernel
theorem dX9_master_30 : decode cX9_master 30 = .ok (.getfield 147, 3) := by decide +kernel
theorem dX9_master_33 : decode cX9_master 33 = .ok (.iload_n 1, 1) := by decide +kernel
theorem dX9_master_34 : decode cX9_master 34 = .ok (.iaload, 1) := by decide +kernel
theorem dX9_master_35 : decode cX9_master 35 = .ok (.ireturn, 1) := by decide +kernel
theorem dX9_master_36 : decode cX9_master 36 = .ok (.aload_n 0, 1) := by decide +kernel
theorem dX9_master_37 : decode cX9_master 37 = .ok (.getfield 29, 3) := by decide +kernel
theorem dX9_master_40 : decode cX9_master 40 = .ok (.aload_n 0, 1) := by decide +kernel
theorem dX9_master_41 : decode cX9_master 41 = .ok (.getfield 19, 3) := by decide +kernel
theorem dX9_master_44 : decode cX9_master 44 = .ok (.iconst (-1), 1) := by decide +kernel
theorem dX9_master_45 : decode cX9_master 45 = .ok (.invokevirtual 130, 3) := by decide +kernel
theorem dX9_master_48 : decode cX9_master 48 = .ok (.iload_n 2, 1) := by decide +kernel
theorem dX9_master_49 : decode cX9_master 49 = .ok (.iconst 1, 1) := by decide +kernel
theorem dX9_master_50 : decode cX9_master 50 = .ok (.if_icmp .ne 18, 3) := by decide +kernel
theorem dX9_master_53 : decode cX9_master 53 = .ok (.aload_n 0, 1) := by decide +kernel
theorem dX9_master_54 : decode cX9_master 54 = .ok (.getfield 29, 3) := by decide +kernel
theorem dX9_master_57 : decode cX9_master 57 = .ok (.aload_n 0, 1) := by decide +kernel
theorem dX9_master_58 : decode cX9_master 58 = .ok (.getfield 19, 3) := by decide +kernel
theorem dX9_master_61 : decode cX9_master 61 = .ok (.iload_n 1, 1) := by decide +kernel
theorem dX9_master_62 : decode cX9_master 62 = .ok (.invokevirtual 150, 3) := by decide +kernel
theorem dX9_master_65 : decode cX9_master 65 = .ok (.goto 15, 3) := by decide +kernel
theorem dX9_master_68 : decode cX9_master 68 = .ok (.aload_n 0, 1) := by decide +kernel
theorem dX9_master_69 : decode cX9_master 69 = .ok (.getfield 29, 3) := by decide +kernel
theorem dX9_master_72 : decode cX9_master 72 = .ok (.aload_n 0, 1) := by decide +kernel
theorem dX9_master_73 : decode cX9_master 73 = .ok (.getfield 19, 3) := by decide +kernel
theorem dX9_master_76 : decode cX9_master 76 = .ok (.iload_n 1, 1) := by decide +kernel
theorem dX9_master_77 : decode cX9_master 77 = .ok (.invokevirtual 153, 3) := by decide +kernel
theorem dX9_master_80 : decode cX9_master 80 = .ok (.ireturn, 1) := by decide +kernel
theorem dX9_wants_0 : decode cX9_wants 0 = .ok (.aload_n 0, 1) := by decide +kernel
theorem dX9_wants_1 : decode cX9_wants 1 = .ok (.getfield 19, 3) := by decide +kernel
theorem dX9_wants_4 : decode cX9_wants 4 = .ok (.iload_n 1, 1) := by decide +kernel
theorem dX9_wants_5 : decode cX9_wants 5 = .ok (.invokevirtual 120, 3) := by decide +kernel
theorem dX9_wants_8 : decode cX9_wants 8 = .ok (.ifCond .eq 23, 3) := by decide +kernel
theorem dX9_wants_11 : decode cX9_wants 11 = .ok (.aload_n 0, 1) := by decide +kernel
theorem dX9_wants_12 : decode cX9_wants 12 = .ok (.getfield 19, 3) := by decide +kernel
theorem dX9_wants_15 : decode cX9_wants 15 = .ok (.iload_n 2, 1) := by decide +kernel
theorem dX9_wants_16 : decode cX9_wants 16 = .ok (.invokevirtual 144, 3) := by decide +kernel
theorem dX9_wants_19 : decode cX9_wants 19 = .ok (.ifCond .eq 12, 3) := by decide +kernel
theorem dX9_wants_22 : decode cX9_wants 22 = .ok (.iload_n 3, 1) := by decide +kernel
theorem dX9_wants_23 : decode cX9_wants 23 = .ok (.iconst 0, 1) := by decide +kernel
theorem dX9_wants_24 : decode cX9_wants 24 = .ok (.iconst 1, 1) := by decide +kernel
theorem dX9_wants_25 : decode cX9_wants 25 = .ok (.invokestatic 90, 3) := by decide +kernel
theorem dX9_wants_28 : decode cX9_wants 28 = .ok (.ifCond .ne 5, 3) := by decide +kernel
theorem dX9_wants_31 : decode cX9_wants 31 = .ok (.iconst (-1), 1) := by decide +kernel
theorem dX9_wants_32 : decode cX9_wants 32 = .ok (.ireturn, 1) := by decide +kernel
theorem dX9_wants_33 : decode cX9_wants 33 = .ok (.iload_n 3, 1) := by decide +kernel
theorem dX9_wants_34 : decode cX9_wants 34 = .ok (.ifCond .ne 17, 3) := by decide +kernel
theorem dX9_wants_37 : decode cX9_wants 37 = .ok (.aload_n 0, 1) := by decide +kernel
theorem dX9_wants_38 : decode cX9_wants 38 = .ok (.getfield 19, 3) := by decide +kernel
theorem dX9_wants_41 : decode cX9_wants 41 = .ok (.getfield 156, 3) := by decide +kernel
theorem dX9_wants_44 : decode cX9_wants 44 = .ok (.iload_n 1, 1) := by decide +kernel
theorem dX9_wants_45 : decode cX9_wants 45 = .ok (.aaload, 1) := by decide +kernel
theorem dX9_wants_46 : decode cX9_wants 46 = .ok (.iload_n 2, 1) := by decide +kernel
theorem dX9_wants_47 : decode cX9_wants 47 = .ok (.iaload, 1) := by decide +kernel
theorem dX9_wants_48 : decode cX9_wants 48 = .ok (.goto 12, 3) := by decide +kernel
theorem dX9_wants_51 : decode cX9_wants 51 = .ok (.aload_n 0, 1) := by decide +kernel
theorem dX9_wants_52 : decode cX9_wants 52 = .ok (.getfield 19, 3) := by decide +kernel
theorem dX9_wants_55 : decode cX9_wants 55 = .ok (.iload_n 1, 1) := by decide +kernel
theorem dX9_wants_56 : decode cX9_wants 56 = .ok (.iload_n 2, 1) := by decide +kernel
theorem dX9_wants_57 : decode cX9_wants 57 = .ok (.invokevirtual 160, 3) := by decide +kernel
theorem dX9_wants_60 : decode cX9_wants 60 = .ok (.ireturn, 1) := by decide +kernel
theorem dX9_all_0 : decode cX9_all 0 = .ok (.iload_n 1, 1) := by decide +kernel
theorem dX9_all_1 : decode cX9_all 1 = .ok (.iconst 0, 1) := by decide +kernel
theorem dX9_all_2 : decode cX9_all 2 = .ok (.iconst 2, 1) := by decide +kernel
theorem dX9_all_3 : decode cX9_all 3 = .ok (.invokestatic 90, 3) := by decide +kernel
theorem dX9_all_6 : decode cX9_all 6 = .ok (.ifCond .ne 5, 3) := by decide +kernel
theorem dX9_all_9 : decode cX9_all 9 = .ok (.iconst (-1), 1) := by decide +kernel
theorem dX9_all_10 : decode cX9_all 10 = .ok (.ireturn, 1) := by decide +kernel
theorem dX9_all_11 : decode cX9_all 11 = .ok (.aload_n 0, 1) := by decide +kernel
theorem dX9_all_12 : decode cX9_all 12 = .ok (.getfield 29, 3) := by decide +kernel
theorem dX9_all_15 : decode cX9_all 15 = .ok (.aload_n 0, 1) := by decide +kernel
theorem dX9_all_16 : decode cX9_all 16 = .ok (.getfield 19, 3) := by decide +kernel
theorem dX9_all_19 : decode cX9_all 19 = .ok (.iconst (-1), 1) := by decide +kernel
theorem dX9_all_20 : decode cX9_all 20 = .ok (.invokevirtual 130, 3) := by decide +kernel
theorem dX9_all_23 : decode cX9_all 23 = .ok (.iload_n 1, 1) := by decide +kernel
theorem dX9_all_24 : decode cX9_all 24 = .ok (.ifCond .ne 15, 3) := by decide +kernel
theorem dX9_all_27 : decode cX9_all 27 = .ok (.aload_n 0, 1) := by decide +kernel
theorem dX9_all_28 : decode cX9_all 28 = .ok (.getfield 29, 3) := by decide +kernel
theorem dX9_all_31 : decode cX9_all 31 = .ok (.aload_n 0, 1) := by decide +kernel
theorem dX9_all_32 : decode cX9_all 32 = .ok (.getfield 19, 3) := by decide +kernel
theorem dX9_all_35 : decode cX9_all 35 = .ok (.invokevirtual 164, 3) := by decide +kernel
theorem dX9_all_38 : decode cX9_all 38 = .ok (.ireturn, 1) := by decide +kernel
theorem dX9_all_39 : decode cX9_all 39 = .ok (.iload_n 1, 1) := by decide +kernel
theorem dX9_all_40 : decode cX9_all 40 = .ok (.iconst 1, 1) := by decide +kernel
theorem dX9_all_41 : decode cX9_all 41 = .ok (.if_icmp .ne 17, 3) := by decide +kernel
theorem dX9_all_44 : decode cX9_all 44 = .ok (.aload_n 0, 1) := by decide +kernel
theorem dX9_all_45 : decode cX9_all 45 = .ok (.getfield 29, 3) := by decide +kernel
theorem dX9_all_48 : decode cX9_all 48 = .ok (.aload_n 0, 1) := by decide +kernel
theorem dX9_all_49 : decode cX9_all 49 = .ok (.getfield 19, 3) := by decide +kernel
theorem dX9_all_52 : decode cX9_all 52 = .ok (.invokevirtual 167, 3) := by decide +kernel
theorem dX9_all_55 : decode cX9_all 55 = .ok (.goto 14, 3) := by decide +kernel
theorem dX9_all_58 : decode cX9_all 58 = .ok (.aload_n 0, 1) := by decide +kernel
theorem dX9_all_59 : decode cX9_all 59 = .ok (.getfield 29, 3) := by decide +kernel
theorem dX9_all_62 : decode cX9_all 62 = .ok (.aload_n 0, 1) := by decide +kernel
theorem dX9_all_63 : decode cX9_all 63 = .ok (.getfield 19, 3) := by decide +kernel
theorem dX9_all_66 : decode cX9_all 66 = .ok (.invokevirtual 170, 3) := by decide +kernel
theorem dX9_all_69 : decode cX9_all 69 = .ok (.ireturn, 1) := by decide +kernel
theorem dX9_limit_0 : decode cX9_limit 0 = .ok (.aload_n 0, 1) := by decide +kernel
theorem dX9_limit_1 : decode cX9_limit 1 = .ok (.getfield 19, 3) := by decide +kernel
theorem dX9_limit_4 : decode cX9_limit 4 = .ok (.iload_n 1, 1) := by decide +kernel
theorem dX9_limit_5 : decode cX9_limit 5 = .ok (.invokevirtual 120, 3) := by decide +kernel
theorem dX9_limit_8 : decode cX9_limit 8 = .ok (.ifCond .eq 13, 3) := by decide +kernel
theorem dX9_limit_11 : decode cX9_limit 11 = .ok (.iload_n 2, 1) := by decide +kernel
theorem dX9_limit_12 : decode cX9_limit 12 = .ok (.iconst 1, 1) := by decide +kernel
theorem dX9_limit_13 : decode cX9_limit 13 = .ok (.bipush 10, 2) := by decide +kernel
theorem dX9_limit_15 : decode cX9_limit 15 = .ok (.invokestatic 90, 3) := by decide +kernel
theorem dX9_limit_18 : decode cX9_limit 18 = .ok (.ifCond .ne 5, 3) := by decide +kernel
theorem dX9_limit_21 : decode cX9_limit 21 = .ok (.iconst (-1), 1) := by decide +kernel
theorem dX9_limit_22 : decode cX9_limit 22 = .ok (.ireturn, 1) := by decide +kernel
theorem dX9_limit_23 : decode cX9_limit 23 = .ok (.aload_n 0, 1) := by decide +kernel
theorem dX9_limit_24 : decode cX9_limit 24 = .ok (.iload_n 1, 1) := by decide +kernel
theorem dX9_limit_25 : decode cX9_limit 25 = .ok (.iload_n 2, 1) := by decide +kernel
theorem dX9_limit_26 : decode cX9_limit 26 = .ok (.invokevirtual 173, 3) := by decide +kernel
theorem dX9_limit_29 : decode cX9_limit 29 = .ok (.ireturn, 1) := by decide +kernel
theorem dX9_calls_0 : decode cX9_calls 0 = .ok (.iload_n 1, 1) := by decide +kernel
theorem dX9_calls_1 : decode cX9_calls 1 = .ok (.iconst 0, 1) := by decide +kernel
theorem dX9_calls_2 : decode cX9_calls 2 = .ok (.iconst 2, 1) := by decide +kernel
theorem dX9_calls_3 : decode cX9_calls 3 = .ok (.invokestatic 90, 3) := by decide +kernel
theorem dX9_calls_6 : decode cX9_calls 6 = .ok (.ifCond .ne 5, 3) := by decide +kernel
theorem dX9_calls_9 : decode cX9_calls 9 = .ok (.iconst (-1), 1) := by decide +kernel
theorem dX9_calls_10 : decode cX9_calls 10 = .ok (.ireturn, 1) := by decide +kernel
theorem dX9_calls_11 : decode cX9_calls 11 = .ok (.aload_n 0, 1) := by decide +kernel
theorem dX9_calls_12 : decode cX9_calls 12 = .ok (.iconst 5, 1) := by decide +kernel
theorem dX9_calls_13 : decode cX9_calls 13 = .ok (.iload_n 1, 1) := by decide +kernel
theorem dX9_calls_14 : decode cX9_calls 14 = .ok (.invokevirtual 173, 3) := by decide +kernel
theorem dX9_calls_17 : decode cX9_calls 17 = .ok (.ireturn, 1) := by decide +kernel
theorem dX9_step_0 : decode cX9_step 0 = .ok (.iload_n 1, 1) := by decide +kernel
theorem dX9_step_1 : decode cX9_step 1 = .ok (.iconst 1, 1) := by decide +kernel
theorem dX9_step_2 : decode cX9_step 2 = .ok (.iconst 3, 1) := by decide +kernel
theorem dX9_step_3 : decode cX9_step 3 = .ok (.invokestatic 90, 3) := by decide +kernel
theorem dX9_step_6 : decode cX9_step 6 = .ok (.ifCond .ne 5, 3) := by decide +kernel
theorem dX9_step_9 : decode cX9_step 9 = .ok (.iconst (-1), 1) := by decide +kernel
theorem dX9_step_10 : decode cX9_step 10 = .ok (.ireturn, 1) := by decide +kernel
theorem dX9_step_11 : decode cX9_step 11 = .ok (.aload_n 0, 1) := by decide +kernel
theorem dX9_step_12 : decode cX9_step 12 = .ok (.bipush 6, 2) := by decide +kernel
theorem dX9_step_14 : decode cX9_step 14 = .ok (.iload_n 1, 1) := by decide +kernel
theorem dX9_step_15 : decode cX9_step 15 = .ok (.invokevirtual 173, 3) := by decide +kernel
theorem dX9_step_18 : decode cX9_step 18 = .ok (.ireturn, 1) := by decide +kernel
theorem dX9_undo_0 : decode cX9_undo 0 = .ok (.aload_n 0, 1) := by decide +kernel
theorem dX9_undo_1 : decode cX9_undo 1 = .ok (.getfield 64, 3) := by decide +kernel
theorem dX9_undo_4 : decode cX9_undo 4 = .ok (.getfield 118, 3) := by decide +kernel
theorem dX9_undo_7 : decode cX9_undo 7 = .ok (.ifCond .ne 6, 3) := by decide +kernel
theorem dX9_undo_10 : decode cX9_undo 10 = .ok (.bipush (-2), 2) := by decide +kernel
theorem dX9_undo_12 : decode cX9_undo 12 = .ok (.ireturn, 1) := by decide +kernel
theorem dX9_undo_13 : decode cX9_undo 13 = .ok (.aload_n 0, 1) := by decide +kernel
theorem dX9_undo_14 : decode cX9_undo 14 = .ok (.getfield 64, 3) := by decide +kernel
theorem dX9_undo_17 : decode cX9_undo 17 = .ok (.aload_n 0, 1) := by decide +kernel
theorem dX9_undo_18 : decode cX9_undo 18 = .ok (.getfield 19, 3) := by decide +kernel
theorem dX9_undo_21 : decode cX9_undo 21 = .ok (.invokevirtual 176, 3) := by decide +kernel
theorem dX9_undo_24 : decode cX9_undo 24 = .ok (.aload_n 0, 1) := by decide +kernel
theorem dX9_undo_25 : decode cX9_undo 25 = .ok (.getfield 64, 3) := by decide +kernel
theorem dX9_undo_28 : decode cX9_undo 28 = .ok (.getfield 118, 3) := by decide +kernel
theorem dX9_undo_31 : decode cX9_undo 31 = .ok (.ireturn, 1) := by decide +kernel
theorem dX9_lie_0 : decode cX9_lie 0 = .ok (.aload_n 0, 1) := by decide +kernel
theorem dX9_lie_1 : decode cX9_lie 1 = .ok (.getfield 19, 3) := by decide +kernel
theorem dX9_lie_4 : decode cX9_lie 4 = .ok (.iload_n 1, 1) := by decide +kernel
theorem dX9_lie_5 : decode cX9_lie 5 = .ok (.invokevirtual 120, 3) := by decide +kernel
theorem dX9_lie_8 : decode cX9_lie 8 = .ok (.ifCond .eq 12, 3) := by decide +kernel
theorem dX9_lie_11 : decode cX9_lie 11 = .ok (.iload_n 2, 1) := by decide +kernel
theorem dX9_lie_12 : decode cX9_lie 12 = .ok (.iconst 0, 1) := by decide +kernel
theorem dX9_lie_13 : decode cX9_lie 13 = .ok (.iconst 1, 1) := by decide +kernel
theorem dX9_lie_14 : decode cX9_lie 14 = .ok (.invokestatic 90, 3) := by decide +kernel
theorem dX9_lie_17 : decode cX9_lie 17 = .ok (.ifCond .ne 5, 3) := by decide +kernel
theorem dX9_lie_20 : decode cX9_lie 20 = .ok (.iconst (-1), 1) := by decide +kernel
theorem dX9_lie_21 : decode cX9_lie 21 = .ok (.ireturn, 1) := by decide +kernel
theorem dX9_lie_22 : decode cX9_lie 22 = .ok (.aload_n 0, 1) := by decide +kernel
theorem dX9_lie_23 : decode cX9_lie 23 = .ok (.getfield 23, 3) := by decide +kernel
theorem dX9_lie_26 : decode cX9_lie 26 = .ok (.aload_n 0, 1) := by decide +kernel
theorem dX9_lie_27 : decode cX9_lie 27 = .ok (.getfield 19, 3) := by decide +kernel
theorem dX9_lie_30 : decode cX9_lie 30 = .ok (.invokevirtual 111, 3) := by decide +kernel
theorem dX9_lie_33 : decode cX9_lie 33 = .ok (.iconst 1, 1) := by decide +kernel
theorem dX9_lie_34 : decode cX9_lie 34 = .ok (.istore_n 3, 1) := by decide +kernel
theorem dX9_lie_35 : decode cX9_lie 35 = .ok (.aload_n 0, 1) := by decide +kernel
theorem dX9_lie_36 : decode cX9_lie 36 = .ok (.iload_n 1, 1) := by decide +kernel
theorem dX9_lie_37 : decode cX9_lie 37 = .ok (.iload_n 3, 1) := by decide +kernel
theorem dX9_lie_38 : decode cX9_lie 38 = .ok (.invokevirtual 179, 3) := by decide +kernel
theorem dX9_lie_41 : decode cX9_lie 41 = .ok (.istore 4, 2) := by decide +kernel
theorem dX9_lie_43 : decode cX9_lie 43 = .ok (.iconst 2, 1) := by decide +kernel
theorem dX9_lie_44 : decode cX9_lie 44 = .ok (.istore 5, 2) := by decide +kernel
theorem dX9_lie_46 : decode cX9_lie 46 = .ok (.iload 5, 2) := by decide +kernel
theorem dX9_lie_48 : decode cX9_lie 48 = .ok (.bipush 10, 2) := by decide +kernel
theorem dX9_lie_50 : decode cX9_lie 50 = .ok (.if_icmp .gt 32, 3) := by decide +kernel
theorem dX9_lie_53 : decode cX9_lie 53 = .ok (.aload_n 0, 1) := by decide +kernel
theorem dX9_lie_54 : decode cX9_lie 54 = .ok (.iload_n 1, 1) := by decide +kernel
theorem dX9_lie_55 : decode cX9_lie 55 = .ok (.iload 5, 2) := by decide +kernel
theorem dX9_lie_57 : decode cX9_lie 57 = .ok (.invokevirtual 179, 3) := by decide +kernel
theorem dX9_lie_60 : decode cX9_lie 60 = .ok (.istore 6, 2) := by decide +kernel
theorem dX9_lie_62 : decode cX9_lie 62 = .ok (.iload 6, 2) := by decide +kernel
theorem dX9_lie_64 : decode cX9_lie 64 = .ok (.iload 4, 2) := by decide +kernel
theorem dX9_lie_66 : decode cX9_lie 66 = .ok (.if_icmp .le 10, 3) := by decide +kernel
theorem dX9_lie_69 : decode cX9_lie 69 = .ok (.iload 6, 2) := by decide +kernel
theorem dX9_lie_71 : decode cX9_lie 71 = .ok (.istore 4, 2) := by decide +kernel
theorem dX9_lie_73 : decode cX9_lie 73 = .ok (.iload 5, 2) := by decide +kernel
theorem dX9_lie_75 : decode cX9_lie 75 = .ok (.istore_n 3, 1) := by decide +kernel
theorem dX9_lie_76 : decode cX9_lie 76 = .ok (.iinc 5 1, 3) := by decide +kernel
theorem dX9_lie_79 : decode cX9_lie 79 = .ok (.goto (-33), 3) := by decide +kernel
theorem dX9_lie_82 : decode cX9_lie 82 = .ok (.iload_n 2, 1) := by decide +kernel
theorem dX9_lie_83 : decode cX9_lie 83 = .ok (.ifCond .ne 7, 3) := by decide +kernel
theorem dX9_lie_86 : decode cX9_lie 86 = .ok (.iload_n 3, 1) := by decide +kernel
theorem dX9_lie_87 : decode cX9_lie 87 = .ok (.goto 20, 3) := by decide +kernel
theorem dX9_lie_90 : decode cX9_lie 90 = .ok (.iload 4, 2) := by decide +kernel
theorem dX9_lie_92 : decode cX9_lie 92 = .ok (.aload_n 0, 1) := by decide +kernel
theorem dX9_lie_93 : decode cX9_lie 93 = .ok (.iload_n 1, 1) := by decide +kernel
theorem dX9_lie_94 : decode cX9_lie 94 = .ok (.aload_n 0, 1) := by decide +kernel
theorem dX9_lie_95 : decode cX9_lie 95 = .ok (.getfield 19, 3) := by decide +kernel
theorem dX9_lie_98 : decode cX9_lie 98 = .ok (.getfield 123, 3) := by decide +kernel
theorem dX9_lie_101 : decode cX9_lie 101 = .ok (.iload_n 1, 1) := by decide +kernel
theorem dX9_lie_102 : decode cX9_lie 102 = .ok (.iaload, 1) := by decide +kernel
theorem dX9_lie_103 : decode cX9_lie 103 = .ok (.invokevirtual 179, 3) := by decide +kernel
theorem dX9_lie_106 : decode cX9_lie 106 = .ok (.isub, 1) := by decide +kernel
theorem dX9_lie_107 : decode cX9_lie 107 = .ok (.ireturn, 1) := by decide +kernel
theorem dX9_game_0 : decode cX9_game 0 = .ok (.aload_n 0, 1) := by decide +kernel
theorem dX9_game_1 : decode cX9_game 1 = .ok (.getfield 19, 3) := by decide +kernel
theorem dX9_game_4 : decode cX9_game 4 = .ok (.iload_n 1, 1) := by decide +kernel
theorem dX9_game_5 : decode cX9_game 5 = .ok (.invokevirtual 120, 3) := by decide +kernel
theorem dX9_game_8 : decode cX9_game 8 = .ok (.ifCond .eq 28, 3) := by decide +kernel
theorem dX9_game_11 : decode cX9_game 11 = .ok (.aload_n 0, 1) := by decide +kernel
theorem dX9_game_12 : decode cX9_game 12 = .ok (.getfield 19, 3) := by decide +kernel
theorem dX9_game_15 : decode cX9_game 15 = .ok (.iload_n 2, 1) := by decide +kernel
theorem dX9_game_16 : decode cX9_game 16 = .ok (.invokevirtual 120, 3) := by decide +kernel
theorem dX9_game_19 : decode cX9_game 19 = .ok (.ifCond .eq 17, 3) := by decide +kernel
theorem dX9_game_22 : decode cX9_game 22 = .ok (.iload_n 1, 1) := by decide +kernel
theorem dX9_game_23 : decode cX9_game 23 = .ok (.iload_n 2, 1) := by decide +kernel
theorem dX9_game_24 : decode cX9_game 24 = .ok (.if_icmp .eq 12, 3) := by decide +kernel
theorem dX9_game_27 : decode cX9_game 27 = .ok (.iload_n 3, 1) := by decide +kernel
theorem dX9_game_28 : decode cX9_game 28 = .ok (.iconst 0, 1) := by decide +kernel
theorem dX9_game_29 : decode cX9_game 29 = .ok (.iconst 2, 1) := by decide +kernel
theorem dX9_game_30 : decode cX9_game 30 = .ok (.invokestatic 90, 3) := by decide +kernel
theorem dX9_game_33 : decode cX9_game 33 = .ok (.ifCond .ne 5, 3) := by decide +kernel
theorem dX9_game_36 : decode cX9_game 36 = .ok (.iconst (-1), 1) := by decide +kernel
theorem dX9_game_37 : decode cX9_game 37 = .ok (.ireturn, 1) := by decide +kernel
theorem dX9_game_38 : decode cX9_game 38 = .ok (.aload_n 0, 1) := by decide +kernel
theorem dX9_game_39 : decode cX9_game 39 = .ok (.getfield 23, 3) := by decide +kernel
theorem dX9_game_42 : decode cX9_game 42 = .ok (.aload_n 0, 1) := by decide +kernel
theorem dX9_game_43 : decode cX9_game 43 = .ok (.getfield 19, 3) := by decide +kernel
theorem dX9_game_46 : decode cX9_game 46 = .ok (.invokevirtual 111, 3) := by decide +kernel
theorem dX9_game_49 : decode cX9_game 49 = .ok (.aload_n 0, 1) := by decide +kernel
theorem dX9_game_50 : decode cX9_game 50 = .ok (.getfield 36, 3) := by decide +kernel
theorem dX9_game_53 : decode cX9_game 53 = .ok (.aload_n 0, 1) := by decide +kernel
theorem dX9_game_54 : decode cX9_game 54 = .ok (.getfield 23, 3) := by decide +kernel
theorem dX9_game_57 : decode cX9_game 57 = .ok (.aload_n 0, 1) := by decide +kernel
theorem dX9_game_58 : decode cX9_game 58 = .ok (.getfield 29, 3) := by decide +kernel
theorem dX9_game_61 : decode cX9_game 61 = .ok (.iload_n 1, 1) := by decide +kernel
theorem dX9_game_62 : decode cX9_game 62 = .ok (.iload_n 2, 1) := by decide +kernel
theorem dX9_game_63 : decode cX9_game 63 = .ok (.invokevirtual 182, 3) := by decide +kernel
theorem dX9_game_66 : decode cX9_game 66 = .ok (.aload_n 0, 1) := by decide +kernel
theorem dX9_game_67 : decode cX9_game 67 = .ok (.getfield 36, 3) := by decide +kernel
theorem dX9_game_70 : decode cX9_game 70 = .ok (.invokevirtual 186, 3) := by decide +kernel
theorem dX9_game_73 : decode cX9_game 73 = .ok (.iload_n 3, 1) := by decide +kernel
theorem dX9_game_74 : decode cX9_game 74 = .ok (.ifCond .ne 11, 3) := by decide +kernel
theorem dX9_game_77 : decode cX9_game 77 = .ok (.aload_n 0, 1) := by decide +kernel
theorem dX9_game_78 : decode cX9_game 78 = .ok (.getfield 36, 3) := by decide +kernel
theorem dX9_game_81 : decode cX9_game 81 = .ok (.getfield 189, 3) := by decide +kernel
theorem dX9_game_84 : decode cX9_game 84 = .ok (.ireturn, 1) := by decide +kernel
theorem dX9_game_85 : decode cX9_game 85 = .ok (.aload_n 0, 1) := by decide +kernel
theorem dX9_game_86 : decode cX9_game 86 = .ok (.getfield 36, 3) := by decide +kernel
theorem dX9_game_89 : decode cX9_game 89 = .ok (.getfield 189, 3) := by decide +kernel
theorem dX9_game_92 : decode cX9_game 92 = .ok (.ifCond .ne 6, 3) := by decide +kernel
theorem dX9_game_95 : decode cX9_game 95 = .ok (.bipush (-4), 2) := by decide +kernel
theorem dX9_game_97 : decode cX9_game 97 = .ok (.ireturn, 1) := by decide +kernel
theorem dX9_game_98 : decode cX9_game 98 = .ok (.iload_n 3, 1) := by decide +kernel
theorem dX9_game_99 : decode cX9_game 99 = .ok (.iconst 1, 1) := by decide +kernel
theorem dX9_game_100 : decode cX9_game 100 = .ok (.if_icmp .ne 13, 3) := by decide +kernel
theorem dX9_game_103 : decode cX9_game 103 = .ok (.aload_n 0, 1) := by decide +kernel
theorem dX9_game_104 : decode cX9_game 104 = .ok (.getfield 36, 3) := by decide +kernel
theorem dX9_game_107 : decode cX9_game 107 = .ok (.getfield 192, 3) := by decide +kernel
theorem dX9_game_110 : decode cX9_game 110 = .ok (.goto 10, 3) := by decide +kernel
theorem dX9_game_113 : decode cX9_game 113 = .ok (.aload_n 0, 1) := by decide +kernel
theorem dX9_game_114 : decode cX9_game 114 = .ok (.getfield 36, 3) := by decide +kernel
theorem dX9_game_117 : decode cX9_game 117 = .ok (.getfield 195, 3) := by decide +kernel
theorem dX9_game_120 : decode cX9_game 120 = .ok (.ireturn, 1) := by decide +kernel
theorem dX9_rest_0 : decode cX9_rest 0 = .ok (.iload_n 1, 1) := by decide +kernel
theorem dX9_rest_1 : decode cX9_rest 1 = .ok (.iconst (-1), 1) := by decide +kernel
theorem dX9_rest_2 : decode cX9_rest 2 = .ok (.if_icmp .eq 16, 3) := by decide +kernel
theorem dX9_rest_5 : decode cX9_rest 5 = .ok (.aload_n 0, 1) := by decide +kernel
theorem dX9_rest_6 : decode cX9_rest 6 = .ok (.getfield 19, 3) := by decide +kernel
theorem dX9_rest_9 : decode cX9_rest 9 = .ok (.iload_n 1, 1) := by decide +kernel
theorem dX9_rest_10 : decode cX9_rest 10 = .ok (.invokevirtual 144, 3) := by decide +kernel
theorem dX9_rest_13 : decode cX9_rest 13 = .ok (.ifCond .ne 5, 3) := by decide +kernel
theorem dX9_rest_16 : decode cX9_rest 16 = .ok (.iconst (-1), 1) := by decide +kernel
theorem dX9_rest_17 : decode cX9_rest 17 = .ok (.ireturn, 1) := by decide +kernel
theorem dX9_rest_18 : decode cX9_rest 18 = .ok (.aload_n 0, 1) := by decide +kernel
theorem dX9_rest_19 : decode cX9_rest 19 = .ok (.getfield 43, 3) := by decide +kernel
theorem dX9_rest_22 : decode cX9_rest 22 = .ok (.aload_n 0, 1) := by decide +kernel
theorem dX9_rest_23 : decode cX9_rest 23 = .ok (.getfield 19, 3) := by decide +kernel
theorem dX9_rest_26 : decode cX9_rest 26 = .ok (.iconst (-1), 1) := by decide +kernel
theorem dX9_rest_27 : decode cX9_rest 27 = .ok (.invokevirtual 198, 3) := by decide +kernel
theorem dX9_rest_30 : decode cX9_rest 30 = .ok (.aload_n 0, 1) := by decide +kernel
theorem dX9_rest_31 : decode cX9_rest 31 = .ok (.getfield 50, 3) := by decide +kernel
theorem dX9_rest_34 : decode cX9_rest 34 = .ok (.aload_n 0, 1) := by decide +kernel
theorem dX9_rest_35 : decode cX9_rest 35 = .ok (.getfield 19, 3) := by decide +kernel
theorem dX9_rest_38 : decode cX9_rest 38 = .ok (.aload_n 0, 1) := by decide +kernel
theorem dX9_rest_39 : decode cX9_rest 39 = .ok (.getfield 43, 3) := by decide +kernel
theorem dX9_rest_42 : decode cX9_rest 42 = .ok (.getfield 201, 3) := by decide +kernel
theorem dX9_rest_45 : decode cX9_rest 45 = .ok (.iload_n 2, 1) := by decide +kernel
theorem dX9_rest_46 : decode cX9_rest 46 = .ok (.invokevirtual 204, 3) := by decide +kernel
theorem dX9_rest_49 : decode cX9_rest 49 = .ok (.aload_n 0, 1) := by decide +kernel
theorem dX9_rest_50 : decode cX9_rest 50 = .ok (.getfield 50, 3) := by decide +kernel
theorem dX9_rest_53 : decode cX9_rest 53 = .ok (.getfield 207, 3) := by decide +kernel
theorem dX9_rest_56 : decode cX9_rest 56 = .ok (.ifCond .ne 6, 3) := by decide +kernel
theorem dX9_rest_59 : decode cX9_rest 59 = .ok (.bipush (-4), 2) := by decide +kernel
theorem dX9_rest_61 : decode cX9_rest 61 = .ok (.ireturn, 1) := by decide +kernel
theorem dX9_rest_62 : decode cX9_rest 62 = .ok (.iload_n 1, 1) := by decide +kernel
theorem dX9_rest_63 : decode cX9_rest 63 = .ok (.iconst (-1), 1) := by decide +kernel
theorem dX9_rest_64 : decode cX9_rest 64 = .ok (.if_icmp .ne 13, 3) := by decide +kernel
theorem dX9_rest_67 : decode cX9_rest 67 = .ok (.aload_n 0, 1) := by decide +kernel
theorem dX9_rest_68 : decode cX9_rest 68 = .ok (.getfield 50, 3) := by decide +kernel
theorem dX9_rest_71 : decode cX9_rest 71 = .ok (.getfield 211, 3) := by decide +kernel
theorem dX9_rest_74 : decode cX9_rest 74 = .ok (.goto 12, 3) := by decide +kernel
theorem dX9_rest_77 : decode cX9_rest 77 = .ok (.aload_n 0, 1) := by decide +kernel
theorem dX9_rest_78 : decode cX9_rest 78 = .ok (.getfield 50, 3) := by decide +kernel
theorem dX9_rest_81 : decode cX9_rest 81 = .ok (.getfield 214, 3) := by decide +kernel
theorem dX9_rest_84 : decode cX9_rest 84 = .ok (.iload_n 1, 1) := by decide +kernel
theorem dX9_rest_85 : decode cX9_rest 85 = .ok (.iaload, 1) := by decide +kernel
theorem dX9_rest_86 : decode cX9_rest 86 = .ok (.ireturn, 1) := by decide +kernel
theorem dX9_joint_0 : decode cX9_joint 0 = .ok (.iload_n 1, 1) := by decide +kernel
theorem dX9_joint_1 : decode cX9_joint 1 = .ok (.iconst (-1), 1) := by decide +kernel
theorem dX9_joint_2 : decode cX9_joint 2 = .ok (.if_icmp .eq 16, 3) := by decide +kernel
theorem dX9_joint_5 : decode cX9_joint 5 = .ok (.aload_n 0, 1) := by decide +kernel
theorem dX9_joint_6 : decode cX9_joint 6 = .ok (.getfield 19, 3) := by decide +kernel
theorem dX9_joint_9 : decode cX9_joint 9 = .ok (.iload_n 1, 1) := by decide +kernel
theorem dX9_joint_10 : decode cX9_joint 10 = .ok (.invokevirtual 120, 3) := by decide +kernel
theorem dX9_joint_13 : decode cX9_joint 13 = .ok (.ifCond .ne 5, 3) := by decide +kernel
theorem dX9_joint_16 : decode cX9_joint 16 = .ok (.iconst (-1), 1) := by decide +kernel
theorem dX9_joint_17 : decode cX9_joint 17 = .ok (.ireturn, 1) := by decide +kernel
theorem dX9_joint_18 : decode cX9_joint 18 = .ok (.aload_n 0, 1) := by decide +kernel
theorem dX9_joint_19 : decode cX9_joint 19 = .ok (.getfield 43, 3) := by decide +kernel
theorem dX9_joint_22 : decode cX9_joint 22 = .ok (.aload_n 0, 1) := by decide +kernel
theorem dX9_joint_23 : decode cX9_joint 23 = .ok (.getfield 19, 3) := by decide +kernel
theorem dX9_joint_26 : decode cX9_joint 26 = .ok (.iconst (-1), 1) := by decide +kernel
theorem dX9_joint_27 : decode cX9_joint 27 = .ok (.invokevirtual 198, 3) := by decide +kernel
theorem dX9_joint_30 : decode cX9_joint 30 = .ok (.iload_n 1, 1) := by decide +kernel
theorem dX9_joint_31 : decode cX9_joint 31 = .ok (.iconst (-1), 1) := by decide +kernel
theorem dX9_joint_32 : decode cX9_joint 32 = .ok (.if_icmp .ne 13, 3) := by decide +kernel
theorem dX9_joint_35 : decode cX9_joint 35 = .ok (.aload_n 0, 1) := by decide +kernel
theorem dX9_joint_36 : decode cX9_joint 36 = .ok (.getfield 43, 3) := by decide +kernel
theorem dX9_joint_39 : decode cX9_joint 39 = .ok (.getfield 215, 3) := by decide +kernel
theorem dX9_joint_42 : decode cX9_joint 42 = .ok (.goto 12, 3) := by decide +kernel
theorem dX9_joint_45 : decode cX9_joint 45 = .ok (.aload_n 0, 1) := by decide +kernel
theorem dX9_joint_46 : decode cX9_joint 46 = .ok (.getfield 43, 3) := by decide +kernel
theorem dX9_joint_49 : decode cX9_joint 49 = .ok (.getfield 201, 3) := by decide +kernel
theorem dX9_joint_52 : decode cX9_joint 52 = .ok (.iload_n 1, 1) := by decide +kernel
theorem dX9_joint_53 : decode cX9_joint 53 = .ok (.iaload, 1) := by decide +kernel
theorem dX9_joint_54 : decode cX9_joint 54 = .ok (.ireturn, 1) := by decide +kernel
theorem dX9_pay_0 : decode cX9_pay 0 = .ok (.aload_n 0, 1) := by decide +kernel
theorem dX9_pay_1 : decode cX9_pay 1 = .ok (.getfield 19, 3) := by decide +kernel
theorem dX9_pay_4 : decode cX9_pay 4 = .ok (.iload_n 1, 1) := by decide +kernel
theorem dX9_pay_5 : decode cX9_pay 5 = .ok (.invokevirtual 120, 3) := by decide +kernel
theorem dX9_pay_8 : decode cX9_pay 8 = .ok (.ifCond .ne 5, 3) := by decide +kernel
theorem dX9_pay_11 : decode cX9_pay 11 = .ok (.iconst (-1), 1) := by decide +kernel
theorem dX9_pay_12 : decode cX9_pay 12 = .ok (.ireturn, 1) := by decide +kernel
theorem dX9_pay_13 : decode cX9_pay 13 = .ok (.aload_n 0, 1) := by decide +kernel
theorem dX9_pay_14 : decode cX9_pay 14 = .ok (.getfield 43, 3) := by decide +kernel
theorem dX9_pay_17 : decode cX9_pay 17 = .ok (.aload_n 0, 1) := by decide +kernel
theorem dX9_pay_18 : decode cX9_pay 18 = .ok (.getfield 19, 3) := by decide +kernel
theorem dX9_pay_21 : decode cX9_pay 21 = .ok (.iconst (-1), 1) := by decide +kernel
theorem dX9_pay_22 : decode cX9_pay 22 = .ok (.invokevirtual 198, 3) := by decide +kernel
theorem dX9_pay_25 : decode cX9_pay 25 = .ok (.aload_n 0, 1) := by decide +kernel
theorem dX9_pay_26 : decode cX9_pay 26 = .ok (.getfield 43, 3) := by decide +kernel
theorem dX9_pay_29 : decode cX9_pay 29 = .ok (.getfield 215, 3) := by decide +kernel
theorem dX9_pay_32 : decode cX9_pay 32 = .ok (.istore_n 2, 1) := by decide +kernel
theorem dX9_pay_33 : decode cX9_pay 33 = .ok (.aload_n 0, 1) := by decide +kernel
theorem dX9_pay_34 : decode cX9_pay 34 = .ok (.getfield 43, 3) := by decide +kernel
theorem dX9_pay_37 : decode cX9_pay 37 = .ok (.getfield 201, 3) := by decide +kernel
theorem dX9_pay_40 : decode cX9_pay 40 = .ok (.iload_n 1, 1) := by decide +kernel
theorem dX9_pay_41 : decode cX9_pay 41 = .ok (.iaload, 1) := by decide +kernel
theorem dX9_pay_42 : decode cX9_pay 42 = .ok (.bipush (-4), 2) := by decide +kernel
theorem dX9_pay_44 : decode cX9_pay 44 = .ok (.if_icmp .eq 25, 3) := by decide +kernel
theorem dX9_pay_47 : decode cX9_pay 47 = .ok (.iload_n 2, 1) := by decide +kernel
theorem dX9_pay_48 : decode cX9_pay 48 = .ok (.aload_n 0, 1) := by decide +kernel
theorem dX9_pay_49 : decode cX9_pay 49 = .ok (.getfield 19, 3) := by decide +kernel
theorem dX9_pay_52 : decode cX9_pay 52 = .ok (.getfield 156, 3) := by decide +kernel
theorem dX9_pay_55 : decode cX9_pay 55 = .ok (.iload_n 1, 1) := by decide +kernel
theorem dX9_pay_56 : decode cX9_pay 56 = .ok (.aaload, 1) := by decide +kernel
theorem dX9_pay_57 : decode cX9_pay 57 = .ok (.aload_n 0, 1) := by decide +kernel
theorem dX9_pay_58 : decode cX9_pay 58 = .ok (.getfield 43, 3) := by decide +kernel
theorem dX9_pay_61 : decode cX9_pay 61 = .ok (.getfield 201, 3) := by decide +kernel
theorem dX9_pay_64 : decode cX9_pay 64 = .ok (.iload_n 1, 1) := by decide +kernel
theorem dX9_pay_65 : decode cX9_pay 65 = .ok (.iaload, 1) := by decide +kernel
theorem dX9_pay_66 : decode cX9_pay 66 = .ok (.iaload, 1) := by decide +kernel
theorem dX9_pay_67 : decode cX9_pay 67 = .ok (.isub, 1) := by decide +kernel
theorem dX9_pay_68 : decode cX9_pay 68 = .ok (.istore_n 2, 1) := by decide +kernel
theorem dX9_pay_69 : decode cX9_pay 69 = .ok (.aload_n 0, 1) := by decide +kernel
theorem dX9_pay_70 : decode cX9_pay 70 = .ok (.getfield 43, 3) := by decide +kernel
theorem dX9_pay_73 : decode cX9_pay 73 = .ok (.aload_n 0, 1) := by decide +kernel
theorem dX9_pay_74 : decode cX9_pay 74 = .ok (.getfield 19, 3) := by decide +kernel
theorem dX9_pay_77 : decode cX9_pay 77 = .ok (.iload_n 1, 1) := by decide +kernel
theorem dX9_pay_78 : decode cX9_pay 78 = .ok (.invokevirtual 198, 3) := by decide +kernel
theorem dX9_pay_81 : decode cX9_pay 81 = .ok (.aload_n 0, 1) := by decide +kernel
theorem dX9_pay_82 : decode cX9_pay 82 = .ok (.getfield 43, 3) := by decide +kernel
theorem dX9_pay_85 : decode cX9_pay 85 = .ok (.getfield 215, 3) := by decide +kernel
theorem dX9_pay_88 : decode cX9_pay 88 = .ok (.iload_n 2, 1) := by decide +kernel
theorem dX9_pay_89 : decode cX9_pay 89 = .ok (.isub, 1) := by decide +kernel
theorem dX9_pay_90 : decode cX9_pay 90 = .ok (.ireturn, 1) := by decide +kernel
theorem dX9_seen_0 : decode cX9_seen 0 = .ok (.aload_n 0, 1) := by decide +kernel
theorem dX9_seen_1 : decode cX9_seen 1 = .ok (.getfield 19, 3) := by decide +kernel
theorem dX9_seen_4 : decode cX9_seen 4 = .ok (.iload_n 1, 1) := by decide +kernel
theorem dX9_seen_5 : decode cX9_seen 5 = .ok (.invokevirtual 144, 3) := by decide +kernel
theorem dX9_seen_8 : decode cX9_seen 8 = .ok (.ifCond .eq 13, 3) := by decide +kernel
theorem dX9_seen_11 : decode cX9_seen 11 = .ok (.iload_n 2, 1) := by decide +kernel
theorem dX9_seen_12 : decode cX9_seen 12 = .ok (.iconst 0, 1) := by decide +kernel
theorem dX9_seen_13 : decode cX9_seen 13 = .ok (.bipush 10, 2) := by decide +kernel
theorem dX9_seen_15 : decode cX9_seen 15 = .ok (.invokestatic 90, 3) := by decide +kernel
theorem dX9_seen_18 : decode cX9_seen 18 = .ok (.ifCond .ne 5, 3) := by decide +kernel
theorem dX9_seen_21 : decode cX9_seen 21 = .ok (.iconst (-1), 1) := by decide +kernel
theorem dX9_seen_22 : decode cX9_seen 22 = .ok (.ireturn, 1) := by decide +kernel
theorem dX9_seen_23 : decode cX9_seen 23 = .ok (.aload_n 0, 1) := by decide +kernel
theorem dX9_seen_24 : decode cX9_seen 24 = .ok (.getfield 57, 3) := by decide +kernel
theorem dX9_seen_27 : decode cX9_seen 27 = .ok (.getfield 115, 3) := by decide +kernel
theorem dX9_seen_30 : decode cX9_seen 30 = .ok (.bipush 6, 2) := by decide +kernel
theorem dX9_seen_32 : decode cX9_seen 32 = .ok (.if_icmp .lt 6, 3) := by decide +kernel
theorem dX9_seen_35 : decode cX9_seen 35 = .ok (.bipush (-3), 2) := by decide +kernel
theorem dX9_seen_37 : decode cX9_seen 37 = .ok (.ireturn, 1) := by decide +kernel
theorem dX9_seen_38 : decode cX9_seen 38 = .ok (.aload_n 0, 1) := by decide +kernel
theorem dX9_seen_39 : decode cX9_seen 39 = .ok (.getfield 57, 3) := by decide +kernel
theorem dX9_seen_42 : decode cX9_seen 42 = .ok (.iload_n 1, 1) := by decide +kernel
theorem dX9_seen_43 : decode cX9_seen 43 = .ok (.iload_n 2, 1) := by decide +kernel
theorem dX9_seen_44 : decode cX9_seen 44 = .ok (.invokevirtual 218, 3) := by decide +kernel
theorem dX9_seen_47 : decode cX9_seen 47 = .ok (.aload_n 0, 1) := by decide +kernel
theorem dX9_seen_48 : decode cX9_seen 48 = .ok (.getfield 57, 3) := by decide +kernel
theorem dX9_seen_51 : decode cX9_seen 51 = .ok (.getfield 115, 3) := by decide +kernel
theorem dX9_seen_54 : decode cX9_seen 54 = .ok (.ireturn, 1) := by decide +kernel
theorem dX9_forget_0 : decode cX9_forget 0 = .ok (.aload_n 0, 1) := by decide +kernel
theorem dX9_forget_1 : decode cX9_forget 1 = .ok (.getfield 57, 3) := by decide +kernel
theorem dX9_forget_4 : decode cX9_forget 4 = .ok (.getfield 115, 3) := by decide +kernel
theorem dX9_forget_7 : decode cX9_forget 7 = .ok (.istore_n 1, 1) := by decide +kernel
theorem dX9_forget_8 : decode cX9_forget 8 = .ok (.aload_n 0, 1) := by decide +kernel
theorem dX9_forget_9 : decode cX9_forget 9 = .ok (.getfield 57, 3) := by decide +kernel
theorem dX9_forget_12 : decode cX9_forget 12 = .ok (.iconst 0, 1) := by decide +kernel
theorem dX9_forget_13 : decode cX9_forget 13 = .ok (.putfield 115, 3) := by decide +kernel
theorem dX9_forget_16 : decode cX9_forget 16 = .ok (.iload_n 1, 1) := by decide +kernel
theorem dX9_forget_17 : decode cX9_forget 17 = .ok (.ireturn, 1) := by decide +kernel
theorem dX9_cousins_0 : decode cX9_cousins 0 = .ok (.iconst 0, 1) := by decide +kernel
theorem dX9_cousins_1 : decode cX9_cousins 1 = .ok (.istore_n 1, 1) := by decide +kernel
theorem dX9_cousins_2 : decode cX9_cousins 2 = .ok (.iconst 0, 1) := by decide +kernel
theorem dX9_cousins_3 : decode cX9_cousins 3 = .ok (.istore_n 2, 1) := by decide +kernel
theorem dX9_cousins_4 : decode cX9_cousins 4 = .ok (.iload_n 2, 1) := by decide +kernel
theorem dX9_cousins_5 : decode cX9_cousins 5 = .ok (.aload_n 0, 1) := by decide +kernel
theorem dX9_cousins_6 : decode cX9_cousins 6 = .ok (.getfield 19, 3) := by decide +kernel
theorem dX9_cousins_9 : decode cX9_cousins 9 = .ok (.getfield 108, 3) := by decide +kernel
theorem dX9_cousins_12 : decode cX9_cousins 12 = .ok (.if_icmp .ge 23, 3) := by decide +kernel
theorem dX9_cousins_15 : decode cX9_cousins 15 = .ok (.aload_n 0, 1) := by decide +kernel
theorem dX9_cousins_16 : decode cX9_cousins 16 = .ok (.iload_n 2, 1) := by decide +kernel
theorem dX9_cousins_17 : decode cX9_cousins 17 = .ok (.invokevirtual 222, 3) := by decide +kernel
theorem dX9_cousins_20 : decode cX9_cousins 20 = .ok (.ifCond .eq 9, 3) := by decide +kernel
theorem dX9_cousins_23 : decode cX9_cousins 23 = .ok (.iload_n 1, 1) := by decide +kernel
theorem dX9_cousins_24 : decode cX9_cousins 24 = .ok (.iconst 1, 1) := by decide +kernel
theorem dX9_cousins_25 : decode cX9_cousins 25 = .ok (.iload_n 2, 1) := by decide +kernel
theorem dX9_cousins_26 : decode cX9_cousins 26 = .ok (.ishl, 1) := by decide +kernel
theorem dX9_cousins_27 : decode cX9_cousins 27 = .ok (.ior, 1) := by decide +kernel
theorem dX9_cousins_28 : decode cX9_cousins 28 = .ok (.istore_n 1, 1) := by decide +kernel
theorem dX9_cousins_29 : decode cX9_cousins 29 = .ok (.iinc 2 1, 3) := by decide +kernel
theorem dX9_cousins_32 : decode cX9_cousins 32 = .ok (.goto (-28), 3) := by decide +kernel
theorem dX9_cousins_35 : decode cX9_cousins 35 = .ok (.aload_n 0, 1) := by decide +kernel
theorem dX9_cousins_36 : decode cX9_cousins 36 = .ok (.iconst (-1), 1) := by decide +kernel
theorem dX9_cousins_37 : decode cX9_cousins 37 = .ok (.invokevirtual 222, 3) := by decide +kernel
theorem dX9_cousins_40 : decode cX9_cousins 40 = .ok (.ifCond .eq 10, 3) := by decide +kernel
theorem dX9_cousins_43 : decode cX9_cousins 43 = .ok (.iload_n 1, 1) := by decide +kernel
theorem dX9_cousins_44 : decode cX9_cousins 44 = .ok (.bipush 32, 2) := by decide +kernel
theorem dX9_cousins_46 : decode cX9_cousins 46 = .ok (.ior, 1) := by decide +kernel
theorem dX9_cousins_47 : decode cX9_cousins 47 = .ok (.goto 4, 3) := by decide +kernel
theorem dX9_cousins_50 : decode cX9_cousins 50 = .ok (.iload_n 1, 1) := by decide +kernel
theorem dX9_cousins_51 : decode cX9_cousins 51 = .ok (.ireturn, 1) := by decide +kernel
theorem dX9_span_0 : decode cX9_span 0 = .ok (.aload_n 0, 1) := by decide +kernel
theorem dX9_span_1 : decode cX9_span 1 = .ok (.getfield 19, 3) := by decide +kernel
theorem dX9_span_4 : decode cX9_span 4 = .ok (.iload_n 1, 1) := by decide +kernel
theorem dX9_span_5 : decode cX9_span 5 = .ok (.invokevirtual 120, 3) := by decide +kernel
theorem dX9_span_8 : decode cX9_span 8 = .ok (.ifCond .eq 23, 3) := by decide +kernel
theorem dX9_span_11 : decode cX9_span 11 = .ok (.aload_n 0, 1) := by decide +kernel
theorem dX9_span_12 : decode cX9_span 12 = .ok (.getfield 19, 3) := by decide +kernel
theorem dX9_span_15 : decode cX9_span 15 = .ok (.iload_n 2, 1) := by decide +kernel
theorem dX9_span_16 : decode cX9_span 16 = .ok (.invokevirtual 144, 3) := by decide +kernel
theorem dX9_span_19 : decode cX9_span 19 = .ok (.ifCond .eq 12, 3) := by decide +kernel
theorem dX9_span_22 : decode cX9_span 22 = .ok (.iload_n 3, 1) := by decide +kernel
theorem dX9_span_23 : decode cX9_span 23 = .ok (.iconst 0, 1) := by decide +kernel
theorem dX9_span_24 : decode cX9_span 24 = .ok (.iconst 1, 1) := by decide +kernel
theorem dX9_span_25 : decode cX9_span 25 = .ok (.invokestatic 90, 3) := by decide +kernel
theorem dX9_span_28 : decode cX9_span 28 = .ok (.ifCond .ne 5, 3) := by decide +kernel
theorem dX9_span_31 : decode cX9_span 31 = .ok (.iconst (-1), 1) := by decide +kernel
theorem dX9_span_32 : decode cX9_span 32 = .ok (.ireturn, 1) := by decide +kernel
theorem dX9_span_33 : decode cX9_span 33 = .ok (.aload_n 0, 1) := by decide +kernel
theorem dX9_span_34 : decode cX9_span 34 = .ok (.getfield 23, 3) := by decide +kernel
theorem dX9_span_37 : decode cX9_span 37 = .ok (.aload_n 0, 1) := by decide +kernel
theorem dX9_span_38 : decode cX9_span 38 = .ok (.getfield 19, 3) := by decide +kernel
theorem dX9_span_41 : decode cX9_span 41 = .ok (.invokevirtual 111, 3) := by decide +kernel
theorem dX9_span_44 : decode cX9_span 44 = .ok (.aload_n 0, 1) := by decide +kernel
theorem dX9_span_45 : decode cX9_span 45 = .ok (.getfield 23, 3) := by decide +kernel
theorem dX9_span_48 : decode cX9_span 48 = .ok (.getfield 123, 3) := by decide +kernel
theorem dX9_span_51 : decode cX9_span 51 = .ok (.iconst 5, 1) := by decide +kernel
theorem dX9_span_52 : decode cX9_span 52 = .ok (.iconst 0, 1) := by decide +kernel
theorem dX9_span_53 : decode cX9_span 53 = .ok (.iastore, 1) := by decide +kernel
theorem dX9_span_54 : decode cX9_span 54 = .ok (.aload_n 0, 1) := by decide +kernel
theorem dX9_span_55 : decode cX9_span 55 = .ok (.getfield 29, 3) := by decide +kernel
theorem dX9_span_58 : decode cX9_span 58 = .ok (.aload_n 0, 1) := by decide +kernel
theorem dX9_span_59 : decode cX9_span 59 = .ok (.getfield 23, 3) := by decide +kernel
theorem dX9_span_62 : decode cX9_span 62 = .ok (.iconst (-1), 1) := by decide +kernel
theorem dX9_span_63 : decode cX9_span 63 = .ok (.invokevirtual 130, 3) := by decide +kernel
theorem dX9_span_66 : decode cX9_span 66 = .ok (.iload_n 3, 1) := by decide +kernel
theorem dX9_span_67 : decode cX9_span 67 = .ok (.ifCond .ne 19, 3) := by decide +kernel
theorem dX9_span_70 : decode cX9_span 70 = .ok (.aload_n 0, 1) := by decide +kernel
theorem dX9_span_71 : decode cX9_span 71 = .ok (.getfield 29, 3) := by decide +kernel
theorem dX9_span_74 : decode cX9_span 74 = .ok (.aload_n 0, 1) := by decide +kernel
theorem dX9_span_75 : decode cX9_span 75 = .ok (.getfield 23, 3) := by decide +kernel
theorem dX9_span_78 : decode cX9_span 78 = .ok (.iload_n 1, 1) := by decide +kernel
theorem dX9_span_79 : decode cX9_span 79 = .ok (.iload_n 2, 1) := by decide +kernel
theorem dX9_span_80 : decode cX9_span 80 = .ok (.invokevirtual 225, 3) := by decide +kernel
theorem dX9_span_83 : decode cX9_span 83 = .ok (.goto 16, 3) := by decide +kernel
theorem dX9_span_86 : decode cX9_span 86 = .ok (.aload_n 0, 1) := by decide +kernel
theorem dX9_span_87 : decode cX9_span 87 = .ok (.getfield 29, 3) := by decide +kernel
theorem dX9_span_90 : decode cX9_span 90 = .ok (.aload_n 0, 1) := by decide +kernel
theorem dX9_span_91 : decode cX9_span 91 = .ok (.getfield 23, 3) := by decide +kernel
theorem dX9_span_94 : decode cX9_span 94 = .ok (.iload_n 1, 1) := by decide +kernel
theorem dX9_span_95 : decode cX9_span 95 = .ok (.iload_n 2, 1) := by decide +kernel
theorem dX9_span_96 : decode cX9_span 96 = .ok (.invokevirtual 229, 3) := by decide +kernel
theorem dX9_span_99 : decode cX9_span 99 = .ok (.ireturn, 1) := by decide +kernel
theorem dX9_year_0 : decode cX9_year 0 = .ok (.iload_n 1, 1) := by decide +kernel
theorem dX9_year_1 : decode cX9_year 1 = .ok (.iconst 0, 1) := by decide +kernel
theorem dX9_year_2 : decode cX9_year 2 = .ok (.sipush 9999, 3) := by decide +kernel
theorem dX9_year_5 : decode cX9_year 5 = .ok (.invokestatic 90, 3) := by decide +kernel
theorem dX9_year_8 : decode cX9_year 8 = .ok (.ifCond .eq 12, 3) := by decide +kernel
theorem dX9_year_11 : decode cX9_year 11 = .ok (.iload_n 2, 1) := by decide +kernel
theorem dX9_year_12 : decode cX9_year 12 = .ok (.iconst 0, 1) := by decide +kernel
theorem dX9_year_13 : decode cX9_year 13 = .ok (.iconst 1, 1) := by decide +kernel
theorem dX9_year_14 : decode cX9_year 14 = .ok (.invokestatic 90, 3) := by decide +kernel
theorem dX9_year_17 : decode cX9_year 17 = .ok (.ifCond .ne 5, 3) := by decide +kernel
theorem dX9_year_20 : decode cX9_year 20 = .ok (.iconst (-1), 1) := by decide +kernel
theorem dX9_year_21 : decode cX9_year 21 = .ok (.ireturn, 1) := by decide +kernel
theorem dX9_year_22 : decode cX9_year 22 = .ok (.aload_n 0, 1) := by decide +kernel
theorem dX9_year_23 : decode cX9_year 23 = .ok (.getfield 23, 3) := by decide +kernel
theorem dX9_year_26 : decode cX9_year 26 = .ok (.aload_n 0, 1) := by decide +kernel
theorem dX9_year_27 : decode cX9_year 27 = .ok (.getfield 19, 3) := by decide +kernel
theorem dX9_year_30 : decode cX9_year 30 = .ok (.invokevirtual 111, 3) := by decide +kernel
theorem dX9_year_33 : decode cX9_year 33 = .ok (.aload_n 0, 1) := by decide +kernel
theorem dX9_year_34 : decode cX9_year 34 = .ok (.getfield 23, 3) := by decide +kernel
theorem dX9_year_37 : decode cX9_year 37 = .ok (.iload_n 1, 1) := by decide +kernel
theorem dX9_year_38 : decode cX9_year 38 = .ok (.invokevirtual 232, 3) := by decide +kernel
theorem dX9_year_41 : decode cX9_year 41 = .ok (.aload_n 0, 1) := by decide +kernel
theorem dX9_year_42 : decode cX9_year 42 = .ok (.getfield 29, 3) := by decide +kernel
theorem dX9_year_45 : decode cX9_year 45 = .ok (.aload_n 0, 1) := by decide +kernel
theorem dX9_year_46 : decode cX9_year 46 = .ok (.getfield 23, 3) := by decide +kernel
theorem dX9_year_49 : decode cX9_year 49 = .ok (.iconst (-1), 1) := by decide +kernel
theorem dX9_year_50 : decode cX9_year 50 = .ok (.invokevirtual 130, 3) := by decide +kernel
theorem dX9_year_53 : decode cX9_year 53 = .ok (.iload_n 2, 1) := by decide +kernel
theorem dX9_year_54 : decode cX9_year 54 = .ok (.ifCond .ne 17, 3) := by decide +kernel
theorem dX9_year_57 : decode cX9_year 57 = .ok (.aload_n 0, 1) := by decide +kernel
theorem dX9_year_58 : decode cX9_year 58 = .ok (.getfield 29, 3) := by decide +kernel
theorem dX9_year_61 : decode cX9_year 61 = .ok (.aload_n 0, 1) := by decide +kernel
theorem dX9_year_62 : decode cX9_year 62 = .ok (.getfield 23, 3) := by decide +kernel
theorem dX9_year_65 : decode cX9_year 65 = .ok (.invokevirtual 164, 3) := by decide +kernel
theorem dX9_year_68 : decode cX9_year 68 = .ok (.goto 14, 3) := by decide +kernel
theorem dX9_year_71 : decode cX9_year 71 = .ok (.aload_n 0, 1) := by decide +kernel
theorem dX9_year_72 : decode cX9_year 72 = .ok (.getfield 29, 3) := by decide +kernel
theorem dX9_year_75 : decode cX9_year 75 = .ok (.aload_n 0, 1) := by decide +kernel
theorem dX9_year_76 : decode cX9_year 76 = .ok (.getfield 23, 3) := by decide +kernel
theorem dX9_year_79 : decode cX9_year 79 = .ok (.invokevirtual 236, 3) := by decide +kernel
theorem dX9_year_82 : decode cX9_year 82 = .ok (.ireturn, 1) := by decide +kernel
theorem dX9_keep_0 : decode cX9_keep 0 = .ok (.aload_n 0, 1) := by decide +kernel
theorem dX9_keep_1 : decode cX9_keep 1 = .ok (.getfield 71, 3) := by decide +kernel
theorem dX9_keep_4 : decode cX9_keep 4 = .ok (.getfield 119, 3) := by decide +kernel
theorem dX9_keep_7 : decode cX9_keep 7 = .ok (.iconst 2, 1) := by decide +kernel
theorem dX9_keep_8 : decode cX9_keep 8 = .ok (.if_icmp .lt 6, 3) := by decide +kernel
theorem dX9_keep_11 : decode cX9_keep 11 = .ok (.bipush (-3), 2) := by decide +kernel
theorem dX9_keep_13 : decode cX9_keep 13 = .ok (.ireturn, 1) := by decide +kernel
theorem dX9_keep_14 : decode cX9_keep 14 = .ok (.aload_n 0, 1) := by decide +kernel
theorem dX9_keep_15 : decode cX9_keep 15 = .ok (.getfield 71, 3) := by decide +kernel
theorem dX9_keep_18 : decode cX9_keep 18 = .ok (.aload_n 0, 1) := by decide +kernel
theorem dX9_keep_19 : decode cX9_keep 19 = .ok (.getfield 19, 3) := by decide +kernel
theorem dX9_keep_22 : decode cX9_keep 22 = .ok (.invokevirtual 239, 3) := by decide +kernel
theorem dX9_keep_25 : decode cX9_keep 25 = .ok (.aload_n 0, 1) := by decide +kernel
theorem dX9_keep_26 : decode cX9_keep 26 = .ok (.getfield 71, 3) := by decide +kernel
theorem dX9_keep_29 : decode cX9_keep 29 = .ok (.getfield 119, 3) := by decide +kernel
theorem dX9_keep_32 : decode cX9_keep 32 = .ok (.ireturn, 1) := by decide +kernel
theorem dX9_back_0 : decode cX9_back 0 = .ok (.aload_n 0, 1) := by decide +kernel
theorem dX9_back_1 : decode cX9_back 1 = .ok (.getfield 71, 3) := by decide +kernel
theorem dX9_back_4 : decode cX9_back 4 = .ok (.getfield 119, 3) := by decide +kernel
theorem dX9_back_7 : decode cX9_back 7 = .ok (.ifCond .ne 6, 3) := by decide +kernel
theorem dX9_back_10 : decode cX9_back 10 = .ok (.bipush (-2), 2) := by decide +kernel
theorem dX9_back_12 : decode cX9_back 12 = .ok (.ireturn, 1) := by decide +kernel
theorem dX9_back_13 : decode cX9_back 13 = .ok (.aload_n 0, 1) := by decide +kernel
theorem dX9_back_14 : decode cX9_back 14 = .ok (.getfield 71, 3) := by decide +kernel
theorem dX9_back_17 : decode cX9_back 17 = .ok (.aload_n 0, 1) := by decide +kernel
theorem dX9_back_18 : decode cX9_back 18 = .ok (.getfield 19, 3) := by decide +kernel
theorem dX9_back_21 : decode cX9_back 21 = .ok (.invokevirtual 242, 3) := by decide +kernel
theorem dX9_back_24 : decode cX9_back 24 = .ok (.aload_n 0, 1) := by decide +kernel
theorem dX9_back_25 : decode cX9_back 25 = .ok (.getfield 64, 3) := by decide +kernel
theorem dX9_back_28 : decode cX9_back 28 = .ok (.iconst 0, 1) := by decide +kernel
theorem dX9_back_29 : decode cX9_back 29 = .ok (.putfield 118, 3) := by decide +kernel
theorem dX9_back_32 : decode cX9_back 32 = .ok (.aload_n 0, 1) := by decide +kernel
theorem dX9_back_33 : decode cX9_back 33 = .ok (.getfield 71, 3) := by decide +kernel
theorem dX9_back_36 : decode cX9_back 36 = .ok (.getfield 119, 3) := by decide +kernel
theorem dX9_back_39 : decode cX9_back 39 = .ok (.ireturn, 1) := by decide +kernel
theorem dX9_count_0 : decode cX9_count 0 = .ok (.iload_n 1, 1) := by decide +kernel
theorem dX9_count_1 : decode cX9_count 1 = .ok (.tableswitch 116 0 7 #[47, 55, 63, 73, 84, 92, 100, 108], 47) := by decide +kernel
theorem dX9_count_48 : decode cX9_count 48 = .ok (.aload_n 0, 1) := by decide +kernel
theorem dX9_count_49 : decode cX9_count 49 = .ok (.getfield 19, 3) := by decide +kernel
theorem dX9_count_52 : decode cX9_count 52 = .ok (.getfield 105, 3) := by decide +kernel
theorem dX9_count_55 : decode cX9_count 55 = .ok (.ireturn, 1) := by decide +kernel
theorem dX9_count_56 : decode cX9_count 56 = .ok (.aload_n 0, 1) := by decide +kernel
theorem dX9_count_57 : decode cX9_count 57 = .ok (.getfield 19, 3) := by decide +kernel
theorem dX9_count_60 : decode cX9_count 60 = .ok (.getfield 108, 3) := by decide +kernel
theorem dX9_count_63 : decode cX9_count 63 = .ok (.ireturn, 1) := by decide +kernel
theorem dX9_count_64 : decode cX9_count 64 = .ok (.aload_n 0, 1) := by decide +kernel
theorem dX9_count_65 : decode cX9_count 65 = .ok (.getfield 19, 3) := by decide +kernel
theorem dX9_count_68 : decode cX9_count 68 = .ok (.getfield 123, 3) := by decide +kernel
theorem dX9_count_71 : decode cX9_count 71 = .ok (.iconst 5, 1) := by decide +kernel
theorem dX9_count_72 : decode cX9_count 72 = .ok (.iaload, 1) := by decide +kernel
theorem dX9_count_73 : decode cX9_count 73 = .ok (.ireturn, 1) := by decide +kernel
theorem dX9_count_74 : decode cX9_count 74 = .ok (.aload_n 0, 1) := by decide +kernel
theorem dX9_count_75 : decode cX9_count 75 = .ok (.getfield 19, 3) := by decide +kernel
theorem dX9_count_78 : decode cX9_count 78 = .ok (.getfield 123, 3) := by decide +kernel
theorem dX9_count_81 : decode cX9_count 81 = .ok (.bipush 6, 2) := by decide +kernel
theorem dX9_count_83 : decode cX9_count 83 = .ok (.iaload, 1) := by decide +kernel
theorem dX9_count_84 : decode cX9_count 84 = .ok (.ireturn, 1) := by decide +kernel
theorem dX9_count_85 : decode cX9_count 85 = .ok (.aload_n 0, 1) := by decide +kernel
theorem dX9_count_86 : decode cX9_count 86 = .ok (.getfield 57, 3) := by decide +kernel
theorem dX9_count_89 : decode cX9_count 89 = .ok (.getfield 115, 3) := by decide +kernel
theorem dX9_count_92 : decode cX9_count 92 = .ok (.ireturn, 1) := by decide +kernel
theorem dX9_count_93 : decode cX9_count 93 = .ok (.aload_n 0, 1) := by decide +kernel
theorem dX9_count_94 : decode cX9_count 94 = .ok (.getfield 64, 3) := by decide +kernel
theorem dX9_count_97 : decode cX9_count 97 = .ok (.getfield 118, 3) := by decide +kernel
theorem dX9_count_100 : decode cX9_count 100 = .ok (.ireturn, 1) := by decide +kernel
theorem dX9_count_101 : decode cX9_count 101 = .ok (.aload_n 0, 1) := by decide +kernel
theorem dX9_count_102 : decode cX9_count 102 = .ok (.getfield 71, 3) := by decide +kernel
theorem dX9_count_105 : decode cX9_count 105 = .ok (.getfield 119, 3) := by decide +kernel
theorem dX9_count_108 : decode cX9_count 108 = .ok (.ireturn, 1) := by decide +kernel
theorem dX9_count_109 : decode cX9_count 109 = .ok (.aload_n 0, 1) := by decide +kernel
theorem dX9_count_110 : decode cX9_count 110 = .ok (.getfield 12, 3) := by decide +kernel
theorem dX9_count_113 : decode cX9_count 113 = .ok (.getfield 93, 3) := by decide +kernel
theorem dX9_count_116 : decode cX9_count 116 = .ok (.ireturn, 1) := by decide +kernel
theorem dX9_count_117 : decode cX9_count 117 = .ok (.iconst (-1), 1) := by decide +kernel
theorem dX9_count_118 : decode cX9_count 118 = .ok (.ireturn, 1) := by decide +kernel
theorem dX9_isWithin_0 : decode cX9_isWithin 0 = .ok (.iload_n 0, 1) := by decide +kernel
theorem dX9_isWithin_1 : decode cX9_isWithin 1 = .ok (.iload_n 1, 1) := by decide +kernel
theorem dX9_isWithin_2 : decode cX9_isWithin 2 = .ok (.if_icmp .lt 12, 3) := by decide +kernel
theorem dX9_isWithin_5 : decode cX9_isWithin 5 = .ok (.iload_n 0, 1) := by decide +kernel
theorem dX9_isWithin_6 : decode cX9_isWithin 6 = .ok (.iload_n 2, 1) := by decide +kernel
theorem dX9_isWithin_7 : decode cX9_isWithin 7 = .ok (.if_icmp .gt 7, 3) := by decide +kernel
theorem dX9_isWithin_10 : decode cX9_isWithin 10 = .ok (.iconst 1, 1) := by decide +kernel
theorem dX9_isWithin_11 : decode cX9_isWithin 11 = .ok (.goto 4, 3) := by decide +kernel
theorem dX9_isWithin_14 : decode cX9_isWithin 14 = .ok (.iconst 0, 1) := by decide +kernel
theorem dX9_isWithin_15 : decode cX9_isWithin 15 = .ok (.ireturn, 1) := by decide +kernel
theorem dX9_change_0 : decode cX9_change 0 = .ok (.aload_n 0, 1) := by decide +kernel
theorem dX9_change_1 : decode cX9_change 1 = .ok (.getfield 19, 3) := by decide +kernel
theorem dX9_change_4 : decode cX9_change 4 = .ok (.getfield 123, 3) := by decide +kernel
theorem dX9_change_7 : decode cX9_change 7 = .ok (.iload_n 1, 1) := by decide +kernel
theorem dX9_change_8 : decode cX9_change 8 = .ok (.iaload, 1) := by decide +kernel
theorem dX9_change_9 : decode cX9_change 9 = .ok (.istore_n 3, 1) := by decide +kernel
theorem dX9_change_10 : decode cX9_change 10 = .ok (.aload_n 0, 1) := by decide +kernel
theorem dX9_change_11 : decode cX9_change 11 = .ok (.getfield 64, 3) := by decide +kernel
theorem dX9_change_14 : decode cX9_change 14 = .ok (.iload_n 1, 1) := by decide +kernel
theorem dX9_change_15 : decode cX9_change 15 = .ok (.iload_n 3, 1) := by decide +kernel
theorem dX9_change_16 : decode cX9_change 16 = .ok (.invokevirtual 245, 3) := by decide +kernel
theorem dX9_change_19 : decode cX9_change 19 = .ok (.aload_n 0, 1) := by decide +kernel
theorem dX9_change_20 : decode cX9_change 20 = .ok (.getfield 19, 3) := by decide +kernel
theorem dX9_change_23 : decode cX9_change 23 = .ok (.getfield 123, 3) := by decide +kernel
theorem dX9_change_26 : decode cX9_change 26 = .ok (.iload_n 1, 1) := by decide +kernel
theorem dX9_change_27 : decode cX9_change 27 = .ok (.iload_n 2, 1) := by decide +kernel
theorem dX9_change_28 : decode cX9_change 28 = .ok (.iastore, 1) := by decide +kernel
theorem dX9_change_29 : decode cX9_change 29 = .ok (.iload_n 3, 1) := by decide +kernel
theorem dX9_change_30 : decode cX9_change 30 = .ok (.ireturn, 1) := by decide +kernel
theorem dX9_gainBySaying_0 : decode cX9_gainBySaying 0 = .ok (.aload_n 0, 1) := by decide +kernel
theorem dX9_gainBySaying_1 : decode cX9_gainBySaying 1 = .ok (.getfield 23, 3) := by decide +kernel
theorem dX9_gainBySaying_4 : decode cX9_gainBySaying 4 = .ok (.getfield 123, 3) := by decide +kernel
theorem dX9_gainBySaying_7 : decode cX9_gainBySaying 7 = .ok (.iload_n 1, 1) := by decide +kernel
theorem dX9_gainBySaying_8 : decode cX9_gainBySaying 8 = .ok (.iload_n 2, 1) := by decide +kernel
theorem dX9_gainBySaying_9 : decode cX9_gainBySaying 9 = .ok (.iastore, 1) := by decide +kernel
theorem dX9_gainBySaying_10 : decode cX9_gainBySaying 10 = .ok (.aload_n 0, 1) := by decide +kernel
theorem dX9_gainBySaying_11 : decode cX9_gainBySaying 11 = .ok (.getfield 29, 3) := by decide +kernel
theorem dX9_gainBySaying_14 : decode cX9_gainBySaying 14 = .ok (.aload_n 0, 1) := by decide +kernel
theorem dX9_gainBySaying_15 : decode cX9_gainBySaying 15 = .ok (.getfield 23, 3) := by decide +kernel
theorem dX9_gainBySaying_18 : decode cX9_gainBySaying 18 = .ok (.iconst (-1), 1) := by decide +kernel
theorem dX9_gainBySaying_19 : decode cX9_gainBySaying 19 = .ok (.invokevirtual 130, 3) := by decide +kernel
theorem dX9_gainBySaying_22 : decode cX9_gainBySaying 22 = .ok (.aload_n 0, 1) := by decide +kernel
theorem dX9_gainBySaying_23 : decode cX9_gainBySaying 23 = .ok (.getfield 29, 3) := by decide +kernel
theorem dX9_gainBySaying_26 : decode cX9_gainBySaying 26 = .ok (.aload_n 0, 1) := by decide +kernel
theorem dX9_gainBySaying_27 : decode cX9_gainBySaying 27 = .ok (.getfield 23, 3) := by decide +kernel
theorem dX9_gainBySaying_30 : decode cX9_gainBySaying 30 = .ok (.iload_n 1, 1) := by decide +kernel
theorem dX9_gainBySaying_31 : decode cX9_gainBySaying 31 = .ok (.invokevirtual 140, 3) := by decide +kernel
theorem dX9_gainBySaying_34 : decode cX9_gainBySaying 34 = .ok (.ireturn, 1) := by decide +kernel
theorem dX9_isAsSeenWithout_0 : decode cX9_isAsSeenWithout 0 = .ok (.aload_n 0, 1) := by decide +kernel
theorem dX9_isAsSeenWithout_1 : decode cX9_isAsSeenWithout 1 = .ok (.getfield 29, 3) := by decide +kernel
theorem dX9_isAsSeenWithout_4 : decode cX9_isAsSeenWithout 4 = .ok (.aload_n 0, 1) := by decide +kernel
theorem dX9_isAsSeenWithout_5 : decode cX9_isAsSeenWithout 5 = .ok (.getfield 19, 3) := by decide +kernel
theorem dX9_isAsSeenWithout_8 : decode cX9_isAsSeenWithout 8 = .ok (.iload_n 1, 1) := by decide +kernel
theorem dX9_isAsSeenWithout_9 : decode cX9_isAsSeenWithout 9 = .ok (.invokevirtual 130, 3) := by decide +kernel
theorem dX9_isAsSeenWithout_12 : decode cX9_isAsSeenWithout 12 = .ok (.aload_n 0, 1) := by decide +kernel
theorem dX9_isAsSeenWithout_13 : decode cX9_isAsSeenWithout 13 = .ok (.getfield 57, 3) := by decide +kernel
theorem dX9_isAsSeenWithout_16 : decode cX9_isAsSeenWithout 16 = .ok (.aload_n 0, 1) := by decide +kernel
theorem dX9_isAsSeenWithout_17 : decode cX9_isAsSeenWithout 17 = .ok (.getfield 19, 3) := by decide +kernel
theorem dX9_isAsSeenWithout_20 : decode cX9_isAsSeenWithout 20 = .ok (.aload_n 0, 1) := by decide +kernel
theorem dX9_isAsSeenWithout_21 : decode cX9_isAsSeenWithout 21 = .ok (.getfield 29, 3) := by decide +kernel
theorem dX9_isAsSeenWithout_24 : decode cX9_isAsSeenWithout 24 = .ok (.invokevirtual 248, 3) := by decide +kernel
theorem dX9_isAsSeenWithout_27 : decode cX9_isAsSeenWithout 27 = .ok (.ireturn, 1) := by decide +kernel
theorem dJ9_max_7cf53_0 : decode cJ9_max_7cf53 0 = .ok (.iload_n 0, 1) := by decide +kernel
theorem dJ9_max_7cf53_1 : decode cJ9_max_7cf53 1 = .ok (.iload_n 1, 1) := by decide +kernel
theorem dJ9_max_7cf53_2 : decode cJ9_max_7cf53 2 = .ok (.if_icmp .lt 7, 3) := by decide +kernel
theorem dJ9_max_7cf53_5 : decode cJ9_max_7cf53 5 = .ok (.iload_n 0, 1) := by decide +kernel
theorem dJ9_max_7cf53_6 : decode cJ9_max_7cf53 6 = .ok (.goto 4, 3) := by decide +kernel
theorem dJ9_max_7cf53_9 : decode cJ9_max_7cf53 9 = .ok (.iload_n 1, 1) := by decide +kernel
theorem dJ9_max_7cf53_10 : decode cJ9_max_7cf53 10 = .ok (.ireturn, 1) := by decide +kernel
theorem dJ9_min_7cf53_0 : decode cJ9_min_7cf53 0 = .ok (.iload_n 0, 1) := by decide +kernel
theorem dJ9_min_7cf53_1 : decode cJ9_min_7cf53 1 = .ok (.iload_n 1, 1) := by decide +kernel
theorem dJ9_min_7cf53_2 : decode cJ9_min_7cf53 2 = .ok (.if_icmp .gt 7, 3) := by decide +kernel
theorem dJ9_min_7cf53_5 : decode cJ9_min_7cf53 5 = .ok (.iload_n 0, 1) := by decide +kernel
theorem dJ9_min_7cf53_6 : decode cJ9_min_7cf53 6 = .ok (.goto 4, 3) := by decide +kernel
theorem dJ9_min_7cf53_9 : decode cJ9_min_7cf53 9 = .ok (.iload_n 1, 1) := by decide +kernel
theorem dJ9_min_7cf53_10 : decode cJ9_min_7cf53 10 = .ok (.ireturn, 1) := by decide +kernel
theorem dJ7_fill_53178_0 : decode cJ7_fill_53178 0 = .ok (.iconst 0, 1) := by decide +kernel
theorem dJ7_fill_53178_1 : decode cJ7_fill_53178 1 = .ok (.istore_n 2, 1) := by decide +kernel
theorem dJ7_fill_53178_2 : decode cJ7_fill_53178 2 = .ok (.aload_n 0, 1) := by decide +kernel
theorem dJ7_fill_53178_3 : decode cJ7_fill_53178 3 = .ok (.arraylength, 1) := by decide +kernel
theorem dJ7_fill_53178_4 : decode cJ7_fill_53178 4 = .ok (.istore_n 3, 1) := by decide +kernel
theorem dJ7_fill_53178_5 : decode cJ7_fill_53178 5 = .ok (.iload_n 2, 1) := by decide +kernel
theorem dJ7_fill_53178_6 : decode cJ7_fill_53178 6 = .ok (.iload_n 3, 1) := by decide +kernel
theorem dJ7_fill_53178_7 : decode cJ7_fill_53178 7 = .ok (.if_icmp .ge 13, 3) := by decide +kernel
theorem dJ7_fill_53178_10 : decode cJ7_fill_53178 10 = .ok (.aload_n 0, 1) := by decide +kernel
theorem dJ7_fill_53178_11 : decode cJ7_fill_53178 11 = .ok (.iload_n 2, 1) := by decide +kernel
theorem dJ7_fill_53178_12 : decode cJ7_fill_53178 12 = .ok (.iload_n 1, 1) := by decide +kernel
theorem dJ7_fill_53178_13 : decode cJ7_fill_53178 13 = .ok (.iastore, 1) := by decide +kernel
theorem dJ7_fill_53178_14 : decode cJ7_fill_53178 14 = .ok (.iinc 2 1, 3) := by decide +kernel
theorem dJ7_fill_53178_17 : decode cJ7_fill_53178 17 = .ok (.goto (-12), 3) := by decide +kernel
theorem dJ7_fill_53178_20 : decode cJ7_fill_53178 20 = .ok (.return_, 1) := by decide +kernel
end
section
theorem dX10_init_0 : decode cX10_init 0 = .ok (.aload_n 0, 1) := by decide +kernel
theorem dX10_init_1 : decode cX10_init 1 = .ok (.invokespecial 1, 3) := by decide +kernel
theorem dX10_init_4 : decode cX10_init 4 = .ok (.aload_n 0, 1) := by decide +kernel
theorem dX10_init_5 : decode cX10_init 5 = .ok (.sipush 300, 3) := by decide +kernel
theorem dX10_init_8 : decode cX10_init 8 = .ok (.newarray .int, 2) := by decide +kernel
theorem dX10_init_10 : decode cX10_init 10 = .ok (.putfield 7, 3) := by decide +kernel
theorem dX10_init_13 : decode cX10_init 13 = .ok (.aload_n 0, 1) := by decide +kernel
theorem dX10_init_14 : decode cX10_init 14 = .ok (.iconst 2, 1) := by decide +kernel
theorem dX10_init_15 : decode cX10_init 15 = .ok (.newarray .int, 2) := by decide +kernel
theorem dX10_init_17 : decode cX10_init 17 = .ok (.putfield 13, 3) := by decide +kernel
theorem dX10_init_20 : decode cX10_init 20 = .ok (.aload_n 0, 1) := by decide +kernel
theorem dX10_init_21 : decode cX10_init 21 = .ok (.bipush 6, 2) := by decide +kernel
theorem dX10_init_23 : decode cX10_init 23 = .ok (.newarray .int, 2) := by decide +kernel
theorem dX10_init_25 : decode cX10_init 25 = .ok (.putfield 16, 3) := by decide +kernel
theorem dX10_init_28 : decode cX10_init 28 = .ok (.aload_n 0, 1) := by decide +kernel
theorem dX10_init_29 : decode cX10_init 29 = .ok (.iconst 2, 1) := by decide +kernel
theorem dX10_init_30 : decode cX10_init 30 = .ok (.newarray .int, 2) := by decide +kernel
theorem dX10_init_32 : decode cX10_init 32 = .ok (.putfield 19, 3) := by decide +kernel
theorem dX10_init_35 : decode cX10_init 35 = .ok (.aload_n 0, 1) := by decide +kernel
theorem dX10_init_36 : decode cX10_init 36 = .ok (.bipush 10, 2) := by decide +kernel
theorem dX10_init_38 : decode cX10_init 38 = .ok (.newarray .int, 2) := by decide +kernel
theorem dX10_init_40 : decode cX10_init 40 = .ok (.putfield 22, 3) := by decide +kernel
theorem dX10_init_43 : decode cX10_init 43 = .ok (.aload_n 0, 1) := by decide +kernel
theorem dX10_init_44 : decode cX10_init 44 = .ok (.bipush 30, 2) := by decide +kernel
theorem dX10_init_46 : decode cX10_init 46 = .ok (.newarray .int, 2) := by decide +kernel
theorem dX10_init_48 : decode cX10_init 48 = .ok (.putfield 25, 3) := by decide +kernel
theorem dX10_init_51 : decode cX10_init 51 = .ok (.aload_n 0, 1) := by decide +kernel
theorem dX10_init_52 : decode cX10_init 52 = .ok (.bipush 20, 2) := by decide +kernel
theorem dX10_init_54 : decode cX10_init 54 = .ok (.newarray .int, 2) := by decide +kernel
theorem dX10_init_56 : decode cX10_init 56 = .ok (.putfield 28, 3) := by decide +kernel
theorem dX10_init_59 : decode cX10_init 59 = .ok (.aload_n 0, 1) := by decide +kernel
theorem dX10_init_60 : decode cX10_init 60 = .ok (.iconst 4, 1) := by decide +kernel
theorem dX10_init_61 : decode cX10_init 61 = .ok (.newarray .int, 2) := by decide +kernel
theorem dX10_init_63 : decode cX10_init 63 = .ok (.putfield 31, 3) := by decide +kernel
theorem dX10_init_66 : decode cX10_init 66 = .ok (.aload_n 0, 1) := by decide +kernel
theorem dX10_init_67 : decode cX10_init 67 = .ok (.iconst 4, 1) := by decide +kernel
theorem dX10_init_68 : decode cX10_init 68 = .ok (.newarray .int, 2) := by decide +kernel
theorem dX10_init_70 : decode cX10_init 70 = .ok (.putfield 34, 3) := by decide +kernel
theorem dX10_init_73 : decode cX10_init 73 = .ok (.aload_n 0, 1) := by decide +kernel
theorem dX10_init_74 : decode cX10_init 74 = .ok (.bipush 16, 2) := by decide +kernel
theorem dX10_init_76 : decode cX10_init 76 = .ok (.newarray .int, 2) := by decide +kernel
theorem dX10_init_78 : decode cX10_init 78 = .ok (.putfield 37, 3) := by decide +kernel
theorem dX10_init_81 : decode cX10_init 81 = .ok (.aload_n 0, 1) := by decide +kernel
theorem dX10_init_82 : decode cX10_init 82 = .ok (.bipush 6, 2) := by decide +kernel
theorem dX10_init_84 : decode cX10_init 84 = .ok (.newarray .int, 2) := by decide +kernel
theorem dX10_init_86 : decode cX10_init 86 = .ok (.putfield 40, 3) := by decide +kernel
theorem dX10_init_89 : decode cX10_init 89 = .ok (.aload_n 0, 1) := by decide +kernel
theorem dX10_init_90 : decode cX10_init 90 = .ok (.bipush 6, 2) := by decide +kernel
theorem dX10_init_92 : decode cX10_init 92 = .ok (.newarray .int, 2) := by decide +kernel
theorem dX10_init_94 : decode cX10_init 94 = .ok (.putfield 43, 3) := by decide +kernel
theorem dX10_init_97 : decode cX10_init 97 = .ok (.aload_n 0, 1) := by decide +kernel
theorem dX10_init_98 : decode cX10_init 98 = .ok (.iconst 3, 1) := by decide +kernel
theorem dX10_init_99 : decode cX10_init 99 = .ok (.newarray .int, 2) := by decide +kernel
theorem dX10_init_101 : decode cX10_init 101 = .ok (.putfield 46, 3) := by decide +kernel
theorem dX10_init_104 : decode cX10_init 104 = .ok (.aload_n 0, 1) := by decide +kernel
theorem dX10_init_105 : decode cX10_init 105 = .ok (.iconst 5, 1) := by decide +kernel
theorem dX10_init_106 : decode cX10_init 106 = .ok (.newarray .int, 2) := by decide +kernel
theorem dX10_init_108 : decode cX10_init 108 = .ok (.putfield 49, 3) := by decide +kernel
theorem dX10_init_111 : decode cX10_init 111 = .ok (.aload_n 0, 1) := by decide +kernel
theorem dX10_init_112 : decode cX10_init 112 = .ok (.iconst 5, 1) := by decide +kernel
theorem dX10_init_113 : decode cX10_init 113 = .ok (.newarray .int, 2) := by decide +kernel
theorem dX10_init_115 : decode cX10_init 115 = .ok (.putfield 52, 3) := by decide +kernel
theorem dX10_init_118 : decode cX10_init 118 = .ok (.aload_n 0, 1) := by decide +kernel
theorem dX10_init_119 : decode cX10_init 119 = .ok (.bipush 100, 2) := by decide +kernel
theorem dX10_init_121 : decode cX10_init 121 = .ok (.newarray .int, 2) := by decide +kernel
theorem dX10_init_123 : decode cX10_init 123 = .ok (.putfield 55, 3) := by decide +kernel
theorem dX10_init_126 : decode cX10_init 126 = .ok (.aload_n 0, 1) := by decide +kernel
theorem dX10_init_127 : decode cX10_init 127 = .ok (.bipush 100, 2) := by decide +kernel
theorem dX10_init_129 : decode cX10_init 129 = .ok (.newarray .int, 2) := by decide +kernel
theorem dX10_init_131 : decode cX10_init 131 = .ok (.putfield 58, 3) := by decide +kernel
theorem dX10_init_134 : decode cX10_init 134 = .ok (.aload_n 0, 1) := by decide +kernel
theorem dX10_init_135 : decode cX10_init 135 = .ok (.iconst 3, 1) := by decide +kernel
theorem dX10_init_136 : decode cX10_init 136 = .ok (.newarray .int, 2) := by decide +kernel
theorem dX10_init_138 : decode cX10_init 138 = .ok (.putfield 61, 3) := by decide +kernel
theorem dX10_init_141 : decode cX10_init 141 = .ok (.aload_n 0, 1) := by decide +kernel
theorem dX10_init_142 : decode cX10_init 142 = .ok (.iconst 5, 1) := by decide +kernel
theorem dX10_init_143 : decode cX10_init 143 = .ok (.newarray .int, 2) := by decide +kernel
theorem dX10_init_145 : decode cX10_init 145 = .ok (.putfield 64, 3) := by decide +kernel
theorem dX10_init_148 : decode cX10_init 148 = .ok (.aload_n 0, 1) := by decide +kernel
theorem dX10_init_149 : decode cX10_init 149 = .ok (.iconst 3, 1) := by decide +kernel
theorem dX10_init_150 : decode cX10_init 150 = .ok (.newarray .int, 2) := by decide +kernel
theorem dX10_init_152 : decode cX10_init 152 = .ok (.putfield 67, 3) := by decide +kernel
theorem dX10_init_155 : decode cX10_init 155 = .ok (.aload_n 0, 1) := by decide +kernel
theorem dX10_init_156 : decode cX10_init 156 = .ok (.bipush 15, 2) := by decide +kernel
theorem dX10_init_158 : decode cX10_init 158 = .ok (.newarray .int, 2) := by decide +kernel
theorem dX10_init_160 : decode cX10_init 160 = .ok (.putfield 70, 3) := by decide +kernel
theorem dX10_init_163 : decode cX10_init 163 = .ok (.aload_n 0, 1) := by decide +kernel
theorem dX10_init_164 : decode cX10_init 164 = .ok (.iconst 0, 1) := by decide +kernel
theorem dX10_init_165 : decode cX10_init 165 = .ok (.invokevirtual 73, 3) := by decide +kernel
theorem dX10_init_168 : decode cX10_init 168 = .ok (.aload_n 0, 1) := by decide +kernel
theorem dX10_init_169 : decode cX10_init 169 = .ok (.getfield 13, 3) := by decide +kernel
theorem dX10_init_172 : decode cX10_init 172 = .ok (.iconst 0, 1) := by decide +kernel
theorem dX10_init_173 : decode cX10_init 173 = .ok (.iconst 1, 1) := by decide +kernel
theorem dX10_init_174 : decode cX10_init 174 = .ok (.iastore, 1) := by decide +kernel
theorem dX10_init_175 : decode cX10_init 175 = .ok (.aload_n 0, 1) := by decide +kernel
theorem dX10_init_176 : decode cX10_init 176 = .ok (.getfield 16, 3) := by decide +kernel
theorem dX10_init_179 : decode cX10_init 179 = .ok (.iconst 0, 1) := by decide +kernel
theorem dX10_init_180 : decode cX10_init 180 = .ok (.iconst 1, 1) := by decide +kernel
theorem dX10_init_181 : decode cX10_init 181 = .ok (.iastore, 1) := by decide +kernel
theorem dX10_init_182 : decode cX10_init 182 = .ok (.aload_n 0, 1) := by decide +kernel
theorem dX10_init_183 : decode cX10_init 183 = .ok (.getfield 19, 3) := by decide +kernel
theorem dX10_init_186 : decode cX10_init 186 = .ok (.iconst 0, 1) := by decide +kernel
theorem dX10_init_187 : decode cX10_init 187 = .ok (.iconst 2, 1) := by decide +kernel
theorem dX10_init_188 : decode cX10_init 188 = .ok (.iastore, 1) := by decide +kernel
theorem dX10_init_189 : decode cX10_init 189 = .ok (.aload_n 0, 1) := by decide +kernel
theorem dX10_init_190 : decode cX10_init 190 = .ok (.getfield 28, 3) := by decide +kernel
theorem dX10_init_193 : decode cX10_init 193 = .ok (.iconst 0, 1) := by decide +kernel
theorem dX10_init_194 : decode cX10_init 194 = .ok (.bipush 8, 2) := by decide +kernel
theorem dX10_init_196 : decode cX10_init 196 = .ok (.iastore, 1) := by decide +kernel
theorem dX10_init_197 : decode cX10_init 197 = .ok (.aload_n 0, 1) := by decide +kernel
theorem dX10_init_198 : decode cX10_init 198 = .ok (.getfield 28, 3) := by decide +kernel
theorem dX10_init_201 : decode cX10_init 201 = .ok (.iconst 1, 1) := by decide +kernel
theorem dX10_init_202 : decode cX10_init 202 = .ok (.iconst 5, 1) := by decide +kernel
theorem dX10_init_203 : decode cX10_init 203 = .ok (.iastore, 1) := by decide +kernel
theorem dX10_init_204 : decode cX10_init 204 = .ok (.aload_n 0, 1) := by decide +kernel
theorem dX10_init_205 : decode cX10_init 205 = .ok (.getfield 25, 3) := by decide +kernel
theorem dX10_init_208 : decode cX10_init 208 = .ok (.iconst 0, 1) := by decide +kernel
theorem dX10_init_209 : decode cX10_init 209 = .ok (.bipush 9, 2) := by decide +kernel
theorem dX10_init_211 : decode cX10_init 211 = .ok (.iastore, 1) := by decide +kernel
theorem dX10_init_212 : decode cX10_init 212 = .ok (.aload_n 0, 1) := by decide +kernel
theorem dX10_init_213 : decode cX10_init 213 = .ok (.getfield 25, 3) := by decide +kernel
theorem dX10_init_216 : decode cX10_init 216 = .ok (.iconst 3, 1) := by decide +kernel
theorem dX10_init_217 : decode cX10_init 217 = .ok (.bipush 6, 2) := by decide +kernel
theorem dX10_init_219 : decode cX10_init 219 = .ok (.iastore, 1) := by decide +kernel
theorem dX10_init_220 : decode cX10_init 220 = .ok (.return_, 1) := by decide +kernel
theorem dX10_in_0 : decode cX10_in 0 = .ok (.lload_n 0, 1) := by decide +kernel
theorem dX10_in_1 : decode cX10_in 1 = .ok (.lload_n 2, 1) := by decide +kernel
theorem dX10_in_2 : decode cX10_in 2 = .ok (.lcmp, 1) := by decide +kernel
theorem dX10_in_3 : decode cX10_in 3 = .ok (.ifCond .lt 14, 3) := by decide +kernel
theorem dX10_in_6 : decode cX10_in 6 = .ok (.lload_n 0, 1) := by decide +kernel
theorem dX10_in_7 : decode cX10_in 7 = .ok (.lload 4, 2) := by decide +kernel
theorem dX10_in_9 : decode cX10_in 9 = .ok (.lcmp, 1) := by decide +kernel
theorem dX10_in_10 : decode cX10_in 10 = .ok (.ifCond .gt 7, 3) := by decide +kernel
theorem dX10_in_13 : decode cX10_in 13 = .ok (.iconst 1, 1) := by decide +kernel
theorem dX10_in_14 : decode cX10_in 14 = .ok (.goto 4, 3) := by decide +kernel
theorem dX10_in_17 : decode cX10_in 17 = .ok (.iconst 0, 1) := by decide +kernel
theorem dX10_in_18 : decode cX10_in 18 = .ok (.ireturn, 1) := by decide +kernel
theorem dX10_has_0 : decode cX10_has 0 = .ok (.iload_n 0, 1) := by decide +kernel
theorem dX10_has_1 : decode cX10_has 1 = .ok (.iload_n 1, 1) := by decide +kernel
theorem dX10_has_2 : decode cX10_has 2 = .ok (.ishr, 1) := by decide +kernel
theorem dX10_has_3 : decode cX10_has 3 = .ok (.iconst 1, 1) := by decide +kernel
theorem dX10_has_4 : decode cX10_has 4 = .ok (.iand, 1) := by decide +kernel
theorem dX10_has_5 : decode cX10_has 5 = .ok (.iconst 1, 1) := by decide +kernel
theorem dX10_has_6 : decode cX10_has 6 = .ok (.if_icmp .ne 7, 3) := by decide +kernel
theorem dX10_has_9 : decode cX10_has 9 = .ok (.iconst 1, 1) := by decide +kernel
theorem dX10_has_10 : decode cX10_has 10 = .ok (.goto 4, 3) := by decide +kernel
theorem dX10_has_13 : decode cX10_has 13 = .ok (.iconst 0, 1) := by decide +kernel
theorem dX10_has_14 : decode cX10_has 14 = .ok (.ireturn, 1) := by decide +kernel
theorem dX10_noFair_0 : decode cX10_noFair 0 = .ok (.aload_n 0, 1) := by decide +kernel
theorem dX10_noFair_1 : decode cX10_noFair 1 = .ok (.getfield 13, 3) := by decide +kernel
theorem dX10_noFair_4 : decode cX10_noFair 4 = .ok (.iload_n 1, 1) := by decide +kernel
theorem dX10_noFair_5 : decode cX10_noFair 5 = .ok (.iconst 0, 1) := by decide +kernel
theorem dX10_noFair_6 : decode cX10_noFair 6 = .ok (.iastore, 1) := by decide +kernel
theorem dX10_noFair_7 : decode cX10_noFair 7 = .ok (.aload_n 0, 1) := by decide +kernel
theorem dX10_noFair_8 : decode cX10_noFair 8 = .ok (.getfield 19, 3) := by decide +kernel
theorem dX10_noFair_11 : decode cX10_noFair 11 = .ok (.iload_n 1, 1) := by decide +kernel
theorem dX10_noFair_12 : decode cX10_noFair 12 = .ok (.iconst 0, 1) := by decide +kernel
theorem dX10_noFair_13 : decode cX10_noFair 13 = .ok (.iastore, 1) := by decide +kernel
theorem dX10_noFair_14 : decode cX10_noFair 14 = .ok (.aload_n 0, 1) := by decide +kernel
theorem dX10_noFair_15 : decode cX10_noFair 15 = .ok (.getfield 31, 3) := by decide +kernel
theorem dX10_noFair_18 : decode cX10_noFair 18 = .ok (.iload_n 1, 1) := by decide +kernel
theorem dX10_noFair_19 : decode cX10_noFair 19 = .ok (.iconst 0, 1) := by decide +kernel
theorem dX10_noFair_20 : decode cX10_noFair 20 = .ok (.iastore, 1) := by decide +kernel
theorem dX10_noFair_21 : decode cX10_noFair 21 = .ok (.aload_n 0, 1) := by decide +kernel
theorem dX10_noFair_22 : decode cX10_noFair 22 = .ok (.getfield 34, 3) := by decide +kernel
theorem dX10_noFair_25 : decode cX10_noFair 25 = .ok (.iload_n 1, 1) := by decide +kernel
theorem dX10_noFair_26 : decode cX10_noFair 26 = .ok (.iconst 1, 1) := by decide +kernel
theorem dX10_noFair_27 : decode cX10_noFair 27 = .ok (.iastore, 1) := by decide +kernel
theorem dX10_noFair_28 : decode cX10_noFair 28 = .ok (.iconst 0, 1) := by decide +kernel
theorem dX10_noFair_29 : decode cX10_noFair 29 = .ok (.istore_n 2, 1) := by decide +kernel
theorem dX10_noFair_30 : decode cX10_noFair 30 = .ok (.iload_n 2, 1) := by decide +kernel
theorem dX10_noFair_31 : decode cX10_noFair 31 = .ok (.bipush 15, 2) := by decide +kernel
theorem dX10_noFair_33 : decode cX10_noFair 33 = .ok (.if_icmp .ge 21, 3) := by decide +kernel
theorem dX10_noFair_36 : decode cX10_noFair 36 = .ok (.aload_n 0, 1) := by decide +kernel
theorem dX10_noFair_37 : decode cX10_noFair 37 = .ok (.getfield 25, 3) := by decide +kernel
theorem dX10_noFair_40 : decode cX10_noFair 40 = .ok (.bipush 15, 2) := by decide +kernel
theorem dX10_noFair_42 : decode cX10_noFair 42 = .ok (.iload_n 1, 1) := by decide +kernel
theorem dX10_noFair_43 : decode cX10_noFair 43 = .ok (.imul, 1) := by decide +kernel
theorem dX10_noFair_44 : decode cX10_noFair 44 = .ok (.iload_n 2, 1) := by decide +kernel
theorem dX10_noFair_45 : decode cX10_noFair 45 = .ok (.iadd, 1) := by decide +kernel
theorem dX10_noFair_46 : decode cX10_noFair 46 = .ok (.iconst 0, 1) := by decide +kernel
theorem dX10_noFair_47 : decode cX10_noFair 47 = .ok (.iastore, 1) := by decide +kernel
theorem dX10_noFair_48 : decode cX10_noFair 48 = .ok (.iinc 2 1, 3) := by decide +kernel
theorem dX10_noFair_51 : decode cX10_noFair 51 = .ok (.goto (-21), 3) := by decide +kernel
theorem dX10_noFair_54 : decode cX10_noFair 54 = .ok (.return_, 1) := by decide +kernel
theorem dX10_write_0 : decode cX10_write 0 = .ok (.iload_n 1, 1) := by decide +kernel
theorem dX10_write_1 : decode cX10_write 1 = .ok (.i2l, 1) := by decide +kernel
theorem dX10_write_2 : decode cX10_write 2 = .ok (.lconst 1, 1) := by decide +kernel
theorem dX10_write_3 : decode cX10_write 3 = .ok (.ldc2_w 77, 3) := by decide +kernel
theorem dX10_write_6 : decode cX10_write 6 = .ok (.invokestatic 79, 3) := by decide +kernel
theorem dX10_write_9 : decode cX10_write 9 = .ok (.ifCond .ne 5, 3) := by decide +kernel
theorem dX10_write_12 : decode cX10_write 12 = .ok (.iconst (-1), 1) := by decide +kernel
theorem dX10_write_13 : decode cX10_write 13 = .ok (.ireturn, 1) := by decide +kernel
theorem dX10_write_14 : decode cX10_write 14 = .ok (.aload_n 0, 1) := by decide +kernel
theorem dX10_write_15 : decode cX10_write 15 = .ok (.getfield 83, 3) := by decide +kernel
theorem dX10_write_18 : decode cX10_write 18 = .ok (.iload_n 1, 1) := by decide +kernel
theorem dX10_write_19 : decode cX10_write 19 = .ok (.iadd, 1) := by decide +kernel
theorem dX10_write_20 : decode cX10_write 20 = .ok (.sipush 300, 3) := by decide +kernel
theorem dX10_write_23 : decode cX10_write 23 = .ok (.if_icmp .le 6, 3) := by decide +kernel
theorem dX10_write_26 : decode cX10_write 26 = .ok (.bipush (-3), 2) := by decide +kernel
theorem dX10_write_28 : decode cX10_write 28 = .ok (.ireturn, 1) := by decide +kernel
theorem dX10_write_29 : decode cX10_write 29 = .ok (.iload_n 1, 1) := by decide +kernel
theorem dX10_write_30 : decode cX10_write 30 = .ok (.iconst 1, 1) := by decide +kernel
theorem dX10_write_31 : decode cX10_write 31 = .ok (.isub, 1) := by decide +kernel
theorem dX10_write_32 : decode cX10_write 32 = .ok (.istore 4, 2) := by decide +kernel
theorem dX10_write_34 : decode cX10_write 34 = .ok (.iload 4, 2) := by decide +kernel
theorem dX10_write_36 : decode cX10_write 36 = .ok (.ifCond .lt 40, 3) := by decide +kernel
theorem dX10_write_39 : decode cX10_write 39 = .ok (.aload_n 0, 1) := by decide +kernel
theorem dX10_write_40 : decode cX10_write 40 = .ok (.getfield 7, 3) := by decide +kernel
theorem dX10_write_43 : decode cX10_write 43 = .ok (.aload_n 0, 1) := by decide +kernel
theorem dX10_write_44 : decode cX10_write 44 = .ok (.getfield 83, 3) := by decide +kernel
theorem dX10_write_47 : decode cX10_write 47 = .ok (.lload_n 2, 1) := by decide +kernel
theorem dX10_write_48 : decode cX10_write 48 = .ok (.bipush 8, 2) := by decide +kernel
theorem dX10_write_50 : decode cX10_write 50 = .ok (.iload 4, 2) := by decide +kernel
theorem dX10_write_52 : decode cX10_write 52 = .ok (.imul, 1) := by decide +kernel
theorem dX10_write_53 : decode cX10_write 53 = .ok (.lshr, 1) := by decide +kernel
theorem dX10_write_54 : decode cX10_write 54 = .ok (.ldc2_w 87, 3) := by decide +kernel
theorem dX10_write_57 : decode cX10_write 57 = .ok (.land, 1) := by decide +kernel
theorem dX10_write_58 : decode cX10_write 58 = .ok (.l2i, 1) := by decide +kernel
theorem dX10_write_59 : decode cX10_write 59 = .ok (.iastore, 1) := by decide +kernel
theorem dX10_write_60 : decode cX10_write 60 = .ok (.aload_n 0, 1) := by decide +kernel
theorem dX10_write_61 : decode cX10_write 61 = .ok (.dup, 1) := by decide +kernel
theorem dX10_write_62 : decode cX10_write 62 = .ok (.getfield 83, 3) := by decide +kernel
theorem dX10_write_65 : decode cX10_write 65 = .ok (.iconst 1, 1) := by decide +kernel
theorem dX10_write_66 : decode cX10_write 66 = .ok (.iadd, 1) := by decide +kernel
theorem dX10_write_67 : decode cX10_write 67 = .ok (.putfield 83, 3) := by decide +kernel
theorem dX10_write_70 : decode cX10_write 70 = .ok (.iinc 4 (-1), 3) := by decide +kernel
theorem dX10_write_73 : decode cX10_write 73 = .ok (.goto (-39), 3) := by decide +kernel
theorem dX10_write_76 : decode cX10_write 76 = .ok (.aload_n 0, 1) := by decide +kernel
theorem dX10_write_77 : decode cX10_write 77 = .ok (.getfield 83, 3) := by decide +kernel
theorem dX10_write_80 : decode cX10_write 80 = .ok (.ireturn, 1) := by decide +kernel
theorem dX10_wipe_0 : decode cX10_wipe 0 = .ok (.aload_n 0, 1) := by decide +kernel
theorem dX10_wipe_1 : decode cX10_wipe 1 = .ok (.getfield 83, 3) := by decide +kernel
theorem dX10_wipe_4 : decode cX10_wipe 4 = .ok (.istore_n 1, 1) := by decide +kernel
theorem dX10_wipe_5 : decode cX10_wipe 5 = .ok (.aload_n 0, 1) := by decide +kernel
theorem dX10_wipe_6 : decode cX10_wipe 6 = .ok (.iconst 0, 1) := by decide +kernel
theorem dX10_wipe_7 : decode cX10_wipe 7 = .ok (.putfield 83, 3) := by decide +kernel
theorem dX10_wipe_10 : decode cX10_wipe 10 = .ok (.iload_n 1, 1) := by decide +kernel
theorem dX10_wipe_11 : decode cX10_wipe 11 = .ok (.ireturn, 1) := by decide +kernel
theorem dX10_byteAt_0 : decode cX10_byteAt 0 = .ok (.iload_n 1, 1) := by decide +kernel
theorem dX10_byteAt_1 : decode cX10_byteAt 1 = .ok (.aload_n 0, 1) := by decide +kernel
theorem dX10_byteAt_2 : decode cX10_byteAt 2 = .ok (.getfield 83, 3) := by decide +kernel
theorem dX10_byteAt_5 : decode cX10_byteAt 5 = .ok (.if_icmp .ge 12, 3) := by decide +kernel
theorem dX10_byteAt_8 : decode cX10_byteAt 8 = .ok (.aload_n 0, 1) := by decide +kernel
theorem dX10_byteAt_9 : decode cX10_byteAt 9 = .ok (.getfield 7, 3) := by decide +kernel
theorem dX10_byteAt_12 : decode cX10_byteAt 12 = .ok (.iload_n 1, 1) := by decide +kernel
theorem dX10_byteAt_13 : decode cX10_byteAt 13 = .ok (.iaload, 1) := by decide +kernel
theorem dX10_byteAt_14 : decode cX10_byteAt 14 = .ok (.goto 4, 3) := by decide +kernel
theorem dX10_byteAt_17 : decode cX10_byteAt 17 = .ok (.iconst 0, 1) := by decide +kernel
theorem dX10_byteAt_18 : decode cX10_byteAt 18 = .ok (.ireturn, 1) := by decide +kernel
theorem dX10_figures_0 : decode cX10_figures 0 = .ok (.iconst 0, 1) := by decide +kernel
theorem dX10_figures_1 : decode cX10_figures 1 = .ok (.istore_n 2, 1) := by decide +kernel
theorem dX10_figures_2 : decode cX10_figures 2 = .ok (.iload_n 2, 1) := by decide +kernel
theorem dX10_figures_3 : decode cX10_figures 3 = .ok (.iload_n 1, 1) := by decide +kernel
theorem dX10_figures_4 : decode cX10_figures 4 = .ok (.if_icmp .ge 132, 3) := by decide +kernel
theorem dX10_figures_7 : decode cX10_figures 7 = .ok (.iconst 0, 1) := by decide +kernel
theorem dX10_figures_8 : decode cX10_figures 8 = .ok (.istore_n 3, 1) := by decide +kernel
theorem dX10_figures_9 : decode cX10_figures 9 = .ok (.iconst 0, 1) := by decide +kernel
theorem dX10_figures_10 : decode cX10_figures 10 = .ok (.istore 4, 2) := by decide +kernel
theorem dX10_figures_12 : decode cX10_figures 12 = .ok (.aload_n 0, 1) := by decide +kernel
theorem dX10_figures_13 : decode cX10_figures 13 = .ok (.aload_n 0, 1) := by decide +kernel
theorem dX10_figures_14 : decode cX10_figures 14 = .ok (.getfield 89, 3) := by decide +kernel
theorem dX10_figures_17 : decode cX10_figures 17 = .ok (.invokevirtual 92, 3) := by decide +kernel
theorem dX10_figures_20 : decode cX10_figures 20 = .ok (.i2l, 1) := by decide +kernel
theorem dX10_figures_21 : decode cX10_figures 21 = .ok (.ldc2_w 96, 3) := by decide +kernel
theorem dX10_figures_24 : decode cX10_figures 24 = .ok (.ldc2_w 98, 3) := by decide +kernel
theorem dX10_figures_27 : decode cX10_figures 27 = .ok (.invokestatic 79, 3) := by decide +kernel
theorem dX10_figures_30 : decode cX10_figures 30 = .ok (.ifCond .eq 43, 3) := by decide +kernel
theorem dX10_figures_33 : decode cX10_figures 33 = .ok (.iload_n 3, 1) := by decide +kernel
theorem dX10_figures_34 : decode cX10_figures 34 = .ok (.iconst 3, 1) := by decide +kernel
theorem dX10_figures_35 : decode cX10_figures 35 = .ok (.if_icmp .ge 38, 3) := by decide +kernel
theorem dX10_figures_38 : decode cX10_figures 38 = .ok (.bipush 10, 2) := by decide +kernel
theorem dX10_figures_40 : decode cX10_figures 40 = .ok (.iload 4, 2) := by decide +kernel
theorem dX10_figures_42 : decode cX10_figures 42 = .ok (.imul, 1) := by decide +kernel
theorem dX10_figures_43 : decode cX10_figures 43 = .ok (.aload_n 0, 1) := by decide +kernel
theorem dX10_figures_44 : decode cX10_figures 44 = .ok (.aload_n 0, 1) := by decide +kernel
theorem dX10_figures_45 : decode cX10_figures 45 = .ok (.getfield 89, 3) := by decide +kernel
theorem dX10_figures_48 : decode cX10_figures 48 = .ok (.invokevirtual 92, 3) := by decide +kernel
theorem dX10_figures_51 : decode cX10_figures 51 = .ok (.iadd, 1) := by decide +kernel
theorem dX10_figures_52 : decode cX10_figures 52 = .ok (.bipush 48, 2) := by decide +kernel
theorem dX10_figures_54 : decode cX10_figures 54 = .ok (.isub, 1) := by decide +kernel
theorem dX10_figures_55 : decode cX10_figures 55 = .ok (.istore 4, 2) := by decide +kernel
theorem dX10_figures_57 : decode cX10_figures 57 = .ok (.iinc 3 1, 3) := by decide +kernel
theorem dX10_figures_60 : decode cX10_figures 60 = .ok (.aload_n 0, 1) := by decide +kernel
theorem dX10_figures_61 : decode cX10_figures 61 = .ok (.dup, 1) := by decide +kernel
theorem dX10_figures_62 : decode cX10_figures 62 = .ok (.getfield 89, 3) := by decide +kernel
theorem dX10_figures_65 : decode cX10_figures 65 = .ok (.iconst 1, 1) := by decide +kernel
theorem dX10_figures_66 : decode cX10_figures 66 = .ok (.iadd, 1) := by decide +kernel
theorem dX10_figures_67 : decode cX10_figures 67 = .ok (.putfield 89, 3) := by decide +kernel
theorem dX10_figures_70 : decode cX10_figures 70 = .ok (.goto (-58), 3) := by decide +kernel
theorem dX10_figures_73 : decode cX10_figures 73 = .ok (.iload_n 3, 1) := by decide +kernel
theorem dX10_figures_74 : decode cX10_figures 74 = .ok (.i2l, 1) := by decide +kernel
theorem dX10_figures_75 : decode cX10_figures 75 = .ok (.lconst 1, 1) := by decide +kernel
theorem dX10_figures_76 : decode cX10_figures 76 = .ok (.ldc2_w 100, 3) := by decide +kernel
theorem dX10_figures_79 : decode cX10_figures 79 = .ok (.invokestatic 79, 3) := by decide +kernel
theorem dX10_figures_82 : decode cX10_figures 82 = .ok (.ifCond .eq 28, 3) := by decide +kernel
theorem dX10_figures_85 : decode cX10_figures 85 = .ok (.aload_n 0, 1) := by decide +kernel
theorem dX10_figures_86 : decode cX10_figures 86 = .ok (.aload_n 0, 1) := by decide +kernel
theorem dX10_figures_87 : decode cX10_figures 87 = .ok (.getfield 89, 3) := by decide +kernel
theorem dX10_figures_90 : decode cX10_figures 90 = .ok (.invokevirtual 92, 3) := by decide +kernel
theorem dX10_figures_93 : decode cX10_figures 93 = .ok (.iload_n 2, 1) := by decide +kernel
theorem dX10_figures_94 : decode cX10_figures 94 = .ok (.iload_n 1, 1) := by decide +kernel
theorem dX10_figures_95 : decode cX10_figures 95 = .ok (.iconst 1, 1) := by decide +kernel
theorem dX10_figures_96 : decode cX10_figures 96 = .ok (.isub, 1) := by decide +kernel
theorem dX10_figures_97 : decode cX10_figures 97 = .ok (.if_icmp .ge 8, 3) := by decide +kernel
theorem dX10_figures_100 : decode cX10_figures 100 = .ok (.bipush 44, 2) := by decide +kernel
theorem dX10_figures_102 : decode cX10_figures 102 = .ok (.goto 5, 3) := by decide +kernel
theorem dX10_figures_105 : decode cX10_figures 105 = .ok (.bipush 59, 2) := by decide +kernel
theorem dX10_figures_107 : decode cX10_figures 107 = .ok (.if_icmp .eq 5, 3) := by decide +kernel
theorem dX10_figures_110 : decode cX10_figures 110 = .ok (.iconst 0, 1) := by decide +kernel
theorem dX10_figures_111 : decode cX10_figures 111 = .ok (.ireturn, 1) := by decide +kernel
theorem dX10_figures_112 : decode cX10_figures 112 = .ok (.aload_n 0, 1) := by decide +kernel
theorem dX10_figures_113 : decode cX10_figures 113 = .ok (.getfield 46, 3) := by decide +kernel
theorem dX10_figures_116 : decode cX10_figures 116 = .ok (.iload_n 2, 1) := by decide +kernel
theorem dX10_figures_117 : decode cX10_figures 117 = .ok (.iload 4, 2) := by decide +kernel
theorem dX10_figures_119 : decode cX10_figures 119 = .ok (.iastore, 1) := by decide +kernel
theorem dX10_figures_120 : decode cX10_figures 120 = .ok (.aload_n 0, 1) := by decide +kernel
theorem dX10_figures_121 : decode cX10_figures 121 = .ok (.dup, 1) := by decide +kernel
theorem dX10_figures_122 : decode cX10_figures 122 = .ok (.getfield 89, 3) := by decide +kernel
theorem dX10_figures_125 : decode cX10_figures 125 = .ok (.iconst 1, 1) := by decide +kernel
theorem dX10_figures_126 : decode cX10_figures 126 = .ok (.iadd, 1) := by decide +kernel
theorem dX10_figures_127 : decode cX10_figures 127 = .ok (.putfield 89, 3) := by decide +kernel
theorem dX10_figures_130 : decode cX10_figures 130 = .ok (.iinc 2 1, 3) := by decide +kernel
theorem dX10_figures_133 : decode cX10_figures 133 = .ok (.goto (-131), 3) := by decide +kernel
theorem dX10_figures_136 : decode cX10_figures 136 = .ok (.iconst 1, 1) := by decide +kernel
theorem dX10_figures_137 : decode cX10_figures 137 = .ok (.ireturn, 1) := by decide +kernel
theorem dX10_item_0 : decode cX10_item 0 = .ok (.aload_n 0, 1) := by decide +kernel
theorem dX10_item_1 : decode cX10_item 1 = .ok (.aload_n 0, 1) := by decide +kernel
theorem dX10_item_2 : decode cX10_item 2 = .ok (.getfield 89, 3) := by decide +kernel
theorem dX10_item_5 : decode cX10_item 5 = .ok (.invokevirtual 92, 3) := by decide +kernel
theorem dX10_item_8 : decode cX10_item 8 = .ok (.istore_n 1, 1) := by decide +kernel
theorem dX10_item_9 : decode cX10_item 9 = .ok (.aload_n 0, 1) := by decide +kernel
theorem dX10_item_10 : decode cX10_item 10 = .ok (.dup, 1) := by decide +kernel
theorem dX10_item_11 : decode cX10_item 11 = .ok (.getfield 89, 3) := by decide +kernel
theorem dX10_item_14 : decode cX10_item 14 = .ok (.iconst 1, 1) := by decide +kernel
theorem dX10_item_15 : decode cX10_item 15 = .ok (.iadd, 1) := by decide +kernel
theorem dX10_item_16 : decode cX10_item 16 = .ok (.putfield 89, 3) := by decide +kernel
theorem dX10_item_19 : decode cX10_item 19 = .ok (.iload_n 1, 1) := by decide +kernel
theorem dX10_item_20 : decode cX10_item 20 = .ok (.lookupswitch 374 #[(99, 299), (108, 120), (109, 52), (115, 333), (119, 217)], 52) := by decide +kernel
theorem dX10_item_72 : decode cX10_item 72 = .ok (.aload_n 0, 1) := by decide +kernel
theorem dX10_item_73 : decode cX10_item 73 = .ok (.iconst 1, 1) := by decide +kernel
theorem dX10_item_74 : decode cX10_item 74 = .ok (.invokevirtual 102, 3) := by decide +kernel
theorem dX10_item_77 : decode cX10_item 77 = .ok (.ifCond .eq 30, 3) := by decide +kernel
theorem dX10_item_80 : decode cX10_item 80 = .ok (.aload_n 0, 1) := by decide +kernel
theorem dX10_item_81 : decode cX10_item 81 = .ok (.getfield 13, 3) := by decide +kernel
theorem dX10_item_84 : decode cX10_item 84 = .ok (.iconst 1, 1) := by decide +kernel
theorem dX10_item_85 : decode cX10_item 85 = .ok (.iaload, 1) := by decide +kernel
theorem dX10_item_86 : decode cX10_item 86 = .ok (.iconst 3, 1) := by decide +kernel
theorem dX10_item_87 : decode cX10_item 87 = .ok (.if_icmp .eq 20, 3) := by decide +kernel
theorem dX10_item_90 : decode cX10_item 90 = .ok (.aload_n 0, 1) := by decide +kernel
theorem dX10_item_91 : decode cX10_item 91 = .ok (.getfield 46, 3) := by decide +kernel
theorem dX10_item_94 : decode cX10_item 94 = .ok (.iconst 0, 1) := by decide +kernel
theorem dX10_item_95 : decode cX10_item 95 = .ok (.iaload, 1) := by decide +kernel
theorem dX10_item_96 : decode cX10_item 96 = .ok (.i2l, 1) := by decide +kernel
theorem dX10_item_97 : decode cX10_item 97 = .ok (.lconst 1, 1) := by decide +kernel
theorem dX10_item_98 : decode cX10_item 98 = .ok (.ldc2_w 106, 3) := by decide +kernel
theorem dX10_item_101 : decode cX10_item 101 = .ok (.invokestatic 79, 3) := by decide +kernel
theorem dX10_item_104 : decode cX10_item 104 = .ok (.ifCond .ne 5, 3) := by decide +kernel
theorem dX10_item_107 : decode cX10_item 107 = .ok (.iconst 0, 1) := by decide +kernel
theorem dX10_item_108 : decode cX10_item 108 = .ok (.ireturn, 1) := by decide +kernel
theorem dX10_item_109 : decode cX10_item 109 = .ok (.aload_n 0, 1) := by decide +kernel
theorem dX10_item_110 : decode cX10_item 110 = .ok (.getfield 16, 3) := by decide +kernel
theorem dX10_item_113 : decode cX10_item 113 = .ok (.iconst 3, 1) := by decide +kernel
theorem dX10_item_114 : decode cX10_item 114 = .ok (.aload_n 0, 1) := by decide +kernel
theorem dX10_item_115 : decode cX10_item 115 = .ok (.getfield 13, 3) := by decide +kernel
theorem dX10_item_118 : decode cX10_item 118 = .ok (.iconst 1, 1) := by decide +kernel
theorem dX10_item_119 : decode cX10_item 119 = .ok (.iaload, 1) := by decide +kernel
theorem dX10_item_120 : decode cX10_item 120 = .ok (.iadd, 1) := by decide +kernel
theorem dX10_item_121 : decode cX10_item 121 = .ok (.aload_n 0, 1) := by decide +kernel
theorem dX10_item_122 : decode cX10_item 122 = .ok (.getfield 46, 3) := by decide +kernel
theorem dX10_item_125 : decode cX10_item 125 = .ok (.iconst 0, 1) := by decide +kernel
theorem dX10_item_126 : decode cX10_item 126 = .ok (.iaload, 1) := by decide +kernel
theorem dX10_item_127 : decode cX10_item 127 = .ok (.iastore, 1) := by decide +kernel
theorem dX10_item_128 : decode cX10_item 128 = .ok (.aload_n 0, 1) := by decide +kernel
theorem dX10_item_129 : decode cX10_item 129 = .ok (.getfield 13, 3) := by decide +kernel
theorem dX10_item_132 : decode cX10_item 132 = .ok (.iconst 1, 1) := by decide +kernel
theorem dX10_item_133 : decode cX10_item 133 = .ok (.dup2, 1) := by decide +kernel
theorem dX10_item_134 : decode cX10_item 134 = .ok (.iaload, 1) := by decide +kernel
theorem dX10_item_135 : decode cX10_item 135 = .ok (.iconst 1, 1) := by decide +kernel
theorem dX10_item_136 : decode cX10_item 136 = .ok (.iadd, 1) := by decide +kernel
theorem dX10_item_137 : decode cX10_item 137 = .ok (.iastore, 1) := by decide +kernel
theorem dX10_item_138 : decode cX10_item 138 = .ok (.iconst 1, 1) := by decide +kernel
theorem dX10_item_139 : decode cX10_item 139 = .ok (.ireturn, 1) := by decide +kernel
theorem dX10_item_140 : decode cX10_item 140 = .ok (.aload_n 0, 1) := by decide +kernel
theorem dX10_item_141 : decode cX10_item 141 = .ok (.iconst 2, 1) := by decide +kernel
theorem dX10_item_142 : decode cX10_item 142 = .ok (.invokevirtual 102, 3) := by decide +kernel
theorem dX10_item_145 : decode cX10_item 145 = .ok (.ifCond .eq 40, 3) := by decide +kernel
theorem dX10_item_148 : decode cX10_item 148 = .ok (.aload_n 0, 1) := by decide +kernel
theorem dX10_item_149 : decode cX10_item 149 = .ok (.getfield 19, 3) := by decide +kernel
theorem dX10_item_152 : decode cX10_item 152 = .ok (.iconst 1, 1) := by decide +kernel
theorem dX10_item_153 : decode cX10_item 153 = .ok (.iaload, 1) := by decide +kernel
theorem dX10_item_154 : decode cX10_item 154 = .ok (.iconst 5, 1) := by decide +kernel
theorem dX10_item_155 : decode cX10_item 155 = .ok (.if_icmp .eq 30, 3) := by decide +kernel
theorem dX10_item_158 : decode cX10_item 158 = .ok (.aload_n 0, 1) := by decide +kernel
theorem dX10_item_159 : decode cX10_item 159 = .ok (.getfield 46, 3) := by decide +kernel
theorem dX10_item_162 : decode cX10_item 162 = .ok (.iconst 0, 1) := by decide +kernel
theorem dX10_item_163 : decode cX10_item 163 = .ok (.iaload, 1) := by decide +kernel
theorem dX10_item_164 : decode cX10_item 164 = .ok (.i2l, 1) := by decide +kernel
theorem dX10_item_165 : decode cX10_item 165 = .ok (.lconst 1, 1) := by decide +kernel
theorem dX10_item_166 : decode cX10_item 166 = .ok (.ldc2_w 108, 3) := by decide +kernel
theorem dX10_item_169 : decode cX10_item 169 = .ok (.invokestatic 79, 3) := by decide +kernel
theorem dX10_item_172 : decode cX10_item 172 = .ok (.ifCond .eq 13, 3) := by decide +kernel
theorem dX10_item_175 : decode cX10_item 175 = .ok (.aload_n 0, 1) := by decide +kernel
theorem dX10_item_176 : decode cX10_item 176 = .ok (.getfield 46, 3) := by decide +kernel
theorem dX10_item_179 : decode cX10_item 179 = .ok (.iconst 1, 1) := by decide +kernel
theorem dX10_item_180 : decode cX10_item 180 = .ok (.iaload, 1) := by decide +kernel
theorem dX10_item_181 : decode cX10_item 181 = .ok (.iconst 3, 1) := by decide +kernel
theorem dX10_item_182 : decode cX10_item 182 = .ok (.if_icmp .le 5, 3) := by decide +kernel
theorem dX10_item_185 : decode cX10_item 185 = .ok (.iconst 0, 1) := by decide +kernel
theorem dX10_item_186 : decode cX10_item 186 = .ok (.ireturn, 1) := by decide +kernel
theorem dX10_item_187 : decode cX10_item 187 = .ok (.aload_n 0, 1) := by decide +kernel
theorem dX10_item_188 : decode cX10_item 188 = .ok (.getfield 28, 3) := by decide +kernel
theorem dX10_item_191 : decode cX10_item 191 = .ok (.iconst 5, 1) := by decide +kernel
theorem dX10_item_192 : decode cX10_item 192 = .ok (.aload_n 0, 1) := by decide +kernel
theorem dX10_item_193 : decode cX10_item 193 = .ok (.getfield 19, 3) := by decide +kernel
theorem dX10_item_196 : decode cX10_item 196 = .ok (.iconst 1, 1) := by decide +kernel
theorem dX10_item_197 : decode cX10_item 197 = .ok (.iaload, 1) := by decide +kernel
theorem dX10_item_198 : decode cX10_item 198 = .ok (.iadd, 1) := by decide +kernel
theorem dX10_item_199 : decode cX10_item 199 = .ok (.aload_n 0, 1) := by decide +kernel
theorem dX10_item_200 : decode cX10_item 200 = .ok (.getfield 46, 3) := by decide +kernel
theorem dX10_item_203 : decode cX10_item 203 = .ok (.iconst 0, 1) := by decide +kernel
theorem dX10_item_204 : decode cX10_item 204 = .ok (.iaload, 1) := by decide +kernel
theorem dX10_item_205 : decode cX10_item 205 = .ok (.iastore, 1) := by decide +kernel
theorem dX10_item_206 : decode cX10_item 206 = .ok (.aload_n 0, 1) := by decide +kernel
theorem dX10_item_207 : decode cX10_item 207 = .ok (.getfield 22, 3) := by decide +kernel
theorem dX10_item_210 : decode cX10_item 210 = .ok (.iconst 5, 1) := by decide +kernel
theorem dX10_item_211 : decode cX10_item 211 = .ok (.aload_n 0, 1) := by decide +kernel
theorem dX10_item_212 : decode cX10_item 212 = .ok (.getfield 19, 3) := by decide +kernel
theorem dX10_item_215 : decode cX10_item 215 = .ok (.iconst 1, 1) := by decide +kernel
theorem dX10_item_216 : decode cX10_item 216 = .ok (.iaload, 1) := by decide +kernel
theorem dX10_item_217 : decode cX10_item 217 = .ok (.iadd, 1) := by decide +kernel
theorem dX10_item_218 : decode cX10_item 218 = .ok (.aload_n 0, 1) := by decide +kernel
theorem dX10_item_219 : decode cX10_item 219 = .ok (.getfield 46, 3) := by decide +kernel
theorem dX10_item_222 : decode cX10_item 222 = .ok (.iconst 1, 1) := by decide +kernel
theorem dX10_item_223 : decode cX10_item 223 = .ok (.iaload, 1) := by decide +kernel
theorem dX10_item_224 : decode cX10_item 224 = .ok (.iastore, 1) := by decide +kernel
theorem dX10_item_225 : decode cX10_item 225 = .ok (.aload_n 0, 1) := by decide +kernel
theorem dX10_item_226 : decode cX10_item 226 = .ok (.getfield 19, 3) := by decide +kernel
theorem dX10_item_229 : decode cX10_item 229 = .ok (.iconst 1, 1) := by decide +kernel
theorem dX10_item_230 : decode cX10_item 230 = .ok (.dup2, 1) := by decide +kernel
theorem dX10_item_231 : decode cX10_item 231 = .ok (.iaload, 1) := by decide +kernel
theorem dX10_item_232 : decode cX10_item 232 = .ok (.iconst 1, 1) := by decide +kernel
theorem dX10_item_233 : decode cX10_item 233 = .ok (.iadd, 1) := by decide +kernel
theorem dX10_item_234 : decode cX10_item 234 = .ok (.iastore, 1) := by decide +kernel
theorem dX10_item_235 : decode cX10_item 235 = .ok (.iconst 1, 1) := by decide +kernel
theorem dX10_item_236 : decode cX10_item 236 = .ok (.ireturn, 1) := by decide +kernel
theorem dX10_item_237 : decode cX10_item 237 = .ok (.aload_n 0, 1) := by decide +kernel
theorem dX10_item_238 : decode cX10_item 238 = .ok (.iconst 3, 1) := by decide +kernel
theorem dX10_item_239 : decode cX10_item 239 = .ok (.invokevirtual 102, 3) := by decide +kernel
theorem dX10_item_242 : decode cX10_item 242 = .ok (.ifCond .eq 44, 3) := by decide +kernel
theorem dX10_item_245 : decode cX10_item 245 = .ok (.aload_n 0, 1) := by decide +kernel
theorem dX10_item_246 : decode cX10_item 246 = .ok (.getfield 46, 3) := by decide +kernel
theorem dX10_item_249 : decode cX10_item 249 = .ok (.iconst 0, 1) := by decide +kernel
theorem dX10_item_250 : decode cX10_item 250 = .ok (.iaload, 1) := by decide +kernel
theorem dX10_item_251 : decode cX10_item 251 = .ok (.aload_n 0, 1) := by decide +kernel
theorem dX10_item_252 : decode cX10_item 252 = .ok (.getfield 19, 3) := by decide +kernel
theorem dX10_item_255 : decode cX10_item 255 = .ok (.iconst 1, 1) := by decide +kernel
theorem dX10_item_256 : decode cX10_item 256 = .ok (.iaload, 1) := by decide +kernel
theorem dX10_item_257 : decode cX10_item 257 = .ok (.if_icmp .ge 29, 3) := by decide +kernel
theorem dX10_item_260 : decode cX10_item 260 = .ok (.aload_n 0, 1) := by decide +kernel
theorem dX10_item_261 : decode cX10_item 261 = .ok (.getfield 46, 3) := by decide +kernel
theorem dX10_item_264 : decode cX10_item 264 = .ok (.iconst 1, 1) := by decide +kernel
theorem dX10_item_265 : decode cX10_item 265 = .ok (.iaload, 1) := by decide +kernel
theorem dX10_item_266 : decode cX10_item 266 = .ok (.aload_n 0, 1) := by decide +kernel
theorem dX10_item_267 : decode cX10_item 267 = .ok (.getfield 13, 3) := by decide +kernel
theorem dX10_item_270 : decode cX10_item 270 = .ok (.iconst 1, 1) := by decide +kernel
theorem dX10_item_271 : decode cX10_item 271 = .ok (.iaload, 1) := by decide +kernel
theorem dX10_item_272 : decode cX10_item 272 = .ok (.if_icmp .ge 14, 3) := by decide +kernel
theorem dX10_item_275 : decode cX10_item 275 = .ok (.aload_n 0, 1) := by decide +kernel
theorem dX10_item_276 : decode cX10_item 276 = .ok (.getfield 46, 3) := by decide +kernel
theorem dX10_item_279 : decode cX10_item 279 = .ok (.iconst 2, 1) := by decide +kernel
theorem dX10_item_280 : decode cX10_item 280 = .ok (.iaload, 1) := by decide +kernel
theorem dX10_item_281 : decode cX10_item 281 = .ok (.bipush 10, 2) := by decide +kernel
theorem dX10_item_283 : decode cX10_item 283 = .ok (.if_icmp .le 5, 3) := by decide +kernel
theorem dX10_item_286 : decode cX10_item 286 = .ok (.iconst 0, 1) := by decide +kernel
theorem dX10_item_287 : decode cX10_item 287 = .ok (.ireturn, 1) := by decide +kernel
theorem dX10_item_288 : decode cX10_item 288 = .ok (.aload_n 0, 1) := by decide +kernel
theorem dX10_item_289 : decode cX10_item 289 = .ok (.getfield 25, 3) := by decide +kernel
theorem dX10_item_292 : decode cX10_item 292 = .ok (.bipush 15, 2) := by decide +kernel
theorem dX10_item_294 : decode cX10_item 294 = .ok (.iconst 3, 1) := by decide +kernel
theorem dX10_item_295 : decode cX10_item 295 = .ok (.aload_n 0, 1) := by decide +kernel
theorem dX10_item_296 : decode cX10_item 296 = .ok (.getfield 46, 3) := by decide +kernel
theorem dX10_item_299 : decode cX10_item 299 = .ok (.iconst 0, 1) := by decide +kernel
theorem dX10_item_300 : decode cX10_item 300 = .ok (.iaload, 1) := by decide +kernel
theorem dX10_item_301 : decode cX10_item 301 = .ok (.imul, 1) := by decide +kernel
theorem dX10_item_302 : decode cX10_item 302 = .ok (.iadd, 1) := by decide +kernel
theorem dX10_item_303 : decode cX10_item 303 = .ok (.aload_n 0, 1) := by decide +kernel
theorem dX10_item_304 : decode cX10_item 304 = .ok (.getfield 46, 3) := by decide +kernel
theorem dX10_item_307 : decode cX10_item 307 = .ok (.iconst 1, 1) := by decide +kernel
theorem dX10_item_308 : decode cX10_item 308 = .ok (.iaload, 1) := by decide +kernel
theorem dX10_item_309 : decode cX10_item 309 = .ok (.iadd, 1) := by decide +kernel
theorem dX10_item_310 : decode cX10_item 310 = .ok (.aload_n 0, 1) := by decide +kernel
theorem dX10_item_311 : decode cX10_item 311 = .ok (.getfield 46, 3) := by decide +kernel
theorem dX10_item_314 : decode cX10_item 314 = .ok (.iconst 2, 1) := by decide +kernel
theorem dX10_item_315 : decode cX10_item 315 = .ok (.iaload, 1) := by decide +kernel
theorem dX10_item_316 : decode cX10_item 316 = .ok (.iastore, 1) := by decide +kernel
theorem dX10_item_317 : decode cX10_item 317 = .ok (.iconst 1, 1) := by decide +kernel
theorem dX10_item_318 : decode cX10_item 318 = .ok (.ireturn, 1) := by decide +kernel
theorem dX10_item_319 : decode cX10_item 319 = .ok (.aload_n 0, 1) := by decide +kernel
theorem dX10_item_320 : decode cX10_item 320 = .ok (.iconst 1, 1) := by decide +kernel
theorem dX10_item_321 : decode cX10_item 321 = .ok (.invokevirtual 102, 3) := by decide +kernel
theorem dX10_item_324 : decode cX10_item 324 = .ok (.ifCond .eq 13, 3) := by decide +kernel
theorem dX10_item_327 : decode cX10_item 327 = .ok (.aload_n 0, 1) := by decide +kernel
theorem dX10_item_328 : decode cX10_item 328 = .ok (.getfield 46, 3) := by decide +kernel
theorem dX10_item_331 : decode cX10_item 331 = .ok (.iconst 0, 1) := by decide +kernel
theorem dX10_item_332 : decode cX10_item 332 = .ok (.iaload, 1) := by decide +kernel
theorem dX10_item_333 : decode cX10_item 333 = .ok (.iconst 2, 1) := by decide +kernel
theorem dX10_item_334 : decode cX10_item 334 = .ok (.if_icmp .le 5, 3) := by decide +kernel
theorem dX10_item_337 : decode cX10_item 337 = .ok (.iconst 0, 1) := by decide +kernel
theorem dX10_item_338 : decode cX10_item 338 = .ok (.ireturn, 1) := by decide +kernel
theorem dX10_item_339 : decode cX10_item 339 = .ok (.aload_n 0, 1) := by decide +kernel
theorem dX10_item_340 : decode cX10_item 340 = .ok (.getfield 31, 3) := by decide +kernel
theorem dX10_item_343 : decode cX10_item 343 = .ok (.iconst 1, 1) := by decide +kernel
theorem dX10_item_344 : decode cX10_item 344 = .ok (.aload_n 0, 1) := by decide +kernel
theorem dX10_item_345 : decode cX10_item 345 = .ok (.getfield 46, 3) := by decide +kernel
theorem dX10_item_348 : decode cX10_item 348 = .ok (.iconst 0, 1) := by decide +kernel
theorem dX10_item_349 : decode cX10_item 349 = .ok (.iaload, 1) := by decide +kernel
theorem dX10_item_350 : decode cX10_item 350 = .ok (.iastore, 1) := by decide +kernel
theorem dX10_item_351 : decode cX10_item 351 = .ok (.iconst 1, 1) := by decide +kernel
theorem dX10_item_352 : decode cX10_item 352 = .ok (.ireturn, 1) := by decide +kernel
theorem dX10_item_353 : decode cX10_item 353 = .ok (.aload_n 0, 1) := by decide +kernel
theorem dX10_item_354 : decode cX10_item 354 = .ok (.iconst 1, 1) := by decide +kernel
theorem dX10_item_355 : decode cX10_item 355 = .ok (.invokevirtual 102, 3) := by decide +kernel
theorem dX10_item_358 : decode cX10_item 358 = .ok (.ifCond .eq 20, 3) := by decide +kernel
theorem dX10_item_361 : decode cX10_item 361 = .ok (.aload_n 0, 1) := by decide +kernel
theorem dX10_item_362 : decode cX10_item 362 = .ok (.getfield 46, 3) := by decide +kernel
theorem dX10_item_365 : decode cX10_item 365 = .ok (.iconst 0, 1) := by decide +kernel
theorem dX10_item_366 : decode cX10_item 366 = .ok (.iaload, 1) := by decide +kernel
theorem dX10_item_367 : decode cX10_item 367 = .ok (.i2l, 1) := by decide +kernel
theorem dX10_item_368 : decode cX10_item 368 = .ok (.lconst 1, 1) := by decide +kernel
theorem dX10_item_369 : decode cX10_item 369 = .ok (.ldc2_w 106, 3) := by decide +kernel
theorem dX10_item_372 : decode cX10_item 372 = .ok (.invokestatic 79, 3) := by decide +kernel
theorem dX10_item_375 : decode cX10_item 375 = .ok (.ifCond .ne 5, 3) := by decide +kernel
theorem dX10_item_378 : decode cX10_item 378 = .ok (.iconst 0, 1) := by decide +kernel
theorem dX10_item_379 : decode cX10_item 379 = .ok (.ireturn, 1) := by decide +kernel
theorem dX10_item_380 : decode cX10_item 380 = .ok (.aload_n 0, 1) := by decide +kernel
theorem dX10_item_381 : decode cX10_item 381 = .ok (.getfield 34, 3) := by decide +kernel
theorem dX10_item_384 : decode cX10_item 384 = .ok (.iconst 1, 1) := by decide +kernel
theorem dX10_item_385 : decode cX10_item 385 = .ok (.aload_n 0, 1) := by decide +kernel
theorem dX10_item_386 : decode cX10_item 386 = .ok (.getfield 46, 3) := by decide +kernel
theorem dX10_item_389 : decode cX10_item 389 = .ok (.iconst 0, 1) := by decide +kernel
theorem dX10_item_390 : decode cX10_item 390 = .ok (.iaload, 1) := by decide +kernel
theorem dX10_item_391 : decode cX10_item 391 = .ok (.iastore, 1) := by decide +kernel
theorem dX10_item_392 : decode cX10_item 392 = .ok (.iconst 1, 1) := by decide +kernel
theorem dX10_item_393 : decode cX10_item 393 = .ok (.ireturn, 1) := by decide +kernel
theorem dX10_item_394 : decode cX10_item 394 = .ok (.iconst 0, 1) := by decide +kernel
theorem dX10_item_395 : decode cX10_item 395 = .ok (.ireturn, 1) := by decide +kernel
theorem dX10_readAll_0 : decode cX10_readAll 0 = .ok (.aload_n 0, 1) := by decide +kernel
theorem dX10_readAll_1 : decode cX10_readAll 1 = .ok (.iconst 1, 1) := by decide +kernel
theorem dX10_readAll_2 : decode cX10_readAll 2 = .ok (.invokevirtual 73, 3) := by decide +kernel
theorem dX10_readAll_5 : decode cX10_readAll 5 = .ok (.aload_n 0, 1) := by decide +kernel
theorem dX10_readAll_6 : decode cX10_readAll 6 = .ok (.iconst 0, 1) := by decide +kernel
theorem dX10_readAll_7 : decode cX10_readAll 7 = .ok (.putfield 89, 3) := by decide +kernel
theorem dX10_readAll_10 : decode cX10_readAll 10 = .ok (.aload_n 0, 1) := by decide +kernel
theorem dX10_readAll_11 : decode cX10_readAll 11 = .ok (.getfield 89, 3) := by decide +kernel
theorem dX10_readAll_14 : decode cX10_readAll 14 = .ok (.aload_n 0, 1) := by decide +kernel
theorem dX10_readAll_15 : decode cX10_readAll 15 = .ok (.getfield 83, 3) := by decide +kernel
theorem dX10_readAll_18 : decode cX10_readAll 18 = .ok (.if_icmp .ge 20, 3) := by decide +kernel
theorem dX10_readAll_21 : decode cX10_readAll 21 = .ok (.aload_n 0, 1) := by decide +kernel
theorem dX10_readAll_22 : decode cX10_readAll 22 = .ok (.getfield 89, 3) := by decide +kernel
theorem dX10_readAll_25 : decode cX10_readAll 25 = .ok (.istore_n 1, 1) := by decide +kernel
theorem dX10_readAll_26 : decode cX10_readAll 26 = .ok (.aload_n 0, 1) := by decide +kernel
theorem dX10_readAll_27 : decode cX10_readAll 27 = .ok (.invokevirtual 110, 3) := by decide +kernel
theorem dX10_readAll_30 : decode cX10_readAll 30 = .ok (.ifCond .ne 5, 3) := by decide +kernel
theorem dX10_readAll_33 : decode cX10_readAll 33 = .ok (.iload_n 1, 1) := by decide +kernel
theorem dX10_readAll_34 : decode cX10_readAll 34 = .ok (.ireturn, 1) := by decide +kernel
theorem dX10_readAll_35 : decode cX10_readAll 35 = .ok (.goto (-25), 3) := by decide +kernel
theorem dX10_readAll_38 : decode cX10_readAll 38 = .ok (.bipush (-4), 2) := by decide +kernel
theorem dX10_readAll_40 : decode cX10_readAll 40 = .ok (.ireturn, 1) := by decide +kernel
theorem dX10_fault_0 : decode cX10_fault 0 = .ok (.aload_n 0, 1) := by decide +kernel
theorem dX10_fault_1 : decode cX10_fault 1 = .ok (.invokevirtual 114, 3) := by decide +kernel
theorem dX10_fault_4 : decode cX10_fault 4 = .ok (.ireturn, 1) := by decide +kernel
theorem dX10_copy_0 : decode cX10_copy 0 = .ok (.iconst 0, 1) := by decide +kernel
theorem dX10_copy_1 : decode cX10_copy 1 = .ok (.istore_n 3, 1) := by decide +kernel
theorem dX10_copy_2 : decode cX10_copy 2 = .ok (.iload_n 3, 1) := by decide +kernel
theorem dX10_copy_3 : decode cX10_copy 3 = .ok (.iconst 5, 1) := by decide +kernel
theorem dX10_copy_4 : decode cX10_copy 4 = .ok (.if_icmp .ge 29, 3) := by decide +kernel
theorem dX10_copy_7 : decode cX10_copy 7 = .ok (.aload_n 0, 1) := by decide +kernel
theorem dX10_copy_8 : decode cX10_copy 8 = .ok (.getfield 28, 3) := by decide +kernel
theorem dX10_copy_11 : decode cX10_copy 11 = .ok (.iconst 5, 1) := by decide +kernel
theorem dX10_copy_12 : decode cX10_copy 12 = .ok (.iload_n 2, 1) := by decide +kernel
theorem dX10_copy_13 : decode cX10_copy 13 = .ok (.imul, 1) := by decide +kernel
theorem dX10_copy_14 : decode cX10_copy 14 = .ok (.iload_n 3, 1) := by decide +kernel
theorem dX10_copy_15 : decode cX10_copy 15 = .ok (.iadd, 1) := by decide +kernel
theorem dX10_copy_16 : decode cX10_copy 16 = .ok (.aload_n 0, 1) := by decide +kernel
theorem dX10_copy_17 : decode cX10_copy 17 = .ok (.getfield 28, 3) := by decide +kernel
theorem dX10_copy_20 : decode cX10_copy 20 = .ok (.iconst 5, 1) := by decide +kernel
theorem dX10_copy_21 : decode cX10_copy 21 = .ok (.iload_n 1, 1) := by decide +kernel
theorem dX10_copy_22 : decode cX10_copy 22 = .ok (.imul, 1) := by decide +kernel
theorem dX10_copy_23 : decode cX10_copy 23 = .ok (.iload_n 3, 1) := by decide +kernel
theorem dX10_copy_24 : decode cX10_copy 24 = .ok (.iadd, 1) := by decide +kernel
theorem dX10_copy_25 : decode cX10_copy 25 = .ok (.iaload, 1) := by decide +kernel
theorem dX10_copy_26 : decode cX10_copy 26 = .ok (.iastore, 1) := by decide +kernel
theorem dX10_copy_27 : decode cX10_copy 27 = .ok (.iinc 3 1, 3) := by decide +kernel
theorem dX10_copy_30 : decode cX10_copy 30 = .ok (.goto (-28), 3) := by decide +kernel
theorem dX10_copy_33 : decode cX10_copy 33 = .ok (.aload_n 0, 1) := by decide +kernel
theorem dX10_copy_34 : decode cX10_copy 34 = .ok (.getfield 31, 3) := by decide +kernel
theorem dX10_copy_37 : decode cX10_copy 37 = .ok (.iload_n 2, 1) := by decide +kernel
theorem dX10_copy_38 : decode cX10_copy 38 = .ok (.aload_n 0, 1) := by decide +kernel
theorem dX10_copy_39 : decode cX10_copy 39 = .ok (.getfield 31, 3) := by decide +kernel
theorem dX10_copy_42 : decode cX10_copy 42 = .ok (.iload_n 1, 1) := by decide +kernel
theorem dX10_copy_43 : decode cX10_copy 43 = .ok (.iaload, 1) := by decide +kernel
theorem dX10_copy_44 : decode cX10_copy 44 = .ok (.iastore, 1) := by decide +kernel
theorem dX10_copy_45 : decode cX10_copy 45 = .ok (.aload_n 0, 1) := by decide +kernel
theorem dX10_copy_46 : decode cX10_copy 46 = .ok (.getfield 34, 3) := by decide +kernel
theorem dX10_copy_49 : decode cX10_copy 49 = .ok (.iload_n 2, 1) := by decide +kernel
theorem dX10_copy_50 : decode cX10_copy 50 = .ok (.aload_n 0, 1) := by decide +kernel
theorem dX10_copy_51 : decode cX10_copy 51 = .ok (.getfield 34, 3) := by decide +kernel
theorem dX10_copy_54 : decode cX10_copy 54 = .ok (.iload_n 1, 1) := by decide +kernel
theorem dX10_copy_55 : decode cX10_copy 55 = .ok (.iaload, 1) := by decide +kernel
theorem dX10_copy_56 : decode cX10_copy 56 = .ok (.iastore, 1) := by decide +kernel
theorem dX10_copy_57 : decode cX10_copy 57 = .ok (.return_, 1) := by decide +kernel
theorem dX10_lay_0 : decode cX10_lay 0 = .ok (.aload_n 0, 1) := by decide +kernel
theorem dX10_lay_1 : decode cX10_lay 1 = .ok (.invokevirtual 114, 3) := by decide +kernel
theorem dX10_lay_4 : decode cX10_lay 4 = .ok (.bipush (-4), 2) := by decide +kernel
theorem dX10_lay_6 : decode cX10_lay 6 = .ok (.if_icmp .ne 21, 3) := by decide +kernel
theorem dX10_lay_9 : decode cX10_lay 9 = .ok (.aload_n 0, 1) := by decide +kernel
theorem dX10_lay_10 : decode cX10_lay 10 = .ok (.getfield 13, 3) := by decide +kernel
theorem dX10_lay_13 : decode cX10_lay 13 = .ok (.iconst 1, 1) := by decide +kernel
theorem dX10_lay_14 : decode cX10_lay 14 = .ok (.iaload, 1) := by decide +kernel
theorem dX10_lay_15 : decode cX10_lay 15 = .ok (.ifCond .eq 12, 3) := by decide +kernel
theorem dX10_lay_18 : decode cX10_lay 18 = .ok (.aload_n 0, 1) := by decide +kernel
theorem dX10_lay_19 : decode cX10_lay 19 = .ok (.getfield 19, 3) := by decide +kernel
theorem dX10_lay_22 : decode cX10_lay 22 = .ok (.iconst 1, 1) := by decide +kernel
theorem dX10_lay_23 : decode cX10_lay 23 = .ok (.iaload, 1) := by decide +kernel
theorem dX10_lay_24 : decode cX10_lay 24 = .ok (.ifCond .ne 6, 3) := by decide +kernel
theorem dX10_lay_27 : decode cX10_lay 27 = .ok (.bipush (-2), 2) := by decide +kernel
theorem dX10_lay_29 : decode cX10_lay 29 = .ok (.ireturn, 1) := by decide +kernel
theorem dX10_lay_30 : decode cX10_lay 30 = .ok (.aload_n 0, 1) := by decide +kernel
theorem dX10_lay_31 : decode cX10_lay 31 = .ok (.getfield 13, 3) := by decide +kernel
theorem dX10_lay_34 : decode cX10_lay 34 = .ok (.iconst 0, 1) := by decide +kernel
theorem dX10_lay_35 : decode cX10_lay 35 = .ok (.aload_n 0, 1) := by decide +kernel
theorem dX10_lay_36 : decode cX10_lay 36 = .ok (.getfield 13, 3) := by decide +kernel
theorem dX10_lay_39 : decode cX10_lay 39 = .ok (.iconst 1, 1) := by decide +kernel
theorem dX10_lay_40 : decode cX10_lay 40 = .ok (.iaload, 1) := by decide +kernel
theorem dX10_lay_41 : decode cX10_lay 41 = .ok (.iastore, 1) := by decide +kernel
theorem dX10_lay_42 : decode cX10_lay 42 = .ok (.aload_n 0, 1) := by decide +kernel
theorem dX10_lay_43 : decode cX10_lay 43 = .ok (.getfield 19, 3) := by decide +kernel
theorem dX10_lay_46 : decode cX10_lay 46 = .ok (.iconst 0, 1) := by decide +kernel
theorem dX10_lay_47 : decode cX10_lay 47 = .ok (.aload_n 0, 1) := by decide +kernel
theorem dX10_lay_48 : decode cX10_lay 48 = .ok (.getfield 19, 3) := by decide +kernel
theorem dX10_lay_51 : decode cX10_lay 51 = .ok (.iconst 1, 1) := by decide +kernel
theorem dX10_lay_52 : decode cX10_lay 52 = .ok (.iaload, 1) := by decide +kernel
theorem dX10_lay_53 : decode cX10_lay 53 = .ok (.iastore, 1) := by decide +kernel
theorem dX10_lay_54 : decode cX10_lay 54 = .ok (.iconst 0, 1) := by decide +kernel
theorem dX10_lay_55 : decode cX10_lay 55 = .ok (.istore_n 1, 1) := by decide +kernel
theorem dX10_lay_56 : decode cX10_lay 56 = .ok (.iload_n 1, 1) := by decide +kernel
theorem dX10_lay_57 : decode cX10_lay 57 = .ok (.iconst 3, 1) := by decide +kernel
theorem dX10_lay_58 : decode cX10_lay 58 = .ok (.if_icmp .ge 23, 3) := by decide +kernel
theorem dX10_lay_61 : decode cX10_lay 61 = .ok (.aload_n 0, 1) := by decide +kernel
theorem dX10_lay_62 : decode cX10_lay 62 = .ok (.getfield 16, 3) := by decide +kernel
theorem dX10_lay_65 : decode cX10_lay 65 = .ok (.iload_n 1, 1) := by decide +kernel
theorem dX10_lay_66 : decode cX10_lay 66 = .ok (.aload_n 0, 1) := by decide +kernel
theorem dX10_lay_67 : decode cX10_lay 67 = .ok (.getfield 16, 3) := by decide +kernel
theorem dX10_lay_70 : decode cX10_lay 70 = .ok (.iconst 3, 1) := by decide +kernel
theorem dX10_lay_71 : decode cX10_lay 71 = .ok (.iload_n 1, 1) := by decide +kernel
theorem dX10_lay_72 : decode cX10_lay 72 = .ok (.iadd, 1) := by decide +kernel
theorem dX10_lay_73 : decode cX10_lay 73 = .ok (.iaload, 1) := by decide +kernel
theorem dX10_lay_74 : decode cX10_lay 74 = .ok (.iastore, 1) := by decide +kernel
theorem dX10_lay_75 : decode cX10_lay 75 = .ok (.iinc 1 1, 3) := by decide +kernel
theorem dX10_lay_78 : decode cX10_lay 78 = .ok (.goto (-22), 3) := by decide +kernel
theorem dX10_lay_81 : decode cX10_lay 81 = .ok (.iconst 0, 1) := by decide +kernel
theorem dX10_lay_82 : decode cX10_lay 82 = .ok (.istore_n 1, 1) := by decide +kernel
theorem dX10_lay_83 : decode cX10_lay 83 = .ok (.iload_n 1, 1) := by decide +kernel
theorem dX10_lay_84 : decode cX10_lay 84 = .ok (.iconst 5, 1) := by decide +kernel
theorem dX10_lay_85 : decode cX10_lay 85 = .ok (.if_icmp .ge 23, 3) := by decide +kernel
theorem dX10_lay_88 : decode cX10_lay 88 = .ok (.aload_n 0, 1) := by decide +kernel
theorem dX10_lay_89 : decode cX10_lay 89 = .ok (.getfield 22, 3) := by decide +kernel
theorem dX10_lay_92 : decode cX10_lay 92 = .ok (.iload_n 1, 1) := by decide +kernel
theorem dX10_lay_93 : decode cX10_lay 93 = .ok (.aload_n 0, 1) := by decide +kernel
theorem dX10_lay_94 : decode cX10_lay 94 = .ok (.getfield 22, 3) := by decide +kernel
theorem dX10_lay_97 : decode cX10_lay 97 = .ok (.iconst 5, 1) := by decide +kernel
theorem dX10_lay_98 : decode cX10_lay 98 = .ok (.iload_n 1, 1) := by decide +kernel
theorem dX10_lay_99 : decode cX10_lay 99 = .ok (.iadd, 1) := by decide +kernel
theorem dX10_lay_100 : decode cX10_lay 100 = .ok (.iaload, 1) := by decide +kernel
theorem dX10_lay_101 : decode cX10_lay 101 = .ok (.iastore, 1) := by decide +kernel
theorem dX10_lay_102 : decode cX10_lay 102 = .ok (.iinc 1 1, 3) := by decide +kernel
theorem dX10_lay_105 : decode cX10_lay 105 = .ok (.goto (-22), 3) := by decide +kernel
theorem dX10_lay_108 : decode cX10_lay 108 = .ok (.iconst 0, 1) := by decide +kernel
theorem dX10_lay_109 : decode cX10_lay 109 = .ok (.istore_n 1, 1) := by decide +kernel
theorem dX10_lay_110 : decode cX10_lay 110 = .ok (.iload_n 1, 1) := by decide +kernel
theorem dX10_lay_111 : decode cX10_lay 111 = .ok (.bipush 15, 2) := by decide +kernel
theorem dX10_lay_113 : decode cX10_lay 113 = .ok (.if_icmp .ge 24, 3) := by decide +kernel
theorem dX10_lay_116 : decode cX10_lay 116 = .ok (.aload_n 0, 1) := by decide +kernel
theorem dX10_lay_117 : decode cX10_lay 117 = .ok (.getfield 25, 3) := by decide +kernel
theorem dX10_lay_120 : decode cX10_lay 120 = .ok (.iload_n 1, 1) := by decide +kernel
theorem dX10_lay_121 : decode cX10_lay 121 = .ok (.aload_n 0, 1) := by decide +kernel
theorem dX10_lay_122 : decode cX10_lay 122 = .ok (.getfield 25, 3) := by decide +kernel
theorem dX10_lay_125 : decode cX10_lay 125 = .ok (.bipush 15, 2) := by decide +kernel
theorem dX10_lay_127 : decode cX10_lay 127 = .ok (.iload_n 1, 1) := by decide +kernel
theorem dX10_lay_128 : decode cX10_lay 128 = .ok (.iadd, 1) := by decide +kernel
theorem dX10_lay_129 : decode cX10_lay 129 = .ok (.iaload, 1) := by decide +kernel
theorem dX10_lay_130 : decode cX10_lay 130 = .ok (.iastore, 1) := by decide +kernel
theorem dX10_lay_131 : decode cX10_lay 131 = .ok (.iinc 1 1, 3) := by decide +kernel
theorem dX10_lay_134 : decode cX10_lay 134 = .ok (.goto (-24), 3) := by decide +kernel
theorem dX10_lay_137 : decode cX10_lay 137 = .ok (.aload_n 0, 1) := by decide +kernel
theorem dX10_lay_138 : decode cX10_lay 138 = .ok (.iconst 1, 1) := by decide +kernel
theorem dX10_lay_139 : decode cX10_lay 139 = .ok (.iconst 0, 1) := by decide +kernel
theorem dX10_lay_140 : decode cX10_lay 140 = .ok (.invokevirtual 118, 3) := by decide +kernel
theorem dX10_lay_143 : decode cX10_lay 143 = .ok (.aload_n 0, 1) := by decide +kernel
theorem dX10_lay_144 : decode cX10_lay 144 = .ok (.iconst 0, 1) := by decide +kernel
theorem dX10_lay_145 : decode cX10_lay 145 = .ok (.putfield 122, 3) := by decide +kernel
theorem dX10_lay_148 : decode cX10_lay 148 = .ok (.aload_n 0, 1) := by decide +kernel
theorem dX10_lay_149 : decode cX10_lay 149 = .ok (.iconst 0, 1) := by decide +kernel
theorem dX10_lay_150 : decode cX10_lay 150 = .ok (.putfield 125, 3) := by decide +kernel
theorem dX10_lay_153 : decode cX10_lay 153 = .ok (.aload_n 0, 1) := by decide +kernel
theorem dX10_lay_154 : decode cX10_lay 154 = .ok (.iconst 0, 1) := by decide +kernel
theorem dX10_lay_155 : decode cX10_lay 155 = .ok (.putfield 128, 3) := by decide +kernel
theorem dX10_lay_158 : decode cX10_lay 158 = .ok (.aload_n 0, 1) := by decide +kernel
theorem dX10_lay_159 : decode cX10_lay 159 = .ok (.getfield 19, 3) := by decide +kernel
theorem dX10_lay_162 : decode cX10_lay 162 = .ok (.iconst 0, 1) := by decide +kernel
theorem dX10_lay_163 : decode cX10_lay 163 = .ok (.iaload, 1) := by decide +kernel
theorem dX10_lay_164 : decode cX10_lay 164 = .ok (.ireturn, 1) := by decide +kernel
theorem dX10_isLad_0 : decode cX10_isLad 0 = .ok (.iload_n 1, 1) := by decide +kernel
theorem dX10_isLad_1 : decode cX10_isLad 1 = .ok (.i2l, 1) := by decide +kernel
theorem dX10_isLad_2 : decode cX10_isLad 2 = .ok (.lconst 0, 1) := by decide +kernel
theorem dX10_isLad_3 : decode cX10_isLad 3 = .ok (.aload_n 0, 1) := by decide +kernel
theorem dX10_isLad_4 : decode cX10_isLad 4 = .ok (.getfield 19, 3) := by decide +kernel
theorem dX10_isLad_7 : decode cX10_isLad 7 = .ok (.iconst 0, 1) := by decide +kernel
theorem dX10_isLad_8 : decode cX10_isLad 8 = .ok (.iaload, 1) := by decide +kernel
theorem dX10_isLad_9 : decode cX10_isLad 9 = .ok (.iconst 1, 1) := by decide +kernel
theorem dX10_isLad_10 : decode cX10_isLad 10 = .ok (.isub, 1) := by decide +kernel
theorem dX10_isLad_11 : decode cX10_isLad 11 = .ok (.i2l, 1) := by decide +kernel
theorem dX10_isLad_12 : decode cX10_isLad 12 = .ok (.invokestatic 79, 3) := by decide +kernel
theorem dX10_isLad_15 : decode cX10_isLad 15 = .ok (.ireturn, 1) := by decide +kernel
theorem dX10_isMaster_0 : decode cX10_isMaster 0 = .ok (.iload_n 1, 1) := by decide +kernel
theorem dX10_isMaster_1 : decode cX10_isMaster 1 = .ok (.i2l, 1) := by decide +kernel
theorem dX10_isMaster_2 : decode cX10_isMaster 2 = .ok (.lconst 0, 1) := by decide +kernel
theorem dX10_isMaster_3 : decode cX10_isMaster 3 = .ok (.aload_n 0, 1) := by decide +kernel
theorem dX10_isMaster_4 : decode cX10_isMaster 4 = .ok (.getfield 13, 3) := by decide +kernel
theorem dX10_isMaster_7 : decode cX10_isMaster 7 = .ok (.iconst 0, 1) := by decide +kernel
theorem dX10_isMaster_8 : decode cX10_isMaster 8 = .ok (.iaload, 1) := by decide +kernel
theorem dX10_isMaster_9 : decode cX10_isMaster 9 = .ok (.iconst 1, 1) := by decide +kernel
theorem dX10_isMaster_10 : decode cX10_isMaster 10 = .ok (.isub, 1) := by decide +kernel
theorem dX10_isMaster_11 : decode cX10_isMaster 11 = .ok (.i2l, 1) := by decide +kernel
theorem dX10_isMaster_12 : decode cX10_isMaster 12 = .ok (.invokestatic 79, 3) := by decide +kernel
theorem dX10_isMaster_15 : decode cX10_isMaster 15 = .ok (.ireturn, 1) := by decide +kernel
theorem dX10_boundOf_0 : decode cX10_boundOf 0 = .ok (.aload_n 0, 1) := by decide +kernel
theorem dX10_boundOf_1 : decode cX10_boundOf 1 = .ok (.getfield 25, 3) := by decide +kernel
theorem dX10_boundOf_4 : decode cX10_boundOf 4 = .ok (.iconst 3, 1) := by decide +kernel
theorem dX10_boundOf_5 : decode cX10_boundOf 5 = .ok (.iload_n 1, 1) := by decide +kernel
theorem dX10_boundOf_6 : decode cX10_boundOf 6 = .ok (.imul, 1) := by decide +kernel
theorem dX10_boundOf_7 : decode cX10_boundOf 7 = .ok (.iload_n 2, 1) := by decide +kernel
theorem dX10_boundOf_8 : decode cX10_boundOf 8 = .ok (.iadd, 1) := by decide +kernel
theorem dX10_boundOf_9 : decode cX10_boundOf 9 = .ok (.iaload, 1) := by decide +kernel
theorem dX10_boundOf_10 : decode cX10_boundOf 10 = .ok (.istore_n 3, 1) := by decide +kernel
theorem dX10_boundOf_11 : decode cX10_boundOf 11 = .ok (.iload_n 3, 1) := by decide +kernel
theorem dX10_boundOf_12 : decode cX10_boundOf 12 = .ok (.aload_n 0, 1) := by decide +kernel
theorem dX10_boundOf_13 : decode cX10_boundOf 13 = .ok (.getfield 28, 3) := by decide +kernel
theorem dX10_boundOf_16 : decode cX10_boundOf 16 = .ok (.iload_n 1, 1) := by decide +kernel
theorem dX10_boundOf_17 : decode cX10_boundOf 17 = .ok (.iaload, 1) := by decide +kernel
theorem dX10_boundOf_18 : decode cX10_boundOf 18 = .ok (.if_icmp .ge 7, 3) := by decide +kernel
theorem dX10_boundOf_21 : decode cX10_boundOf 21 = .ok (.iload_n 3, 1) := by decide +kernel
theorem dX10_boundOf_22 : decode cX10_boundOf 22 = .ok (.goto 9, 3) := by decide +kernel
theorem dX10_boundOf_25 : decode cX10_boundOf 25 = .ok (.aload_n 0, 1) := by decide +kernel
theorem dX10_boundOf_26 : decode cX10_boundOf 26 = .ok (.getfield 28, 3) := by decide +kernel
theorem dX10_boundOf_29 : decode cX10_boundOf 29 = .ok (.iload_n 1, 1) := by decide +kernel
theorem dX10_boundOf_30 : decode cX10_boundOf 30 = .ok (.iaload, 1) := by decide +kernel
theorem dX10_boundOf_31 : decode cX10_boundOf 31 = .ok (.istore 4, 2) := by decide +kernel
theorem dX10_boundOf_33 : decode cX10_boundOf 33 = .ok (.aload_n 0, 1) := by decide +kernel
theorem dX10_boundOf_34 : decode cX10_boundOf 34 = .ok (.getfield 22, 3) := by decide +kernel
theorem dX10_boundOf_37 : decode cX10_boundOf 37 = .ok (.iload_n 1, 1) := by decide +kernel
theorem dX10_boundOf_38 : decode cX10_boundOf 38 = .ok (.iaload, 1) := by decide +kernel
theorem dX10_boundOf_39 : decode cX10_boundOf 39 = .ok (.tableswitch 50 1 3 #[25, 30, 42], 25) := by decide +kernel
theorem dX10_boundOf_64 : decode cX10_boundOf 64 = .ok (.iload 4, 2) := by decide +kernel
theorem dX10_boundOf_66 : decode cX10_boundOf 66 = .ok (.iconst 2, 1) := by decide +kernel
theorem dX10_boundOf_67 : decode cX10_boundOf 67 = .ok (.idiv, 1) := by decide +kernel
theorem dX10_boundOf_68 : decode cX10_boundOf 68 = .ok (.ireturn, 1) := by decide +kernel
theorem dX10_boundOf_69 : decode cX10_boundOf 69 = .ok (.iload_n 3, 1) := by decide +kernel
theorem dX10_boundOf_70 : decode cX10_boundOf 70 = .ok (.iconst 5, 1) := by decide +kernel
theorem dX10_boundOf_71 : decode cX10_boundOf 71 = .ok (.if_icmp .lt 8, 3) := by decide +kernel
theorem dX10_boundOf_74 : decode cX10_boundOf 74 = .ok (.iload 4, 2) := by decide +kernel
theorem dX10_boundOf_76 : decode cX10_boundOf 76 = .ok (.goto 4, 3) := by decide +kernel
theorem dX10_boundOf_79 : decode cX10_boundOf 79 = .ok (.iconst 0, 1) := by decide +kernel
theorem dX10_boundOf_80 : decode cX10_boundOf 80 = .ok (.ireturn, 1) := by decide +kernel
theorem dX10_boundOf_81 : decode cX10_boundOf 81 = .ok (.iload 4, 2) := by decide +kernel
theorem dX10_boundOf_83 : decode cX10_boundOf 83 = .ok (.iload 4, 2) := by decide +kernel
theorem dX10_boundOf_85 : decode cX10_boundOf 85 = .ok (.iconst 2, 1) := by decide +kernel
theorem dX10_boundOf_86 : decode cX10_boundOf 86 = .ok (.irem, 1) := by decide +kernel
theorem dX10_boundOf_87 : decode cX10_boundOf 87 = .ok (.isub, 1) := by decide +kernel
theorem dX10_boundOf_88 : decode cX10_boundOf 88 = .ok (.ireturn, 1) := by decide +kernel
theorem dX10_boundOf_89 : decode cX10_boundOf 89 = .ok (.iload 4, 2) := by decide +kernel
theorem dX10_boundOf_91 : decode cX10_boundOf 91 = .ok (.ireturn, 1) := by decide +kernel
theorem dX10_isIn_0 : decode cX10_isIn 0 = .ok (.iload_n 1, 1) := by decide +kernel
theorem dX10_isIn_1 : decode cX10_isIn 1 = .ok (.aload_n 0, 1) := by decide +kernel
theorem dX10_isIn_2 : decode cX10_isIn 2 = .ok (.getfield 131, 3) := by decide +kernel
theorem dX10_isIn_5 : decode cX10_isIn 5 = .ok (.if_icmp .eq 26, 3) := by decide +kernel
theorem dX10_isIn_8 : decode cX10_isIn 8 = .ok (.aload_n 0, 1) := by decide +kernel
theorem dX10_isIn_9 : decode cX10_isIn 9 = .ok (.getfield 49, 3) := by decide +kernel
theorem dX10_isIn_12 : decode cX10_isIn 12 = .ok (.iload_n 1, 1) := by decide +kernel
theorem dX10_isIn_13 : decode cX10_isIn 13 = .ok (.iaload, 1) := by decide +kernel
theorem dX10_isIn_14 : decode cX10_isIn 14 = .ok (.ifCond .ge 17, 3) := by decide +kernel
theorem dX10_isIn_17 : decode cX10_isIn 17 = .ok (.aload_n 0, 1) := by decide +kernel
theorem dX10_isIn_18 : decode cX10_isIn 18 = .ok (.iload_n 1, 1) := by decide +kernel
theorem dX10_isIn_19 : decode cX10_isIn 19 = .ok (.iload_n 2, 1) := by decide +kernel
theorem dX10_isIn_20 : decode cX10_isIn 20 = .ok (.invokevirtual 134, 3) := by decide +kernel
theorem dX10_isIn_23 : decode cX10_isIn 23 = .ok (.iload_n 3, 1) := by decide +kernel
theorem dX10_isIn_24 : decode cX10_isIn 24 = .ok (.if_icmp .lt 7, 3) := by decide +kernel
theorem dX10_isIn_27 : decode cX10_isIn 27 = .ok (.iconst 1, 1) := by decide +kernel
theorem dX10_isIn_28 : decode cX10_isIn 28 = .ok (.goto 4, 3) := by decide +kernel
theorem dX10_isIn_31 : decode cX10_isIn 31 = .ok (.iconst 0, 1) := by decide +kernel
theorem dX10_isIn_32 : decode cX10_isIn 32 = .ok (.ireturn, 1) := by decide +kernel
theorem dX10_inSet_0 : decode cX10_inSet 0 = .ok (.iconst 0, 1) := by decide +kernel
theorem dX10_inSet_1 : decode cX10_inSet 1 = .ok (.istore_n 3, 1) := by decide +kernel
theorem dX10_inSet_2 : decode cX10_inSet 2 = .ok (.iconst 0, 1) := by decide +kernel
theorem dX10_inSet_3 : decode cX10_inSet 3 = .ok (.istore 4, 2) := by decide +kernel
theorem dX10_inSet_5 : decode cX10_inSet 5 = .ok (.iload 4, 2) := by decide +kernel
theorem dX10_inSet_7 : decode cX10_inSet 7 = .ok (.aload_n 0, 1) := by decide +kernel
theorem dX10_inSet_8 : decode cX10_inSet 8 = .ok (.getfield 19, 3) := by decide +kernel
theorem dX10_inSet_11 : decode cX10_inSet 11 = .ok (.iconst 0, 1) := by decide +kernel
theorem dX10_inSet_12 : decode cX10_inSet 12 = .ok (.iaload, 1) := by decide +kernel
theorem dX10_inSet_13 : decode cX10_inSet 13 = .ok (.if_icmp .ge 31, 3) := by decide +kernel
theorem dX10_inSet_16 : decode cX10_inSet 16 = .ok (.iload_n 3, 1) := by decide +kernel
theorem dX10_inSet_17 : decode cX10_inSet 17 = .ok (.aload_n 0, 1) := by decide +kernel
theorem dX10_inSet_18 : decode cX10_inSet 18 = .ok (.iload 4, 2) := by decide +kernel
theorem dX10_inSet_20 : decode cX10_inSet 20 = .ok (.iload_n 1, 1) := by decide +kernel
theorem dX10_inSet_21 : decode cX10_inSet 21 = .ok (.iload_n 2, 1) := by decide +kernel
theorem dX10_inSet_22 : decode cX10_inSet 22 = .ok (.invokevirtual 138, 3) := by decide +kernel
theorem dX10_inSet_25 : decode cX10_inSet 25 = .ok (.ifCond .eq 10, 3) := by decide +kernel
theorem dX10_inSet_28 : decode cX10_inSet 28 = .ok (.iconst 1, 1) := by decide +kernel
theorem dX10_inSet_29 : decode cX10_inSet 29 = .ok (.iload 4, 2) := by decide +kernel
theorem dX10_inSet_31 : decode cX10_inSet 31 = .ok (.ishl, 1) := by decide +kernel
theorem dX10_inSet_32 : decode cX10_inSet 32 = .ok (.goto 4, 3) := by decide +kernel
theorem dX10_inSet_35 : decode cX10_inSet 35 = .ok (.iconst 0, 1) := by decide +kernel
theorem dX10_inSet_36 : decode cX10_inSet 36 = .ok (.ior, 1) := by decide +kernel
theorem dX10_inSet_37 : decode cX10_inSet 37 = .ok (.istore_n 3, 1) := by decide +kernel
theorem dX10_inSet_38 : decode cX10_inSet 38 = .ok (.iinc 4 1, 3) := by decide +kernel
theorem dX10_inSet_41 : decode cX10_inSet 41 = .ok (.goto (-36), 3) := by decide +kernel
theorem dX10_inSet_44 : decode cX10_inSet 44 = .ok (.iload_n 3, 1) := by decide +kernel
theorem dX10_inSet_45 : decode cX10_inSet 45 = .ok (.ireturn, 1) := by decide +kernel
theorem dX10_bits_0 : decode cX10_bits 0 = .ok (.iconst 0, 1) := by decide +kernel
theorem dX10_bits_1 : decode cX10_bits 1 = .ok (.istore_n 1, 1) := by decide +kernel
theorem dX10_bits_2 : decode cX10_bits 2 = .ok (.iload_n 0, 1) := by decide +kernel
theorem dX10_bits_3 : decode cX10_bits 3 = .ok (.istore_n 2, 1) := by decide +kernel
theorem dX10_bits_4 : decode cX10_bits 4 = .ok (.iload_n 2, 1) := by decide +kernel
theorem dX10_bits_5 : decode cX10_bits 5 = .ok (.ifCond .eq 15, 3) := by decide +kernel
theorem dX10_bits_8 : decode cX10_bits 8 = .ok (.iinc 1 1, 3) := by decide +kernel
theorem dX10_bits_11 : decode cX10_bits 11 = .ok (.iload_n 2, 1) := by decide +kernel
theorem dX10_bits_12 : decode cX10_bits 12 = .ok (.iload_n 2, 1) := by decide +kernel
theorem dX10_bits_13 : decode cX10_bits 13 = .ok (.iconst 1, 1) := by decide +kernel
theorem dX10_bits_14 : decode cX10_bits 14 = .ok (.isub, 1) := by decide +kernel
theorem dX10_bits_15 : decode cX10_bits 15 = .ok (.iand, 1) := by decide +kernel
theorem dX10_bits_16 : decode cX10_bits 16 = .ok (.istore_n 2, 1) := by decide +kernel
theorem dX10_bits_17 : decode cX10_bits 17 = .ok (.goto (-13), 3) := by decide +kernel
theorem dX10_bits_20 : decode cX10_bits 20 = .ok (.iload_n 1, 1) := by decide +kernel
theorem dX10_bits_21 : decode cX10_bits 21 = .ok (.ireturn, 1) := by decide +kernel
theorem dX10_give_0 : decode cX10_give 0 = .ok (.iconst 0, 1) := by decide +kernel
theorem dX10_give_1 : decode cX10_give 1 = .ok (.istore 4, 2) := by decide +kernel
theorem dX10_give_3 : decode cX10_give 3 = .ok (.iload 4, 2) := by decide +kernel
theorem dX10_give_5 : decode cX10_give 5 = .ok (.aload_n 0, 1) := by decide +kernel
theorem dX10_give_6 : decode cX10_give 6 = .ok (.getfield 19, 3) := by decide +kernel
theorem dX10_give_9 : decode cX10_give 9 = .ok (.iconst 0, 1) := by decide +kernel
theorem dX10_give_10 : decode cX10_give 10 = .ok (.iaload, 1) := by decide +kernel
theorem dX10_give_11 : decode cX10_give 11 = .ok (.if_icmp .ge 51, 3) := by decide +kernel
theorem dX10_give_14 : decode cX10_give 14 = .ok (.iload_n 1, 1) := by decide +kernel
theorem dX10_give_15 : decode cX10_give 15 = .ok (.iload 4, 2) := by decide +kernel
theorem dX10_give_17 : decode cX10_give 17 = .ok (.invokestatic 142, 3) := by decide +kernel
theorem dX10_give_20 : decode cX10_give 20 = .ok (.ifCond .eq 36, 3) := by decide +kernel
theorem dX10_give_23 : decode cX10_give 23 = .ok (.aload_n 0, 1) := by decide +kernel
theorem dX10_give_24 : decode cX10_give 24 = .ok (.getfield 146, 3) := by decide +kernel
theorem dX10_give_27 : decode cX10_give 27 = .ok (.ifCond .le 29, 3) := by decide +kernel
theorem dX10_give_30 : decode cX10_give 30 = .ok (.aload_n 0, 1) := by decide +kernel
theorem dX10_give_31 : decode cX10_give 31 = .ok (.getfield 49, 3) := by decide +kernel
theorem dX10_give_34 : decode cX10_give 34 = .ok (.iload 4, 2) := by decide +kernel
theorem dX10_give_36 : decode cX10_give 36 = .ok (.iload_n 2, 1) := by decide +kernel
theorem dX10_give_37 : decode cX10_give 37 = .ok (.iastore, 1) := by decide +kernel
theorem dX10_give_38 : decode cX10_give 38 = .ok (.aload_n 0, 1) := by decide +kernel
theorem dX10_give_39 : decode cX10_give 39 = .ok (.getfield 52, 3) := by decide +kernel
theorem dX10_give_42 : decode cX10_give 42 = .ok (.iload 4, 2) := by decide +kernel
theorem dX10_give_44 : decode cX10_give 44 = .ok (.iload_n 3, 1) := by decide +kernel
theorem dX10_give_45 : decode cX10_give 45 = .ok (.iastore, 1) := by decide +kernel
theorem dX10_give_46 : decode cX10_give 46 = .ok (.aload_n 0, 1) := by decide +kernel
theorem dX10_give_47 : decode cX10_give 47 = .ok (.dup, 1) := by decide +kernel
theorem dX10_give_48 : decode cX10_give 48 = .ok (.getfield 146, 3) := by decide +kernel
theorem dX10_give_51 : decode cX10_give 51 = .ok (.iconst 1, 1) := by decide +kernel
theorem dX10_give_52 : decode cX10_give 52 = .ok (.isub, 1) := by decide +kernel
theorem dX10_give_53 : decode cX10_give 53 = .ok (.putfield 146, 3) := by decide +kernel
theorem dX10_give_56 : decode cX10_give 56 = .ok (.iinc 4 1, 3) := by decide +kernel
theorem dX10_give_59 : decode cX10_give 59 = .ok (.goto (-56), 3) := by decide +kernel
theorem dX10_give_62 : decode cX10_give 62 = .ok (.return_, 1) := by decide +kernel
theorem dX10_callBelow_0 : decode cX10_callBelow 0 = .ok (.iconst 1, 1) := by decide +kernel
theorem dX10_callBelow_1 : decode cX10_callBelow 1 = .ok (.istore_n 2, 1) := by decide +kernel
theorem dX10_callBelow_2 : decode cX10_callBelow 2 = .ok (.iconst 0, 1) := by decide +kernel
theorem dX10_callBelow_3 : decode cX10_callBelow 3 = .ok (.istore_n 3, 1) := by decide +kernel
theorem dX10_callBelow_4 : decode cX10_callBelow 4 = .ok (.aload_n 0, 1) := by decide +kernel
theorem dX10_callBelow_5 : decode cX10_callBelow 5 = .ok (.iload_n 1, 1) := by decide +kernel
theorem dX10_callBelow_6 : decode cX10_callBelow 6 = .ok (.iload_n 2, 1) := by decide +kernel
theorem dX10_callBelow_7 : decode cX10_callBelow 7 = .ok (.invokevirtual 149, 3) := by decide +kernel
theorem dX10_callBelow_10 : decode cX10_callBelow 10 = .ok (.istore 4, 2) := by decide +kernel
theorem dX10_callBelow_12 : decode cX10_callBelow 12 = .ok (.iload 4, 2) := by decide +kernel
theorem dX10_callBelow_14 : decode cX10_callBelow 14 = .ok (.invokestatic 152, 3) := by decide +kernel
theorem dX10_callBelow_17 : decode cX10_callBelow 17 = .ok (.aload_n 0, 1) := by decide +kernel
theorem dX10_callBelow_18 : decode cX10_callBelow 18 = .ok (.getfield 16, 3) := by decide +kernel
theorem dX10_callBelow_21 : decode cX10_callBelow 21 = .ok (.iload_n 1, 1) := by decide +kernel
theorem dX10_callBelow_22 : decode cX10_callBelow 22 = .ok (.iaload, 1) := by decide +kernel
theorem dX10_callBelow_23 : decode cX10_callBelow 23 = .ok (.if_icmp .le 26, 3) := by decide +kernel
theorem dX10_callBelow_26 : decode cX10_callBelow 26 = .ok (.iload 4, 2) := by decide +kernel
theorem dX10_callBelow_28 : decode cX10_callBelow 28 = .ok (.istore_n 3, 1) := by decide +kernel
theorem dX10_callBelow_29 : decode cX10_callBelow 29 = .ok (.iload_n 2, 1) := by decide +kernel
theorem dX10_callBelow_30 : decode cX10_callBelow 30 = .ok (.aload_n 0, 1) := by decide +kernel
theorem dX10_callBelow_31 : decode cX10_callBelow 31 = .ok (.getfield 34, 3) := by decide +kernel
theorem dX10_callBelow_34 : decode cX10_callBelow 34 = .ok (.iconst 0, 1) := by decide +kernel
theorem dX10_callBelow_35 : decode cX10_callBelow 35 = .ok (.iaload, 1) := by decide +kernel
theorem dX10_callBelow_36 : decode cX10_callBelow 36 = .ok (.iadd, 1) := by decide +kernel
theorem dX10_callBelow_37 : decode cX10_callBelow 37 = .ok (.istore_n 2, 1) := by decide +kernel
theorem dX10_callBelow_38 : decode cX10_callBelow 38 = .ok (.aload_n 0, 1) := by decide +kernel
theorem dX10_callBelow_39 : decode cX10_callBelow 39 = .ok (.iload_n 1, 1) := by decide +kernel
theorem dX10_callBelow_40 : decode cX10_callBelow 40 = .ok (.iload_n 2, 1) := by decide +kernel
theorem dX10_callBelow_41 : decode cX10_callBelow 41 = .ok (.invokevirtual 149, 3) := by decide +kernel
theorem dX10_callBelow_44 : decode cX10_callBelow 44 = .ok (.istore 4, 2) := by decide +kernel
theorem dX10_callBelow_46 : decode cX10_callBelow 46 = .ok (.goto (-34), 3) := by decide +kernel
theorem dX10_callBelow_49 : decode cX10_callBelow 49 = .ok (.aload_n 0, 1) := by decide +kernel
theorem dX10_callBelow_50 : decode cX10_callBelow 50 = .ok (.iload_n 2, 1) := by decide +kernel
theorem dX10_callBelow_51 : decode cX10_callBelow 51 = .ok (.putfield 155, 3) := by decide +kernel
theorem dX10_callBelow_54 : decode cX10_callBelow 54 = .ok (.aload_n 0, 1) := by decide +kernel
theorem dX10_callBelow_55 : decode cX10_callBelow 55 = .ok (.iload 4, 2) := by decide +kernel
theorem dX10_callBelow_57 : decode cX10_callBelow 57 = .ok (.iload_n 1, 1) := by decide +kernel
theorem dX10_callBelow_58 : decode cX10_callBelow 58 = .ok (.iload_n 2, 1) := by decide +kernel
theorem dX10_callBelow_59 : decode cX10_callBelow 59 = .ok (.invokevirtual 158, 3) := by decide +kernel
theorem dX10_callBelow_62 : decode cX10_callBelow 62 = .ok (.aload_n 0, 1) := by decide +kernel
theorem dX10_callBelow_63 : decode cX10_callBelow 63 = .ok (.iload_n 3, 1) := by decide +kernel
theorem dX10_callBelow_64 : decode cX10_callBelow 64 = .ok (.iload 4, 2) := by decide +kernel
theorem dX10_callBelow_66 : decode cX10_callBelow 66 = .ok (.iconst (-1), 1) := by decide +kernel
theorem dX10_callBelow_67 : decode cX10_callBelow 67 = .ok (.ixor, 1) := by decide +kernel
theorem dX10_callBelow_68 : decode cX10_callBelow 68 = .ok (.iand, 1) := by decide +kernel
theorem dX10_callBelow_69 : decode cX10_callBelow 69 = .ok (.iload_n 1, 1) := by decide +kernel
theorem dX10_callBelow_70 : decode cX10_callBelow 70 = .ok (.iload_n 2, 1) := by decide +kernel
theorem dX10_callBelow_71 : decode cX10_callBelow 71 = .ok (.aload_n 0, 1) := by decide +kernel
theorem dX10_callBelow_72 : decode cX10_callBelow 72 = .ok (.getfield 34, 3) := by decide +kernel
theorem dX10_callBelow_75 : decode cX10_callBelow 75 = .ok (.iconst 0, 1) := by decide +kernel
theorem dX10_callBelow_76 : decode cX10_callBelow 76 = .ok (.iaload, 1) := by decide +kernel
theorem dX10_callBelow_77 : decode cX10_callBelow 77 = .ok (.isub, 1) := by decide +kernel
theorem dX10_callBelow_78 : decode cX10_callBelow 78 = .ok (.invokevirtual 158, 3) := by decide +kernel
theorem dX10_callBelow_81 : decode cX10_callBelow 81 = .ok (.return_, 1) := by decide +kernel
theorem dX10_callAbove_0 : decode cX10_callAbove 0 = .ok (.bipush 10, 2) := by decide +kernel
theorem dX10_callAbove_2 : decode cX10_callAbove 2 = .ok (.istore_n 2, 1) := by decide +kernel
theorem dX10_callAbove_3 : decode cX10_callAbove 3 = .ok (.iload_n 2, 1) := by decide +kernel
theorem dX10_callAbove_4 : decode cX10_callAbove 4 = .ok (.iconst 1, 1) := by decide +kernel
theorem dX10_callAbove_5 : decode cX10_callAbove 5 = .ok (.if_icmp .lt 27, 3) := by decide +kernel
theorem dX10_callAbove_8 : decode cX10_callAbove 8 = .ok (.aload_n 0, 1) := by decide +kernel
theorem dX10_callAbove_9 : decode cX10_callAbove 9 = .ok (.aload_n 0, 1) := by decide +kernel
theorem dX10_callAbove_10 : decode cX10_callAbove 10 = .ok (.iload_n 1, 1) := by decide +kernel
theorem dX10_callAbove_11 : decode cX10_callAbove 11 = .ok (.iload_n 2, 1) := by decide +kernel
theorem dX10_callAbove_12 : decode cX10_callAbove 12 = .ok (.invokevirtual 149, 3) := by decide +kernel
theorem dX10_callAbove_15 : decode cX10_callAbove 15 = .ok (.iload_n 1, 1) := by decide +kernel
theorem dX10_callAbove_16 : decode cX10_callAbove 16 = .ok (.iload_n 2, 1) := by decide +kernel
theorem dX10_callAbove_17 : decode cX10_callAbove 17 = .ok (.invokevirtual 158, 3) := by decide +kernel
theorem dX10_callAbove_20 : decode cX10_callAbove 20 = .ok (.iload_n 2, 1) := by decide +kernel
theorem dX10_callAbove_21 : decode cX10_callAbove 21 = .ok (.aload_n 0, 1) := by decide +kernel
theorem dX10_callAbove_22 : decode cX10_callAbove 22 = .ok (.getfield 34, 3) := by decide +kernel
theorem dX10_callAbove_25 : decode cX10_callAbove 25 = .ok (.iconst 0, 1) := by decide +kernel
theorem dX10_callAbove_26 : decode cX10_callAbove 26 = .ok (.iaload, 1) := by decide +kernel
theorem dX10_callAbove_27 : decode cX10_callAbove 27 = .ok (.isub, 1) := by decide +kernel
theorem dX10_callAbove_28 : decode cX10_callAbove 28 = .ok (.istore_n 2, 1) := by decide +kernel
theorem dX10_callAbove_29 : decode cX10_callAbove 29 = .ok (.goto (-26), 3) := by decide +kernel
theorem dX10_callAbove_32 : decode cX10_callAbove 32 = .ok (.return_, 1) := by decide +kernel
theorem dX10_callSealed_0 : decode cX10_callSealed 0 = .ok (.bipush 10, 2) := by decide +kernel
theorem dX10_callSealed_2 : decode cX10_callSealed 2 = .ok (.istore_n 2, 1) := by decide +kernel
theorem dX10_callSealed_3 : decode cX10_callSealed 3 = .ok (.iload_n 2, 1) := by decide +kernel
theorem dX10_callSealed_4 : decode cX10_callSealed 4 = .ok (.iconst 1, 1) := by decide +kernel
theorem dX10_callSealed_5 : decode cX10_callSealed 5 = .ok (.if_icmp .lt 21, 3) := by decide +kernel
theorem dX10_callSealed_8 : decode cX10_callSealed 8 = .ok (.aload_n 0, 1) := by decide +kernel
theorem dX10_callSealed_9 : decode cX10_callSealed 9 = .ok (.aload_n 0, 1) := by decide +kernel
theorem dX10_callSealed_10 : decode cX10_callSealed 10 = .ok (.iload_n 1, 1) := by decide +kernel
theorem dX10_callSealed_11 : decode cX10_callSealed 11 = .ok (.iload_n 2, 1) := by decide +kernel
theorem dX10_callSealed_12 : decode cX10_callSealed 12 = .ok (.invokevirtual 149, 3) := by decide +kernel
theorem dX10_callSealed_15 : decode cX10_callSealed 15 = .ok (.iload_n 1, 1) := by decide +kernel
theorem dX10_callSealed_16 : decode cX10_callSealed 16 = .ok (.iload_n 2, 1) := by decide +kernel
theorem dX10_callSealed_17 : decode cX10_callSealed 17 = .ok (.invokevirtual 158, 3) := by decide +kernel
theorem dX10_callSealed_20 : decode cX10_callSealed 20 = .ok (.iinc 2 (-1), 3) := by decide +kernel
theorem dX10_callSealed_23 : decode cX10_callSealed 23 = .ok (.goto (-20), 3) := by decide +kernel
theorem dX10_callSealed_26 : decode cX10_callSealed 26 = .ok (.return_, 1) := by decide +kernel
theorem dX10_callOne_0 : decode cX10_callOne 0 = .ok (.aload_n 0, 1) := by decide +kernel
theorem dX10_callOne_1 : decode cX10_callOne 1 = .ok (.aload_n 0, 1) := by decide +kernel
theorem dX10_callOne_2 : decode cX10_callOne 2 = .ok (.getfield 16, 3) := by decide +kernel
theorem dX10_callOne_5 : decode cX10_callOne 5 = .ok (.iload_n 1, 1) := by decide +kernel
theorem dX10_callOne_6 : decode cX10_callOne 6 = .ok (.iaload, 1) := by decide +kernel
theorem dX10_callOne_7 : decode cX10_callOne 7 = .ok (.putfield 146, 3) := by decide +kernel
theorem dX10_callOne_10 : decode cX10_callOne 10 = .ok (.iload_n 2, 1) := by decide +kernel
theorem dX10_callOne_11 : decode cX10_callOne 11 = .ok (.lookupswitch 41 #[(0, 25), (1, 33)], 25) := by decide +kernel
theorem dX10_callOne_36 : decode cX10_callOne 36 = .ok (.aload_n 0, 1) := by decide +kernel
theorem dX10_callOne_37 : decode cX10_callOne 37 = .ok (.iload_n 1, 1) := by decide +kernel
theorem dX10_callOne_38 : decode cX10_callOne 38 = .ok (.invokevirtual 162, 3) := by decide +kernel
theorem dX10_callOne_41 : decode cX10_callOne 41 = .ok (.goto 16, 3) := by decide +kernel
theorem dX10_callOne_44 : decode cX10_callOne 44 = .ok (.aload_n 0, 1) := by decide +kernel
theorem dX10_callOne_45 : decode cX10_callOne 45 = .ok (.iload_n 1, 1) := by decide +kernel
theorem dX10_callOne_46 : decode cX10_callOne 46 = .ok (.invokevirtual 165, 3) := by decide +kernel
theorem dX10_callOne_49 : decode cX10_callOne 49 = .ok (.goto 8, 3) := by decide +kernel
theorem dX10_callOne_52 : decode cX10_callOne 52 = .ok (.aload_n 0, 1) := by decide +kernel
theorem dX10_callOne_53 : decode cX10_callOne 53 = .ok (.iload_n 1, 1) := by decide +kernel
theorem dX10_callOne_54 : decode cX10_callOne 54 = .ok (.invokevirtual 168, 3) := by decide +kernel
theorem dX10_callOne_57 : decode cX10_callOne 57 = .ok (.return_, 1) := by decide +kernel
theorem dX10_begin_0 : decode cX10_begin 0 = .ok (.aload_n 0, 1) := by decide +kernel
theorem dX10_begin_1 : decode cX10_begin 1 = .ok (.iload_n 1, 1) := by decide +kernel
theorem dX10_begin_2 : decode cX10_begin 2 = .ok (.putfield 131, 3) := by decide +kernel
theorem dX10_begin_5 : decode cX10_begin 5 = .ok (.iconst 0, 1) := by decide +kernel
theorem dX10_begin_6 : decode cX10_begin 6 = .ok (.istore_n 2, 1) := by decide +kernel
theorem dX10_begin_7 : decode cX10_begin 7 = .ok (.iload_n 2, 1) := by decide +kernel
theorem dX10_begin_8 : decode cX10_begin 8 = .ok (.iconst 5, 1) := by decide +kernel
theorem dX10_begin_9 : decode cX10_begin 9 = .ok (.if_icmp .ge 24, 3) := by decide +kernel
theorem dX10_begin_12 : decode cX10_begin 12 = .ok (.aload_n 0, 1) := by decide +kernel
theorem dX10_begin_13 : decode cX10_begin 13 = .ok (.getfield 49, 3) := by decide +kernel
theorem dX10_begin_16 : decode cX10_begin 16 = .ok (.iload_n 2, 1) := by decide +kernel
theorem dX10_begin_17 : decode cX10_begin 17 = .ok (.bipush (-4), 2) := by decide +kernel
theorem dX10_begin_19 : decode cX10_begin 19 = .ok (.iastore, 1) := by decide +kernel
theorem dX10_begin_20 : decode cX10_begin 20 = .ok (.aload_n 0, 1) := by decide +kernel
theorem dX10_begin_21 : decode cX10_begin 21 = .ok (.getfield 52, 3) := by decide +kernel
theorem dX10_begin_24 : decode cX10_begin 24 = .ok (.iload_n 2, 1) := by decide +kernel
theorem dX10_begin_25 : decode cX10_begin 25 = .ok (.iconst 0, 1) := by decide +kernel
theorem dX10_begin_26 : decode cX10_begin 26 = .ok (.iastore, 1) := by decide +kernel
theorem dX10_begin_27 : decode cX10_begin 27 = .ok (.iinc 2 1, 3) := by decide +kernel
theorem dX10_begin_30 : decode cX10_begin 30 = .ok (.goto (-23), 3) := by decide +kernel
theorem dX10_begin_33 : decode cX10_begin 33 = .ok (.return_, 1) := by decide +kernel
theorem dX10_goFair_0 : decode cX10_goFair 0 = .ok (.aload_n 0, 1) := by decide +kernel
theorem dX10_goFair_1 : decode cX10_goFair 1 = .ok (.iload_n 1, 1) := by decide +kernel
theorem dX10_goFair_2 : decode cX10_goFair 2 = .ok (.invokevirtual 171, 3) := by decide +kernel
theorem dX10_goFair_5 : decode cX10_goFair 5 = .ok (.iconst 0, 1) := by decide +kernel
theorem dX10_goFair_6 : decode cX10_goFair 6 = .ok (.istore_n 2, 1) := by decide +kernel
theorem dX10_goFair_7 : decode cX10_goFair 7 = .ok (.iload_n 2, 1) := by decide +kernel
theorem dX10_goFair_8 : decode cX10_goFair 8 = .ok (.aload_n 0, 1) := by decide +kernel
theorem dX10_goFair_9 : decode cX10_goFair 9 = .ok (.getfield 13, 3) := by decide +kernel
theorem dX10_goFair_12 : decode cX10_goFair 12 = .ok (.iconst 0, 1) := by decide +kernel
theorem dX10_goFair_13 : decode cX10_goFair 13 = .ok (.iaload, 1) := by decide +kernel
theorem dX10_goFair_14 : decode cX10_goFair 14 = .ok (.if_icmp .ge 20, 3) := by decide +kernel
theorem dX10_goFair_17 : decode cX10_goFair 17 = .ok (.aload_n 0, 1) := by decide +kernel
theorem dX10_goFair_18 : decode cX10_goFair 18 = .ok (.iload_n 2, 1) := by decide +kernel
theorem dX10_goFair_19 : decode cX10_goFair 19 = .ok (.aload_n 0, 1) := by decide +kernel
theorem dX10_goFair_20 : decode cX10_goFair 20 = .ok (.getfield 31, 3) := by decide +kernel
theorem dX10_goFair_23 : decode cX10_goFair 23 = .ok (.iconst 0, 1) := by decide +kernel
theorem dX10_goFair_24 : decode cX10_goFair 24 = .ok (.iaload, 1) := by decide +kernel
theorem dX10_goFair_25 : decode cX10_goFair 25 = .ok (.invokevirtual 174, 3) := by decide +kernel
theorem dX10_goFair_28 : decode cX10_goFair 28 = .ok (.iinc 2 1, 3) := by decide +kernel
theorem dX10_goFair_31 : decode cX10_goFair 31 = .ok (.goto (-24), 3) := by decide +kernel
theorem dX10_goFair_34 : decode cX10_goFair 34 = .ok (.return_, 1) := by decide +kernel
theorem dX10_gainOf_0 : decode cX10_gainOf 0 = .ok (.aload_n 0, 1) := by decide +kernel
theorem dX10_gainOf_1 : decode cX10_gainOf 1 = .ok (.getfield 49, 3) := by decide +kernel
theorem dX10_gainOf_4 : decode cX10_gainOf 4 = .ok (.iload_n 1, 1) := by decide +kernel
theorem dX10_gainOf_5 : decode cX10_gainOf 5 = .ok (.iaload, 1) := by decide +kernel
theorem dX10_gainOf_6 : decode cX10_gainOf 6 = .ok (.ifCond .ge 7, 3) := by decide +kernel
theorem dX10_gainOf_9 : decode cX10_gainOf 9 = .ok (.iconst 0, 1) := by decide +kernel
theorem dX10_gainOf_10 : decode cX10_gainOf 10 = .ok (.goto 25, 3) := by decide +kernel
theorem dX10_gainOf_13 : decode cX10_gainOf 13 = .ok (.aload_n 0, 1) := by decide +kernel
theorem dX10_gainOf_14 : decode cX10_gainOf 14 = .ok (.getfield 25, 3) := by decide +kernel
theorem dX10_gainOf_17 : decode cX10_gainOf 17 = .ok (.iconst 3, 1) := by decide +kernel
theorem dX10_gainOf_18 : decode cX10_gainOf 18 = .ok (.iload_n 1, 1) := by decide +kernel
theorem dX10_gainOf_19 : decode cX10_gainOf 19 = .ok (.imul, 1) := by decide +kernel
theorem dX10_gainOf_20 : decode cX10_gainOf 20 = .ok (.aload_n 0, 1) := by decide +kernel
theorem dX10_gainOf_21 : decode cX10_gainOf 21 = .ok (.getfield 49, 3) := by decide +kernel
theorem dX10_gainOf_24 : decode cX10_gainOf 24 = .ok (.iload_n 1, 1) := by decide +kernel
theorem dX10_gainOf_25 : decode cX10_gainOf 25 = .ok (.iaload, 1) := by decide +kernel
theorem dX10_gainOf_26 : decode cX10_gainOf 26 = .ok (.iadd, 1) := by decide +kernel
theorem dX10_gainOf_27 : decode cX10_gainOf 27 = .ok (.iaload, 1) := by decide +kernel
theorem dX10_gainOf_28 : decode cX10_gainOf 28 = .ok (.aload_n 0, 1) := by decide +kernel
theorem dX10_gainOf_29 : decode cX10_gainOf 29 = .ok (.getfield 52, 3) := by decide +kernel
theorem dX10_gainOf_32 : decode cX10_gainOf 32 = .ok (.iload_n 1, 1) := by decide +kernel
theorem dX10_gainOf_33 : decode cX10_gainOf 33 = .ok (.iaload, 1) := by decide +kernel
theorem dX10_gainOf_34 : decode cX10_gainOf 34 = .ok (.isub, 1) := by decide +kernel
theorem dX10_gainOf_35 : decode cX10_gainOf 35 = .ok (.ireturn, 1) := by decide +kernel
theorem dX10_lad_0 : decode cX10_lad 0 = .ok (.aload_n 0, 1) := by decide +kernel
theorem dX10_lad_1 : decode cX10_lad 1 = .ok (.iload_n 1, 1) := by decide +kernel
theorem dX10_lad_2 : decode cX10_lad 2 = .ok (.invokevirtual 177, 3) := by decide +kernel
theorem dX10_lad_5 : decode cX10_lad 5 = .ok (.ifCond .eq 15, 3) := by decide +kernel
theorem dX10_lad_8 : decode cX10_lad 8 = .ok (.iload_n 2, 1) := by decide +kernel
theorem dX10_lad_9 : decode cX10_lad 9 = .ok (.i2l, 1) := by decide +kernel
theorem dX10_lad_10 : decode cX10_lad 10 = .ok (.lconst 0, 1) := by decide +kernel
theorem dX10_lad_11 : decode cX10_lad 11 = .ok (.ldc2_w 180, 3) := by decide +kernel
theorem dX10_lad_14 : decode cX10_lad 14 = .ok (.invokestatic 79, 3) := by decide +kernel
theorem dX10_lad_17 : decode cX10_lad 17 = .ok (.ifCond .ne 5, 3) := by decide +kernel
theorem dX10_lad_20 : decode cX10_lad 20 = .ok (.iconst (-1), 1) := by decide +kernel
theorem dX10_lad_21 : decode cX10_lad 21 = .ok (.ireturn, 1) := by decide +kernel
theorem dX10_lad_22 : decode cX10_lad 22 = .ok (.iload_n 2, 1) := by decide +kernel
theorem dX10_lad_23 : decode cX10_lad 23 = .ok (.iconst 2, 1) := by decide +kernel
theorem dX10_lad_24 : decode cX10_lad 24 = .ok (.if_icmp .ge 23, 3) := by decide +kernel
theorem dX10_lad_27 : decode cX10_lad 27 = .ok (.iload_n 2, 1) := by decide +kernel
theorem dX10_lad_28 : decode cX10_lad 28 = .ok (.ifCond .ne 12, 3) := by decide +kernel
theorem dX10_lad_31 : decode cX10_lad 31 = .ok (.aload_n 0, 1) := by decide +kernel
theorem dX10_lad_32 : decode cX10_lad 32 = .ok (.getfield 28, 3) := by decide +kernel
theorem dX10_lad_35 : decode cX10_lad 35 = .ok (.iload_n 1, 1) := by decide +kernel
theorem dX10_lad_36 : decode cX10_lad 36 = .ok (.iaload, 1) := by decide +kernel
theorem dX10_lad_37 : decode cX10_lad 37 = .ok (.goto 9, 3) := by decide +kernel
theorem dX10_lad_40 : decode cX10_lad 40 = .ok (.aload_n 0, 1) := by decide +kernel
theorem dX10_lad_41 : decode cX10_lad 41 = .ok (.getfield 22, 3) := by decide +kernel
theorem dX10_lad_44 : decode cX10_lad 44 = .ok (.iload_n 1, 1) := by decide +kernel
theorem dX10_lad_45 : decode cX10_lad 45 = .ok (.iaload, 1) := by decide +kernel
theorem dX10_lad_46 : decode cX10_lad 46 = .ok (.ireturn, 1) := by decide +kernel
theorem dX10_lad_47 : decode cX10_lad 47 = .ok (.aload_n 0, 1) := by decide +kernel
theorem dX10_lad_48 : decode cX10_lad 48 = .ok (.bipush (-4), 2) := by decide +kernel
theorem dX10_lad_50 : decode cX10_lad 50 = .ok (.invokevirtual 182, 3) := by decide +kernel
theorem dX10_lad_53 : decode cX10_lad 53 = .ok (.iload_n 2, 1) := by decide +kernel
theorem dX10_lad_54 : decode cX10_lad 54 = .ok (.iconst 2, 1) := by decide +kernel
theorem dX10_lad_55 : decode cX10_lad 55 = .ok (.if_icmp .ne 12, 3) := by decide +kernel
theorem dX10_lad_58 : decode cX10_lad 58 = .ok (.aload_n 0, 1) := by decide +kernel
theorem dX10_lad_59 : decode cX10_lad 59 = .ok (.getfield 49, 3) := by decide +kernel
theorem dX10_lad_62 : decode cX10_lad 62 = .ok (.iload_n 1, 1) := by decide +kernel
theorem dX10_lad_63 : decode cX10_lad 63 = .ok (.iaload, 1) := by decide +kernel
theorem dX10_lad_64 : decode cX10_lad 64 = .ok (.goto 22, 3) := by decide +kernel
theorem dX10_lad_67 : decode cX10_lad 67 = .ok (.iload_n 2, 1) := by decide +kernel
theorem dX10_lad_68 : decode cX10_lad 68 = .ok (.iconst 3, 1) := by decide +kernel
theorem dX10_lad_69 : decode cX10_lad 69 = .ok (.if_icmp .ne 12, 3) := by decide +kernel
theorem dX10_lad_72 : decode cX10_lad 72 = .ok (.aload_n 0, 1) := by decide +kernel
theorem dX10_lad_73 : decode cX10_lad 73 = .ok (.getfield 52, 3) := by decide +kernel
theorem dX10_lad_76 : decode cX10_lad 76 = .ok (.iload_n 1, 1) := by decide +kernel
theorem dX10_lad_77 : decode cX10_lad 77 = .ok (.iaload, 1) := by decide +kernel
theorem dX10_lad_78 : decode cX10_lad 78 = .ok (.goto 8, 3) := by decide +kernel
theorem dX10_lad_81 : decode cX10_lad 81 = .ok (.aload_n 0, 1) := by decide +kernel
theorem dX10_lad_82 : decode cX10_lad 82 = .ok (.iload_n 1, 1) := by decide +kernel
theorem dX10_lad_83 : decode cX10_lad 83 = .ok (.invokevirtual 185, 3) := by decide +kernel
theorem dX10_lad_86 : decode cX10_lad 86 = .ok (.ireturn, 1) := by decide +kernel
theorem dX10_mostOf_0 : decode cX10_mostOf 0 = .ok (.iconst 0, 1) := by decide +kernel
theorem dX10_mostOf_1 : decode cX10_mostOf 1 = .ok (.istore_n 2, 1) := by decide +kernel
theorem dX10_mostOf_2 : decode cX10_mostOf 2 = .ok (.iconst 0, 1) := by decide +kernel
theorem dX10_mostOf_3 : decode cX10_mostOf 3 = .ok (.istore_n 3, 1) := by decide +kernel
theorem dX10_mostOf_4 : decode cX10_mostOf 4 = .ok (.iload_n 3, 1) := by decide +kernel
theorem dX10_mostOf_5 : decode cX10_mostOf 5 = .ok (.aload_n 0, 1) := by decide +kernel
theorem dX10_mostOf_6 : decode cX10_mostOf 6 = .ok (.getfield 19, 3) := by decide +kernel
theorem dX10_mostOf_9 : decode cX10_mostOf 9 = .ok (.iconst 0, 1) := by decide +kernel
theorem dX10_mostOf_10 : decode cX10_mostOf 10 = .ok (.iaload, 1) := by decide +kernel
theorem dX10_mostOf_11 : decode cX10_mostOf 11 = .ok (.if_icmp .ge 40, 3) := by decide +kernel
theorem dX10_mostOf_14 : decode cX10_mostOf 14 = .ok (.aload_n 0, 1) := by decide +kernel
theorem dX10_mostOf_15 : decode cX10_mostOf 15 = .ok (.getfield 49, 3) := by decide +kernel
theorem dX10_mostOf_18 : decode cX10_mostOf 18 = .ok (.iload_n 3, 1) := by decide +kernel
theorem dX10_mostOf_19 : decode cX10_mostOf 19 = .ok (.iaload, 1) := by decide +kernel
theorem dX10_mostOf_20 : decode cX10_mostOf 20 = .ok (.iload_n 1, 1) := by decide +kernel
theorem dX10_mostOf_21 : decode cX10_mostOf 21 = .ok (.if_icmp .ne 22, 3) := by decide +kernel
theorem dX10_mostOf_24 : decode cX10_mostOf 24 = .ok (.aload_n 0, 1) := by decide +kernel
theorem dX10_mostOf_25 : decode cX10_mostOf 25 = .ok (.getfield 52, 3) := by decide +kernel
theorem dX10_mostOf_28 : decode cX10_mostOf 28 = .ok (.iload_n 3, 1) := by decide +kernel
theorem dX10_mostOf_29 : decode cX10_mostOf 29 = .ok (.iaload, 1) := by decide +kernel
theorem dX10_mostOf_30 : decode cX10_mostOf 30 = .ok (.iload_n 2, 1) := by decide +kernel
theorem dX10_mostOf_31 : decode cX10_mostOf 31 = .ok (.if_icmp .le 12, 3) := by decide +kernel
theorem dX10_mostOf_34 : decode cX10_mostOf 34 = .ok (.aload_n 0, 1) := by decide +kernel
theorem dX10_mostOf_35 : decode cX10_mostOf 35 = .ok (.getfield 52, 3) := by decide +kernel
theorem dX10_mostOf_38 : decode cX10_mostOf 38 = .ok (.iload_n 3, 1) := by decide +kernel
theorem dX10_mostOf_39 : decode cX10_mostOf 39 = .ok (.iaload, 1) := by decide +kernel
theorem dX10_mostOf_40 : decode cX10_mostOf 40 = .ok (.goto 4, 3) := by decide +kernel
theorem dX10_mostOf_43 : decode cX10_mostOf 43 = .ok (.iload_n 2, 1) := by decide +kernel
theorem dX10_mostOf_44 : decode cX10_mostOf 44 = .ok (.istore_n 2, 1) := by decide +kernel
theorem dX10_mostOf_45 : decode cX10_mostOf 45 = .ok (.iinc 3 1, 3) := by decide +kernel
theorem dX10_mostOf_48 : decode cX10_mostOf 48 = .ok (.goto (-44), 3) := by decide +kernel
theorem dX10_mostOf_51 : decode cX10_mostOf 51 = .ok (.iload_n 2, 1) := by decide +kernel
theorem dX10_mostOf_52 : decode cX10_mostOf 52 = .ok (.ireturn, 1) := by decide +kernel
theorem dX10_ladsOf_0 : decode cX10_ladsOf 0 = .ok (.iconst 0, 1) := by decide +kernel
theorem dX10_ladsOf_1 : decode cX10_ladsOf 1 = .ok (.istore_n 2, 1) := by decide +kernel
theorem dX10_ladsOf_2 : decode cX10_ladsOf 2 = .ok (.iconst 0, 1) := by decide +kernel
theorem dX10_ladsOf_3 : decode cX10_ladsOf 3 = .ok (.istore_n 3, 1) := by decide +kernel
theorem dX10_ladsOf_4 : decode cX10_ladsOf 4 = .ok (.iload_n 3, 1) := by decide +kernel
theorem dX10_ladsOf_5 : decode cX10_ladsOf 5 = .ok (.aload_n 0, 1) := by decide +kernel
theorem dX10_ladsOf_6 : decode cX10_ladsOf 6 = .ok (.getfield 19, 3) := by decide +kernel
theorem dX10_ladsOf_9 : decode cX10_ladsOf 9 = .ok (.iconst 0, 1) := by decide +kernel
theorem dX10_ladsOf_10 : decode cX10_ladsOf 10 = .ok (.iaload, 1) := by decide +kernel
theorem dX10_ladsOf_11 : decode cX10_ladsOf 11 = .ok (.if_icmp .ge 29, 3) := by decide +kernel
theorem dX10_ladsOf_14 : decode cX10_ladsOf 14 = .ok (.iload_n 2, 1) := by decide +kernel
theorem dX10_ladsOf_15 : decode cX10_ladsOf 15 = .ok (.aload_n 0, 1) := by decide +kernel
theorem dX10_ladsOf_16 : decode cX10_ladsOf 16 = .ok (.getfield 49, 3) := by decide +kernel
theorem dX10_ladsOf_19 : decode cX10_ladsOf 19 = .ok (.iload_n 3, 1) := by decide +kernel
theorem dX10_ladsOf_20 : decode cX10_ladsOf 20 = .ok (.iaload, 1) := by decide +kernel
theorem dX10_ladsOf_21 : decode cX10_ladsOf 21 = .ok (.iload_n 1, 1) := by decide +kernel
theorem dX10_ladsOf_22 : decode cX10_ladsOf 22 = .ok (.if_icmp .ne 9, 3) := by decide +kernel
theorem dX10_ladsOf_25 : decode cX10_ladsOf 25 = .ok (.iconst 1, 1) := by decide +kernel
theorem dX10_ladsOf_26 : decode cX10_ladsOf 26 = .ok (.iload_n 3, 1) := by decide +kernel
theorem dX10_ladsOf_27 : decode cX10_ladsOf 27 = .ok (.ishl, 1) := by decide +kernel
theorem dX10_ladsOf_28 : decode cX10_ladsOf 28 = .ok (.goto 4, 3) := by decide +kernel
theorem dX10_ladsOf_31 : decode cX10_ladsOf 31 = .ok (.iconst 0, 1) := by decide +kernel
theorem dX10_ladsOf_32 : decode cX10_ladsOf 32 = .ok (.ior, 1) := by decide +kernel
theorem dX10_ladsOf_33 : decode cX10_ladsOf 33 = .ok (.istore_n 2, 1) := by decide +kernel
theorem dX10_ladsOf_34 : decode cX10_ladsOf 34 = .ok (.iinc 3 1, 3) := by decide +kernel
theorem dX10_ladsOf_37 : decode cX10_ladsOf 37 = .ok (.goto (-33), 3) := by decide +kernel
theorem dX10_ladsOf_40 : decode cX10_ladsOf 40 = .ok (.iload_n 2, 1) := by decide +kernel
theorem dX10_ladsOf_41 : decode cX10_ladsOf 41 = .ok (.ireturn, 1) := by decide +kernel
theorem dX10_master_0 : decode cX10_master 0 = .ok (.aload_n 0, 1) := by decide +kernel
theorem dX10_master_1 : decode cX10_master 1 = .ok (.iload_n 1, 1) := by decide +kernel
theorem dX10_master_2 : decode cX10_master 2 = .ok (.invokevirtual 188, 3) := by decide +kernel
theorem dX10_master_5 : decode cX10_master 5 = .ok (.ifCond .eq 15, 3) := by decide +kernel
theorem dX10_master_8 : decode cX10_master 8 = .ok (.iload_n 2, 1) := by decide +kernel
theorem dX10_master_9 : decode cX10_master 9 = .ok (.i2l, 1) := by decide +kernel
theorem dX10_master_10 : decode cX10_master 10 = .ok (.lconst 0, 1) := by decide +kernel
theorem dX10_master_11 : decode cX10_master 11 = .ok (.ldc2_w 100, 3) := by decide +kernel
theorem dX10_master_14 : decode cX10_master 14 = .ok (.invokestatic 79, 3) := by decide +kernel
theorem dX10_master_17 : decode cX10_master 17 = .ok (.ifCond .ne 5, 3) := by decide +kernel
theorem dX10_master_20 : decode cX10_master 20 = .ok (.iconst (-1), 1) := by decide +kernel
theorem dX10_master_21 : decode cX10_master 21 = .ok (.ireturn, 1) := by decide +kernel
theorem dX10_master_22 : decode cX10_master 22 = .ok (.iload_n 2, 1) := by decide +kernel
theorem dX10_master_23 : decode cX10_master 23 = .ok (.ifCond .ne 10, 3) := by decide +kernel
theorem dX10_master_26 : decode cX10_master 26 = .ok (.aload_n 0, 1) := by decide +kernel
theorem dX10_master_27 : decode cX10_master 27 = .ok (.getfield 16, 3) := by decide +kernel
theorem dX10_master_30 : decode cX10_master 30 = .ok (.iload_n 1, 1) := by decide +kernel
theorem dX10_master_31 : decode cX10_master 31 = .ok (.iaload, 1) := by decide +kernel
theorem dX10_master_32 : decode cX10_master 32 = .ok (.ireturn, 1) := by decide +kernel
theorem dX10_master_33 : decode cX10_master 33 = .ok (.aload_n 0, 1) := by decide +kernel
theorem dX10_master_34 : decode cX10_master 34 = .ok (.bipush (-4), 2) := by decide +kernel
theorem dX10_master_36 : decode cX10_master 36 = .ok (.invokevirtual 182, 3) := by decide +kernel
theorem dX10_master_39 : decode cX10_master 39 = .ok (.iload_n 2, 1) := by decide +kernel
theorem dX10_master_40 : decode cX10_master 40 = .ok (.iconst 1, 1) := by decide +kernel
theorem dX10_master_41 : decode cX10_master 41 = .ok (.if_icmp .ne 11, 3) := by decide +kernel
theorem dX10_master_44 : decode cX10_master 44 = .ok (.aload_n 0, 1) := by decide +kernel
theorem dX10_master_45 : decode cX10_master 45 = .ok (.iload_n 1, 1) := by decide +kernel
theorem dX10_master_46 : decode cX10_master 46 = .ok (.invokevirtual 191, 3) := by decide +kernel
theorem dX10_master_49 : decode cX10_master 49 = .ok (.goto 8, 3) := by decide +kernel
theorem dX10_master_52 : decode cX10_master 52 = .ok (.aload_n 0, 1) := by decide +kernel
theorem dX10_master_53 : decode cX10_master 53 = .ok (.iload_n 1, 1) := by decide +kernel
theorem dX10_master_54 : decode cX10_master 54 = .ok (.invokevirtual 194, 3) := by decide +kernel
theorem dX10_master_57 : decode cX10_master 57 = .ok (.ireturn, 1) := by decide +kernel
theorem dX10_wants_0 : decode cX10_wants 0 = .ok (.aload_n 0, 1) := by decide +kernel
theorem dX10_wants_1 : decode cX10_wants 1 = .ok (.iload_n 1, 1) := by decide +kernel
theorem dX10_wants_2 : decode cX10_wants 2 = .ok (.invokevirtual 177, 3) := by decide +kernel
theorem dX10_wants_5 : decode cX10_wants 5 = .ok (.ifCond .eq 21, 3) := by decide +kernel
theorem dX10_wants_8 : decode cX10_wants 8 = .ok (.aload_n 0, 1) := by decide +kernel
theorem dX10_wants_9 : decode cX10_wants 9 = .ok (.iload_n 2, 1) := by decide +kernel
theorem dX10_wants_10 : decode cX10_wants 10 = .ok (.invokevirtual 188, 3) := by decide +kernel
theorem dX10_wants_13 : decode cX10_wants 13 = .ok (.ifCond .eq 13, 3) := by decide +kernel
theorem dX10_wants_16 : decode cX10_wants 16 = .ok (.iload_n 3, 1) := by decide +kernel
theorem dX10_wants_17 : decode cX10_wants 17 = .ok (.i2l, 1) := by decide +kernel
theorem dX10_wants_18 : decode cX10_wants 18 = .ok (.lconst 0, 1) := by decide +kernel
theorem dX10_wants_19 : decode cX10_wants 19 = .ok (.lconst 1, 1) := by decide +kernel
theorem dX10_wants_20 : decode cX10_wants 20 = .ok (.invokestatic 79, 3) := by decide +kernel
theorem dX10_wants_23 : decode cX10_wants 23 = .ok (.ifCond .ne 5, 3) := by decide +kernel
theorem dX10_wants_26 : decode cX10_wants 26 = .ok (.iconst (-1), 1) := by decide +kernel
theorem dX10_wants_27 : decode cX10_wants 27 = .ok (.ireturn, 1) := by decide +kernel
theorem dX10_wants_28 : decode cX10_wants 28 = .ok (.iload_n 3, 1) := by decide +kernel
theorem dX10_wants_29 : decode cX10_wants 29 = .ok (.ifCond .ne 16, 3) := by decide +kernel
theorem dX10_wants_32 : decode cX10_wants 32 = .ok (.aload_n 0, 1) := by decide +kernel
theorem dX10_wants_33 : decode cX10_wants 33 = .ok (.getfield 25, 3) := by decide +kernel
theorem dX10_wants_36 : decode cX10_wants 36 = .ok (.iconst 3, 1) := by decide +kernel
theorem dX10_wants_37 : decode cX10_wants 37 = .ok (.iload_n 1, 1) := by decide +kernel
theorem dX10_wants_38 : decode cX10_wants 38 = .ok (.imul, 1) := by decide +kernel
theorem dX10_wants_39 : decode cX10_wants 39 = .ok (.iload_n 2, 1) := by decide +kernel
theorem dX10_wants_40 : decode cX10_wants 40 = .ok (.iadd, 1) := by decide +kernel
theorem dX10_wants_41 : decode cX10_wants 41 = .ok (.iaload, 1) := by decide +kernel
theorem dX10_wants_42 : decode cX10_wants 42 = .ok (.goto 9, 3) := by decide +kernel
theorem dX10_wants_45 : decode cX10_wants 45 = .ok (.aload_n 0, 1) := by decide +kernel
theorem dX10_wants_46 : decode cX10_wants 46 = .ok (.iload_n 1, 1) := by decide +kernel
theorem dX10_wants_47 : decode cX10_wants 47 = .ok (.iload_n 2, 1) := by decide +kernel
theorem dX10_wants_48 : decode cX10_wants 48 = .ok (.invokevirtual 134, 3) := by decide +kernel
theorem dX10_wants_51 : decode cX10_wants 51 = .ok (.ireturn, 1) := by decide +kernel
theorem dX10_all_0 : decode cX10_all 0 = .ok (.iload_n 1, 1) := by decide +kernel
theorem dX10_all_1 : decode cX10_all 1 = .ok (.i2l, 1) := by decide +kernel
theorem dX10_all_2 : decode cX10_all 2 = .ok (.lconst 0, 1) := by decide +kernel
theorem dX10_all_3 : decode cX10_all 3 = .ok (.ldc2_w 100, 3) := by decide +kernel
theorem dX10_all_6 : decode cX10_all 6 = .ok (.invokestatic 79, 3) := by decide +kernel
theorem dX10_all_9 : decode cX10_all 9 = .ok (.ifCond .ne 5, 3) := by decide +kernel
theorem dX10_all_12 : decode cX10_all 12 = .ok (.iconst (-1), 1) := by decide +kernel
theorem dX10_all_13 : decode cX10_all 13 = .ok (.ireturn, 1) := by decide +kernel
theorem dX10_all_14 : decode cX10_all 14 = .ok (.aload_n 0, 1) := by decide +kernel
theorem dX10_all_15 : decode cX10_all 15 = .ok (.bipush (-4), 2) := by decide +kernel
theorem dX10_all_17 : decode cX10_all 17 = .ok (.invokevirtual 182, 3) := by decide +kernel
theorem dX10_all_20 : decode cX10_all 20 = .ok (.iconst 0, 1) := by decide +kernel
theorem dX10_all_21 : decode cX10_all 21 = .ok (.istore_n 2, 1) := by decide +kernel
theorem dX10_all_22 : decode cX10_all 22 = .ok (.iconst 0, 1) := by decide +kernel
theorem dX10_all_23 : decode cX10_all 23 = .ok (.istore_n 3, 1) := by decide +kernel
theorem dX10_all_24 : decode cX10_all 24 = .ok (.iload_n 3, 1) := by decide +kernel
theorem dX10_all_25 : decode cX10_all 25 = .ok (.aload_n 0, 1) := by decide +kernel
theorem dX10_all_26 : decode cX10_all 26 = .ok (.getfield 19, 3) := by decide +kernel
theorem dX10_all_29 : decode cX10_all 29 = .ok (.iconst 0, 1) := by decide +kernel
theorem dX10_all_30 : decode cX10_all 30 = .ok (.iaload, 1) := by decide +kernel
theorem dX10_all_31 : decode cX10_all 31 = .ok (.if_icmp .ge 52, 3) := by decide +kernel
theorem dX10_all_34 : decode cX10_all 34 = .ok (.iload_n 2, 1) := by decide +kernel
theorem dX10_all_35 : decode cX10_all 35 = .ok (.iload_n 1, 1) := by decide +kernel
theorem dX10_all_36 : decode cX10_all 36 = .ok (.ifCond .ne 12, 3) := by decide +kernel
theorem dX10_all_39 : decode cX10_all 39 = .ok (.aload_n 0, 1) := by decide +kernel
theorem dX10_all_40 : decode cX10_all 40 = .ok (.getfield 52, 3) := by decide +kernel
theorem dX10_all_43 : decode cX10_all 43 = .ok (.iload_n 3, 1) := by decide +kernel
theorem dX10_all_44 : decode cX10_all 44 = .ok (.iaload, 1) := by decide +kernel
theorem dX10_all_45 : decode cX10_all 45 = .ok (.goto 30, 3) := by decide +kernel
theorem dX10_all_48 : decode cX10_all 48 = .ok (.iload_n 1, 1) := by decide +kernel
theorem dX10_all_49 : decode cX10_all 49 = .ok (.iconst 1, 1) := by decide +kernel
theorem dX10_all_50 : decode cX10_all 50 = .ok (.if_icmp .ne 11, 3) := by decide +kernel
theorem dX10_all_53 : decode cX10_all 53 = .ok (.aload_n 0, 1) := by decide +kernel
theorem dX10_all_54 : decode cX10_all 54 = .ok (.iload_n 3, 1) := by decide +kernel
theorem dX10_all_55 : decode cX10_all 55 = .ok (.invokevirtual 185, 3) := by decide +kernel
theorem dX10_all_58 : decode cX10_all 58 = .ok (.goto 17, 3) := by decide +kernel
theorem dX10_all_61 : decode cX10_all 61 = .ok (.aload_n 0, 1) := by decide +kernel
theorem dX10_all_62 : decode cX10_all 62 = .ok (.getfield 49, 3) := by decide +kernel
theorem dX10_all_65 : decode cX10_all 65 = .ok (.iload_n 3, 1) := by decide +kernel
theorem dX10_all_66 : decode cX10_all 66 = .ok (.iaload, 1) := by decide +kernel
theorem dX10_all_67 : decode cX10_all 67 = .ok (.ifCond .ge 7, 3) := by decide +kernel
theorem dX10_all_70 : decode cX10_all 70 = .ok (.iconst 0, 1) := by decide +kernel
theorem dX10_all_71 : decode cX10_all 71 = .ok (.goto 4, 3) := by decide +kernel
theorem dX10_all_74 : decode cX10_all 74 = .ok (.iconst 1, 1) := by decide +kernel
theorem dX10_all_75 : decode cX10_all 75 = .ok (.iadd, 1) := by decide +kernel
theorem dX10_all_76 : decode cX10_all 76 = .ok (.istore_n 2, 1) := by decide +kernel
theorem dX10_all_77 : decode cX10_all 77 = .ok (.iinc 3 1, 3) := by decide +kernel
theorem dX10_all_80 : decode cX10_all 80 = .ok (.goto (-56), 3) := by decide +kernel
theorem dX10_all_83 : decode cX10_all 83 = .ok (.iload_n 2, 1) := by decide +kernel
theorem dX10_all_84 : decode cX10_all 84 = .ok (.ireturn, 1) := by decide +kernel
theorem dX10_note_0 : decode cX10_note 0 = .ok (.aload_n 0, 1) := by decide +kernel
theorem dX10_note_1 : decode cX10_note 1 = .ok (.getfield 125, 3) := by decide +kernel
theorem dX10_note_4 : decode cX10_note 4 = .ok (.bipush 8, 2) := by decide +kernel
theorem dX10_note_6 : decode cX10_note 6 = .ok (.if_icmp .ne 41, 3) := by decide +kernel
theorem dX10_note_9 : decode cX10_note 9 = .ok (.iconst 0, 1) := by decide +kernel
theorem dX10_note_10 : decode cX10_note 10 = .ok (.istore_n 3, 1) := by decide +kernel
theorem dX10_note_11 : decode cX10_note 11 = .ok (.iload_n 3, 1) := by decide +kernel
theorem dX10_note_12 : decode cX10_note 12 = .ok (.bipush 14, 2) := by decide +kernel
theorem dX10_note_14 : decode cX10_note 14 = .ok (.if_icmp .ge 23, 3) := by decide +kernel
theorem dX10_note_17 : decode cX10_note 17 = .ok (.aload_n 0, 1) := by decide +kernel
theorem dX10_note_18 : decode cX10_note 18 = .ok (.getfield 37, 3) := by decide +kernel
theorem dX10_note_21 : decode cX10_note 21 = .ok (.iload_n 3, 1) := by decide +kernel
theorem dX10_note_22 : decode cX10_note 22 = .ok (.aload_n 0, 1) := by decide +kernel
theorem dX10_note_23 : decode cX10_note 23 = .ok (.getfield 37, 3) := by decide +kernel
theorem dX10_note_26 : decode cX10_note 26 = .ok (.iload_n 3, 1) := by decide +kernel
theorem dX10_note_27 : decode cX10_note 27 = .ok (.iconst 2, 1) := by decide +kernel
theorem dX10_note_28 : decode cX10_note 28 = .ok (.iadd, 1) := by decide +kernel
theorem dX10_note_29 : decode cX10_note 29 = .ok (.iaload, 1) := by decide +kernel
theorem dX10_note_30 : decode cX10_note 30 = .ok (.iastore, 1) := by decide +kernel
theorem dX10_note_31 : decode cX10_note 31 = .ok (.iinc 3 1, 3) := by decide +kernel
theorem dX10_note_34 : decode cX10_note 34 = .ok (.goto (-23), 3) := by decide +kernel
theorem dX10_note_37 : decode cX10_note 37 = .ok (.aload_n 0, 1) := by decide +kernel
theorem dX10_note_38 : decode cX10_note 38 = .ok (.dup, 1) := by decide +kernel
theorem dX10_note_39 : decode cX10_note 39 = .ok (.getfield 125, 3) := by decide +kernel
theorem dX10_note_42 : decode cX10_note 42 = .ok (.iconst 1, 1) := by decide +kernel
theorem dX10_note_43 : decode cX10_note 43 = .ok (.isub, 1) := by decide +kernel
theorem dX10_note_44 : decode cX10_note 44 = .ok (.putfield 125, 3) := by decide +kernel
theorem dX10_note_47 : decode cX10_note 47 = .ok (.aload_n 0, 1) := by decide +kernel
theorem dX10_note_48 : decode cX10_note 48 = .ok (.getfield 37, 3) := by decide +kernel
theorem dX10_note_51 : decode cX10_note 51 = .ok (.iconst 2, 1) := by decide +kernel
theorem dX10_note_52 : decode cX10_note 52 = .ok (.aload_n 0, 1) := by decide +kernel
theorem dX10_note_53 : decode cX10_note 53 = .ok (.getfield 125, 3) := by decide +kernel
theorem dX10_note_56 : decode cX10_note 56 = .ok (.imul, 1) := by decide +kernel
theorem dX10_note_57 : decode cX10_note 57 = .ok (.iload_n 1, 1) := by decide +kernel
theorem dX10_note_58 : decode cX10_note 58 = .ok (.iastore, 1) := by decide +kernel
theorem dX10_note_59 : decode cX10_note 59 = .ok (.aload_n 0, 1) := by decide +kernel
theorem dX10_note_60 : decode cX10_note 60 = .ok (.getfield 37, 3) := by decide +kernel
theorem dX10_note_63 : decode cX10_note 63 = .ok (.iconst 2, 1) := by decide +kernel
theorem dX10_note_64 : decode cX10_note 64 = .ok (.aload_n 0, 1) := by decide +kernel
theorem dX10_note_65 : decode cX10_note 65 = .ok (.getfield 125, 3) := by decide +kernel
theorem dX10_note_68 : decode cX10_note 68 = .ok (.imul, 1) := by decide +kernel
theorem dX10_note_69 : decode cX10_note 69 = .ok (.iconst 1, 1) := by decide +kernel
theorem dX10_note_70 : decode cX10_note 70 = .ok (.iadd, 1) := by decide +kernel
theorem dX10_note_71 : decode cX10_note 71 = .ok (.iload_n 2, 1) := by decide +kernel
theorem dX10_note_72 : decode cX10_note 72 = .ok (.iastore, 1) := by decide +kernel
theorem dX10_note_73 : decode cX10_note 73 = .ok (.aload_n 0, 1) := by decide +kernel
theorem dX10_note_74 : decode cX10_note 74 = .ok (.dup, 1) := by decide +kernel
theorem dX10_note_75 : decode cX10_note 75 = .ok (.getfield 125, 3) := by decide +kernel
theorem dX10_note_78 : decode cX10_note 78 = .ok (.iconst 1, 1) := by decide +kernel
theorem dX10_note_79 : decode cX10_note 79 = .ok (.iadd, 1) := by decide +kernel
theorem dX10_note_80 : decode cX10_note 80 = .ok (.putfield 125, 3) := by decide +kernel
theorem dX10_note_83 : decode cX10_note 83 = .ok (.iload_n 2, 1) := by decide +kernel
theorem dX10_note_84 : decode cX10_note 84 = .ok (.ireturn, 1) := by decide +kernel
theorem dX10_limit_0 : decode cX10_limit 0 = .ok (.aload_n 0, 1) := by decide +kernel
theorem dX10_limit_1 : decode cX10_limit 1 = .ok (.iload_n 1, 1) := by decide +kernel
theorem dX10_limit_2 : decode cX10_limit 2 = .ok (.invokevirtual 177, 3) := by decide +kernel
theorem dX10_limit_5 : decode cX10_limit 5 = .ok (.ifCond .eq 15, 3) := by decide +kernel
theorem dX10_limit_8 : decode cX10_limit 8 = .ok (.iload_n 2, 1) := by decide +kernel
theorem dX10_limit_9 : decode cX10_limit 9 = .ok (.i2l, 1) := by decide +kernel
theorem dX10_limit_10 : decode cX10_limit 10 = .ok (.lconst 1, 1) := by decide +kernel
theorem dX10_limit_11 : decode cX10_limit 11 = .ok (.ldc2_w 108, 3) := by decide +kernel
theorem dX10_limit_14 : decode cX10_limit 14 = .ok (.invokestatic 79, 3) := by decide +kernel
theorem dX10_limit_17 : decode cX10_limit 17 = .ok (.ifCond .ne 5, 3) := by decide +kernel
theorem dX10_limit_20 : decode cX10_limit 20 = .ok (.iconst (-1), 1) := by decide +kernel
theorem dX10_limit_21 : decode cX10_limit 21 = .ok (.ireturn, 1) := by decide +kernel
theorem dX10_limit_22 : decode cX10_limit 22 = .ok (.aload_n 0, 1) := by decide +kernel
theorem dX10_limit_23 : decode cX10_limit 23 = .ok (.iload_n 1, 1) := by decide +kernel
theorem dX10_limit_24 : decode cX10_limit 24 = .ok (.aload_n 0, 1) := by decide +kernel
theorem dX10_limit_25 : decode cX10_limit 25 = .ok (.getfield 28, 3) := by decide +kernel
theorem dX10_limit_28 : decode cX10_limit 28 = .ok (.iload_n 1, 1) := by decide +kernel
theorem dX10_limit_29 : decode cX10_limit 29 = .ok (.iaload, 1) := by decide +kernel
theorem dX10_limit_30 : decode cX10_limit 30 = .ok (.invokevirtual 197, 3) := by decide +kernel
theorem dX10_limit_33 : decode cX10_limit 33 = .ok (.istore_n 3, 1) := by decide +kernel
theorem dX10_limit_34 : decode cX10_limit 34 = .ok (.aload_n 0, 1) := by decide +kernel
theorem dX10_limit_35 : decode cX10_limit 35 = .ok (.getfield 28, 3) := by decide +kernel
theorem dX10_limit_38 : decode cX10_limit 38 = .ok (.iload_n 1, 1) := by decide +kernel
theorem dX10_limit_39 : decode cX10_limit 39 = .ok (.iload_n 2, 1) := by decide +kernel
theorem dX10_limit_40 : decode cX10_limit 40 = .ok (.iastore, 1) := by decide +kernel
theorem dX10_limit_41 : decode cX10_limit 41 = .ok (.iload_n 3, 1) := by decide +kernel
theorem dX10_limit_42 : decode cX10_limit 42 = .ok (.ireturn, 1) := by decide +kernel
theorem dX10_calls_0 : decode cX10_calls 0 = .ok (.iload_n 1, 1) := by decide +kernel
theorem dX10_calls_1 : decode cX10_calls 1 = .ok (.i2l, 1) := by decide +kernel
theorem dX10_calls_2 : decode cX10_calls 2 = .ok (.lconst 0, 1) := by decide +kernel
theorem dX10_calls_3 : decode cX10_calls 3 = .ok (.ldc2_w 100, 3) := by decide +kernel
theorem dX10_calls_6 : decode cX10_calls 6 = .ok (.invokestatic 79, 3) := by decide +kernel
theorem dX10_calls_9 : decode cX10_calls 9 = .ok (.ifCond .ne 5, 3) := by decide +kernel
theorem dX10_calls_12 : decode cX10_calls 12 = .ok (.iconst (-1), 1) := by decide +kernel
theorem dX10_calls_13 : decode cX10_calls 13 = .ok (.ireturn, 1) := by decide +kernel
theorem dX10_calls_14 : decode cX10_calls 14 = .ok (.aload_n 0, 1) := by decide +kernel
theorem dX10_calls_15 : decode cX10_calls 15 = .ok (.iconst 5, 1) := by decide +kernel
theorem dX10_calls_16 : decode cX10_calls 16 = .ok (.aload_n 0, 1) := by decide +kernel
theorem dX10_calls_17 : decode cX10_calls 17 = .ok (.getfield 31, 3) := by decide +kernel
theorem dX10_calls_20 : decode cX10_calls 20 = .ok (.iconst 0, 1) := by decide +kernel
theorem dX10_calls_21 : decode cX10_calls 21 = .ok (.iaload, 1) := by decide +kernel
theorem dX10_calls_22 : decode cX10_calls 22 = .ok (.invokevirtual 197, 3) := by decide +kernel
theorem dX10_calls_25 : decode cX10_calls 25 = .ok (.istore_n 2, 1) := by decide +kernel
theorem dX10_calls_26 : decode cX10_calls 26 = .ok (.aload_n 0, 1) := by decide +kernel
theorem dX10_calls_27 : decode cX10_calls 27 = .ok (.getfield 31, 3) := by decide +kernel
theorem dX10_calls_30 : decode cX10_calls 30 = .ok (.iconst 0, 1) := by decide +kernel
theorem dX10_calls_31 : decode cX10_calls 31 = .ok (.iload_n 1, 1) := by decide +kernel
theorem dX10_calls_32 : decode cX10_calls 32 = .ok (.iastore, 1) := by decide +kernel
theorem dX10_calls_33 : decode cX10_calls 33 = .ok (.iload_n 2, 1) := by decide +kernel
theorem dX10_calls_34 : decode cX10_calls 34 = .ok (.ireturn, 1) := by decide +kernel
theorem dX10_step_0 : decode cX10_step 0 = .ok (.iload_n 1, 1) := by decide +kernel
theorem dX10_step_1 : decode cX10_step 1 = .ok (.i2l, 1) := by decide +kernel
theorem dX10_step_2 : decode cX10_step 2 = .ok (.lconst 1, 1) := by decide +kernel
theorem dX10_step_3 : decode cX10_step 3 = .ok (.ldc2_w 106, 3) := by decide +kernel
theorem dX10_step_6 : decode cX10_step 6 = .ok (.invokestatic 79, 3) := by decide +kernel
theorem dX10_step_9 : decode cX10_step 9 = .ok (.ifCond .ne 5, 3) := by decide +kernel
theorem dX10_step_12 : decode cX10_step 12 = .ok (.iconst (-1), 1) := by decide +kernel
theorem dX10_step_13 : decode cX10_step 13 = .ok (.ireturn, 1) := by decide +kernel
theorem dX10_step_14 : decode cX10_step 14 = .ok (.aload_n 0, 1) := by decide +kernel
theorem dX10_step_15 : decode cX10_step 15 = .ok (.bipush 6, 2) := by decide +kernel
theorem dX10_step_17 : decode cX10_step 17 = .ok (.aload_n 0, 1) := by decide +kernel
theorem dX10_step_18 : decode cX10_step 18 = .ok (.getfield 34, 3) := by decide +kernel
theorem dX10_step_21 : decode cX10_step 21 = .ok (.iconst 0, 1) := by decide +kernel
theorem dX10_step_22 : decode cX10_step 22 = .ok (.iaload, 1) := by decide +kernel
theorem dX10_step_23 : decode cX10_step 23 = .ok (.invokevirtual 197, 3) := by decide +kernel
theorem dX10_step_26 : decode cX10_step 26 = .ok (.istore_n 2, 1) := by decide +kernel
theorem dX10_step_27 : decode cX10_step 27 = .ok (.aload_n 0, 1) := by decide +kernel
theorem dX10_step_28 : decode cX10_step 28 = .ok (.getfield 34, 3) := by decide +kernel
theorem dX10_step_31 : decode cX10_step 31 = .ok (.iconst 0, 1) := by decide +kernel
theorem dX10_step_32 : decode cX10_step 32 = .ok (.iload_n 1, 1) := by decide +kernel
theorem dX10_step_33 : decode cX10_step 33 = .ok (.iastore, 1) := by decide +kernel
theorem dX10_step_34 : decode cX10_step 34 = .ok (.iload_n 2, 1) := by decide +kernel
theorem dX10_step_35 : decode cX10_step 35 = .ok (.ireturn, 1) := by decide +kernel
theorem dX10_undo_0 : decode cX10_undo 0 = .ok (.aload_n 0, 1) := by decide +kernel
theorem dX10_undo_1 : decode cX10_undo 1 = .ok (.getfield 125, 3) := by decide +kernel
theorem dX10_undo_4 : decode cX10_undo 4 = .ok (.ifCond .ne 6, 3) := by decide +kernel
theorem dX10_undo_7 : decode cX10_undo 7 = .ok (.bipush (-2), 2) := by decide +kernel
theorem dX10_undo_9 : decode cX10_undo 9 = .ok (.ireturn, 1) := by decide +kernel
theorem dX10_undo_10 : decode cX10_undo 10 = .ok (.aload_n 0, 1) := by decide +kernel
theorem dX10_undo_11 : decode cX10_undo 11 = .ok (.dup, 1) := by decide +kernel
theorem dX10_undo_12 : decode cX10_undo 12 = .ok (.getfield 125, 3) := by decide +kernel
theorem dX10_undo_15 : decode cX10_undo 15 = .ok (.iconst 1, 1) := by decide +kernel
theorem dX10_undo_16 : decode cX10_undo 16 = .ok (.isub, 1) := by decide +kernel
theorem dX10_undo_17 : decode cX10_undo 17 = .ok (.putfield 125, 3) := by decide +kernel
theorem dX10_undo_20 : decode cX10_undo 20 = .ok (.aload_n 0, 1) := by decide +kernel
theorem dX10_undo_21 : decode cX10_undo 21 = .ok (.getfield 37, 3) := by decide +kernel
theorem dX10_undo_24 : decode cX10_undo 24 = .ok (.iconst 2, 1) := by decide +kernel
theorem dX10_undo_25 : decode cX10_undo 25 = .ok (.aload_n 0, 1) := by decide +kernel
theorem dX10_undo_26 : decode cX10_undo 26 = .ok (.getfield 125, 3) := by decide +kernel
theorem dX10_undo_29 : decode cX10_undo 29 = .ok (.imul, 1) := by decide +kernel
theorem dX10_undo_30 : decode cX10_undo 30 = .ok (.iaload, 1) := by decide +kernel
theorem dX10_undo_31 : decode cX10_undo 31 = .ok (.istore_n 1, 1) := by decide +kernel
theorem dX10_undo_32 : decode cX10_undo 32 = .ok (.aload_n 0, 1) := by decide +kernel
theorem dX10_undo_33 : decode cX10_undo 33 = .ok (.getfield 37, 3) := by decide +kernel
theorem dX10_undo_36 : decode cX10_undo 36 = .ok (.iconst 2, 1) := by decide +kernel
theorem dX10_undo_37 : decode cX10_undo 37 = .ok (.aload_n 0, 1) := by decide +kernel
theorem dX10_undo_38 : decode cX10_undo 38 = .ok (.getfield 125, 3) := by decide +kernel
theorem dX10_undo_41 : decode cX10_undo 41 = .ok (.imul, 1) := by decide +kernel
theorem dX10_undo_42 : decode cX10_undo 42 = .ok (.iconst 1, 1) := by decide +kernel
theorem dX10_undo_43 : decode cX10_undo 43 = .ok (.iadd, 1) := by decide +kernel
theorem dX10_undo_44 : decode cX10_undo 44 = .ok (.iaload, 1) := by decide +kernel
theorem dX10_undo_45 : decode cX10_undo 45 = .ok (.istore_n 2, 1) := by decide +kernel
theorem dX10_undo_46 : decode cX10_undo 46 = .ok (.iload_n 1, 1) := by decide +kernel
theorem dX10_undo_47 : decode cX10_undo 47 = .ok (.iconst 5, 1) := by decide +kernel
theorem dX10_undo_48 : decode cX10_undo 48 = .ok (.if_icmp .ne 13, 3) := by decide +kernel
theorem dX10_undo_51 : decode cX10_undo 51 = .ok (.aload_n 0, 1) := by decide +kernel
theorem dX10_undo_52 : decode cX10_undo 52 = .ok (.getfield 31, 3) := by decide +kernel
theorem dX10_undo_55 : decode cX10_undo 55 = .ok (.iconst 0, 1) := by decide +kernel
theorem dX10_undo_56 : decode cX10_undo 56 = .ok (.iload_n 2, 1) := by decide +kernel
theorem dX10_undo_57 : decode cX10_undo 57 = .ok (.iastore, 1) := by decide +kernel
theorem dX10_undo_58 : decode cX10_undo 58 = .ok (.goto 26, 3) := by decide +kernel
theorem dX10_undo_61 : decode cX10_undo 61 = .ok (.iload_n 1, 1) := by decide +kernel
theorem dX10_undo_62 : decode cX10_undo 62 = .ok (.bipush 6, 2) := by decide +kernel
theorem dX10_undo_64 : decode cX10_undo 64 = .ok (.if_icmp .ne 13, 3) := by decide +kernel
theorem dX10_undo_67 : decode cX10_undo 67 = .ok (.aload_n 0, 1) := by decide +kernel
theorem dX10_undo_68 : decode cX10_undo 68 = .ok (.getfield 34, 3) := by decide +kernel
theorem dX10_undo_71 : decode cX10_undo 71 = .ok (.iconst 0, 1) := by decide +kernel
theorem dX10_undo_72 : decode cX10_undo 72 = .ok (.iload_n 2, 1) := by decide +kernel
theorem dX10_undo_73 : decode cX10_undo 73 = .ok (.iastore, 1) := by decide +kernel
theorem dX10_undo_74 : decode cX10_undo 74 = .ok (.goto 10, 3) := by decide +kernel
theorem dX10_undo_77 : decode cX10_undo 77 = .ok (.aload_n 0, 1) := by decide +kernel
theorem dX10_undo_78 : decode cX10_undo 78 = .ok (.getfield 28, 3) := by decide +kernel
theorem dX10_undo_81 : decode cX10_undo 81 = .ok (.iload_n 1, 1) := by decide +kernel
theorem dX10_undo_82 : decode cX10_undo 82 = .ok (.iload_n 2, 1) := by decide +kernel
theorem dX10_undo_83 : decode cX10_undo 83 = .ok (.iastore, 1) := by decide +kernel
theorem dX10_undo_84 : decode cX10_undo 84 = .ok (.aload_n 0, 1) := by decide +kernel
theorem dX10_undo_85 : decode cX10_undo 85 = .ok (.getfield 125, 3) := by decide +kernel
theorem dX10_undo_88 : decode cX10_undo 88 = .ok (.ireturn, 1) := by decide +kernel
theorem dX10_lie_0 : decode cX10_lie 0 = .ok (.aload_n 0, 1) := by decide +kernel
theorem dX10_lie_1 : decode cX10_lie 1 = .ok (.iload_n 1, 1) := by decide +kernel
theorem dX10_lie_2 : decode cX10_lie 2 = .ok (.invokevirtual 177, 3) := by decide +kernel
theorem dX10_lie_5 : decode cX10_lie 5 = .ok (.ifCond .eq 13, 3) := by decide +kernel
theorem dX10_lie_8 : decode cX10_lie 8 = .ok (.iload_n 2, 1) := by decide +kernel
theorem dX10_lie_9 : decode cX10_lie 9 = .ok (.i2l, 1) := by decide +kernel
theorem dX10_lie_10 : decode cX10_lie 10 = .ok (.lconst 0, 1) := by decide +kernel
theorem dX10_lie_11 : decode cX10_lie 11 = .ok (.lconst 1, 1) := by decide +kernel
theorem dX10_lie_12 : decode cX10_lie 12 = .ok (.invokestatic 79, 3) := by decide +kernel
theorem dX10_lie_15 : decode cX10_lie 15 = .ok (.ifCond .ne 5, 3) := by decide +kernel
theorem dX10_lie_18 : decode cX10_lie 18 = .ok (.iconst (-1), 1) := by decide +kernel
theorem dX10_lie_19 : decode cX10_lie 19 = .ok (.ireturn, 1) := by decide +kernel
theorem dX10_lie_20 : decode cX10_lie 20 = .ok (.aload_n 0, 1) := by decide +kernel
theorem dX10_lie_21 : decode cX10_lie 21 = .ok (.bipush (-4), 2) := by decide +kernel
theorem dX10_lie_23 : decode cX10_lie 23 = .ok (.invokevirtual 182, 3) := by decide +kernel
theorem dX10_lie_26 : decode cX10_lie 26 = .ok (.aload_n 0, 1) := by decide +kernel
theorem dX10_lie_27 : decode cX10_lie 27 = .ok (.iload_n 1, 1) := by decide +kernel
theorem dX10_lie_28 : decode cX10_lie 28 = .ok (.invokevirtual 185, 3) := by decide +kernel
theorem dX10_lie_31 : decode cX10_lie 31 = .ok (.istore_n 3, 1) := by decide +kernel
theorem dX10_lie_32 : decode cX10_lie 32 = .ok (.aload_n 0, 1) := by decide +kernel
theorem dX10_lie_33 : decode cX10_lie 33 = .ok (.getfield 28, 3) := by decide +kernel
theorem dX10_lie_36 : decode cX10_lie 36 = .ok (.iload_n 1, 1) := by decide +kernel
theorem dX10_lie_37 : decode cX10_lie 37 = .ok (.iaload, 1) := by decide +kernel
theorem dX10_lie_38 : decode cX10_lie 38 = .ok (.istore 4, 2) := by decide +kernel
theorem dX10_lie_40 : decode cX10_lie 40 = .ok (.iconst 0, 1) := by decide +kernel
theorem dX10_lie_41 : decode cX10_lie 41 = .ok (.istore 5, 2) := by decide +kernel
theorem dX10_lie_43 : decode cX10_lie 43 = .ok (.bipush (-4), 2) := by decide +kernel
theorem dX10_lie_45 : decode cX10_lie 45 = .ok (.istore 6, 2) := by decide +kernel
theorem dX10_lie_47 : decode cX10_lie 47 = .ok (.iconst 1, 1) := by decide +kernel
theorem dX10_lie_48 : decode cX10_lie 48 = .ok (.istore 7, 2) := by decide +kernel
theorem dX10_lie_50 : decode cX10_lie 50 = .ok (.iload 7, 2) := by decide +kernel
theorem dX10_lie_52 : decode cX10_lie 52 = .ok (.bipush 10, 2) := by decide +kernel
theorem dX10_lie_54 : decode cX10_lie 54 = .ok (.if_icmp .gt 62, 3) := by decide +kernel
theorem dX10_lie_57 : decode cX10_lie 57 = .ok (.aload_n 0, 1) := by decide +kernel
theorem dX10_lie_58 : decode cX10_lie 58 = .ok (.getfield 28, 3) := by decide +kernel
theorem dX10_lie_61 : decode cX10_lie 61 = .ok (.iload_n 1, 1) := by decide +kernel
theorem dX10_lie_62 : decode cX10_lie 62 = .ok (.iload 7, 2) := by decide +kernel
theorem dX10_lie_64 : decode cX10_lie 64 = .ok (.iastore, 1) := by decide +kernel
theorem dX10_lie_65 : decode cX10_lie 65 = .ok (.aload_n 0, 1) := by decide +kernel
theorem dX10_lie_66 : decode cX10_lie 66 = .ok (.bipush (-4), 2) := by decide +kernel
theorem dX10_lie_68 : decode cX10_lie 68 = .ok (.invokevirtual 182, 3) := by decide +kernel
theorem dX10_lie_71 : decode cX10_lie 71 = .ok (.aload_n 0, 1) := by decide +kernel
theorem dX10_lie_72 : decode cX10_lie 72 = .ok (.iload_n 1, 1) := by decide +kernel
theorem dX10_lie_73 : decode cX10_lie 73 = .ok (.invokevirtual 185, 3) := by decide +kernel
theorem dX10_lie_76 : decode cX10_lie 76 = .ok (.istore 8, 2) := by decide +kernel
theorem dX10_lie_78 : decode cX10_lie 78 = .ok (.iload 8, 2) := by decide +kernel
theorem dX10_lie_80 : decode cX10_lie 80 = .ok (.iload 6, 2) := by decide +kernel
theorem dX10_lie_82 : decode cX10_lie 82 = .ok (.if_icmp .le 8, 3) := by decide +kernel
theorem dX10_lie_85 : decode cX10_lie 85 = .ok (.iload 7, 2) := by decide +kernel
theorem dX10_lie_87 : decode cX10_lie 87 = .ok (.goto 5, 3) := by decide +kernel
theorem dX10_lie_90 : decode cX10_lie 90 = .ok (.iload 5, 2) := by decide +kernel
theorem dX10_lie_92 : decode cX10_lie 92 = .ok (.istore 5, 2) := by decide +kernel
theorem dX10_lie_94 : decode cX10_lie 94 = .ok (.iload 8, 2) := by decide +kernel
theorem dX10_lie_96 : decode cX10_lie 96 = .ok (.iload 6, 2) := by decide +kernel
theorem dX10_lie_98 : decode cX10_lie 98 = .ok (.if_icmp .le 8, 3) := by decide +kernel
theorem dX10_lie_101 : decode cX10_lie 101 = .ok (.iload 8, 2) := by decide +kernel
theorem dX10_lie_103 : decode cX10_lie 103 = .ok (.goto 5, 3) := by decide +kernel
theorem dX10_lie_106 : decode cX10_lie 106 = .ok (.iload 6, 2) := by decide +kernel
theorem dX10_lie_108 : decode cX10_lie 108 = .ok (.istore 6, 2) := by decide +kernel
theorem dX10_lie_110 : decode cX10_lie 110 = .ok (.iinc 7 1, 3) := by decide +kernel
theorem dX10_lie_113 : decode cX10_lie 113 = .ok (.goto (-63), 3) := by decide +kernel
theorem dX10_lie_116 : decode cX10_lie 116 = .ok (.aload_n 0, 1) := by decide +kernel
theorem dX10_lie_117 : decode cX10_lie 117 = .ok (.getfield 28, 3) := by decide +kernel
theorem dX10_lie_120 : decode cX10_lie 120 = .ok (.iload_n 1, 1) := by decide +kernel
theorem dX10_lie_121 : decode cX10_lie 121 = .ok (.iload 4, 2) := by decide +kernel
theorem dX10_lie_123 : decode cX10_lie 123 = .ok (.iastore, 1) := by decide +kernel
theorem dX10_lie_124 : decode cX10_lie 124 = .ok (.iload_n 2, 1) := by decide +kernel
theorem dX10_lie_125 : decode cX10_lie 125 = .ok (.ifCond .ne 8, 3) := by decide +kernel
theorem dX10_lie_128 : decode cX10_lie 128 = .ok (.iload 5, 2) := by decide +kernel
theorem dX10_lie_130 : decode cX10_lie 130 = .ok (.goto 7, 3) := by decide +kernel
theorem dX10_lie_133 : decode cX10_lie 133 = .ok (.iload 6, 2) := by decide +kernel
theorem dX10_lie_135 : decode cX10_lie 135 = .ok (.iload_n 3, 1) := by decide +kernel
theorem dX10_lie_136 : decode cX10_lie 136 = .ok (.isub, 1) := by decide +kernel
theorem dX10_lie_137 : decode cX10_lie 137 = .ok (.ireturn, 1) := by decide +kernel
theorem dX10_game_0 : decode cX10_game 0 = .ok (.aload_n 0, 1) := by decide +kernel
theorem dX10_game_1 : decode cX10_game 1 = .ok (.iload_n 1, 1) := by decide +kernel
theorem dX10_game_2 : decode cX10_game 2 = .ok (.invokevirtual 177, 3) := by decide +kernel
theorem dX10_game_5 : decode cX10_game 5 = .ok (.ifCond .eq 28, 3) := by decide +kernel
theorem dX10_game_8 : decode cX10_game 8 = .ok (.aload_n 0, 1) := by decide +kernel
theorem dX10_game_9 : decode cX10_game 9 = .ok (.iload_n 2, 1) := by decide +kernel
theorem dX10_game_10 : decode cX10_game 10 = .ok (.invokevirtual 177, 3) := by decide +kernel
theorem dX10_game_13 : decode cX10_game 13 = .ok (.ifCond .eq 20, 3) := by decide +kernel
theorem dX10_game_16 : decode cX10_game 16 = .ok (.iload_n 1, 1) := by decide +kernel
theorem dX10_game_17 : decode cX10_game 17 = .ok (.iload_n 2, 1) := by decide +kernel
theorem dX10_game_18 : decode cX10_game 18 = .ok (.if_icmp .eq 15, 3) := by decide +kernel
theorem dX10_game_21 : decode cX10_game 21 = .ok (.iload_n 3, 1) := by decide +kernel
theorem dX10_game_22 : decode cX10_game 22 = .ok (.i2l, 1) := by decide +kernel
theorem dX10_game_23 : decode cX10_game 23 = .ok (.lconst 0, 1) := by decide +kernel
theorem dX10_game_24 : decode cX10_game 24 = .ok (.ldc2_w 100, 3) := by decide +kernel
theorem dX10_game_27 : decode cX10_game 27 = .ok (.invokestatic 79, 3) := by decide +kernel
theorem dX10_game_30 : decode cX10_game 30 = .ok (.ifCond .ne 5, 3) := by decide +kernel
theorem dX10_game_33 : decode cX10_game 33 = .ok (.iconst (-1), 1) := by decide +kernel
theorem dX10_game_34 : decode cX10_game 34 = .ok (.ireturn, 1) := by decide +kernel
theorem dX10_game_35 : decode cX10_game 35 = .ok (.aload_n 0, 1) := by decide +kernel
theorem dX10_game_36 : decode cX10_game 36 = .ok (.getfield 28, 3) := by decide +kernel
theorem dX10_game_39 : decode cX10_game 39 = .ok (.iload_n 1, 1) := by decide +kernel
theorem dX10_game_40 : decode cX10_game 40 = .ok (.iaload, 1) := by decide +kernel
theorem dX10_game_41 : decode cX10_game 41 = .ok (.istore 4, 2) := by decide +kernel
theorem dX10_game_43 : decode cX10_game 43 = .ok (.aload_n 0, 1) := by decide +kernel
theorem dX10_game_44 : decode cX10_game 44 = .ok (.getfield 28, 3) := by decide +kernel
theorem dX10_game_47 : decode cX10_game 47 = .ok (.iload_n 2, 1) := by decide +kernel
theorem dX10_game_48 : decode cX10_game 48 = .ok (.iaload, 1) := by decide +kernel
theorem dX10_game_49 : decode cX10_game 49 = .ok (.istore 5, 2) := by decide +kernel
theorem dX10_game_51 : decode cX10_game 51 = .ok (.iconst 0, 1) := by decide +kernel
theorem dX10_game_52 : decode cX10_game 52 = .ok (.istore 6, 2) := by decide +kernel
theorem dX10_game_54 : decode cX10_game 54 = .ok (.iload 6, 2) := by decide +kernel
theorem dX10_game_56 : decode cX10_game 56 = .ok (.bipush 100, 2) := by decide +kernel
theorem dX10_game_58 : decode cX10_game 58 = .ok (.if_icmp .ge 65, 3) := by decide +kernel
theorem dX10_game_61 : decode cX10_game 61 = .ok (.aload_n 0, 1) := by decide +kernel
theorem dX10_game_62 : decode cX10_game 62 = .ok (.getfield 28, 3) := by decide +kernel
theorem dX10_game_65 : decode cX10_game 65 = .ok (.iload_n 1, 1) := by decide +kernel
theorem dX10_game_66 : decode cX10_game 66 = .ok (.iconst 1, 1) := by decide +kernel
theorem dX10_game_67 : decode cX10_game 67 = .ok (.iload 6, 2) := by decide +kernel
theorem dX10_game_69 : decode cX10_game 69 = .ok (.bipush 10, 2) := by decide +kernel
theorem dX10_game_71 : decode cX10_game 71 = .ok (.idiv, 1) := by decide +kernel
theorem dX10_game_72 : decode cX10_game 72 = .ok (.iadd, 1) := by decide +kernel
theorem dX10_game_73 : decode cX10_game 73 = .ok (.iastore, 1) := by decide +kernel
theorem dX10_game_74 : decode cX10_game 74 = .ok (.aload_n 0, 1) := by decide +kernel
theorem dX10_game_75 : decode cX10_game 75 = .ok (.getfield 28, 3) := by decide +kernel
theorem dX10_game_78 : decode cX10_game 78 = .ok (.iload_n 2, 1) := by decide +kernel
theorem dX10_game_79 : decode cX10_game 79 = .ok (.iconst 1, 1) := by decide +kernel
theorem dX10_game_80 : decode cX10_game 80 = .ok (.iload 6, 2) := by decide +kernel
theorem dX10_game_82 : decode cX10_game 82 = .ok (.bipush 10, 2) := by decide +kernel
theorem dX10_game_84 : decode cX10_game 84 = .ok (.irem, 1) := by decide +kernel
theorem dX10_game_85 : decode cX10_game 85 = .ok (.iadd, 1) := by decide +kernel
theorem dX10_game_86 : decode cX10_game 86 = .ok (.iastore, 1) := by decide +kernel
theorem dX10_game_87 : decode cX10_game 87 = .ok (.aload_n 0, 1) := by decide +kernel
theorem dX10_game_88 : decode cX10_game 88 = .ok (.bipush (-4), 2) := by decide +kernel
theorem dX10_game_90 : decode cX10_game 90 = .ok (.invokevirtual 182, 3) := by decide +kernel
theorem dX10_game_93 : decode cX10_game 93 = .ok (.aload_n 0, 1) := by decide +kernel
theorem dX10_game_94 : decode cX10_game 94 = .ok (.getfield 55, 3) := by decide +kernel
theorem dX10_game_97 : decode cX10_game 97 = .ok (.iload 6, 2) := by decide +kernel
theorem dX10_game_99 : decode cX10_game 99 = .ok (.aload_n 0, 1) := by decide +kernel
theorem dX10_game_100 : decode cX10_game 100 = .ok (.iload_n 1, 1) := by decide +kernel
theorem dX10_game_101 : decode cX10_game 101 = .ok (.invokevirtual 185, 3) := by decide +kernel
theorem dX10_game_104 : decode cX10_game 104 = .ok (.iastore, 1) := by decide +kernel
theorem dX10_game_105 : decode cX10_game 105 = .ok (.aload_n 0, 1) := by decide +kernel
theorem dX10_game_106 : decode cX10_game 106 = .ok (.getfield 58, 3) := by decide +kernel
theorem dX10_game_109 : decode cX10_game 109 = .ok (.iload 6, 2) := by decide +kernel
theorem dX10_game_111 : decode cX10_game 111 = .ok (.aload_n 0, 1) := by decide +kernel
theorem dX10_game_112 : decode cX10_game 112 = .ok (.iload_n 2, 1) := by decide +kernel
theorem dX10_game_113 : decode cX10_game 113 = .ok (.invokevirtual 185, 3) := by decide +kernel
theorem dX10_game_116 : decode cX10_game 116 = .ok (.iastore, 1) := by decide +kernel
theorem dX10_game_117 : decode cX10_game 117 = .ok (.iinc 6 1, 3) := by decide +kernel
theorem dX10_game_120 : decode cX10_game 120 = .ok (.goto (-66), 3) := by decide +kernel
theorem dX10_game_123 : decode cX10_game 123 = .ok (.aload_n 0, 1) := by decide +kernel
theorem dX10_game_124 : decode cX10_game 124 = .ok (.getfield 28, 3) := by decide +kernel
theorem dX10_game_127 : decode cX10_game 127 = .ok (.iload_n 1, 1) := by decide +kernel
theorem dX10_game_128 : decode cX10_game 128 = .ok (.iload 4, 2) := by decide +kernel
theorem dX10_game_130 : decode cX10_game 130 = .ok (.iastore, 1) := by decide +kernel
theorem dX10_game_131 : decode cX10_game 131 = .ok (.aload_n 0, 1) := by decide +kernel
theorem dX10_game_132 : decode cX10_game 132 = .ok (.getfield 28, 3) := by decide +kernel
theorem dX10_game_135 : decode cX10_game 135 = .ok (.iload_n 2, 1) := by decide +kernel
theorem dX10_game_136 : decode cX10_game 136 = .ok (.iload 5, 2) := by decide +kernel
theorem dX10_game_138 : decode cX10_game 138 = .ok (.iastore, 1) := by decide +kernel
theorem dX10_game_139 : decode cX10_game 139 = .ok (.iconst 0, 1) := by decide +kernel
theorem dX10_game_140 : decode cX10_game 140 = .ok (.istore 6, 2) := by decide +kernel
theorem dX10_game_142 : decode cX10_game 142 = .ok (.bipush (-4), 2) := by decide +kernel
theorem dX10_game_144 : decode cX10_game 144 = .ok (.istore 7, 2) := by decide +kernel
theorem dX10_game_146 : decode cX10_game 146 = .ok (.bipush 99, 2) := by decide +kernel
theorem dX10_game_148 : decode cX10_game 148 = .ok (.istore 8, 2) := by decide +kernel
theorem dX10_game_150 : decode cX10_game 150 = .ok (.iload 8, 2) := by decide +kernel
theorem dX10_game_152 : decode cX10_game 152 = .ok (.ifCond .lt 121, 3) := by decide +kernel
theorem dX10_game_155 : decode cX10_game 155 = .ok (.iconst 1, 1) := by decide +kernel
theorem dX10_game_156 : decode cX10_game 156 = .ok (.istore 9, 2) := by decide +kernel
theorem dX10_game_158 : decode cX10_game 158 = .ok (.iconst 0, 1) := by decide +kernel
theorem dX10_game_159 : decode cX10_game 159 = .ok (.istore 10, 2) := by decide +kernel
theorem dX10_game_161 : decode cX10_game 161 = .ok (.iload 10, 2) := by decide +kernel
theorem dX10_game_163 : decode cX10_game 163 = .ok (.bipush 10, 2) := by decide +kernel
theorem dX10_game_165 : decode cX10_game 165 = .ok (.if_icmp .ge 73, 3) := by decide +kernel
theorem dX10_game_168 : decode cX10_game 168 = .ok (.iload 9, 2) := by decide +kernel
theorem dX10_game_170 : decode cX10_game 170 = .ok (.ifCond .eq 59, 3) := by decide +kernel
theorem dX10_game_173 : decode cX10_game 173 = .ok (.aload_n 0, 1) := by decide +kernel
theorem dX10_game_174 : decode cX10_game 174 = .ok (.getfield 55, 3) := by decide +kernel
theorem dX10_game_177 : decode cX10_game 177 = .ok (.bipush 10, 2) := by decide +kernel
theorem dX10_game_179 : decode cX10_game 179 = .ok (.iload 10, 2) := by decide +kernel
theorem dX10_game_181 : decode cX10_game 181 = .ok (.imul, 1) := by decide +kernel
theorem dX10_game_182 : decode cX10_game 182 = .ok (.iload 8, 2) := by decide +kernel
theorem dX10_game_184 : decode cX10_game 184 = .ok (.bipush 10, 2) := by decide +kernel
theorem dX10_game_186 : decode cX10_game 186 = .ok (.irem, 1) := by decide +kernel
theorem dX10_game_187 : decode cX10_game 187 = .ok (.iadd, 1) := by decide +kernel
theorem dX10_game_188 : decode cX10_game 188 = .ok (.iaload, 1) := by decide +kernel
theorem dX10_game_189 : decode cX10_game 189 = .ok (.aload_n 0, 1) := by decide +kernel
theorem dX10_game_190 : decode cX10_game 190 = .ok (.getfield 55, 3) := by decide +kernel
theorem dX10_game_193 : decode cX10_game 193 = .ok (.iload 8, 2) := by decide +kernel
theorem dX10_game_195 : decode cX10_game 195 = .ok (.iaload, 1) := by decide +kernel
theorem dX10_game_196 : decode cX10_game 196 = .ok (.if_icmp .gt 33, 3) := by decide +kernel
theorem dX10_game_199 : decode cX10_game 199 = .ok (.aload_n 0, 1) := by decide +kernel
theorem dX10_game_200 : decode cX10_game 200 = .ok (.getfield 58, 3) := by decide +kernel
theorem dX10_game_203 : decode cX10_game 203 = .ok (.iload 8, 2) := by decide +kernel
theorem dX10_game_205 : decode cX10_game 205 = .ok (.bipush 10, 2) := by decide +kernel
theorem dX10_game_207 : decode cX10_game 207 = .ok (.idiv, 1) := by decide +kernel
theorem dX10_game_208 : decode cX10_game 208 = .ok (.bipush 10, 2) := by decide +kernel
theorem dX10_game_210 : decode cX10_game 210 = .ok (.imul, 1) := by decide +kernel
theorem dX10_game_211 : decode cX10_game 211 = .ok (.iload 10, 2) := by decide +kernel
theorem dX10_game_213 : decode cX10_game 213 = .ok (.iadd, 1) := by decide +kernel
theorem dX10_game_214 : decode cX10_game 214 = .ok (.iaload, 1) := by decide +kernel
theorem dX10_game_215 : decode cX10_game 215 = .ok (.aload_n 0, 1) := by decide +kernel
theorem dX10_game_216 : decode cX10_game 216 = .ok (.getfield 58, 3) := by decide +kernel
theorem dX10_game_219 : decode cX10_game 219 = .ok (.iload 8, 2) := by decide +kernel
theorem dX10_game_221 : decode cX10_game 221 = .ok (.iaload, 1) := by decide +kernel
theorem dX10_game_222 : decode cX10_game 222 = .ok (.if_icmp .gt 7, 3) := by decide +kernel
theorem dX10_game_225 : decode cX10_game 225 = .ok (.iconst 1, 1) := by decide +kernel
theorem dX10_game_226 : decode cX10_game 226 = .ok (.goto 4, 3) := by decide +kernel
theorem dX10_game_229 : decode cX10_game 229 = .ok (.iconst 0, 1) := by decide +kernel
theorem dX10_game_230 : decode cX10_game 230 = .ok (.istore 9, 2) := by decide +kernel
theorem dX10_game_232 : decode cX10_game 232 = .ok (.iinc 10 1, 3) := by decide +kernel
theorem dX10_game_235 : decode cX10_game 235 = .ok (.goto (-74), 3) := by decide +kernel
theorem dX10_game_238 : decode cX10_game 238 = .ok (.iload 6, 2) := by decide +kernel
theorem dX10_game_240 : decode cX10_game 240 = .ok (.iload 9, 2) := by decide +kernel
theorem dX10_game_242 : decode cX10_game 242 = .ok (.ifCond .eq 7, 3) := by decide +kernel
theorem dX10_game_245 : decode cX10_game 245 = .ok (.iconst 1, 1) := by decide +kernel
theorem dX10_game_246 : decode cX10_game 246 = .ok (.goto 4, 3) := by decide +kernel
theorem dX10_game_249 : decode cX10_game 249 = .ok (.iconst 0, 1) := by decide +kernel
theorem dX10_game_250 : decode cX10_game 250 = .ok (.iadd, 1) := by decide +kernel
theorem dX10_game_251 : decode cX10_game 251 = .ok (.istore 6, 2) := by decide +kernel
theorem dX10_game_253 : decode cX10_game 253 = .ok (.iload 9, 2) := by decide +kernel
theorem dX10_game_255 : decode cX10_game 255 = .ok (.ifCond .eq 8, 3) := by decide +kernel
theorem dX10_game_258 : decode cX10_game 258 = .ok (.iload 8, 2) := by decide +kernel
theorem dX10_game_260 : decode cX10_game 260 = .ok (.goto 5, 3) := by decide +kernel
theorem dX10_game_263 : decode cX10_game 263 = .ok (.iload 7, 2) := by decide +kernel
theorem dX10_game_265 : decode cX10_game 265 = .ok (.istore 7, 2) := by decide +kernel
theorem dX10_game_267 : decode cX10_game 267 = .ok (.iinc 8 (-1), 3) := by decide +kernel
theorem dX10_game_270 : decode cX10_game 270 = .ok (.goto (-120), 3) := by decide +kernel
theorem dX10_game_273 : decode cX10_game 273 = .ok (.iload_n 3, 1) := by decide +kernel
theorem dX10_game_274 : decode cX10_game 274 = .ok (.ifCond .ne 8, 3) := by decide +kernel
theorem dX10_game_277 : decode cX10_game 277 = .ok (.iload 6, 2) := by decide +kernel
theorem dX10_game_279 : decode cX10_game 279 = .ok (.goto 35, 3) := by decide +kernel
theorem dX10_game_282 : decode cX10_game 282 = .ok (.iload 7, 2) := by decide +kernel
theorem dX10_game_284 : decode cX10_game 284 = .ok (.ifCond .ge 8, 3) := by decide +kernel
theorem dX10_game_287 : decode cX10_game 287 = .ok (.bipush (-4), 2) := by decide +kernel
theorem dX10_game_289 : decode cX10_game 289 = .ok (.goto 25, 3) := by decide +kernel
theorem dX10_game_292 : decode cX10_game 292 = .ok (.iload_n 3, 1) := by decide +kernel
theorem dX10_game_293 : decode cX10_game 293 = .ok (.iconst 1, 1) := by decide +kernel
theorem dX10_game_294 : decode cX10_game 294 = .ok (.if_icmp .ne 13, 3) := by decide +kernel
theorem dX10_game_297 : decode cX10_game 297 = .ok (.iconst 1, 1) := by decide +kernel
theorem dX10_game_298 : decode cX10_game 298 = .ok (.iload 7, 2) := by decide +kernel
theorem dX10_game_300 : decode cX10_game 300 = .ok (.bipush 10, 2) := by decide +kernel
theorem dX10_game_302 : decode cX10_game 302 = .ok (.idiv, 1) := by decide +kernel
theorem dX10_game_303 : decode cX10_game 303 = .ok (.iadd, 1) := by decide +kernel
theorem dX10_game_304 : decode cX10_game 304 = .ok (.goto 10, 3) := by decide +kernel
theorem dX10_game_307 : decode cX10_game 307 = .ok (.iconst 1, 1) := by decide +kernel
theorem dX10_game_308 : decode cX10_game 308 = .ok (.iload 7, 2) := by decide +kernel
theorem dX10_game_310 : decode cX10_game 310 = .ok (.bipush 10, 2) := by decide +kernel
theorem dX10_game_312 : decode cX10_game 312 = .ok (.irem, 1) := by decide +kernel
theorem dX10_game_313 : decode cX10_game 313 = .ok (.iadd, 1) := by decide +kernel
theorem dX10_game_314 : decode cX10_game 314 = .ok (.ireturn, 1) := by decide +kernel
theorem dX10_seatAll_0 : decode cX10_seatAll 0 = .ok (.iload_n 1, 1) := by decide +kernel
theorem dX10_seatAll_1 : decode cX10_seatAll 1 = .ok (.istore_n 2, 1) := by decide +kernel
theorem dX10_seatAll_2 : decode cX10_seatAll 2 = .ok (.iconst 0, 1) := by decide +kernel
theorem dX10_seatAll_3 : decode cX10_seatAll 3 = .ok (.istore_n 3, 1) := by decide +kernel
theorem dX10_seatAll_4 : decode cX10_seatAll 4 = .ok (.iload_n 3, 1) := by decide +kernel
theorem dX10_seatAll_5 : decode cX10_seatAll 5 = .ok (.iconst 3, 1) := by decide +kernel
theorem dX10_seatAll_6 : decode cX10_seatAll 6 = .ok (.if_icmp .ge 16, 3) := by decide +kernel
theorem dX10_seatAll_9 : decode cX10_seatAll 9 = .ok (.aload_n 0, 1) := by decide +kernel
theorem dX10_seatAll_10 : decode cX10_seatAll 10 = .ok (.getfield 67, 3) := by decide +kernel
theorem dX10_seatAll_13 : decode cX10_seatAll 13 = .ok (.iload_n 3, 1) := by decide +kernel
theorem dX10_seatAll_14 : decode cX10_seatAll 14 = .ok (.iconst 0, 1) := by decide +kernel
theorem dX10_seatAll_15 : decode cX10_seatAll 15 = .ok (.iastore, 1) := by decide +kernel
theorem dX10_seatAll_16 : decode cX10_seatAll 16 = .ok (.iinc 3 1, 3) := by decide +kernel
theorem dX10_seatAll_19 : decode cX10_seatAll 19 = .ok (.goto (-15), 3) := by decide +kernel
theorem dX10_seatAll_22 : decode cX10_seatAll 22 = .ok (.aload_n 0, 1) := by decide +kernel
theorem dX10_seatAll_23 : decode cX10_seatAll 23 = .ok (.getfield 19, 3) := by decide +kernel
theorem dX10_seatAll_26 : decode cX10_seatAll 26 = .ok (.iconst 0, 1) := by decide +kernel
theorem dX10_seatAll_27 : decode cX10_seatAll 27 = .ok (.iaload, 1) := by decide +kernel
theorem dX10_seatAll_28 : decode cX10_seatAll 28 = .ok (.iconst 1, 1) := by decide +kernel
theorem dX10_seatAll_29 : decode cX10_seatAll 29 = .ok (.isub, 1) := by decide +kernel
theorem dX10_seatAll_30 : decode cX10_seatAll 30 = .ok (.istore_n 3, 1) := by decide +kernel
theorem dX10_seatAll_31 : decode cX10_seatAll 31 = .ok (.iload_n 3, 1) := by decide +kernel
theorem dX10_seatAll_32 : decode cX10_seatAll 32 = .ok (.ifCond .lt 36, 3) := by decide +kernel
theorem dX10_seatAll_35 : decode cX10_seatAll 35 = .ok (.aload_n 0, 1) := by decide +kernel
theorem dX10_seatAll_36 : decode cX10_seatAll 36 = .ok (.getfield 64, 3) := by decide +kernel
theorem dX10_seatAll_39 : decode cX10_seatAll 39 = .ok (.iload_n 3, 1) := by decide +kernel
theorem dX10_seatAll_40 : decode cX10_seatAll 40 = .ok (.iload_n 2, 1) := by decide +kernel
theorem dX10_seatAll_41 : decode cX10_seatAll 41 = .ok (.aload_n 0, 1) := by decide +kernel
theorem dX10_seatAll_42 : decode cX10_seatAll 42 = .ok (.getfield 13, 3) := by decide +kernel
theorem dX10_seatAll_45 : decode cX10_seatAll 45 = .ok (.iconst 0, 1) := by decide +kernel
theorem dX10_seatAll_46 : decode cX10_seatAll 46 = .ok (.iaload, 1) := by decide +kernel
theorem dX10_seatAll_47 : decode cX10_seatAll 47 = .ok (.iconst 1, 1) := by decide +kernel
theorem dX10_seatAll_48 : decode cX10_seatAll 48 = .ok (.iadd, 1) := by decide +kernel
theorem dX10_seatAll_49 : decode cX10_seatAll 49 = .ok (.irem, 1) := by decide +kernel
theorem dX10_seatAll_50 : decode cX10_seatAll 50 = .ok (.iastore, 1) := by decide +kernel
theorem dX10_seatAll_51 : decode cX10_seatAll 51 = .ok (.iload_n 2, 1) := by decide +kernel
theorem dX10_seatAll_52 : decode cX10_seatAll 52 = .ok (.aload_n 0, 1) := by decide +kernel
theorem dX10_seatAll_53 : decode cX10_seatAll 53 = .ok (.getfield 13, 3) := by decide +kernel
theorem dX10_seatAll_56 : decode cX10_seatAll 56 = .ok (.iconst 0, 1) := by decide +kernel
theorem dX10_seatAll_57 : decode cX10_seatAll 57 = .ok (.iaload, 1) := by decide +kernel
theorem dX10_seatAll_58 : decode cX10_seatAll 58 = .ok (.iconst 1, 1) := by decide +kernel
theorem dX10_seatAll_59 : decode cX10_seatAll 59 = .ok (.iadd, 1) := by decide +kernel
theorem dX10_seatAll_60 : decode cX10_seatAll 60 = .ok (.idiv, 1) := by decide +kernel
theorem dX10_seatAll_61 : decode cX10_seatAll 61 = .ok (.istore_n 2, 1) := by decide +kernel
theorem dX10_seatAll_62 : decode cX10_seatAll 62 = .ok (.iinc 3 (-1), 3) := by decide +kernel
theorem dX10_seatAll_65 : decode cX10_seatAll 65 = .ok (.goto (-34), 3) := by decide +kernel
theorem dX10_seatAll_68 : decode cX10_seatAll 68 = .ok (.iconst 1, 1) := by decide +kernel
theorem dX10_seatAll_69 : decode cX10_seatAll 69 = .ok (.istore_n 3, 1) := by decide +kernel
theorem dX10_seatAll_70 : decode cX10_seatAll 70 = .ok (.iconst 0, 1) := by decide +kernel
theorem dX10_seatAll_71 : decode cX10_seatAll 71 = .ok (.istore 4, 2) := by decide +kernel
theorem dX10_seatAll_73 : decode cX10_seatAll 73 = .ok (.iload 4, 2) := by decide +kernel
theorem dX10_seatAll_75 : decode cX10_seatAll 75 = .ok (.aload_n 0, 1) := by decide +kernel
theorem dX10_seatAll_76 : decode cX10_seatAll 76 = .ok (.getfield 19, 3) := by decide +kernel
theorem dX10_seatAll_79 : decode cX10_seatAll 79 = .ok (.iconst 0, 1) := by decide +kernel
theorem dX10_seatAll_80 : decode cX10_seatAll 80 = .ok (.iaload, 1) := by decide +kernel
theorem dX10_seatAll_81 : decode cX10_seatAll 81 = .ok (.if_icmp .ge 78, 3) := by decide +kernel
theorem dX10_seatAll_84 : decode cX10_seatAll 84 = .ok (.aload_n 0, 1) := by decide +kernel
theorem dX10_seatAll_85 : decode cX10_seatAll 85 = .ok (.getfield 64, 3) := by decide +kernel
theorem dX10_seatAll_88 : decode cX10_seatAll 88 = .ok (.iload 4, 2) := by decide +kernel
theorem dX10_seatAll_90 : decode cX10_seatAll 90 = .ok (.iaload, 1) := by decide +kernel
theorem dX10_seatAll_91 : decode cX10_seatAll 91 = .ok (.aload_n 0, 1) := by decide +kernel
theorem dX10_seatAll_92 : decode cX10_seatAll 92 = .ok (.getfield 13, 3) := by decide +kernel
theorem dX10_seatAll_95 : decode cX10_seatAll 95 = .ok (.iconst 0, 1) := by decide +kernel
theorem dX10_seatAll_96 : decode cX10_seatAll 96 = .ok (.iaload, 1) := by decide +kernel
theorem dX10_seatAll_97 : decode cX10_seatAll 97 = .ok (.if_icmp .ge 56, 3) := by decide +kernel
theorem dX10_seatAll_100 : decode cX10_seatAll 100 = .ok (.aload_n 0, 1) := by decide +kernel
theorem dX10_seatAll_101 : decode cX10_seatAll 101 = .ok (.getfield 67, 3) := by decide +kernel
theorem dX10_seatAll_104 : decode cX10_seatAll 104 = .ok (.aload_n 0, 1) := by decide +kernel
theorem dX10_seatAll_105 : decode cX10_seatAll 105 = .ok (.getfield 64, 3) := by decide +kernel
theorem dX10_seatAll_108 : decode cX10_seatAll 108 = .ok (.iload 4, 2) := by decide +kernel
theorem dX10_seatAll_110 : decode cX10_seatAll 110 = .ok (.iaload, 1) := by decide +kernel
theorem dX10_seatAll_111 : decode cX10_seatAll 111 = .ok (.dup2, 1) := by decide +kernel
theorem dX10_seatAll_112 : decode cX10_seatAll 112 = .ok (.iaload, 1) := by decide +kernel
theorem dX10_seatAll_113 : decode cX10_seatAll 113 = .ok (.iconst 1, 1) := by decide +kernel
theorem dX10_seatAll_114 : decode cX10_seatAll 114 = .ok (.iadd, 1) := by decide +kernel
theorem dX10_seatAll_115 : decode cX10_seatAll 115 = .ok (.iastore, 1) := by decide +kernel
theorem dX10_seatAll_116 : decode cX10_seatAll 116 = .ok (.iload_n 3, 1) := by decide +kernel
theorem dX10_seatAll_117 : decode cX10_seatAll 117 = .ok (.ifCond .eq 34, 3) := by decide +kernel
theorem dX10_seatAll_120 : decode cX10_seatAll 120 = .ok (.aload_n 0, 1) := by decide +kernel
theorem dX10_seatAll_121 : decode cX10_seatAll 121 = .ok (.getfield 67, 3) := by decide +kernel
theorem dX10_seatAll_124 : decode cX10_seatAll 124 = .ok (.aload_n 0, 1) := by decide +kernel
theorem dX10_seatAll_125 : decode cX10_seatAll 125 = .ok (.getfield 64, 3) := by decide +kernel
theorem dX10_seatAll_128 : decode cX10_seatAll 128 = .ok (.iload 4, 2) := by decide +kernel
theorem dX10_seatAll_130 : decode cX10_seatAll 130 = .ok (.iaload, 1) := by decide +kernel
theorem dX10_seatAll_131 : decode cX10_seatAll 131 = .ok (.iaload, 1) := by decide +kernel
theorem dX10_seatAll_132 : decode cX10_seatAll 132 = .ok (.aload_n 0, 1) := by decide +kernel
theorem dX10_seatAll_133 : decode cX10_seatAll 133 = .ok (.getfield 16, 3) := by decide +kernel
theorem dX10_seatAll_136 : decode cX10_seatAll 136 = .ok (.aload_n 0, 1) := by decide +kernel
theorem dX10_seatAll_137 : decode cX10_seatAll 137 = .ok (.getfield 64, 3) := by decide +kernel
theorem dX10_seatAll_140 : decode cX10_seatAll 140 = .ok (.iload 4, 2) := by decide +kernel
theorem dX10_seatAll_142 : decode cX10_seatAll 142 = .ok (.iaload, 1) := by decide +kernel
theorem dX10_seatAll_143 : decode cX10_seatAll 143 = .ok (.iaload, 1) := by decide +kernel
theorem dX10_seatAll_144 : decode cX10_seatAll 144 = .ok (.if_icmp .gt 7, 3) := by decide +kernel
theorem dX10_seatAll_147 : decode cX10_seatAll 147 = .ok (.iconst 1, 1) := by decide +kernel
theorem dX10_seatAll_148 : decode cX10_seatAll 148 = .ok (.goto 4, 3) := by decide +kernel
theorem dX10_seatAll_151 : decode cX10_seatAll 151 = .ok (.iconst 0, 1) := by decide +kernel
theorem dX10_seatAll_152 : decode cX10_seatAll 152 = .ok (.istore_n 3, 1) := by decide +kernel
theorem dX10_seatAll_153 : decode cX10_seatAll 153 = .ok (.iinc 4 1, 3) := by decide +kernel
theorem dX10_seatAll_156 : decode cX10_seatAll 156 = .ok (.goto (-83), 3) := by decide +kernel
theorem dX10_seatAll_159 : decode cX10_seatAll 159 = .ok (.iload_n 3, 1) := by decide +kernel
theorem dX10_seatAll_160 : decode cX10_seatAll 160 = .ok (.ireturn, 1) := by decide +kernel
theorem dX10_codes_0 : decode cX10_codes 0 = .ok (.iconst 1, 1) := by decide +kernel
theorem dX10_codes_1 : decode cX10_codes 1 = .ok (.istore_n 1, 1) := by decide +kernel
theorem dX10_codes_2 : decode cX10_codes 2 = .ok (.iconst 0, 1) := by decide +kernel
theorem dX10_codes_3 : decode cX10_codes 3 = .ok (.istore_n 2, 1) := by decide +kernel
theorem dX10_codes_4 : decode cX10_codes 4 = .ok (.iload_n 2, 1) := by decide +kernel
theorem dX10_codes_5 : decode cX10_codes 5 = .ok (.aload_n 0, 1) := by decide +kernel
theorem dX10_codes_6 : decode cX10_codes 6 = .ok (.getfield 19, 3) := by decide +kernel
theorem dX10_codes_9 : decode cX10_codes 9 = .ok (.iconst 0, 1) := by decide +kernel
theorem dX10_codes_10 : decode cX10_codes 10 = .ok (.iaload, 1) := by decide +kernel
theorem dX10_codes_11 : decode cX10_codes 11 = .ok (.if_icmp .ge 20, 3) := by decide +kernel
theorem dX10_codes_14 : decode cX10_codes 14 = .ok (.iload_n 1, 1) := by decide +kernel
theorem dX10_codes_15 : decode cX10_codes 15 = .ok (.aload_n 0, 1) := by decide +kernel
theorem dX10_codes_16 : decode cX10_codes 16 = .ok (.getfield 13, 3) := by decide +kernel
theorem dX10_codes_19 : decode cX10_codes 19 = .ok (.iconst 0, 1) := by decide +kernel
theorem dX10_codes_20 : decode cX10_codes 20 = .ok (.iaload, 1) := by decide +kernel
theorem dX10_codes_21 : decode cX10_codes 21 = .ok (.iconst 1, 1) := by decide +kernel
theorem dX10_codes_22 : decode cX10_codes 22 = .ok (.iadd, 1) := by decide +kernel
theorem dX10_codes_23 : decode cX10_codes 23 = .ok (.imul, 1) := by decide +kernel
theorem dX10_codes_24 : decode cX10_codes 24 = .ok (.istore_n 1, 1) := by decide +kernel
theorem dX10_codes_25 : decode cX10_codes 25 = .ok (.iinc 2 1, 3) := by decide +kernel
theorem dX10_codes_28 : decode cX10_codes 28 = .ok (.goto (-24), 3) := by decide +kernel
theorem dX10_codes_31 : decode cX10_codes 31 = .ok (.iload_n 1, 1) := by decide +kernel
theorem dX10_codes_32 : decode cX10_codes 32 = .ok (.ireturn, 1) := by decide +kernel
theorem dX10_isAtRest_0 : decode cX10_isAtRest 0 = .ok (.iconst 1, 1) := by decide +kernel
theorem dX10_isAtRest_1 : decode cX10_isAtRest 1 = .ok (.istore_n 1, 1) := by decide +kernel
theorem dX10_isAtRest_2 : decode cX10_isAtRest 2 = .ok (.iconst 0, 1) := by decide +kernel
theorem dX10_isAtRest_3 : decode cX10_isAtRest 3 = .ok (.istore_n 2, 1) := by decide +kernel
theorem dX10_isAtRest_4 : decode cX10_isAtRest 4 = .ok (.iload_n 2, 1) := by decide +kernel
theorem dX10_isAtRest_5 : decode cX10_isAtRest 5 = .ok (.aload_n 0, 1) := by decide +kernel
theorem dX10_isAtRest_6 : decode cX10_isAtRest 6 = .ok (.getfield 13, 3) := by decide +kernel
theorem dX10_isAtRest_9 : decode cX10_isAtRest 9 = .ok (.iconst 0, 1) := by decide +kernel
theorem dX10_isAtRest_10 : decode cX10_isAtRest 10 = .ok (.iaload, 1) := by decide +kernel
theorem dX10_isAtRest_11 : decode cX10_isAtRest 11 = .ok (.if_icmp .ge 43, 3) := by decide +kernel
theorem dX10_isAtRest_14 : decode cX10_isAtRest 14 = .ok (.iload_n 1, 1) := by decide +kernel
theorem dX10_isAtRest_15 : decode cX10_isAtRest 15 = .ok (.ifCond .eq 31, 3) := by decide +kernel
theorem dX10_isAtRest_18 : decode cX10_isAtRest 18 = .ok (.aload_n 0, 1) := by decide +kernel
theorem dX10_isAtRest_19 : decode cX10_isAtRest 19 = .ok (.getfield 61, 3) := by decide +kernel
theorem dX10_isAtRest_22 : decode cX10_isAtRest 22 = .ok (.iload_n 2, 1) := by decide +kernel
theorem dX10_isAtRest_23 : decode cX10_isAtRest 23 = .ok (.iaload, 1) := by decide +kernel
theorem dX10_isAtRest_24 : decode cX10_isAtRest 24 = .ok (.ifCond .eq 18, 3) := by decide +kernel
theorem dX10_isAtRest_27 : decode cX10_isAtRest 27 = .ok (.aload_n 0, 1) := by decide +kernel
theorem dX10_isAtRest_28 : decode cX10_isAtRest 28 = .ok (.getfield 67, 3) := by decide +kernel
theorem dX10_isAtRest_31 : decode cX10_isAtRest 31 = .ok (.iload_n 2, 1) := by decide +kernel
theorem dX10_isAtRest_32 : decode cX10_isAtRest 32 = .ok (.iaload, 1) := by decide +kernel
theorem dX10_isAtRest_33 : decode cX10_isAtRest 33 = .ok (.aload_n 0, 1) := by decide +kernel
theorem dX10_isAtRest_34 : decode cX10_isAtRest 34 = .ok (.getfield 16, 3) := by decide +kernel
theorem dX10_isAtRest_37 : decode cX10_isAtRest 37 = .ok (.iload_n 2, 1) := by decide +kernel
theorem dX10_isAtRest_38 : decode cX10_isAtRest 38 = .ok (.iaload, 1) := by decide +kernel
theorem dX10_isAtRest_39 : decode cX10_isAtRest 39 = .ok (.if_icmp .ne 7, 3) := by decide +kernel
theorem dX10_isAtRest_42 : decode cX10_isAtRest 42 = .ok (.iconst 1, 1) := by decide +kernel
theorem dX10_isAtRest_43 : decode cX10_isAtRest 43 = .ok (.goto 4, 3) := by decide +kernel
theorem dX10_isAtRest_46 : decode cX10_isAtRest 46 = .ok (.iconst 0, 1) := by decide +kernel
theorem dX10_isAtRest_47 : decode cX10_isAtRest 47 = .ok (.istore_n 1, 1) := by decide +kernel
theorem dX10_isAtRest_48 : decode cX10_isAtRest 48 = .ok (.iinc 2 1, 3) := by decide +kernel
theorem dX10_isAtRest_51 : decode cX10_isAtRest 51 = .ok (.goto (-47), 3) := by decide +kernel
theorem dX10_isAtRest_54 : decode cX10_isAtRest 54 = .ok (.iconst 0, 1) := by decide +kernel
theorem dX10_isAtRest_55 : decode cX10_isAtRest 55 = .ok (.istore_n 2, 1) := by decide +kernel
theorem dX10_isAtRest_56 : decode cX10_isAtRest 56 = .ok (.iload_n 2, 1) := by decide +kernel
theorem dX10_isAtRest_57 : decode cX10_isAtRest 57 = .ok (.aload_n 0, 1) := by decide +kernel
theorem dX10_isAtRest_58 : decode cX10_isAtRest 58 = .ok (.getfield 19, 3) := by decide +kernel
theorem dX10_isAtRest_61 : decode cX10_isAtRest 61 = .ok (.iconst 0, 1) := by decide +kernel
theorem dX10_isAtRest_62 : decode cX10_isAtRest 62 = .ok (.iaload, 1) := by decide +kernel
theorem dX10_isAtRest_63 : decode cX10_isAtRest 63 = .ok (.if_icmp .ge 123, 3) := by decide +kernel
theorem dX10_isAtRest_66 : decode cX10_isAtRest 66 = .ok (.aload_n 0, 1) := by decide +kernel
theorem dX10_isAtRest_67 : decode cX10_isAtRest 67 = .ok (.getfield 64, 3) := by decide +kernel
theorem dX10_isAtRest_70 : decode cX10_isAtRest 70 = .ok (.iload_n 2, 1) := by decide +kernel
theorem dX10_isAtRest_71 : decode cX10_isAtRest 71 = .ok (.iaload, 1) := by decide +kernel
theorem dX10_isAtRest_72 : decode cX10_isAtRest 72 = .ok (.aload_n 0, 1) := by decide +kernel
theorem dX10_isAtRest_73 : decode cX10_isAtRest 73 = .ok (.getfield 13, 3) := by decide +kernel
theorem dX10_isAtRest_76 : decode cX10_isAtRest 76 = .ok (.iconst 0, 1) := by decide +kernel
theorem dX10_isAtRest_77 : decode cX10_isAtRest 77 = .ok (.iaload, 1) := by decide +kernel
theorem dX10_isAtRest_78 : decode cX10_isAtRest 78 = .ok (.if_icmp .ne 7, 3) := by decide +kernel
theorem dX10_isAtRest_81 : decode cX10_isAtRest 81 = .ok (.iconst 0, 1) := by decide +kernel
theorem dX10_isAtRest_82 : decode cX10_isAtRest 82 = .ok (.goto 30, 3) := by decide +kernel
theorem dX10_isAtRest_85 : decode cX10_isAtRest 85 = .ok (.aload_n 0, 1) := by decide +kernel
theorem dX10_isAtRest_86 : decode cX10_isAtRest 86 = .ok (.getfield 25, 3) := by decide +kernel
theorem dX10_isAtRest_89 : decode cX10_isAtRest 89 = .ok (.iconst 3, 1) := by decide +kernel
theorem dX10_isAtRest_90 : decode cX10_isAtRest 90 = .ok (.iload_n 2, 1) := by decide +kernel
theorem dX10_isAtRest_91 : decode cX10_isAtRest 91 = .ok (.imul, 1) := by decide +kernel
theorem dX10_isAtRest_92 : decode cX10_isAtRest 92 = .ok (.aload_n 0, 1) := by decide +kernel
theorem dX10_isAtRest_93 : decode cX10_isAtRest 93 = .ok (.getfield 64, 3) := by decide +kernel
theorem dX10_isAtRest_96 : decode cX10_isAtRest 96 = .ok (.iload_n 2, 1) := by decide +kernel
theorem dX10_isAtRest_97 : decode cX10_isAtRest 97 = .ok (.iaload, 1) := by decide +kernel
theorem dX10_isAtRest_98 : decode cX10_isAtRest 98 = .ok (.iadd, 1) := by decide +kernel
theorem dX10_isAtRest_99 : decode cX10_isAtRest 99 = .ok (.iaload, 1) := by decide +kernel
theorem dX10_isAtRest_100 : decode cX10_isAtRest 100 = .ok (.aload_n 0, 1) := by decide +kernel
theorem dX10_isAtRest_101 : decode cX10_isAtRest 101 = .ok (.getfield 61, 3) := by decide +kernel
theorem dX10_isAtRest_104 : decode cX10_isAtRest 104 = .ok (.aload_n 0, 1) := by decide +kernel
theorem dX10_isAtRest_105 : decode cX10_isAtRest 105 = .ok (.getfield 64, 3) := by decide +kernel
theorem dX10_isAtRest_108 : decode cX10_isAtRest 108 = .ok (.iload_n 2, 1) := by decide +kernel
theorem dX10_isAtRest_109 : decode cX10_isAtRest 109 = .ok (.iaload, 1) := by decide +kernel
theorem dX10_isAtRest_110 : decode cX10_isAtRest 110 = .ok (.iaload, 1) := by decide +kernel
theorem dX10_isAtRest_111 : decode cX10_isAtRest 111 = .ok (.isub, 1) := by decide +kernel
theorem dX10_isAtRest_112 : decode cX10_isAtRest 112 = .ok (.istore_n 3, 1) := by decide +kernel
theorem dX10_isAtRest_113 : decode cX10_isAtRest 113 = .ok (.iload_n 1, 1) := by decide +kernel
theorem dX10_isAtRest_114 : decode cX10_isAtRest 114 = .ok (.ifCond .eq 11, 3) := by decide +kernel
theorem dX10_isAtRest_117 : decode cX10_isAtRest 117 = .ok (.iload_n 3, 1) := by decide +kernel
theorem dX10_isAtRest_118 : decode cX10_isAtRest 118 = .ok (.ifCond .lt 7, 3) := by decide +kernel
theorem dX10_isAtRest_121 : decode cX10_isAtRest 121 = .ok (.iconst 1, 1) := by decide +kernel
theorem dX10_isAtRest_122 : decode cX10_isAtRest 122 = .ok (.goto 4, 3) := by decide +kernel
theorem dX10_isAtRest_125 : decode cX10_isAtRest 125 = .ok (.iconst 0, 1) := by decide +kernel
theorem dX10_isAtRest_126 : decode cX10_isAtRest 126 = .ok (.istore_n 1, 1) := by decide +kernel
theorem dX10_isAtRest_127 : decode cX10_isAtRest 127 = .ok (.iconst 0, 1) := by decide +kernel
theorem dX10_isAtRest_128 : decode cX10_isAtRest 128 = .ok (.istore 4, 2) := by decide +kernel
theorem dX10_isAtRest_130 : decode cX10_isAtRest 130 = .ok (.iload 4, 2) := by decide +kernel
theorem dX10_isAtRest_132 : decode cX10_isAtRest 132 = .ok (.aload_n 0, 1) := by decide +kernel
theorem dX10_isAtRest_133 : decode cX10_isAtRest 133 = .ok (.getfield 13, 3) := by decide +kernel
theorem dX10_isAtRest_136 : decode cX10_isAtRest 136 = .ok (.iconst 0, 1) := by decide +kernel
theorem dX10_isAtRest_137 : decode cX10_isAtRest 137 = .ok (.iaload, 1) := by decide +kernel
theorem dX10_isAtRest_138 : decode cX10_isAtRest 138 = .ok (.if_icmp .ge 42, 3) := by decide +kernel
theorem dX10_isAtRest_141 : decode cX10_isAtRest 141 = .ok (.iload_n 1, 1) := by decide +kernel
theorem dX10_isAtRest_142 : decode cX10_isAtRest 142 = .ok (.ifCond .eq 30, 3) := by decide +kernel
theorem dX10_isAtRest_145 : decode cX10_isAtRest 145 = .ok (.aload_n 0, 1) := by decide +kernel
theorem dX10_isAtRest_146 : decode cX10_isAtRest 146 = .ok (.getfield 25, 3) := by decide +kernel
theorem dX10_isAtRest_149 : decode cX10_isAtRest 149 = .ok (.iconst 3, 1) := by decide +kernel
theorem dX10_isAtRest_150 : decode cX10_isAtRest 150 = .ok (.iload_n 2, 1) := by decide +kernel
theorem dX10_isAtRest_151 : decode cX10_isAtRest 151 = .ok (.imul, 1) := by decide +kernel
theorem dX10_isAtRest_152 : decode cX10_isAtRest 152 = .ok (.iload 4, 2) := by decide +kernel
theorem dX10_isAtRest_154 : decode cX10_isAtRest 154 = .ok (.iadd, 1) := by decide +kernel
theorem dX10_isAtRest_155 : decode cX10_isAtRest 155 = .ok (.iaload, 1) := by decide +kernel
theorem dX10_isAtRest_156 : decode cX10_isAtRest 156 = .ok (.aload_n 0, 1) := by decide +kernel
theorem dX10_isAtRest_157 : decode cX10_isAtRest 157 = .ok (.getfield 61, 3) := by decide +kernel
theorem dX10_isAtRest_160 : decode cX10_isAtRest 160 = .ok (.iload 4, 2) := by decide +kernel
theorem dX10_isAtRest_162 : decode cX10_isAtRest 162 = .ok (.iaload, 1) := by decide +kernel
theorem dX10_isAtRest_163 : decode cX10_isAtRest 163 = .ok (.isub, 1) := by decide +kernel
theorem dX10_isAtRest_164 : decode cX10_isAtRest 164 = .ok (.iload_n 3, 1) := by decide +kernel
theorem dX10_isAtRest_165 : decode cX10_isAtRest 165 = .ok (.if_icmp .gt 7, 3) := by decide +kernel
theorem dX10_isAtRest_168 : decode cX10_isAtRest 168 = .ok (.iconst 1, 1) := by decide +kernel
theorem dX10_isAtRest_169 : decode cX10_isAtRest 169 = .ok (.goto 4, 3) := by decide +kernel
theorem dX10_isAtRest_172 : decode cX10_isAtRest 172 = .ok (.iconst 0, 1) := by decide +kernel
theorem dX10_isAtRest_173 : decode cX10_isAtRest 173 = .ok (.istore_n 1, 1) := by decide +kernel
theorem dX10_isAtRest_174 : decode cX10_isAtRest 174 = .ok (.iinc 4 1, 3) := by decide +kernel
theorem dX10_isAtRest_177 : decode cX10_isAtRest 177 = .ok (.goto (-47), 3) := by decide +kernel
theorem dX10_isAtRest_180 : decode cX10_isAtRest 180 = .ok (.iinc 2 1, 3) := by decide +kernel
theorem dX10_isAtRest_183 : decode cX10_isAtRest 183 = .ok (.goto (-127), 3) := by decide +kernel
theorem dX10_isAtRest_186 : decode cX10_isAtRest 186 = .ok (.iload_n 1, 1) := by decide +kernel
theorem dX10_isAtRest_187 : decode cX10_isAtRest 187 = .ok (.ireturn, 1) := by decide +kernel
theorem dX10_takePrices_0 : decode cX10_takePrices 0 = .ok (.iload_n 1, 1) := by decide +kernel
theorem dX10_takePrices_1 : decode cX10_takePrices 1 = .ok (.istore_n 2, 1) := by decide +kernel
theorem dX10_takePrices_2 : decode cX10_takePrices 2 = .ok (.iconst 0, 1) := by decide +kernel
theorem dX10_takePrices_3 : decode cX10_takePrices 3 = .ok (.istore_n 3, 1) := by decide +kernel
theorem dX10_takePrices_4 : decode cX10_takePrices 4 = .ok (.aload_n 0, 1) := by decide +kernel
theorem dX10_takePrices_5 : decode cX10_takePrices 5 = .ok (.getfield 13, 3) := by decide +kernel
theorem dX10_takePrices_8 : decode cX10_takePrices 8 = .ok (.iconst 0, 1) := by decide +kernel
theorem dX10_takePrices_9 : decode cX10_takePrices 9 = .ok (.iaload, 1) := by decide +kernel
theorem dX10_takePrices_10 : decode cX10_takePrices 10 = .ok (.iconst 1, 1) := by decide +kernel
theorem dX10_takePrices_11 : decode cX10_takePrices 11 = .ok (.isub, 1) := by decide +kernel
theorem dX10_takePrices_12 : decode cX10_takePrices 12 = .ok (.istore 4, 2) := by decide +kernel
theorem dX10_takePrices_14 : decode cX10_takePrices 14 = .ok (.iload 4, 2) := by decide +kernel
theorem dX10_takePrices_16 : decode cX10_takePrices 16 = .ok (.ifCond .lt 35, 3) := by decide +kernel
theorem dX10_takePrices_19 : decode cX10_takePrices 19 = .ok (.aload_n 0, 1) := by decide +kernel
theorem dX10_takePrices_20 : decode cX10_takePrices 20 = .ok (.getfield 61, 3) := by decide +kernel
theorem dX10_takePrices_23 : decode cX10_takePrices 23 = .ok (.iload 4, 2) := by decide +kernel
theorem dX10_takePrices_25 : decode cX10_takePrices 25 = .ok (.iload_n 2, 1) := by decide +kernel
theorem dX10_takePrices_26 : decode cX10_takePrices 26 = .ok (.bipush 11, 2) := by decide +kernel
theorem dX10_takePrices_28 : decode cX10_takePrices 28 = .ok (.irem, 1) := by decide +kernel
theorem dX10_takePrices_29 : decode cX10_takePrices 29 = .ok (.iastore, 1) := by decide +kernel
theorem dX10_takePrices_30 : decode cX10_takePrices 30 = .ok (.iload_n 3, 1) := by decide +kernel
theorem dX10_takePrices_31 : decode cX10_takePrices 31 = .ok (.aload_n 0, 1) := by decide +kernel
theorem dX10_takePrices_32 : decode cX10_takePrices 32 = .ok (.getfield 61, 3) := by decide +kernel
theorem dX10_takePrices_35 : decode cX10_takePrices 35 = .ok (.iload 4, 2) := by decide +kernel
theorem dX10_takePrices_37 : decode cX10_takePrices 37 = .ok (.iaload, 1) := by decide +kernel
theorem dX10_takePrices_38 : decode cX10_takePrices 38 = .ok (.iadd, 1) := by decide +kernel
theorem dX10_takePrices_39 : decode cX10_takePrices 39 = .ok (.istore_n 3, 1) := by decide +kernel
theorem dX10_takePrices_40 : decode cX10_takePrices 40 = .ok (.iload_n 2, 1) := by decide +kernel
theorem dX10_takePrices_41 : decode cX10_takePrices 41 = .ok (.bipush 11, 2) := by decide +kernel
theorem dX10_takePrices_43 : decode cX10_takePrices 43 = .ok (.idiv, 1) := by decide +kernel
theorem dX10_takePrices_44 : decode cX10_takePrices 44 = .ok (.istore_n 2, 1) := by decide +kernel
theorem dX10_takePrices_45 : decode cX10_takePrices 45 = .ok (.iinc 4 (-1), 3) := by decide +kernel
theorem dX10_takePrices_48 : decode cX10_takePrices 48 = .ok (.goto (-34), 3) := by decide +kernel
theorem dX10_takePrices_51 : decode cX10_takePrices 51 = .ok (.iload_n 3, 1) := by decide +kernel
theorem dX10_takePrices_52 : decode cX10_takePrices 52 = .ok (.ireturn, 1) := by decide +kernel
theorem dX10_canRest_0 : decode cX10_canRest 0 = .ok (.iconst 0, 1) := by decide +kernel
theorem dX10_canRest_1 : decode cX10_canRest 1 = .ok (.istore_n 1, 1) := by decide +kernel
theorem dX10_canRest_2 : decode cX10_canRest 2 = .ok (.iload_n 1, 1) := by decide +kernel
theorem dX10_canRest_3 : decode cX10_canRest 3 = .ok (.aload_n 0, 1) := by decide +kernel
theorem dX10_canRest_4 : decode cX10_canRest 4 = .ok (.invokevirtual 200, 3) := by decide +kernel
theorem dX10_canRest_7 : decode cX10_canRest 7 = .ok (.if_icmp .ge 26, 3) := by decide +kernel
theorem dX10_canRest_10 : decode cX10_canRest 10 = .ok (.aload_n 0, 1) := by decide +kernel
theorem dX10_canRest_11 : decode cX10_canRest 11 = .ok (.iload_n 1, 1) := by decide +kernel
theorem dX10_canRest_12 : decode cX10_canRest 12 = .ok (.invokevirtual 203, 3) := by decide +kernel
theorem dX10_canRest_15 : decode cX10_canRest 15 = .ok (.ifCond .eq 12, 3) := by decide +kernel
theorem dX10_canRest_18 : decode cX10_canRest 18 = .ok (.aload_n 0, 1) := by decide +kernel
theorem dX10_canRest_19 : decode cX10_canRest 19 = .ok (.invokevirtual 206, 3) := by decide +kernel
theorem dX10_canRest_22 : decode cX10_canRest 22 = .ok (.ifCond .eq 5, 3) := by decide +kernel
theorem dX10_canRest_25 : decode cX10_canRest 25 = .ok (.iconst 1, 1) := by decide +kernel
theorem dX10_canRest_26 : decode cX10_canRest 26 = .ok (.ireturn, 1) := by decide +kernel
theorem dX10_canRest_27 : decode cX10_canRest 27 = .ok (.iinc 1 1, 3) := by decide +kernel
theorem dX10_canRest_30 : decode cX10_canRest 30 = .ok (.goto (-28), 3) := by decide +kernel
theorem dX10_canRest_33 : decode cX10_canRest 33 = .ok (.iconst 0, 1) := by decide +kernel
theorem dX10_canRest_34 : decode cX10_canRest 34 = .ok (.ireturn, 1) := by decide +kernel
theorem dX10_rest_0 : decode cX10_rest 0 = .ok (.iload_n 1, 1) := by decide +kernel
theorem dX10_rest_1 : decode cX10_rest 1 = .ok (.iconst (-1), 1) := by decide +kernel
theorem dX10_rest_2 : decode cX10_rest 2 = .ok (.if_icmp .eq 13, 3) := by decide +kernel
theorem dX10_rest_5 : decode cX10_rest 5 = .ok (.aload_n 0, 1) := by decide +kernel
theorem dX10_rest_6 : decode cX10_rest 6 = .ok (.iload_n 1, 1) := by decide +kernel
theorem dX10_rest_7 : decode cX10_rest 7 = .ok (.invokevirtual 188, 3) := by decide +kernel
theorem dX10_rest_10 : decode cX10_rest 10 = .ok (.ifCond .ne 5, 3) := by decide +kernel
theorem dX10_rest_13 : decode cX10_rest 13 = .ok (.iconst (-1), 1) := by decide +kernel
theorem dX10_rest_14 : decode cX10_rest 14 = .ok (.ireturn, 1) := by decide +kernel
theorem dX10_rest_15 : decode cX10_rest 15 = .ok (.aload_n 0, 1) := by decide +kernel
theorem dX10_rest_16 : decode cX10_rest 16 = .ok (.getfield 13, 3) := by decide +kernel
theorem dX10_rest_19 : decode cX10_rest 19 = .ok (.iconst 0, 1) := by decide +kernel
theorem dX10_rest_20 : decode cX10_rest 20 = .ok (.iaload, 1) := by decide +kernel
theorem dX10_rest_21 : decode cX10_rest 21 = .ok (.iconst 1, 1) := by decide +kernel
theorem dX10_rest_22 : decode cX10_rest 22 = .ok (.if_icmp .ne 8, 3) := by decide +kernel
theorem dX10_rest_25 : decode cX10_rest 25 = .ok (.bipush 11, 2) := by decide +kernel
theorem dX10_rest_27 : decode cX10_rest 27 = .ok (.goto 21, 3) := by decide +kernel
theorem dX10_rest_30 : decode cX10_rest 30 = .ok (.aload_n 0, 1) := by decide +kernel
theorem dX10_rest_31 : decode cX10_rest 31 = .ok (.getfield 13, 3) := by decide +kernel
theorem dX10_rest_34 : decode cX10_rest 34 = .ok (.iconst 0, 1) := by decide +kernel
theorem dX10_rest_35 : decode cX10_rest 35 = .ok (.iaload, 1) := by decide +kernel
theorem dX10_rest_36 : decode cX10_rest 36 = .ok (.iconst 2, 1) := by decide +kernel
theorem dX10_rest_37 : decode cX10_rest 37 = .ok (.if_icmp .ne 8, 3) := by decide +kernel
theorem dX10_rest_40 : decode cX10_rest 40 = .ok (.bipush 121, 2) := by decide +kernel
theorem dX10_rest_42 : decode cX10_rest 42 = .ok (.goto 6, 3) := by decide +kernel
theorem dX10_rest_45 : decode cX10_rest 45 = .ok (.sipush 1331, 3) := by decide +kernel
theorem dX10_rest_48 : decode cX10_rest 48 = .ok (.istore_n 3, 1) := by decide +kernel
theorem dX10_rest_49 : decode cX10_rest 49 = .ok (.bipush (-4), 2) := by decide +kernel
theorem dX10_rest_51 : decode cX10_rest 51 = .ok (.istore 4, 2) := by decide +kernel
theorem dX10_rest_53 : decode cX10_rest 53 = .ok (.iconst 0, 1) := by decide +kernel
theorem dX10_rest_54 : decode cX10_rest 54 = .ok (.istore 5, 2) := by decide +kernel
theorem dX10_rest_56 : decode cX10_rest 56 = .ok (.iconst 0, 1) := by decide +kernel
theorem dX10_rest_57 : decode cX10_rest 57 = .ok (.istore 6, 2) := by decide +kernel
theorem dX10_rest_59 : decode cX10_rest 59 = .ok (.iload 6, 2) := by decide +kernel
theorem dX10_rest_61 : decode cX10_rest 61 = .ok (.iload_n 3, 1) := by decide +kernel
theorem dX10_rest_62 : decode cX10_rest 62 = .ok (.if_icmp .ge 70, 3) := by decide +kernel
theorem dX10_rest_65 : decode cX10_rest 65 = .ok (.aload_n 0, 1) := by decide +kernel
theorem dX10_rest_66 : decode cX10_rest 66 = .ok (.iload 6, 2) := by decide +kernel
theorem dX10_rest_68 : decode cX10_rest 68 = .ok (.invokevirtual 209, 3) := by decide +kernel
theorem dX10_rest_71 : decode cX10_rest 71 = .ok (.istore 7, 2) := by decide +kernel
theorem dX10_rest_73 : decode cX10_rest 73 = .ok (.iload 4, 2) := by decide +kernel
theorem dX10_rest_75 : decode cX10_rest 75 = .ok (.ifCond .lt 24, 3) := by decide +kernel
theorem dX10_rest_78 : decode cX10_rest 78 = .ok (.iload_n 2, 1) := by decide +kernel
theorem dX10_rest_79 : decode cX10_rest 79 = .ok (.ifCond .eq 13, 3) := by decide +kernel
theorem dX10_rest_82 : decode cX10_rest 82 = .ok (.iload 7, 2) := by decide +kernel
theorem dX10_rest_84 : decode cX10_rest 84 = .ok (.iload 5, 2) := by decide +kernel
theorem dX10_rest_86 : decode cX10_rest 86 = .ok (.if_icmp .le 17, 3) := by decide +kernel
theorem dX10_rest_89 : decode cX10_rest 89 = .ok (.goto 10, 3) := by decide +kernel
theorem dX10_rest_92 : decode cX10_rest 92 = .ok (.iload 7, 2) := by decide +kernel
theorem dX10_rest_94 : decode cX10_rest 94 = .ok (.iload 5, 2) := by decide +kernel
theorem dX10_rest_96 : decode cX10_rest 96 = .ok (.if_icmp .ge 7, 3) := by decide +kernel
theorem dX10_rest_99 : decode cX10_rest 99 = .ok (.iconst 1, 1) := by decide +kernel
theorem dX10_rest_100 : decode cX10_rest 100 = .ok (.goto 4, 3) := by decide +kernel
theorem dX10_rest_103 : decode cX10_rest 103 = .ok (.iconst 0, 1) := by decide +kernel
theorem dX10_rest_104 : decode cX10_rest 104 = .ok (.istore 8, 2) := by decide +kernel
theorem dX10_rest_106 : decode cX10_rest 106 = .ok (.iload 8, 2) := by decide +kernel
theorem dX10_rest_108 : decode cX10_rest 108 = .ok (.ifCond .eq 18, 3) := by decide +kernel
theorem dX10_rest_111 : decode cX10_rest 111 = .ok (.aload_n 0, 1) := by decide +kernel
theorem dX10_rest_112 : decode cX10_rest 112 = .ok (.invokevirtual 212, 3) := by decide +kernel
theorem dX10_rest_115 : decode cX10_rest 115 = .ok (.ifCond .eq 11, 3) := by decide +kernel
theorem dX10_rest_118 : decode cX10_rest 118 = .ok (.iload 6, 2) := by decide +kernel
theorem dX10_rest_120 : decode cX10_rest 120 = .ok (.istore 4, 2) := by decide +kernel
theorem dX10_rest_122 : decode cX10_rest 122 = .ok (.iload 7, 2) := by decide +kernel
theorem dX10_rest_124 : decode cX10_rest 124 = .ok (.istore 5, 2) := by decide +kernel
theorem dX10_rest_126 : decode cX10_rest 126 = .ok (.iinc 6 1, 3) := by decide +kernel
theorem dX10_rest_129 : decode cX10_rest 129 = .ok (.goto (-70), 3) := by decide +kernel
theorem dX10_rest_132 : decode cX10_rest 132 = .ok (.iload 4, 2) := by decide +kernel
theorem dX10_rest_134 : decode cX10_rest 134 = .ok (.ifCond .ge 6, 3) := by decide +kernel
theorem dX10_rest_137 : decode cX10_rest 137 = .ok (.bipush (-4), 2) := by decide +kernel
theorem dX10_rest_139 : decode cX10_rest 139 = .ok (.ireturn, 1) := by decide +kernel
theorem dX10_rest_140 : decode cX10_rest 140 = .ok (.aload_n 0, 1) := by decide +kernel
theorem dX10_rest_141 : decode cX10_rest 141 = .ok (.iload 4, 2) := by decide +kernel
theorem dX10_rest_143 : decode cX10_rest 143 = .ok (.invokevirtual 209, 3) := by decide +kernel
theorem dX10_rest_146 : decode cX10_rest 146 = .ok (.pop, 1) := by decide +kernel
theorem dX10_rest_147 : decode cX10_rest 147 = .ok (.iload_n 1, 1) := by decide +kernel
theorem dX10_rest_148 : decode cX10_rest 148 = .ok (.ifCond .ge 8, 3) := by decide +kernel
theorem dX10_rest_151 : decode cX10_rest 151 = .ok (.iload 5, 2) := by decide +kernel
theorem dX10_rest_153 : decode cX10_rest 153 = .ok (.goto 9, 3) := by decide +kernel
theorem dX10_rest_156 : decode cX10_rest 156 = .ok (.aload_n 0, 1) := by decide +kernel
theorem dX10_rest_157 : decode cX10_rest 157 = .ok (.getfield 61, 3) := by decide +kernel
theorem dX10_rest_160 : decode cX10_rest 160 = .ok (.iload_n 1, 1) := by decide +kernel
theorem dX10_rest_161 : decode cX10_rest 161 = .ok (.iaload, 1) := by decide +kernel
theorem dX10_rest_162 : decode cX10_rest 162 = .ok (.ireturn, 1) := by decide +kernel
theorem dX10_sumOf_0 : decode cX10_sumOf 0 = .ok (.iconst 0, 1) := by decide +kernel
theorem dX10_sumOf_1 : decode cX10_sumOf 1 = .ok (.istore_n 2, 1) := by decide +kernel
theorem dX10_sumOf_2 : decode cX10_sumOf 2 = .ok (.iconst 0, 1) := by decide +kernel
theorem dX10_sumOf_3 : decode cX10_sumOf 3 = .ok (.istore_n 3, 1) := by decide +kernel
theorem dX10_sumOf_4 : decode cX10_sumOf 4 = .ok (.iload_n 3, 1) := by decide +kernel
theorem dX10_sumOf_5 : decode cX10_sumOf 5 = .ok (.aload_n 0, 1) := by decide +kernel
theorem dX10_sumOf_6 : decode cX10_sumOf 6 = .ok (.getfield 19, 3) := by decide +kernel
theorem dX10_sumOf_9 : decode cX10_sumOf 9 = .ok (.iconst 0, 1) := by decide +kernel
theorem dX10_sumOf_10 : decode cX10_sumOf 10 = .ok (.iaload, 1) := by decide +kernel
theorem dX10_sumOf_11 : decode cX10_sumOf 11 = .ok (.if_icmp .ge 51, 3) := by decide +kernel
theorem dX10_sumOf_14 : decode cX10_sumOf 14 = .ok (.iload_n 2, 1) := by decide +kernel
theorem dX10_sumOf_15 : decode cX10_sumOf 15 = .ok (.iload_n 3, 1) := by decide +kernel
theorem dX10_sumOf_16 : decode cX10_sumOf 16 = .ok (.iload_n 1, 1) := by decide +kernel
theorem dX10_sumOf_17 : decode cX10_sumOf 17 = .ok (.if_icmp .eq 18, 3) := by decide +kernel
theorem dX10_sumOf_20 : decode cX10_sumOf 20 = .ok (.aload_n 0, 1) := by decide +kernel
theorem dX10_sumOf_21 : decode cX10_sumOf 21 = .ok (.getfield 64, 3) := by decide +kernel
theorem dX10_sumOf_24 : decode cX10_sumOf 24 = .ok (.iload_n 3, 1) := by decide +kernel
theorem dX10_sumOf_25 : decode cX10_sumOf 25 = .ok (.iaload, 1) := by decide +kernel
theorem dX10_sumOf_26 : decode cX10_sumOf 26 = .ok (.aload_n 0, 1) := by decide +kernel
theorem dX10_sumOf_27 : decode cX10_sumOf 27 = .ok (.getfield 13, 3) := by decide +kernel
theorem dX10_sumOf_30 : decode cX10_sumOf 30 = .ok (.iconst 0, 1) := by decide +kernel
theorem dX10_sumOf_31 : decode cX10_sumOf 31 = .ok (.iaload, 1) := by decide +kernel
theorem dX10_sumOf_32 : decode cX10_sumOf 32 = .ok (.if_icmp .ne 7, 3) := by decide +kernel
theorem dX10_sumOf_35 : decode cX10_sumOf 35 = .ok (.iconst 0, 1) := by decide +kernel
theorem dX10_sumOf_36 : decode cX10_sumOf 36 = .ok (.goto 18, 3) := by decide +kernel
theorem dX10_sumOf_39 : decode cX10_sumOf 39 = .ok (.aload_n 0, 1) := by decide +kernel
theorem dX10_sumOf_40 : decode cX10_sumOf 40 = .ok (.getfield 25, 3) := by decide +kernel
theorem dX10_sumOf_43 : decode cX10_sumOf 43 = .ok (.iconst 3, 1) := by decide +kernel
theorem dX10_sumOf_44 : decode cX10_sumOf 44 = .ok (.iload_n 3, 1) := by decide +kernel
theorem dX10_sumOf_45 : decode cX10_sumOf 45 = .ok (.imul, 1) := by decide +kernel
theorem dX10_sumOf_46 : decode cX10_sumOf 46 = .ok (.aload_n 0, 1) := by decide +kernel
theorem dX10_sumOf_47 : decode cX10_sumOf 47 = .ok (.getfield 64, 3) := by decide +kernel
theorem dX10_sumOf_50 : decode cX10_sumOf 50 = .ok (.iload_n 3, 1) := by decide +kernel
theorem dX10_sumOf_51 : decode cX10_sumOf 51 = .ok (.iaload, 1) := by decide +kernel
theorem dX10_sumOf_52 : decode cX10_sumOf 52 = .ok (.iadd, 1) := by decide +kernel
theorem dX10_sumOf_53 : decode cX10_sumOf 53 = .ok (.iaload, 1) := by decide +kernel
theorem dX10_sumOf_54 : decode cX10_sumOf 54 = .ok (.iadd, 1) := by decide +kernel
theorem dX10_sumOf_55 : decode cX10_sumOf 55 = .ok (.istore_n 2, 1) := by decide +kernel
theorem dX10_sumOf_56 : decode cX10_sumOf 56 = .ok (.iinc 3 1, 3) := by decide +kernel
theorem dX10_sumOf_59 : decode cX10_sumOf 59 = .ok (.goto (-55), 3) := by decide +kernel
theorem dX10_sumOf_62 : decode cX10_sumOf 62 = .ok (.iload_n 2, 1) := by decide +kernel
theorem dX10_sumOf_63 : decode cX10_sumOf 63 = .ok (.ireturn, 1) := by decide +kernel
theorem dX10_bestWay_0 : decode cX10_bestWay 0 = .ok (.bipush (-4), 2) := by decide +kernel
theorem dX10_bestWay_2 : decode cX10_bestWay 2 = .ok (.istore_n 2, 1) := by decide +kernel
theorem dX10_bestWay_3 : decode cX10_bestWay 3 = .ok (.bipush (-4), 2) := by decide +kernel
theorem dX10_bestWay_5 : decode cX10_bestWay 5 = .ok (.istore_n 3, 1) := by decide +kernel
theorem dX10_bestWay_6 : decode cX10_bestWay 6 = .ok (.iconst 0, 1) := by decide +kernel
theorem dX10_bestWay_7 : decode cX10_bestWay 7 = .ok (.istore 4, 2) := by decide +kernel
theorem dX10_bestWay_9 : decode cX10_bestWay 9 = .ok (.iload 4, 2) := by decide +kernel
theorem dX10_bestWay_11 : decode cX10_bestWay 11 = .ok (.aload_n 0, 1) := by decide +kernel
theorem dX10_bestWay_12 : decode cX10_bestWay 12 = .ok (.invokevirtual 200, 3) := by decide +kernel
theorem dX10_bestWay_15 : decode cX10_bestWay 15 = .ok (.if_icmp .ge 88, 3) := by decide +kernel
theorem dX10_bestWay_18 : decode cX10_bestWay 18 = .ok (.aload_n 0, 1) := by decide +kernel
theorem dX10_bestWay_19 : decode cX10_bestWay 19 = .ok (.iload 4, 2) := by decide +kernel
theorem dX10_bestWay_21 : decode cX10_bestWay 21 = .ok (.invokevirtual 203, 3) := by decide +kernel
theorem dX10_bestWay_24 : decode cX10_bestWay 24 = .ok (.ifCond .eq 26, 3) := by decide +kernel
theorem dX10_bestWay_27 : decode cX10_bestWay 27 = .ok (.iload_n 1, 1) := by decide +kernel
theorem dX10_bestWay_28 : decode cX10_bestWay 28 = .ok (.ifCond .lt 18, 3) := by decide +kernel
theorem dX10_bestWay_31 : decode cX10_bestWay 31 = .ok (.aload_n 0, 1) := by decide +kernel
theorem dX10_bestWay_32 : decode cX10_bestWay 32 = .ok (.getfield 64, 3) := by decide +kernel
theorem dX10_bestWay_35 : decode cX10_bestWay 35 = .ok (.iload_n 1, 1) := by decide +kernel
theorem dX10_bestWay_36 : decode cX10_bestWay 36 = .ok (.iaload, 1) := by decide +kernel
theorem dX10_bestWay_37 : decode cX10_bestWay 37 = .ok (.aload_n 0, 1) := by decide +kernel
theorem dX10_bestWay_38 : decode cX10_bestWay 38 = .ok (.getfield 13, 3) := by decide +kernel
theorem dX10_bestWay_41 : decode cX10_bestWay 41 = .ok (.iconst 0, 1) := by decide +kernel
theorem dX10_bestWay_42 : decode cX10_bestWay 42 = .ok (.iaload, 1) := by decide +kernel
theorem dX10_bestWay_43 : decode cX10_bestWay 43 = .ok (.if_icmp .ne 7, 3) := by decide +kernel
theorem dX10_bestWay_46 : decode cX10_bestWay 46 = .ok (.iconst 1, 1) := by decide +kernel
theorem dX10_bestWay_47 : decode cX10_bestWay 47 = .ok (.goto 4, 3) := by decide +kernel
theorem dX10_bestWay_50 : decode cX10_bestWay 50 = .ok (.iconst 0, 1) := by decide +kernel
theorem dX10_bestWay_51 : decode cX10_bestWay 51 = .ok (.istore 5, 2) := by decide +kernel
theorem dX10_bestWay_53 : decode cX10_bestWay 53 = .ok (.iload 5, 2) := by decide +kernel
theorem dX10_bestWay_55 : decode cX10_bestWay 55 = .ok (.ifCond .eq 12, 3) := by decide +kernel
theorem dX10_bestWay_58 : decode cX10_bestWay 58 = .ok (.aload_n 0, 1) := by decide +kernel
theorem dX10_bestWay_59 : decode cX10_bestWay 59 = .ok (.bipush (-4), 2) := by decide +kernel
theorem dX10_bestWay_61 : decode cX10_bestWay 61 = .ok (.invokevirtual 215, 3) := by decide +kernel
theorem dX10_bestWay_64 : decode cX10_bestWay 64 = .ok (.goto 5, 3) := by decide +kernel
theorem dX10_bestWay_67 : decode cX10_bestWay 67 = .ok (.bipush (-4), 2) := by decide +kernel
theorem dX10_bestWay_69 : decode cX10_bestWay 69 = .ok (.istore 6, 2) := by decide +kernel
theorem dX10_bestWay_71 : decode cX10_bestWay 71 = .ok (.iload 6, 2) := by decide +kernel
theorem dX10_bestWay_73 : decode cX10_bestWay 73 = .ok (.iload_n 3, 1) := by decide +kernel
theorem dX10_bestWay_74 : decode cX10_bestWay 74 = .ok (.if_icmp .le 8, 3) := by decide +kernel
theorem dX10_bestWay_77 : decode cX10_bestWay 77 = .ok (.iload 4, 2) := by decide +kernel
theorem dX10_bestWay_79 : decode cX10_bestWay 79 = .ok (.goto 4, 3) := by decide +kernel
theorem dX10_bestWay_82 : decode cX10_bestWay 82 = .ok (.iload_n 2, 1) := by decide +kernel
theorem dX10_bestWay_83 : decode cX10_bestWay 83 = .ok (.istore_n 2, 1) := by decide +kernel
theorem dX10_bestWay_84 : decode cX10_bestWay 84 = .ok (.iload 6, 2) := by decide +kernel
theorem dX10_bestWay_86 : decode cX10_bestWay 86 = .ok (.iload_n 3, 1) := by decide +kernel
theorem dX10_bestWay_87 : decode cX10_bestWay 87 = .ok (.if_icmp .le 8, 3) := by decide +kernel
theorem dX10_bestWay_90 : decode cX10_bestWay 90 = .ok (.iload 6, 2) := by decide +kernel
theorem dX10_bestWay_92 : decode cX10_bestWay 92 = .ok (.goto 4, 3) := by decide +kernel
theorem dX10_bestWay_95 : decode cX10_bestWay 95 = .ok (.iload_n 3, 1) := by decide +kernel
theorem dX10_bestWay_96 : decode cX10_bestWay 96 = .ok (.istore_n 3, 1) := by decide +kernel
theorem dX10_bestWay_97 : decode cX10_bestWay 97 = .ok (.iinc 4 1, 3) := by decide +kernel
theorem dX10_bestWay_100 : decode cX10_bestWay 100 = .ok (.goto (-91), 3) := by decide +kernel
theorem dX10_bestWay_103 : decode cX10_bestWay 103 = .ok (.iload_n 2, 1) := by decide +kernel
theorem dX10_bestWay_104 : decode cX10_bestWay 104 = .ok (.ireturn, 1) := by decide +kernel
theorem dX10_joint_0 : decode cX10_joint 0 = .ok (.iload_n 1, 1) := by decide +kernel
theorem dX10_joint_1 : decode cX10_joint 1 = .ok (.iconst (-1), 1) := by decide +kernel
theorem dX10_joint_2 : decode cX10_joint 2 = .ok (.if_icmp .eq 13, 3) := by decide +kernel
theorem dX10_joint_5 : decode cX10_joint 5 = .ok (.aload_n 0, 1) := by decide +kernel
theorem dX10_joint_6 : decode cX10_joint 6 = .ok (.iload_n 1, 1) := by decide +kernel
theorem dX10_joint_7 : decode cX10_joint 7 = .ok (.invokevirtual 177, 3) := by decide +kernel
theorem dX10_joint_10 : decode cX10_joint 10 = .ok (.ifCond .ne 5, 3) := by decide +kernel
theorem dX10_joint_13 : decode cX10_joint 13 = .ok (.iconst (-1), 1) := by decide +kernel
theorem dX10_joint_14 : decode cX10_joint 14 = .ok (.ireturn, 1) := by decide +kernel
theorem dX10_joint_15 : decode cX10_joint 15 = .ok (.aload_n 0, 1) := by decide +kernel
theorem dX10_joint_16 : decode cX10_joint 16 = .ok (.aload_n 0, 1) := by decide +kernel
theorem dX10_joint_17 : decode cX10_joint 17 = .ok (.bipush (-4), 2) := by decide +kernel
theorem dX10_joint_19 : decode cX10_joint 19 = .ok (.invokevirtual 218, 3) := by decide +kernel
theorem dX10_joint_22 : decode cX10_joint 22 = .ok (.invokevirtual 203, 3) := by decide +kernel
theorem dX10_joint_25 : decode cX10_joint 25 = .ok (.pop, 1) := by decide +kernel
theorem dX10_joint_26 : decode cX10_joint 26 = .ok (.iload_n 1, 1) := by decide +kernel
theorem dX10_joint_27 : decode cX10_joint 27 = .ok (.ifCond .ge 12, 3) := by decide +kernel
theorem dX10_joint_30 : decode cX10_joint 30 = .ok (.aload_n 0, 1) := by decide +kernel
theorem dX10_joint_31 : decode cX10_joint 31 = .ok (.bipush (-4), 2) := by decide +kernel
theorem dX10_joint_33 : decode cX10_joint 33 = .ok (.invokevirtual 215, 3) := by decide +kernel
theorem dX10_joint_36 : decode cX10_joint 36 = .ok (.goto 29, 3) := by decide +kernel
theorem dX10_joint_39 : decode cX10_joint 39 = .ok (.aload_n 0, 1) := by decide +kernel
theorem dX10_joint_40 : decode cX10_joint 40 = .ok (.getfield 64, 3) := by decide +kernel
theorem dX10_joint_43 : decode cX10_joint 43 = .ok (.iload_n 1, 1) := by decide +kernel
theorem dX10_joint_44 : decode cX10_joint 44 = .ok (.iaload, 1) := by decide +kernel
theorem dX10_joint_45 : decode cX10_joint 45 = .ok (.aload_n 0, 1) := by decide +kernel
theorem dX10_joint_46 : decode cX10_joint 46 = .ok (.getfield 13, 3) := by decide +kernel
theorem dX10_joint_49 : decode cX10_joint 49 = .ok (.iconst 0, 1) := by decide +kernel
theorem dX10_joint_50 : decode cX10_joint 50 = .ok (.iaload, 1) := by decide +kernel
theorem dX10_joint_51 : decode cX10_joint 51 = .ok (.if_icmp .ne 8, 3) := by decide +kernel
theorem dX10_joint_54 : decode cX10_joint 54 = .ok (.bipush (-4), 2) := by decide +kernel
theorem dX10_joint_56 : decode cX10_joint 56 = .ok (.goto 9, 3) := by decide +kernel
theorem dX10_joint_59 : decode cX10_joint 59 = .ok (.aload_n 0, 1) := by decide +kernel
theorem dX10_joint_60 : decode cX10_joint 60 = .ok (.getfield 64, 3) := by decide +kernel
theorem dX10_joint_63 : decode cX10_joint 63 = .ok (.iload_n 1, 1) := by decide +kernel
theorem dX10_joint_64 : decode cX10_joint 64 = .ok (.iaload, 1) := by decide +kernel
theorem dX10_joint_65 : decode cX10_joint 65 = .ok (.ireturn, 1) := by decide +kernel
theorem dX10_pay_0 : decode cX10_pay 0 = .ok (.aload_n 0, 1) := by decide +kernel
theorem dX10_pay_1 : decode cX10_pay 1 = .ok (.iload_n 1, 1) := by decide +kernel
theorem dX10_pay_2 : decode cX10_pay 2 = .ok (.invokevirtual 177, 3) := by decide +kernel
theorem dX10_pay_5 : decode cX10_pay 5 = .ok (.ifCond .ne 5, 3) := by decide +kernel
theorem dX10_pay_8 : decode cX10_pay 8 = .ok (.iconst (-1), 1) := by decide +kernel
theorem dX10_pay_9 : decode cX10_pay 9 = .ok (.ireturn, 1) := by decide +kernel
theorem dX10_pay_10 : decode cX10_pay 10 = .ok (.aload_n 0, 1) := by decide +kernel
theorem dX10_pay_11 : decode cX10_pay 11 = .ok (.aload_n 0, 1) := by decide +kernel
theorem dX10_pay_12 : decode cX10_pay 12 = .ok (.iload_n 1, 1) := by decide +kernel
theorem dX10_pay_13 : decode cX10_pay 13 = .ok (.invokevirtual 218, 3) := by decide +kernel
theorem dX10_pay_16 : decode cX10_pay 16 = .ok (.invokevirtual 203, 3) := by decide +kernel
theorem dX10_pay_19 : decode cX10_pay 19 = .ok (.pop, 1) := by decide +kernel
theorem dX10_pay_20 : decode cX10_pay 20 = .ok (.aload_n 0, 1) := by decide +kernel
theorem dX10_pay_21 : decode cX10_pay 21 = .ok (.bipush (-4), 2) := by decide +kernel
theorem dX10_pay_23 : decode cX10_pay 23 = .ok (.invokevirtual 215, 3) := by decide +kernel
theorem dX10_pay_26 : decode cX10_pay 26 = .ok (.istore_n 2, 1) := by decide +kernel
theorem dX10_pay_27 : decode cX10_pay 27 = .ok (.aload_n 0, 1) := by decide +kernel
theorem dX10_pay_28 : decode cX10_pay 28 = .ok (.aload_n 0, 1) := by decide +kernel
theorem dX10_pay_29 : decode cX10_pay 29 = .ok (.bipush (-4), 2) := by decide +kernel
theorem dX10_pay_31 : decode cX10_pay 31 = .ok (.invokevirtual 218, 3) := by decide +kernel
theorem dX10_pay_34 : decode cX10_pay 34 = .ok (.invokevirtual 203, 3) := by decide +kernel
theorem dX10_pay_37 : decode cX10_pay 37 = .ok (.pop, 1) := by decide +kernel
theorem dX10_pay_38 : decode cX10_pay 38 = .ok (.iload_n 2, 1) := by decide +kernel
theorem dX10_pay_39 : decode cX10_pay 39 = .ok (.aload_n 0, 1) := by decide +kernel
theorem dX10_pay_40 : decode cX10_pay 40 = .ok (.iload_n 1, 1) := by decide +kernel
theorem dX10_pay_41 : decode cX10_pay 41 = .ok (.invokevirtual 215, 3) := by decide +kernel
theorem dX10_pay_44 : decode cX10_pay 44 = .ok (.isub, 1) := by decide +kernel
theorem dX10_pay_45 : decode cX10_pay 45 = .ok (.ireturn, 1) := by decide +kernel
theorem dX10_seen_0 : decode cX10_seen 0 = .ok (.aload_n 0, 1) := by decide +kernel
theorem dX10_seen_1 : decode cX10_seen 1 = .ok (.iload_n 1, 1) := by decide +kernel
theorem dX10_seen_2 : decode cX10_seen 2 = .ok (.invokevirtual 188, 3) := by decide +kernel
theorem dX10_seen_5 : decode cX10_seen 5 = .ok (.ifCond .eq 15, 3) := by decide +kernel
theorem dX10_seen_8 : decode cX10_seen 8 = .ok (.iload_n 2, 1) := by decide +kernel
theorem dX10_seen_9 : decode cX10_seen 9 = .ok (.i2l, 1) := by decide +kernel
theorem dX10_seen_10 : decode cX10_seen 10 = .ok (.lconst 0, 1) := by decide +kernel
theorem dX10_seen_11 : decode cX10_seen 11 = .ok (.ldc2_w 108, 3) := by decide +kernel
theorem dX10_seen_14 : decode cX10_seen 14 = .ok (.invokestatic 79, 3) := by decide +kernel
theorem dX10_seen_17 : decode cX10_seen 17 = .ok (.ifCond .ne 5, 3) := by decide +kernel
theorem dX10_seen_20 : decode cX10_seen 20 = .ok (.iconst (-1), 1) := by decide +kernel
theorem dX10_seen_21 : decode cX10_seen 21 = .ok (.ireturn, 1) := by decide +kernel
theorem dX10_seen_22 : decode cX10_seen 22 = .ok (.aload_n 0, 1) := by decide +kernel
theorem dX10_seen_23 : decode cX10_seen 23 = .ok (.getfield 128, 3) := by decide +kernel
theorem dX10_seen_26 : decode cX10_seen 26 = .ok (.bipush 6, 2) := by decide +kernel
theorem dX10_seen_28 : decode cX10_seen 28 = .ok (.if_icmp .ne 6, 3) := by decide +kernel
theorem dX10_seen_31 : decode cX10_seen 31 = .ok (.bipush (-3), 2) := by decide +kernel
theorem dX10_seen_33 : decode cX10_seen 33 = .ok (.ireturn, 1) := by decide +kernel
theorem dX10_seen_34 : decode cX10_seen 34 = .ok (.aload_n 0, 1) := by decide +kernel
theorem dX10_seen_35 : decode cX10_seen 35 = .ok (.getfield 40, 3) := by decide +kernel
theorem dX10_seen_38 : decode cX10_seen 38 = .ok (.aload_n 0, 1) := by decide +kernel
theorem dX10_seen_39 : decode cX10_seen 39 = .ok (.getfield 128, 3) := by decide +kernel
theorem dX10_seen_42 : decode cX10_seen 42 = .ok (.iload_n 1, 1) := by decide +kernel
theorem dX10_seen_43 : decode cX10_seen 43 = .ok (.iastore, 1) := by decide +kernel
theorem dX10_seen_44 : decode cX10_seen 44 = .ok (.aload_n 0, 1) := by decide +kernel
theorem dX10_seen_45 : decode cX10_seen 45 = .ok (.getfield 43, 3) := by decide +kernel
theorem dX10_seen_48 : decode cX10_seen 48 = .ok (.aload_n 0, 1) := by decide +kernel
theorem dX10_seen_49 : decode cX10_seen 49 = .ok (.getfield 128, 3) := by decide +kernel
theorem dX10_seen_52 : decode cX10_seen 52 = .ok (.iload_n 2, 1) := by decide +kernel
theorem dX10_seen_53 : decode cX10_seen 53 = .ok (.iastore, 1) := by decide +kernel
theorem dX10_seen_54 : decode cX10_seen 54 = .ok (.aload_n 0, 1) := by decide +kernel
theorem dX10_seen_55 : decode cX10_seen 55 = .ok (.dup, 1) := by decide +kernel
theorem dX10_seen_56 : decode cX10_seen 56 = .ok (.getfield 128, 3) := by decide +kernel
theorem dX10_seen_59 : decode cX10_seen 59 = .ok (.iconst 1, 1) := by decide +kernel
theorem dX10_seen_60 : decode cX10_seen 60 = .ok (.iadd, 1) := by decide +kernel
theorem dX10_seen_61 : decode cX10_seen 61 = .ok (.putfield 128, 3) := by decide +kernel
theorem dX10_seen_64 : decode cX10_seen 64 = .ok (.aload_n 0, 1) := by decide +kernel
theorem dX10_seen_65 : decode cX10_seen 65 = .ok (.getfield 128, 3) := by decide +kernel
theorem dX10_seen_68 : decode cX10_seen 68 = .ok (.ireturn, 1) := by decide +kernel
theorem dX10_forget_0 : decode cX10_forget 0 = .ok (.aload_n 0, 1) := by decide +kernel
theorem dX10_forget_1 : decode cX10_forget 1 = .ok (.getfield 128, 3) := by decide +kernel
theorem dX10_forget_4 : decode cX10_forget 4 = .ok (.istore_n 1, 1) := by decide +kernel
theorem dX10_forget_5 : decode cX10_forget 5 = .ok (.aload_n 0, 1) := by decide +kernel
theorem dX10_forget_6 : decode cX10_forget 6 = .ok (.iconst 0, 1) := by decide +kernel
theorem dX10_forget_7 : decode cX10_forget 7 = .ok (.putfield 128, 3) := by decide +kernel
theorem dX10_forget_10 : decode cX10_forget 10 = .ok (.iload_n 1, 1) := by decide +kernel
theorem dX10_forget_11 : decode cX10_forget 11 = .ok (.ireturn, 1) := by decide +kernel
theorem dX10_isSeenSo_0 : decode cX10_isSeenSo 0 = .ok (.aload_n 0, 1) := by decide +kernel
theorem dX10_isSeenSo_1 : decode cX10_isSeenSo 1 = .ok (.iload_n 1, 1) := by decide +kernel
theorem dX10_isSeenSo_2 : decode cX10_isSeenSo 2 = .ok (.invokevirtual 182, 3) := by decide +kernel
theorem dX10_isSeenSo_5 : decode cX10_isSeenSo 5 = .ok (.iconst 1, 1) := by decide +kernel
theorem dX10_isSeenSo_6 : decode cX10_isSeenSo 6 = .ok (.istore_n 2, 1) := by decide +kernel
theorem dX10_isSeenSo_7 : decode cX10_isSeenSo 7 = .ok (.iconst 0, 1) := by decide +kernel
theorem dX10_isSeenSo_8 : decode cX10_isSeenSo 8 = .ok (.istore_n 3, 1) := by decide +kernel
theorem dX10_isSeenSo_9 : decode cX10_isSeenSo 9 = .ok (.iload_n 3, 1) := by decide +kernel
theorem dX10_isSeenSo_10 : decode cX10_isSeenSo 10 = .ok (.aload_n 0, 1) := by decide +kernel
theorem dX10_isSeenSo_11 : decode cX10_isSeenSo 11 = .ok (.getfield 128, 3) := by decide +kernel
theorem dX10_isSeenSo_14 : decode cX10_isSeenSo 14 = .ok (.if_icmp .ge 38, 3) := by decide +kernel
theorem dX10_isSeenSo_17 : decode cX10_isSeenSo 17 = .ok (.iload_n 2, 1) := by decide +kernel
theorem dX10_isSeenSo_18 : decode cX10_isSeenSo 18 = .ok (.ifCond .eq 26, 3) := by decide +kernel
theorem dX10_isSeenSo_21 : decode cX10_isSeenSo 21 = .ok (.aload_n 0, 1) := by decide +kernel
theorem dX10_isSeenSo_22 : decode cX10_isSeenSo 22 = .ok (.aload_n 0, 1) := by decide +kernel
theorem dX10_isSeenSo_23 : decode cX10_isSeenSo 23 = .ok (.getfield 40, 3) := by decide +kernel
theorem dX10_isSeenSo_26 : decode cX10_isSeenSo 26 = .ok (.iload_n 3, 1) := by decide +kernel
theorem dX10_isSeenSo_27 : decode cX10_isSeenSo 27 = .ok (.iaload, 1) := by decide +kernel
theorem dX10_isSeenSo_28 : decode cX10_isSeenSo 28 = .ok (.invokevirtual 194, 3) := by decide +kernel
theorem dX10_isSeenSo_31 : decode cX10_isSeenSo 31 = .ok (.aload_n 0, 1) := by decide +kernel
theorem dX10_isSeenSo_32 : decode cX10_isSeenSo 32 = .ok (.getfield 43, 3) := by decide +kernel
theorem dX10_isSeenSo_35 : decode cX10_isSeenSo 35 = .ok (.iload_n 3, 1) := by decide +kernel
theorem dX10_isSeenSo_36 : decode cX10_isSeenSo 36 = .ok (.iaload, 1) := by decide +kernel
theorem dX10_isSeenSo_37 : decode cX10_isSeenSo 37 = .ok (.if_icmp .ne 7, 3) := by decide +kernel
theorem dX10_isSeenSo_40 : decode cX10_isSeenSo 40 = .ok (.iconst 1, 1) := by decide +kernel
theorem dX10_isSeenSo_41 : decode cX10_isSeenSo 41 = .ok (.goto 4, 3) := by decide +kernel
theorem dX10_isSeenSo_44 : decode cX10_isSeenSo 44 = .ok (.iconst 0, 1) := by decide +kernel
theorem dX10_isSeenSo_45 : decode cX10_isSeenSo 45 = .ok (.istore_n 2, 1) := by decide +kernel
theorem dX10_isSeenSo_46 : decode cX10_isSeenSo 46 = .ok (.iinc 3 1, 3) := by decide +kernel
theorem dX10_isSeenSo_49 : decode cX10_isSeenSo 49 = .ok (.goto (-40), 3) := by decide +kernel
theorem dX10_isSeenSo_52 : decode cX10_isSeenSo 52 = .ok (.iload_n 2, 1) := by decide +kernel
theorem dX10_isSeenSo_53 : decode cX10_isSeenSo 53 = .ok (.ireturn, 1) := by decide +kernel
theorem dX10_cousins_0 : decode cX10_cousins 0 = .ok (.aload_n 0, 1) := by decide +kernel
theorem dX10_cousins_1 : decode cX10_cousins 1 = .ok (.bipush (-4), 2) := by decide +kernel
theorem dX10_cousins_3 : decode cX10_cousins 3 = .ok (.invokevirtual 221, 3) := by decide +kernel
theorem dX10_cousins_6 : decode cX10_cousins 6 = .ok (.ifCond .eq 8, 3) := by decide +kernel
theorem dX10_cousins_9 : decode cX10_cousins 9 = .ok (.bipush 32, 2) := by decide +kernel
theorem dX10_cousins_11 : decode cX10_cousins 11 = .ok (.goto 4, 3) := by decide +kernel
theorem dX10_cousins_14 : decode cX10_cousins 14 = .ok (.iconst 0, 1) := by decide +kernel
theorem dX10_cousins_15 : decode cX10_cousins 15 = .ok (.istore_n 1, 1) := by decide +kernel
theorem dX10_cousins_16 : decode cX10_cousins 16 = .ok (.iconst 0, 1) := by decide +kernel
theorem dX10_cousins_17 : decode cX10_cousins 17 = .ok (.istore_n 2, 1) := by decide +kernel
theorem dX10_cousins_18 : decode cX10_cousins 18 = .ok (.iload_n 2, 1) := by decide +kernel
theorem dX10_cousins_19 : decode cX10_cousins 19 = .ok (.aload_n 0, 1) := by decide +kernel
theorem dX10_cousins_20 : decode cX10_cousins 20 = .ok (.getfield 19, 3) := by decide +kernel
theorem dX10_cousins_23 : decode cX10_cousins 23 = .ok (.iconst 0, 1) := by decide +kernel
theorem dX10_cousins_24 : decode cX10_cousins 24 = .ok (.iaload, 1) := by decide +kernel
theorem dX10_cousins_25 : decode cX10_cousins 25 = .ok (.if_icmp .ge 27, 3) := by decide +kernel
theorem dX10_cousins_28 : decode cX10_cousins 28 = .ok (.iload_n 1, 1) := by decide +kernel
theorem dX10_cousins_29 : decode cX10_cousins 29 = .ok (.aload_n 0, 1) := by decide +kernel
theorem dX10_cousins_30 : decode cX10_cousins 30 = .ok (.iload_n 2, 1) := by decide +kernel
theorem dX10_cousins_31 : decode cX10_cousins 31 = .ok (.invokevirtual 221, 3) := by decide +kernel
theorem dX10_cousins_34 : decode cX10_cousins 34 = .ok (.ifCond .eq 9, 3) := by decide +kernel
theorem dX10_cousins_37 : decode cX10_cousins 37 = .ok (.iconst 1, 1) := by decide +kernel
theorem dX10_cousins_38 : decode cX10_cousins 38 = .ok (.iload_n 2, 1) := by decide +kernel
theorem dX10_cousins_39 : decode cX10_cousins 39 = .ok (.ishl, 1) := by decide +kernel
theorem dX10_cousins_40 : decode cX10_cousins 40 = .ok (.goto 4, 3) := by decide +kernel
theorem dX10_cousins_43 : decode cX10_cousins 43 = .ok (.iconst 0, 1) := by decide +kernel
theorem dX10_cousins_44 : decode cX10_cousins 44 = .ok (.ior, 1) := by decide +kernel
theorem dX10_cousins_45 : decode cX10_cousins 45 = .ok (.istore_n 1, 1) := by decide +kernel
theorem dX10_cousins_46 : decode cX10_cousins 46 = .ok (.iinc 2 1, 3) := by decide +kernel
theorem dX10_cousins_49 : decode cX10_cousins 49 = .ok (.goto (-31), 3) := by decide +kernel
theorem dX10_cousins_52 : decode cX10_cousins 52 = .ok (.iload_n 1, 1) := by decide +kernel
theorem dX10_cousins_53 : decode cX10_cousins 53 = .ok (.ireturn, 1) := by decide +kernel
theorem dX10_span_0 : decode cX10_span 0 = .ok (.aload_n 0, 1) := by decide +kernel
theorem dX10_span_1 : decode cX10_span 1 = .ok (.iload_n 1, 1) := by decide +kernel
theorem dX10_span_2 : decode cX10_span 2 = .ok (.invokevirtual 177, 3) := by decide +kernel
theorem dX10_span_5 : decode cX10_span 5 = .ok (.ifCond .eq 21, 3) := by decide +kernel
theorem dX10_span_8 : decode cX10_span 8 = .ok (.aload_n 0, 1) := by decide +kernel
theorem dX10_span_9 : decode cX10_span 9 = .ok (.iload_n 2, 1) := by decide +kernel
theorem dX10_span_10 : decode cX10_span 10 = .ok (.invokevirtual 188, 3) := by decide +kernel
theorem dX10_span_13 : decode cX10_span 13 = .ok (.ifCond .eq 13, 3) := by decide +kernel
theorem dX10_span_16 : decode cX10_span 16 = .ok (.iload_n 3, 1) := by decide +kernel
theorem dX10_span_17 : decode cX10_span 17 = .ok (.i2l, 1) := by decide +kernel
theorem dX10_span_18 : decode cX10_span 18 = .ok (.lconst 0, 1) := by decide +kernel
theorem dX10_span_19 : decode cX10_span 19 = .ok (.lconst 1, 1) := by decide +kernel
theorem dX10_span_20 : decode cX10_span 20 = .ok (.invokestatic 79, 3) := by decide +kernel
theorem dX10_span_23 : decode cX10_span 23 = .ok (.ifCond .ne 5, 3) := by decide +kernel
theorem dX10_span_26 : decode cX10_span 26 = .ok (.iconst (-1), 1) := by decide +kernel
theorem dX10_span_27 : decode cX10_span 27 = .ok (.ireturn, 1) := by decide +kernel
theorem dX10_span_28 : decode cX10_span 28 = .ok (.aload_n 0, 1) := by decide +kernel
theorem dX10_span_29 : decode cX10_span 29 = .ok (.bipush (-4), 2) := by decide +kernel
theorem dX10_span_31 : decode cX10_span 31 = .ok (.invokevirtual 171, 3) := by decide +kernel
theorem dX10_span_34 : decode cX10_span 34 = .ok (.iconst 0, 1) := by decide +kernel
theorem dX10_span_35 : decode cX10_span 35 = .ok (.istore 4, 2) := by decide +kernel
theorem dX10_span_37 : decode cX10_span 37 = .ok (.iload 4, 2) := by decide +kernel
theorem dX10_span_39 : decode cX10_span 39 = .ok (.iload_n 2, 1) := by decide +kernel
theorem dX10_span_40 : decode cX10_span 40 = .ok (.if_icmp .ge 16, 3) := by decide +kernel
theorem dX10_span_43 : decode cX10_span 43 = .ok (.aload_n 0, 1) := by decide +kernel
theorem dX10_span_44 : decode cX10_span 44 = .ok (.iload 4, 2) := by decide +kernel
theorem dX10_span_46 : decode cX10_span 46 = .ok (.iconst 0, 1) := by decide +kernel
theorem dX10_span_47 : decode cX10_span 47 = .ok (.invokevirtual 174, 3) := by decide +kernel
theorem dX10_span_50 : decode cX10_span 50 = .ok (.iinc 4 1, 3) := by decide +kernel
theorem dX10_span_53 : decode cX10_span 53 = .ok (.goto (-16), 3) := by decide +kernel
theorem dX10_span_56 : decode cX10_span 56 = .ok (.aload_n 0, 1) := by decide +kernel
theorem dX10_span_57 : decode cX10_span 57 = .ok (.getfield 49, 3) := by decide +kernel
theorem dX10_span_60 : decode cX10_span 60 = .ok (.iload_n 1, 1) := by decide +kernel
theorem dX10_span_61 : decode cX10_span 61 = .ok (.iaload, 1) := by decide +kernel
theorem dX10_span_62 : decode cX10_span 62 = .ok (.ifCond .lt 14, 3) := by decide +kernel
theorem dX10_span_65 : decode cX10_span 65 = .ok (.iload_n 3, 1) := by decide +kernel
theorem dX10_span_66 : decode cX10_span 66 = .ok (.ifCond .ne 7, 3) := by decide +kernel
theorem dX10_span_69 : decode cX10_span 69 = .ok (.iconst 0, 1) := by decide +kernel
theorem dX10_span_70 : decode cX10_span 70 = .ok (.goto 5, 3) := by decide +kernel
theorem dX10_span_73 : decode cX10_span 73 = .ok (.bipush 10, 2) := by decide +kernel
theorem dX10_span_75 : decode cX10_span 75 = .ok (.ireturn, 1) := by decide +kernel
theorem dX10_span_76 : decode cX10_span 76 = .ok (.aload_n 0, 1) := by decide +kernel
theorem dX10_span_77 : decode cX10_span 77 = .ok (.iload_n 2, 1) := by decide +kernel
theorem dX10_span_78 : decode cX10_span 78 = .ok (.iconst 0, 1) := by decide +kernel
theorem dX10_span_79 : decode cX10_span 79 = .ok (.invokevirtual 174, 3) := by decide +kernel
theorem dX10_span_82 : decode cX10_span 82 = .ok (.iconst 0, 1) := by decide +kernel
theorem dX10_span_83 : decode cX10_span 83 = .ok (.istore 4, 2) := by decide +kernel
theorem dX10_span_85 : decode cX10_span 85 = .ok (.aload_n 0, 1) := by decide +kernel
theorem dX10_span_86 : decode cX10_span 86 = .ok (.iload_n 1, 1) := by decide +kernel
theorem dX10_span_87 : decode cX10_span 87 = .ok (.iload_n 2, 1) := by decide +kernel
theorem dX10_span_88 : decode cX10_span 88 = .ok (.invokevirtual 134, 3) := by decide +kernel
theorem dX10_span_91 : decode cX10_span 91 = .ok (.istore 5, 2) := by decide +kernel
theorem dX10_span_93 : decode cX10_span 93 = .ok (.iconst 1, 1) := by decide +kernel
theorem dX10_span_94 : decode cX10_span 94 = .ok (.istore 6, 2) := by decide +kernel
theorem dX10_span_96 : decode cX10_span 96 = .ok (.iload 6, 2) := by decide +kernel
theorem dX10_span_98 : decode cX10_span 98 = .ok (.aload_n 0, 1) := by decide +kernel
theorem dX10_span_99 : decode cX10_span 99 = .ok (.getfield 155, 3) := by decide +kernel
theorem dX10_span_102 : decode cX10_span 102 = .ok (.if_icmp .gt 28, 3) := by decide +kernel
theorem dX10_span_105 : decode cX10_span 105 = .ok (.iload 5, 2) := by decide +kernel
theorem dX10_span_107 : decode cX10_span 107 = .ok (.iload 6, 2) := by decide +kernel
theorem dX10_span_109 : decode cX10_span 109 = .ok (.if_icmp .lt 21, 3) := by decide +kernel
theorem dX10_span_112 : decode cX10_span 112 = .ok (.iload 6, 2) := by decide +kernel
theorem dX10_span_114 : decode cX10_span 114 = .ok (.istore 4, 2) := by decide +kernel
theorem dX10_span_116 : decode cX10_span 116 = .ok (.iload 6, 2) := by decide +kernel
theorem dX10_span_118 : decode cX10_span 118 = .ok (.aload_n 0, 1) := by decide +kernel
theorem dX10_span_119 : decode cX10_span 119 = .ok (.getfield 34, 3) := by decide +kernel
theorem dX10_span_122 : decode cX10_span 122 = .ok (.iconst 0, 1) := by decide +kernel
theorem dX10_span_123 : decode cX10_span 123 = .ok (.iaload, 1) := by decide +kernel
theorem dX10_span_124 : decode cX10_span 124 = .ok (.iadd, 1) := by decide +kernel
theorem dX10_span_125 : decode cX10_span 125 = .ok (.istore 6, 2) := by decide +kernel
theorem dX10_span_127 : decode cX10_span 127 = .ok (.goto (-31), 3) := by decide +kernel
theorem dX10_span_130 : decode cX10_span 130 = .ok (.iload_n 3, 1) := by decide +kernel
theorem dX10_span_131 : decode cX10_span 131 = .ok (.ifCond .ne 8, 3) := by decide +kernel
theorem dX10_span_134 : decode cX10_span 134 = .ok (.iload 4, 2) := by decide +kernel
theorem dX10_span_136 : decode cX10_span 136 = .ok (.goto 21, 3) := by decide +kernel
theorem dX10_span_139 : decode cX10_span 139 = .ok (.iload 6, 2) := by decide +kernel
theorem dX10_span_141 : decode cX10_span 141 = .ok (.aload_n 0, 1) := by decide +kernel
theorem dX10_span_142 : decode cX10_span 142 = .ok (.getfield 155, 3) := by decide +kernel
theorem dX10_span_145 : decode cX10_span 145 = .ok (.if_icmp .le 8, 3) := by decide +kernel
theorem dX10_span_148 : decode cX10_span 148 = .ok (.bipush 10, 2) := by decide +kernel
theorem dX10_span_150 : decode cX10_span 150 = .ok (.goto 7, 3) := by decide +kernel
theorem dX10_span_153 : decode cX10_span 153 = .ok (.iload 6, 2) := by decide +kernel
theorem dX10_span_155 : decode cX10_span 155 = .ok (.iconst 1, 1) := by decide +kernel
theorem dX10_span_156 : decode cX10_span 156 = .ok (.isub, 1) := by decide +kernel
theorem dX10_span_157 : decode cX10_span 157 = .ok (.ireturn, 1) := by decide +kernel
theorem dX10_year_0 : decode cX10_year 0 = .ok (.iload_n 1, 1) := by decide +kernel
theorem dX10_year_1 : decode cX10_year 1 = .ok (.i2l, 1) := by decide +kernel
theorem dX10_year_2 : decode cX10_year 2 = .ok (.lconst 0, 1) := by decide +kernel
theorem dX10_year_3 : decode cX10_year 3 = .ok (.ldc2_w 224, 3) := by decide +kernel
theorem dX10_year_6 : decode cX10_year 6 = .ok (.invokestatic 79, 3) := by decide +kernel
theorem dX10_year_9 : decode cX10_year 9 = .ok (.ifCond .eq 13, 3) := by decide +kernel
theorem dX10_year_12 : decode cX10_year 12 = .ok (.iload_n 2, 1) := by decide +kernel
theorem dX10_year_13 : decode cX10_year 13 = .ok (.i2l, 1) := by decide +kernel
theorem dX10_year_14 : decode cX10_year 14 = .ok (.lconst 0, 1) := by decide +kernel
theorem dX10_year_15 : decode cX10_year 15 = .ok (.lconst 1, 1) := by decide +kernel
theorem dX10_year_16 : decode cX10_year 16 = .ok (.invokestatic 79, 3) := by decide +kernel
theorem dX10_year_19 : decode cX10_year 19 = .ok (.ifCond .ne 5, 3) := by decide +kernel
theorem dX10_year_22 : decode cX10_year 22 = .ok (.iconst (-1), 1) := by decide +kernel
theorem dX10_year_23 : decode cX10_year 23 = .ok (.ireturn, 1) := by decide +kernel
theorem dX10_year_24 : decode cX10_year 24 = .ok (.iconst 0, 1) := by decide +kernel
theorem dX10_year_25 : decode cX10_year 25 = .ok (.istore_n 3, 1) := by decide +kernel
theorem dX10_year_26 : decode cX10_year 26 = .ok (.iload_n 3, 1) := by decide +kernel
theorem dX10_year_27 : decode cX10_year 27 = .ok (.bipush 15, 2) := by decide +kernel
theorem dX10_year_29 : decode cX10_year 29 = .ok (.if_icmp .ge 69, 3) := by decide +kernel
theorem dX10_year_32 : decode cX10_year 32 = .ok (.ldc2_w 226, 3) := by decide +kernel
theorem dX10_year_35 : decode cX10_year 35 = .ok (.iload_n 1, 1) := by decide +kernel
theorem dX10_year_36 : decode cX10_year 36 = .ok (.i2l, 1) := by decide +kernel
theorem dX10_year_37 : decode cX10_year 37 = .ok (.lmul, 1) := by decide +kernel
theorem dX10_year_38 : decode cX10_year 38 = .ok (.ldc2_w 228, 3) := by decide +kernel
theorem dX10_year_41 : decode cX10_year 41 = .ok (.iload_n 3, 1) := by decide +kernel
theorem dX10_year_42 : decode cX10_year 42 = .ok (.iconst 3, 1) := by decide +kernel
theorem dX10_year_43 : decode cX10_year 43 = .ok (.idiv, 1) := by decide +kernel
theorem dX10_year_44 : decode cX10_year 44 = .ok (.i2l, 1) := by decide +kernel
theorem dX10_year_45 : decode cX10_year 45 = .ok (.lmul, 1) := by decide +kernel
theorem dX10_year_46 : decode cX10_year 46 = .ok (.ladd, 1) := by decide +kernel
theorem dX10_year_47 : decode cX10_year 47 = .ok (.ldc2_w 230, 3) := by decide +kernel
theorem dX10_year_50 : decode cX10_year 50 = .ok (.iload_n 3, 1) := by decide +kernel
theorem dX10_year_51 : decode cX10_year 51 = .ok (.iconst 3, 1) := by decide +kernel
theorem dX10_year_52 : decode cX10_year 52 = .ok (.irem, 1) := by decide +kernel
theorem dX10_year_53 : decode cX10_year 53 = .ok (.i2l, 1) := by decide +kernel
theorem dX10_year_54 : decode cX10_year 54 = .ok (.lmul, 1) := by decide +kernel
theorem dX10_year_55 : decode cX10_year 55 = .ok (.ladd, 1) := by decide +kernel
theorem dX10_year_56 : decode cX10_year 56 = .ok (.lconst 1, 1) := by decide +kernel
theorem dX10_year_57 : decode cX10_year 57 = .ok (.ladd, 1) := by decide +kernel
theorem dX10_year_58 : decode cX10_year 58 = .ok (.lstore 4, 2) := by decide +kernel
theorem dX10_year_60 : decode cX10_year 60 = .ok (.aload_n 0, 1) := by decide +kernel
theorem dX10_year_61 : decode cX10_year 61 = .ok (.getfield 70, 3) := by decide +kernel
theorem dX10_year_64 : decode cX10_year 64 = .ok (.iload_n 3, 1) := by decide +kernel
theorem dX10_year_65 : decode cX10_year 65 = .ok (.aload_n 0, 1) := by decide +kernel
theorem dX10_year_66 : decode cX10_year 66 = .ok (.getfield 25, 3) := by decide +kernel
theorem dX10_year_69 : decode cX10_year 69 = .ok (.iload_n 3, 1) := by decide +kernel
theorem dX10_year_70 : decode cX10_year 70 = .ok (.iaload, 1) := by decide +kernel
theorem dX10_year_71 : decode cX10_year 71 = .ok (.iastore, 1) := by decide +kernel
theorem dX10_year_72 : decode cX10_year 72 = .ok (.aload_n 0, 1) := by decide +kernel
theorem dX10_year_73 : decode cX10_year 73 = .ok (.getfield 25, 3) := by decide +kernel
theorem dX10_year_76 : decode cX10_year 76 = .ok (.iload_n 3, 1) := by decide +kernel
theorem dX10_year_77 : decode cX10_year 77 = .ok (.lload 4, 2) := by decide +kernel
theorem dX10_year_79 : decode cX10_year 79 = .ok (.lload 4, 2) := by decide +kernel
theorem dX10_year_81 : decode cX10_year 81 = .ok (.lmul, 1) := by decide +kernel
theorem dX10_year_82 : decode cX10_year 82 = .ok (.ldc2_w 232, 3) := by decide +kernel
theorem dX10_year_85 : decode cX10_year 85 = .ok (.lrem, 1) := by decide +kernel
theorem dX10_year_86 : decode cX10_year 86 = .ok (.ldc2_w 234, 3) := by decide +kernel
theorem dX10_year_89 : decode cX10_year 89 = .ok (.lrem, 1) := by decide +kernel
theorem dX10_year_90 : decode cX10_year 90 = .ok (.l2i, 1) := by decide +kernel
theorem dX10_year_91 : decode cX10_year 91 = .ok (.iastore, 1) := by decide +kernel
theorem dX10_year_92 : decode cX10_year 92 = .ok (.iinc 3 1, 3) := by decide +kernel
theorem dX10_year_95 : decode cX10_year 95 = .ok (.goto (-69), 3) := by decide +kernel
theorem dX10_year_98 : decode cX10_year 98 = .ok (.aload_n 0, 1) := by decide +kernel
theorem dX10_year_99 : decode cX10_year 99 = .ok (.bipush (-4), 2) := by decide +kernel
theorem dX10_year_101 : decode cX10_year 101 = .ok (.invokevirtual 182, 3) := by decide +kernel
theorem dX10_year_104 : decode cX10_year 104 = .ok (.iconst 0, 1) := by decide +kernel
theorem dX10_year_105 : decode cX10_year 105 = .ok (.istore_n 3, 1) := by decide +kernel
theorem dX10_year_106 : decode cX10_year 106 = .ok (.iconst 0, 1) := by decide +kernel
theorem dX10_year_107 : decode cX10_year 107 = .ok (.istore 4, 2) := by decide +kernel
theorem dX10_year_109 : decode cX10_year 109 = .ok (.iconst 0, 1) := by decide +kernel
theorem dX10_year_110 : decode cX10_year 110 = .ok (.istore 5, 2) := by decide +kernel
theorem dX10_year_112 : decode cX10_year 112 = .ok (.iload 5, 2) := by decide +kernel
theorem dX10_year_114 : decode cX10_year 114 = .ok (.aload_n 0, 1) := by decide +kernel
theorem dX10_year_115 : decode cX10_year 115 = .ok (.getfield 19, 3) := by decide +kernel
theorem dX10_year_118 : decode cX10_year 118 = .ok (.iconst 0, 1) := by decide +kernel
theorem dX10_year_119 : decode cX10_year 119 = .ok (.iaload, 1) := by decide +kernel
theorem dX10_year_120 : decode cX10_year 120 = .ok (.if_icmp .ge 19, 3) := by decide +kernel
theorem dX10_year_123 : decode cX10_year 123 = .ok (.iload_n 3, 1) := by decide +kernel
theorem dX10_year_124 : decode cX10_year 124 = .ok (.aload_n 0, 1) := by decide +kernel
theorem dX10_year_125 : decode cX10_year 125 = .ok (.getfield 52, 3) := by decide +kernel
theorem dX10_year_128 : decode cX10_year 128 = .ok (.iload 5, 2) := by decide +kernel
theorem dX10_year_130 : decode cX10_year 130 = .ok (.iaload, 1) := by decide +kernel
theorem dX10_year_131 : decode cX10_year 131 = .ok (.iadd, 1) := by decide +kernel
theorem dX10_year_132 : decode cX10_year 132 = .ok (.istore_n 3, 1) := by decide +kernel
theorem dX10_year_133 : decode cX10_year 133 = .ok (.iinc 5 1, 3) := by decide +kernel
theorem dX10_year_136 : decode cX10_year 136 = .ok (.goto (-24), 3) := by decide +kernel
theorem dX10_year_139 : decode cX10_year 139 = .ok (.iconst 0, 1) := by decide +kernel
theorem dX10_year_140 : decode cX10_year 140 = .ok (.istore 5, 2) := by decide +kernel
theorem dX10_year_142 : decode cX10_year 142 = .ok (.iload 5, 2) := by decide +kernel
theorem dX10_year_144 : decode cX10_year 144 = .ok (.aload_n 0, 1) := by decide +kernel
theorem dX10_year_145 : decode cX10_year 145 = .ok (.getfield 13, 3) := by decide +kernel
theorem dX10_year_148 : decode cX10_year 148 = .ok (.iconst 0, 1) := by decide +kernel
theorem dX10_year_149 : decode cX10_year 149 = .ok (.iaload, 1) := by decide +kernel
theorem dX10_year_150 : decode cX10_year 150 = .ok (.if_icmp .ge 28, 3) := by decide +kernel
theorem dX10_year_153 : decode cX10_year 153 = .ok (.iload 4, 2) := by decide +kernel
theorem dX10_year_155 : decode cX10_year 155 = .ok (.aload_n 0, 1) := by decide +kernel
theorem dX10_year_156 : decode cX10_year 156 = .ok (.iload 5, 2) := by decide +kernel
theorem dX10_year_158 : decode cX10_year 158 = .ok (.invokevirtual 191, 3) := by decide +kernel
theorem dX10_year_161 : decode cX10_year 161 = .ok (.ifCond .ne 7, 3) := by decide +kernel
theorem dX10_year_164 : decode cX10_year 164 = .ok (.iconst 1, 1) := by decide +kernel
theorem dX10_year_165 : decode cX10_year 165 = .ok (.goto 4, 3) := by decide +kernel
theorem dX10_year_168 : decode cX10_year 168 = .ok (.iconst 0, 1) := by decide +kernel
theorem dX10_year_169 : decode cX10_year 169 = .ok (.iadd, 1) := by decide +kernel
theorem dX10_year_170 : decode cX10_year 170 = .ok (.istore 4, 2) := by decide +kernel
theorem dX10_year_172 : decode cX10_year 172 = .ok (.iinc 5 1, 3) := by decide +kernel
theorem dX10_year_175 : decode cX10_year 175 = .ok (.goto (-33), 3) := by decide +kernel
theorem dX10_year_178 : decode cX10_year 178 = .ok (.iconst 0, 1) := by decide +kernel
theorem dX10_year_179 : decode cX10_year 179 = .ok (.istore 5, 2) := by decide +kernel
theorem dX10_year_181 : decode cX10_year 181 = .ok (.iload 5, 2) := by decide +kernel
theorem dX10_year_183 : decode cX10_year 183 = .ok (.bipush 15, 2) := by decide +kernel
theorem dX10_year_185 : decode cX10_year 185 = .ok (.if_icmp .ge 23, 3) := by decide +kernel
theorem dX10_year_188 : decode cX10_year 188 = .ok (.aload_n 0, 1) := by decide +kernel
theorem dX10_year_189 : decode cX10_year 189 = .ok (.getfield 25, 3) := by decide +kernel
theorem dX10_year_192 : decode cX10_year 192 = .ok (.iload 5, 2) := by decide +kernel
theorem dX10_year_194 : decode cX10_year 194 = .ok (.aload_n 0, 1) := by decide +kernel
theorem dX10_year_195 : decode cX10_year 195 = .ok (.getfield 70, 3) := by decide +kernel
theorem dX10_year_198 : decode cX10_year 198 = .ok (.iload 5, 2) := by decide +kernel
theorem dX10_year_200 : decode cX10_year 200 = .ok (.iaload, 1) := by decide +kernel
theorem dX10_year_201 : decode cX10_year 201 = .ok (.iastore, 1) := by decide +kernel
theorem dX10_year_202 : decode cX10_year 202 = .ok (.iinc 5 1, 3) := by decide +kernel
theorem dX10_year_205 : decode cX10_year 205 = .ok (.goto (-24), 3) := by decide +kernel
theorem dX10_year_208 : decode cX10_year 208 = .ok (.iload_n 2, 1) := by decide +kernel
theorem dX10_year_209 : decode cX10_year 209 = .ok (.ifCond .ne 7, 3) := by decide +kernel
theorem dX10_year_212 : decode cX10_year 212 = .ok (.iload_n 3, 1) := by decide +kernel
theorem dX10_year_213 : decode cX10_year 213 = .ok (.goto 5, 3) := by decide +kernel
theorem dX10_year_216 : decode cX10_year 216 = .ok (.iload 4, 2) := by decide +kernel
theorem dX10_year_218 : decode cX10_year 218 = .ok (.ireturn, 1) := by decide +kernel
theorem dX10_keep_0 : decode cX10_keep 0 = .ok (.aload_n 0, 1) := by decide +kernel
theorem dX10_keep_1 : decode cX10_keep 1 = .ok (.getfield 122, 3) := by decide +kernel
theorem dX10_keep_4 : decode cX10_keep 4 = .ok (.iconst 2, 1) := by decide +kernel
theorem dX10_keep_5 : decode cX10_keep 5 = .ok (.if_icmp .ne 6, 3) := by decide +kernel
theorem dX10_keep_8 : decode cX10_keep 8 = .ok (.bipush (-3), 2) := by decide +kernel
theorem dX10_keep_10 : decode cX10_keep 10 = .ok (.ireturn, 1) := by decide +kernel
theorem dX10_keep_11 : decode cX10_keep 11 = .ok (.aload_n 0, 1) := by decide +kernel
theorem dX10_keep_12 : decode cX10_keep 12 = .ok (.dup, 1) := by decide +kernel
theorem dX10_keep_13 : decode cX10_keep 13 = .ok (.getfield 122, 3) := by decide +kernel
theorem dX10_keep_16 : decode cX10_keep 16 = .ok (.iconst 1, 1) := by decide +kernel
theorem dX10_keep_17 : decode cX10_keep 17 = .ok (.iadd, 1) := by decide +kernel
theorem dX10_keep_18 : decode cX10_keep 18 = .ok (.putfield 122, 3) := by decide +kernel
theorem dX10_keep_21 : decode cX10_keep 21 = .ok (.aload_n 0, 1) := by decide +kernel
theorem dX10_keep_22 : decode cX10_keep 22 = .ok (.iconst 0, 1) := by decide +kernel
theorem dX10_keep_23 : decode cX10_keep 23 = .ok (.iconst 1, 1) := by decide +kernel
theorem dX10_keep_24 : decode cX10_keep 24 = .ok (.aload_n 0, 1) := by decide +kernel
theorem dX10_keep_25 : decode cX10_keep 25 = .ok (.getfield 122, 3) := by decide +kernel
theorem dX10_keep_28 : decode cX10_keep 28 = .ok (.iadd, 1) := by decide +kernel
theorem dX10_keep_29 : decode cX10_keep 29 = .ok (.invokevirtual 118, 3) := by decide +kernel
theorem dX10_keep_32 : decode cX10_keep 32 = .ok (.aload_n 0, 1) := by decide +kernel
theorem dX10_keep_33 : decode cX10_keep 33 = .ok (.getfield 122, 3) := by decide +kernel
theorem dX10_keep_36 : decode cX10_keep 36 = .ok (.ireturn, 1) := by decide +kernel
theorem dX10_back_0 : decode cX10_back 0 = .ok (.aload_n 0, 1) := by decide +kernel
theorem dX10_back_1 : decode cX10_back 1 = .ok (.getfield 122, 3) := by decide +kernel
theorem dX10_back_4 : decode cX10_back 4 = .ok (.ifCond .ne 6, 3) := by decide +kernel
theorem dX10_back_7 : decode cX10_back 7 = .ok (.bipush (-2), 2) := by decide +kernel
theorem dX10_back_9 : decode cX10_back 9 = .ok (.ireturn, 1) := by decide +kernel
theorem dX10_back_10 : decode cX10_back 10 = .ok (.aload_n 0, 1) := by decide +kernel
theorem dX10_back_11 : decode cX10_back 11 = .ok (.iconst 1, 1) := by decide +kernel
theorem dX10_back_12 : decode cX10_back 12 = .ok (.aload_n 0, 1) := by decide +kernel
theorem dX10_back_13 : decode cX10_back 13 = .ok (.getfield 122, 3) := by decide +kernel
theorem dX10_back_16 : decode cX10_back 16 = .ok (.iadd, 1) := by decide +kernel
theorem dX10_back_17 : decode cX10_back 17 = .ok (.iconst 0, 1) := by decide +kernel
theorem dX10_back_18 : decode cX10_back 18 = .ok (.invokevirtual 118, 3) := by decide +kernel
theorem dX10_back_21 : decode cX10_back 21 = .ok (.aload_n 0, 1) := by decide +kernel
theorem dX10_back_22 : decode cX10_back 22 = .ok (.dup, 1) := by decide +kernel
theorem dX10_back_23 : decode cX10_back 23 = .ok (.getfield 122, 3) := by decide +kernel
theorem dX10_back_26 : decode cX10_back 26 = .ok (.iconst 1, 1) := by decide +kernel
theorem dX10_back_27 : decode cX10_back 27 = .ok (.isub, 1) := by decide +kernel
theorem dX10_back_28 : decode cX10_back 28 = .ok (.putfield 122, 3) := by decide +kernel
theorem dX10_back_31 : decode cX10_back 31 = .ok (.aload_n 0, 1) := by decide +kernel
theorem dX10_back_32 : decode cX10_back 32 = .ok (.iconst 0, 1) := by decide +kernel
theorem dX10_back_33 : decode cX10_back 33 = .ok (.putfield 125, 3) := by decide +kernel
theorem dX10_back_36 : decode cX10_back 36 = .ok (.aload_n 0, 1) := by decide +kernel
theorem dX10_back_37 : decode cX10_back 37 = .ok (.getfield 122, 3) := by decide +kernel
theorem dX10_back_40 : decode cX10_back 40 = .ok (.ireturn, 1) := by decide +kernel
theorem dX10_count_0 : decode cX10_count 0 = .ok (.iload_n 1, 1) := by decide +kernel
theorem dX10_count_1 : decode cX10_count 1 = .ok (.tableswitch 95 0 7 #[47, 54, 61, 68, 75, 80, 85, 90], 47) := by decide +kernel
theorem dX10_count_48 : decode cX10_count 48 = .ok (.aload_n 0, 1) := by decide +kernel
theorem dX10_count_49 : decode cX10_count 49 = .ok (.getfield 13, 3) := by decide +kernel
theorem dX10_count_52 : decode cX10_count 52 = .ok (.iconst 0, 1) := by decide +kernel
theorem dX10_count_53 : decode cX10_count 53 = .ok (.iaload, 1) := by decide +kernel
theorem dX10_count_54 : decode cX10_count 54 = .ok (.ireturn, 1) := by decide +kernel
theorem dX10_count_55 : decode cX10_count 55 = .ok (.aload_n 0, 1) := by decide +kernel
theorem dX10_count_56 : decode cX10_count 56 = .ok (.getfield 19, 3) := by decide +kernel
theorem dX10_count_59 : decode cX10_count 59 = .ok (.iconst 0, 1) := by decide +kernel
theorem dX10_count_60 : decode cX10_count 60 = .ok (.iaload, 1) := by decide +kernel
theorem dX10_count_61 : decode cX10_count 61 = .ok (.ireturn, 1) := by decide +kernel
theorem dX10_count_62 : decode cX10_count 62 = .ok (.aload_n 0, 1) := by decide +kernel
theorem dX10_count_63 : decode cX10_count 63 = .ok (.getfield 31, 3) := by decide +kernel
theorem dX10_count_66 : decode cX10_count 66 = .ok (.iconst 0, 1) := by decide +kernel
theorem dX10_count_67 : decode cX10_count 67 = .ok (.iaload, 1) := by decide +kernel
theorem dX10_count_68 : decode cX10_count 68 = .ok (.ireturn, 1) := by decide +kernel
theorem dX10_count_69 : decode cX10_count 69 = .ok (.aload_n 0, 1) := by decide +kernel
theorem dX10_count_70 : decode cX10_count 70 = .ok (.getfield 34, 3) := by decide +kernel
theorem dX10_count_73 : decode cX10_count 73 = .ok (.iconst 0, 1) := by decide +kernel
theorem dX10_count_74 : decode cX10_count 74 = .ok (.iaload, 1) := by decide +kernel
theorem dX10_count_75 : decode cX10_count 75 = .ok (.ireturn, 1) := by decide +kernel
theorem dX10_count_76 : decode cX10_count 76 = .ok (.aload_n 0, 1) := by decide +kernel
theorem dX10_count_77 : decode cX10_count 77 = .ok (.getfield 128, 3) := by decide +kernel
theorem dX10_count_80 : decode cX10_count 80 = .ok (.ireturn, 1) := by decide +kernel
theorem dX10_count_81 : decode cX10_count 81 = .ok (.aload_n 0, 1) := by decide +kernel
theorem dX10_count_82 : decode cX10_count 82 = .ok (.getfield 125, 3) := by decide +kernel
theorem dX10_count_85 : decode cX10_count 85 = .ok (.ireturn, 1) := by decide +kernel
theorem dX10_count_86 : decode cX10_count 86 = .ok (.aload_n 0, 1) := by decide +kernel
theorem dX10_count_87 : decode cX10_count 87 = .ok (.getfield 122, 3) := by decide +kernel
theorem dX10_count_90 : decode cX10_count 90 = .ok (.ireturn, 1) := by decide +kernel
theorem dX10_count_91 : decode cX10_count 91 = .ok (.aload_n 0, 1) := by decide +kernel
theorem dX10_count_92 : decode cX10_count 92 = .ok (.getfield 83, 3) := by decide +kernel
theorem dX10_count_95 : decode cX10_count 95 = .ok (.ireturn, 1) := by decide +kernel
theorem dX10_count_96 : decode cX10_count 96 = .ok (.iconst (-1), 1) := by decide +kernel
theorem dX10_count_97 : decode cX10_count 97 = .ok (.ireturn, 1) := by decide +kernel
end
section
theorem dL_law_0 : decode cL_law 0 = .ok (.new 7, 3) := by decide +kernel
theorem dL_law_3 : decode cL_law 3 = .ok (.dup, 1) := by decide +kernel
theorem dL_law_4 : decode cL_law 4 = .ok (.invokespecial 9, 3) := by decide +kernel
theorem dL_law_7 : decode cL_law 7 = .ok (.astore_n 1, 1) := by decide +kernel
theorem dL_law_8 : decode cL_law 8 = .ok (.new 10, 3) := by decide +kernel
theorem dL_law_11 : decode cL_law 11 = .ok (.dup, 1) := by decide +kernel
theorem dL_law_12 : decode cL_law 12 = .ok (.invokespecial 12, 3) := by decide +kernel
theorem dL_law_15 : decode cL_law 15 = .ok (.astore_n 2, 1) := by decide +kernel
theorem dL_law_16 : decode cL_law 16 = .ok (.iconst 0, 1) := by decide +kernel
theorem dL_law_17 : decode cL_law 17 = .ok (.istore_n 3, 1) := by decide +kernel
theorem dL_law_18 : decode cL_law 18 = .ok (.iload_n 3, 1) := by decide +kernel
theorem dL_law_19 : decode cL_law 19 = .ok (.aload_n 0, 1) := by decide +kernel
theorem dL_law_20 : decode cL_law 20 = .ok (.arraylength, 1) := by decide +kernel
theorem dL_law_21 : decode cL_law 21 = .ok (.iconst 4, 1) := by decide +kernel
theorem dL_law_22 : decode cL_law 22 = .ok (.isub, 1) := by decide +kernel
theorem dL_law_23 : decode cL_law 23 = .ok (.if_icmp .gt 812, 3) := by decide +kernel
theorem dL_law_26 : decode cL_law 26 = .ok (.aload_n 0, 1) := by decide +kernel
theorem dL_law_27 : decode cL_law 27 = .ok (.iload_n 3, 1) := by decide +kernel
theorem dL_law_28 : decode cL_law 28 = .ok (.iaload, 1) := by decide +kernel
theorem dL_law_29 : decode cL_law 29 = .ok (.bipush 31, 2) := by decide +kernel
theorem dL_law_31 : decode cL_law 31 = .ok (.iand, 1) := by decide +kernel
theorem dL_law_32 : decode cL_law 32 = .ok (.tableswitch 797 0 24 #[116, 179, 192, 205, 218, 251, 284, 327, 350, 383, 406, 429, 442, 475, 518, 567, 590, 613, 646, 659, 672, 715, 748, 761, 774], 116) := by decide +kernel
theorem dL_law_148 : decode cL_law 148 = .ok (.aload_n 1, 1) := by decide +kernel
theorem dL_law_149 : decode cL_law 149 = .ok (.aload_n 0, 1) := by decide +kernel
theorem dL_law_150 : decode cL_law 150 = .ok (.iload_n 3, 1) := by decide +kernel
theorem dL_law_151 : decode cL_law 151 = .ok (.iconst 1, 1) := by decide +kernel
theorem dL_law_152 : decode cL_law 152 = .ok (.iadd, 1) := by decide +kernel
theorem dL_law_153 : decode cL_law 153 = .ok (.iaload, 1) := by decide +kernel
theorem dL_law_154 : decode cL_law 154 = .ok (.aload_n 0, 1) := by decide +kernel
theorem dL_law_155 : decode cL_law 155 = .ok (.iload_n 3, 1) := by decide +kernel
theorem dL_law_156 : decode cL_law 156 = .ok (.iconst 2, 1) := by decide +kernel
theorem dL_law_157 : decode cL_law 157 = .ok (.iadd, 1) := by decide +kernel
theorem dL_law_158 : decode cL_law 158 = .ok (.iaload, 1) := by decide +kernel
theorem dL_law_159 : decode cL_law 159 = .ok (.i2l, 1) := by decide +kernel
theorem dL_law_160 : decode cL_law 160 = .ok (.bipush 32, 2) := by decide +kernel
theorem dL_law_162 : decode cL_law 162 = .ok (.lshl, 1) := by decide +kernel
theorem dL_law_163 : decode cL_law 163 = .ok (.aload_n 0, 1) := by decide +kernel
theorem dL_law_164 : decode cL_law 164 = .ok (.iload_n 3, 1) := by decide +kernel
theorem dL_law_165 : decode cL_law 165 = .ok (.iconst 3, 1) := by decide +kernel
theorem dL_law_166 : decode cL_law 166 = .ok (.iadd, 1) := by decide +kernel
theorem dL_law_167 : decode cL_law 167 = .ok (.iaload, 1) := by decide +kernel
theorem dL_law_168 : decode cL_law 168 = .ok (.i2l, 1) := by decide +kernel
theorem dL_law_169 : decode cL_law 169 = .ok (.ldc2_w 13, 3) := by decide +kernel
theorem dL_law_172 : decode cL_law 172 = .ok (.land, 1) := by decide +kernel
theorem dL_law_173 : decode cL_law 173 = .ok (.lor, 1) := by decide +kernel
theorem dL_law_174 : decode cL_law 174 = .ok (.invokevirtual 15, 3) := by decide +kernel
theorem dL_law_177 : decode cL_law 177 = .ok (.aload_n 2, 1) := by decide +kernel
theorem dL_law_178 : decode cL_law 178 = .ok (.aload_n 0, 1) := by decide +kernel
theorem dL_law_179 : decode cL_law 179 = .ok (.iload_n 3, 1) := by decide +kernel
theorem dL_law_180 : decode cL_law 180 = .ok (.iconst 1, 1) := by decide +kernel
theorem dL_law_181 : decode cL_law 181 = .ok (.iadd, 1) := by decide +kernel
theorem dL_law_182 : decode cL_law 182 = .ok (.iaload, 1) := by decide +kernel
theorem dL_law_183 : decode cL_law 183 = .ok (.aload_n 0, 1) := by decide +kernel
theorem dL_law_184 : decode cL_law 184 = .ok (.iload_n 3, 1) := by decide +kernel
theorem dL_law_185 : decode cL_law 185 = .ok (.iconst 2, 1) := by decide +kernel
theorem dL_law_186 : decode cL_law 186 = .ok (.iadd, 1) := by decide +kernel
theorem dL_law_187 : decode cL_law 187 = .ok (.iaload, 1) := by decide +kernel
theorem dL_law_188 : decode cL_law 188 = .ok (.i2l, 1) := by decide +kernel
theorem dL_law_189 : decode cL_law 189 = .ok (.bipush 32, 2) := by decide +kernel
theorem dL_law_191 : decode cL_law 191 = .ok (.lshl, 1) := by decide +kernel
theorem dL_law_192 : decode cL_law 192 = .ok (.aload_n 0, 1) := by decide +kernel
theorem dL_law_193 : decode cL_law 193 = .ok (.iload_n 3, 1) := by decide +kernel
theorem dL_law_194 : decode cL_law 194 = .ok (.iconst 3, 1) := by decide +kernel
theorem dL_law_195 : decode cL_law 195 = .ok (.iadd, 1) := by decide +kernel
theorem dL_law_196 : decode cL_law 196 = .ok (.iaload, 1) := by decide +kernel
theorem dL_law_197 : decode cL_law 197 = .ok (.i2l, 1) := by decide +kernel
theorem dL_law_198 : decode cL_law 198 = .ok (.ldc2_w 13, 3) := by decide +kernel
theorem dL_law_201 : decode cL_law 201 = .ok (.land, 1) := by decide +kernel
theorem dL_law_202 : decode cL_law 202 = .ok (.lor, 1) := by decide +kernel
theorem dL_law_203 : decode cL_law 203 = .ok (.invokevirtual 19, 3) := by decide +kernel
theorem dL_law_206 : decode cL_law 206 = .ok (.if_icmp .eq 623, 3) := by decide +kernel
theorem dL_law_209 : decode cL_law 209 = .ok (.iconst 0, 1) := by decide +kernel
theorem dL_law_210 : decode cL_law 210 = .ok (.ireturn, 1) := by decide +kernel
theorem dL_law_211 : decode cL_law 211 = .ok (.aload_n 1, 1) := by decide +kernel
theorem dL_law_212 : decode cL_law 212 = .ok (.invokevirtual 20, 3) := by decide +kernel
theorem dL_law_215 : decode cL_law 215 = .ok (.aload_n 2, 1) := by decide +kernel
theorem dL_law_216 : decode cL_law 216 = .ok (.invokevirtual 24, 3) := by decide +kernel
theorem dL_law_219 : decode cL_law 219 = .ok (.if_icmp .eq 610, 3) := by decide +kernel
theorem dL_law_222 : decode cL_law 222 = .ok (.iconst 0, 1) := by decide +kernel
theorem dL_law_223 : decode cL_law 223 = .ok (.ireturn, 1) := by decide +kernel
theorem dL_law_224 : decode cL_law 224 = .ok (.aload_n 1, 1) := by decide +kernel
theorem dL_law_225 : decode cL_law 225 = .ok (.invokevirtual 25, 3) := by decide +kernel
theorem dL_law_228 : decode cL_law 228 = .ok (.aload_n 2, 1) := by decide +kernel
theorem dL_law_229 : decode cL_law 229 = .ok (.invokevirtual 28, 3) := by decide +kernel
theorem dL_law_232 : decode cL_law 232 = .ok (.if_icmp .eq 597, 3) := by decide +kernel
theorem dL_law_235 : decode cL_law 235 = .ok (.iconst 0, 1) := by decide +kernel
theorem dL_law_236 : decode cL_law 236 = .ok (.ireturn, 1) := by decide +kernel
theorem dL_law_237 : decode cL_law 237 = .ok (.aload_n 1, 1) := by decide +kernel
theorem dL_law_238 : decode cL_law 238 = .ok (.invokevirtual 29, 3) := by decide +kernel
theorem dL_law_241 : decode cL_law 241 = .ok (.aload_n 2, 1) := by decide +kernel
theorem dL_law_242 : decode cL_law 242 = .ok (.invokevirtual 32, 3) := by decide +kernel
theorem dL_law_245 : decode cL_law 245 = .ok (.if_icmp .eq 584, 3) := by decide +kernel
theorem dL_law_248 : decode cL_law 248 = .ok (.iconst 0, 1) := by decide +kernel
theorem dL_law_249 : decode cL_law 249 = .ok (.ireturn, 1) := by decide +kernel
theorem dL_law_250 : decode cL_law 250 = .ok (.aload_n 1, 1) := by decide +kernel
theorem dL_law_251 : decode cL_law 251 = .ok (.aload_n 0, 1) := by decide +kernel
theorem dL_law_252 : decode cL_law 252 = .ok (.iload_n 3, 1) := by decide +kernel
theorem dL_law_253 : decode cL_law 253 = .ok (.iconst 1, 1) := by decide +kernel
theorem dL_law_254 : decode cL_law 254 = .ok (.iadd, 1) := by decide +kernel
theorem dL_law_255 : decode cL_law 255 = .ok (.iaload, 1) := by decide +kernel
theorem dL_law_256 : decode cL_law 256 = .ok (.aload_n 0, 1) := by decide +kernel
theorem dL_law_257 : decode cL_law 257 = .ok (.iload_n 3, 1) := by decide +kernel
theorem dL_law_258 : decode cL_law 258 = .ok (.iconst 2, 1) := by decide +kernel
theorem dL_law_259 : decode cL_law 259 = .ok (.iadd, 1) := by decide +kernel
theorem dL_law_260 : decode cL_law 260 = .ok (.iaload, 1) := by decide +kernel
theorem dL_law_261 : decode cL_law 261 = .ok (.invokevirtual 33, 3) := by decide +kernel
theorem dL_law_264 : decode cL_law 264 = .ok (.aload_n 2, 1) := by decide +kernel
theorem dL_law_265 : decode cL_law 265 = .ok (.aload_n 0, 1) := by decide +kernel
theorem dL_law_266 : decode cL_law 266 = .ok (.iload_n 3, 1) := by decide +kernel
theorem dL_law_267 : decode cL_law 267 = .ok (.iconst 1, 1) := by decide +kernel
theorem dL_law_268 : decode cL_law 268 = .ok (.iadd, 1) := by decide +kernel
theorem dL_law_269 : decode cL_law 269 = .ok (.iaload, 1) := by decide +kernel
theorem dL_law_270 : decode cL_law 270 = .ok (.aload_n 0, 1) := by decide +kernel
theorem dL_law_271 : decode cL_law 271 = .ok (.iload_n 3, 1) := by decide +kernel
theorem dL_law_272 : decode cL_law 272 = .ok (.iconst 2, 1) := by decide +kernel
theorem dL_law_273 : decode cL_law 273 = .ok (.iadd, 1) := by decide +kernel
theorem dL_law_274 : decode cL_law 274 = .ok (.iaload, 1) := by decide +kernel
theorem dL_law_275 : decode cL_law 275 = .ok (.invokevirtual 37, 3) := by decide +kernel
theorem dL_law_278 : decode cL_law 278 = .ok (.if_icmp .eq 551, 3) := by decide +kernel
theorem dL_law_281 : decode cL_law 281 = .ok (.iconst 0, 1) := by decide +kernel
theorem dL_law_282 : decode cL_law 282 = .ok (.ireturn, 1) := by decide +kernel
theorem dL_law_283 : decode cL_law 283 = .ok (.aload_n 1, 1) := by decide +kernel
theorem dL_law_284 : decode cL_law 284 = .ok (.aload_n 0, 1) := by decide +kernel
theorem dL_law_285 : decode cL_law 285 = .ok (.iload_n 3, 1) := by decide +kernel
theorem dL_law_286 : decode cL_law 286 = .ok (.iconst 1, 1) := by decide +kernel
theorem dL_law_287 : decode cL_law 287 = .ok (.iadd, 1) := by decide +kernel
theorem dL_law_288 : decode cL_law 288 = .ok (.iaload, 1) := by decide +kernel
theorem dL_law_289 : decode cL_law 289 = .ok (.aload_n 0, 1) := by decide +kernel
theorem dL_law_290 : decode cL_law 290 = .ok (.iload_n 3, 1) := by decide +kernel
theorem dL_law_291 : decode cL_law 291 = .ok (.iconst 2, 1) := by decide +kernel
theorem dL_law_292 : decode cL_law 292 = .ok (.iadd, 1) := by decide +kernel
theorem dL_law_293 : decode cL_law 293 = .ok (.iaload, 1) := by decide +kernel
theorem dL_law_294 : decode cL_law 294 = .ok (.invokevirtual 38, 3) := by decide +kernel
theorem dL_law_297 : decode cL_law 297 = .ok (.aload_n 2, 1) := by decide +kernel
theorem dL_law_298 : decode cL_law 298 = .ok (.aload_n 0, 1) := by decide +kernel
theorem dL_law_299 : decode cL_law 299 = .ok (.iload_n 3, 1) := by decide +kernel
theorem dL_law_300 : decode cL_law 300 = .ok (.iconst 1, 1) := by decide +kernel
theorem dL_law_301 : decode cL_law 301 = .ok (.iadd, 1) := by decide +kernel
theorem dL_law_302 : decode cL_law 302 = .ok (.iaload, 1) := by decide +kernel
theorem dL_law_303 : decode cL_law 303 = .ok (.aload_n 0, 1) := by decide +kernel
theorem dL_law_304 : decode cL_law 304 = .ok (.iload_n 3, 1) := by decide +kernel
theorem dL_law_305 : decode cL_law 305 = .ok (.iconst 2, 1) := by decide +kernel
theorem dL_law_306 : decode cL_law 306 = .ok (.iadd, 1) := by decide +kernel
theorem dL_law_307 : decode cL_law 307 = .ok (.iaload, 1) := by decide +kernel
theorem dL_law_308 : decode cL_law 308 = .ok (.invokevirtual 41, 3) := by decide +kernel
theorem dL_law_311 : decode cL_law 311 = .ok (.if_icmp .eq 518, 3) := by decide +kernel
theorem dL_law_314 : decode cL_law 314 = .ok (.iconst 0, 1) := by decide +kernel
theorem dL_law_315 : decode cL_law 315 = .ok (.ireturn, 1) := by decide +kernel
theorem dL_law_316 : decode cL_law 316 = .ok (.aload_n 1, 1) := by decide +kernel
theorem dL_law_317 : decode cL_law 317 = .ok (.aload_n 0, 1) := by decide +kernel
theorem dL_law_318 : decode cL_law 318 = .ok (.iload_n 3, 1) := by decide +kernel
theorem dL_law_319 : decode cL_law 319 = .ok (.iconst 1, 1) := by decide +kernel
theorem dL_law_320 : decode cL_law 320 = .ok (.iadd, 1) := by decide +kernel
theorem dL_law_321 : decode cL_law 321 = .ok (.iaload, 1) := by decide +kernel
theorem dL_law_322 : decode cL_law 322 = .ok (.aload_n 0, 1) := by decide +kernel
theorem dL_law_323 : decode cL_law 323 = .ok (.iload_n 3, 1) := by decide +kernel
theorem dL_law_324 : decode cL_law 324 = .ok (.iconst 2, 1) := by decide +kernel
theorem dL_law_325 : decode cL_law 325 = .ok (.iadd, 1) := by decide +kernel
theorem dL_law_326 : decode cL_law 326 = .ok (.iaload, 1) := by decide +kernel
theorem dL_law_327 : decode cL_law 327 = .ok (.aload_n 0, 1) := by decide +kernel
theorem dL_law_328 : decode cL_law 328 = .ok (.iload_n 3, 1) := by decide +kernel
theorem dL_law_329 : decode cL_law 329 = .ok (.iconst 3, 1) := by decide +kernel
theorem dL_law_330 : decode cL_law 330 = .ok (.iadd, 1) := by decide +kernel
theorem dL_law_331 : decode cL_law 331 = .ok (.iaload, 1) := by decide +kernel
theorem dL_law_332 : decode cL_law 332 = .ok (.invokevirtual 42, 3) := by decide +kernel
theorem dL_law_335 : decode cL_law 335 = .ok (.aload_n 2, 1) := by decide +kernel
theorem dL_law_336 : decode cL_law 336 = .ok (.aload_n 0, 1) := by decide +kernel
theorem dL_law_337 : decode cL_law 337 = .ok (.iload_n 3, 1) := by decide +kernel
theorem dL_law_338 : decode cL_law 338 = .ok (.iconst 1, 1) := by decide +kernel
theorem dL_law_339 : decode cL_law 339 = .ok (.iadd, 1) := by decide +kernel
theorem dL_law_340 : decode cL_law 340 = .ok (.iaload, 1) := by decide +kernel
theorem dL_law_341 : decode cL_law 341 = .ok (.aload_n 0, 1) := by decide +kernel
theorem dL_law_342 : decode cL_law 342 = .ok (.iload_n 3, 1) := by decide +kernel
theorem dL_law_343 : decode cL_law 343 = .ok (.iconst 2, 1) := by decide +kernel
theorem dL_law_344 : decode cL_law 344 = .ok (.iadd, 1) := by decide +kernel
theorem dL_law_345 : decode cL_law 345 = .ok (.iaload, 1) := by decide +kernel
theorem dL_law_346 : decode cL_law 346 = .ok (.aload_n 0, 1) := by decide +kernel
theorem dL_law_347 : decode cL_law 347 = .ok (.iload_n 3, 1) := by decide +kernel
theorem dL_law_348 : decode cL_law 348 = .ok (.iconst 3, 1) := by decide +kernel
theorem dL_law_349 : decode cL_law 349 = .ok (.iadd, 1) := by decide +kernel
theorem dL_law_350 : decode cL_law 350 = .ok (.iaload, 1) := by decide +kernel
theorem dL_law_351 : decode cL_law 351 = .ok (.invokevirtual 46, 3) := by decide +kernel
theorem dL_law_354 : decode cL_law 354 = .ok (.if_icmp .eq 475, 3) := by decide +kernel
theorem dL_law_357 : decode cL_law 357 = .ok (.iconst 0, 1) := by decide +kernel
theorem dL_law_358 : decode cL_law 358 = .ok (.ireturn, 1) := by decide +kernel
theorem dL_law_359 : decode cL_law 359 = .ok (.aload_n 1, 1) := by decide +kernel
theorem dL_law_360 : decode cL_law 360 = .ok (.aload_n 0, 1) := by decide +kernel
theorem dL_law_361 : decode cL_law 361 = .ok (.iload_n 3, 1) := by decide +kernel
theorem dL_law_362 : decode cL_law 362 = .ok (.iconst 1, 1) := by decide +kernel
theorem dL_law_363 : decode cL_law 363 = .ok (.iadd, 1) := by decide +kernel
theorem dL_law_364 : decode cL_law 364 = .ok (.iaload, 1) := by decide +kernel
theorem dL_law_365 : decode cL_law 365 = .ok (.invokevirtual 47, 3) := by decide +kernel
theorem dL_law_368 : decode cL_law 368 = .ok (.aload_n 2, 1) := by decide +kernel
theorem dL_law_369 : decode cL_law 369 = .ok (.aload_n 0, 1) := by decide +kernel
theorem dL_law_370 : decode cL_law 370 = .ok (.iload_n 3, 1) := by decide +kernel
theorem dL_law_371 : decode cL_law 371 = .ok (.iconst 1, 1) := by decide +kernel
theorem dL_law_372 : decode cL_law 372 = .ok (.iadd, 1) := by decide +kernel
theorem dL_law_373 : decode cL_law 373 = .ok (.iaload, 1) := by decide +kernel
theorem dL_law_374 : decode cL_law 374 = .ok (.invokevirtual 51, 3) := by decide +kernel
theorem dL_law_377 : decode cL_law 377 = .ok (.if_icmp .eq 452, 3) := by decide +kernel
theorem dL_law_380 : decode cL_law 380 = .ok (.iconst 0, 1) := by decide +kernel
theorem dL_law_381 : decode cL_law 381 = .ok (.ireturn, 1) := by decide +kernel
theorem dL_law_382 : decode cL_law 382 = .ok (.aload_n 1, 1) := by decide +kernel
theorem dL_law_383 : decode cL_law 383 = .ok (.aload_n 0, 1) := by decide +kernel
theorem dL_law_384 : decode cL_law 384 = .ok (.iload_n 3, 1) := by decide +kernel
theorem dL_law_385 : decode cL_law 385 = .ok (.iconst 1, 1) := by decide +kernel
theorem dL_law_386 : decode cL_law 386 = .ok (.iadd, 1) := by decide +kernel
theorem dL_law_387 : decode cL_law 387 = .ok (.iaload, 1) := by decide +kernel
theorem dL_law_388 : decode cL_law 388 = .ok (.aload_n 0, 1) := by decide +kernel
theorem dL_law_389 : decode cL_law 389 = .ok (.iload_n 3, 1) := by decide +kernel
theorem dL_law_390 : decode cL_law 390 = .ok (.iconst 2, 1) := by decide +kernel
theorem dL_law_391 : decode cL_law 391 = .ok (.iadd, 1) := by decide +kernel
theorem dL_law_392 : decode cL_law 392 = .ok (.iaload, 1) := by decide +kernel
theorem dL_law_393 : decode cL_law 393 = .ok (.invokevirtual 52, 3) := by decide +kernel
theorem dL_law_396 : decode cL_law 396 = .ok (.aload_n 2, 1) := by decide +kernel
theorem dL_law_397 : decode cL_law 397 = .ok (.aload_n 0, 1) := by decide +kernel
theorem dL_law_398 : decode cL_law 398 = .ok (.iload_n 3, 1) := by decide +kernel
theorem dL_law_399 : decode cL_law 399 = .ok (.iconst 1, 1) := by decide +kernel
theorem dL_law_400 : decode cL_law 400 = .ok (.iadd, 1) := by decide +kernel
theorem dL_law_401 : decode cL_law 401 = .ok (.iaload, 1) := by decide +kernel
theorem dL_law_402 : decode cL_law 402 = .ok (.aload_n 0, 1) := by decide +kernel
theorem dL_law_403 : decode cL_law 403 = .ok (.iload_n 3, 1) := by decide +kernel
theorem dL_law_404 : decode cL_law 404 = .ok (.iconst 2, 1) := by decide +kernel
theorem dL_law_405 : decode cL_law 405 = .ok (.iadd, 1) := by decide +kernel
theorem dL_law_406 : decode cL_law 406 = .ok (.iaload, 1) := by decide +kernel
theorem dL_law_407 : decode cL_law 407 = .ok (.invokevirtual 55, 3) := by decide +kernel
theorem dL_law_410 : decode cL_law 410 = .ok (.if_icmp .eq 419, 3) := by decide +kernel
theorem dL_law_413 : decode cL_law 413 = .ok (.iconst 0, 1) := by decide +kernel
theorem dL_law_414 : decode cL_law 414 = .ok (.ireturn, 1) := by decide +kernel
theorem dL_law_415 : decode cL_law 415 = .ok (.aload_n 1, 1) := by decide +kernel
theorem dL_law_416 : decode cL_law 416 = .ok (.aload_n 0, 1) := by decide +kernel
theorem dL_law_417 : decode cL_law 417 = .ok (.iload_n 3, 1) := by decide +kernel
theorem dL_law_418 : decode cL_law 418 = .ok (.iconst 1, 1) := by decide +kernel
theorem dL_law_419 : decode cL_law 419 = .ok (.iadd, 1) := by decide +kernel
theorem dL_law_420 : decode cL_law 420 = .ok (.iaload, 1) := by decide +kernel
theorem dL_law_421 : decode cL_law 421 = .ok (.invokevirtual 56, 3) := by decide +kernel
theorem dL_law_424 : decode cL_law 424 = .ok (.aload_n 2, 1) := by decide +kernel
theorem dL_law_425 : decode cL_law 425 = .ok (.aload_n 0, 1) := by decide +kernel
theorem dL_law_426 : decode cL_law 426 = .ok (.iload_n 3, 1) := by decide +kernel
theorem dL_law_427 : decode cL_law 427 = .ok (.iconst 1, 1) := by decide +kernel
theorem dL_law_428 : decode cL_law 428 = .ok (.iadd, 1) := by decide +kernel
theorem dL_law_429 : decode cL_law 429 = .ok (.iaload, 1) := by decide +kernel
theorem dL_law_430 : decode cL_law 430 = .ok (.invokevirtual 59, 3) := by decide +kernel
theorem dL_law_433 : decode cL_law 433 = .ok (.if_icmp .eq 396, 3) := by decide +kernel
theorem dL_law_436 : decode cL_law 436 = .ok (.iconst 0, 1) := by decide +kernel
theorem dL_law_437 : decode cL_law 437 = .ok (.ireturn, 1) := by decide +kernel
theorem dL_law_438 : decode cL_law 438 = .ok (.aload_n 1, 1) := by decide +kernel
theorem dL_law_439 : decode cL_law 439 = .ok (.aload_n 0, 1) := by decide +kernel
theorem dL_law_440 : decode cL_law 440 = .ok (.iload_n 3, 1) := by decide +kernel
theorem dL_law_441 : decode cL_law 441 = .ok (.iconst 1, 1) := by decide +kernel
theorem dL_law_442 : decode cL_law 442 = .ok (.iadd, 1) := by decide +kernel
theorem dL_law_443 : decode cL_law 443 = .ok (.iaload, 1) := by decide +kernel
theorem dL_law_444 : decode cL_law 444 = .ok (.invokevirtual 60, 3) := by decide +kernel
theorem dL_law_447 : decode cL_law 447 = .ok (.aload_n 2, 1) := by decide +kernel
theorem dL_law_448 : decode cL_law 448 = .ok (.aload_n 0, 1) := by decide +kernel
theorem dL_law_449 : decode cL_law 449 = .ok (.iload_n 3, 1) := by decide +kernel
theorem dL_law_450 : decode cL_law 450 = .ok (.iconst 1, 1) := by decide +kernel
theorem dL_law_451 : decode cL_law 451 = .ok (.iadd, 1) := by decide +kernel
theorem dL_law_452 : decode cL_law 452 = .ok (.iaload, 1) := by decide +kernel
theorem dL_law_453 : decode cL_law 453 = .ok (.invokevirtual 63, 3) := by decide +kernel
theorem dL_law_456 : decode cL_law 456 = .ok (.if_icmp .eq 373, 3) := by decide +kernel
theorem dL_law_459 : decode cL_law 459 = .ok (.iconst 0, 1) := by decide +kernel
theorem dL_law_460 : decode cL_law 460 = .ok (.ireturn, 1) := by decide +kernel
theorem dL_law_461 : decode cL_law 461 = .ok (.aload_n 1, 1) := by decide +kernel
theorem dL_law_462 : decode cL_law 462 = .ok (.invokevirtual 64, 3) := by decide +kernel
theorem dL_law_465 : decode cL_law 465 = .ok (.aload_n 2, 1) := by decide +kernel
theorem dL_law_466 : decode cL_law 466 = .ok (.invokevirtual 67, 3) := by decide +kernel
theorem dL_law_469 : decode cL_law 469 = .ok (.if_icmp .eq 360, 3) := by decide +kernel
theorem dL_law_472 : decode cL_law 472 = .ok (.iconst 0, 1) := by decide +kernel
theorem dL_law_473 : decode cL_law 473 = .ok (.ireturn, 1) := by decide +kernel
theorem dL_law_474 : decode cL_law 474 = .ok (.aload_n 1, 1) := by decide +kernel
theorem dL_law_475 : decode cL_law 475 = .ok (.aload_n 0, 1) := by decide +kernel
theorem dL_law_476 : decode cL_law 476 = .ok (.iload_n 3, 1) := by decide +kernel
theorem dL_law_477 : decode cL_law 477 = .ok (.iconst 1, 1) := by decide +kernel
theorem dL_law_478 : decode cL_law 478 = .ok (.iadd, 1) := by decide +kernel
theorem dL_law_479 : decode cL_law 479 = .ok (.iaload, 1) := by decide +kernel
theorem dL_law_480 : decode cL_law 480 = .ok (.aload_n 0, 1) := by decide +kernel
theorem dL_law_481 : decode cL_law 481 = .ok (.iload_n 3, 1) := by decide +kernel
theorem dL_law_482 : decode cL_law 482 = .ok (.iconst 2, 1) := by decide +kernel
theorem dL_law_483 : decode cL_law 483 = .ok (.iadd, 1) := by decide +kernel
theorem dL_law_484 : decode cL_law 484 = .ok (.iaload, 1) := by decide +kernel
theorem dL_law_485 : decode cL_law 485 = .ok (.invokevirtual 68, 3) := by decide +kernel
theorem dL_law_488 : decode cL_law 488 = .ok (.aload_n 2, 1) := by decide +kernel
theorem dL_law_489 : decode cL_law 489 = .ok (.aload_n 0, 1) := by decide +kernel
theorem dL_law_490 : decode cL_law 490 = .ok (.iload_n 3, 1) := by decide +kernel
theorem dL_law_491 : decode cL_law 491 = .ok (.iconst 1, 1) := by decide +kernel
theorem dL_law_492 : decode cL_law 492 = .ok (.iadd, 1) := by decide +kernel
theorem dL_law_493 : decode cL_law 493 = .ok (.iaload, 1) := by decide +kernel
theorem dL_law_494 : decode cL_law 494 = .ok (.aload_n 0, 1) := by decide +kernel
theorem dL_law_495 : decode cL_law 495 = .ok (.iload_n 3, 1) := by decide +kernel
theorem dL_law_496 : decode cL_law 496 = .ok (.iconst 2, 1) := by decide +kernel
theorem dL_law_497 : decode cL_law 497 = .ok (.iadd, 1) := by decide +kernel
theorem dL_law_498 : decode cL_law 498 = .ok (.iaload, 1) := by decide +kernel
theorem dL_law_499 : decode cL_law 499 = .ok (.invokevirtual 71, 3) := by decide +kernel
theorem dL_law_502 : decode cL_law 502 = .ok (.if_icmp .eq 327, 3) := by decide +kernel
theorem dL_law_505 : decode cL_law 505 = .ok (.iconst 0, 1) := by decide +kernel
theorem dL_law_506 : decode cL_law 506 = .ok (.ireturn, 1) := by decide +kernel
theorem dL_law_507 : decode cL_law 507 = .ok (.aload_n 1, 1) := by decide +kernel
theorem dL_law_508 : decode cL_law 508 = .ok (.aload_n 0, 1) := by decide +kernel
theorem dL_law_509 : decode cL_law 509 = .ok (.iload_n 3, 1) := by decide +kernel
theorem dL_law_510 : decode cL_law 510 = .ok (.iconst 1, 1) := by decide +kernel
theorem dL_law_511 : decode cL_law 511 = .ok (.iadd, 1) := by decide +kernel
theorem dL_law_512 : decode cL_law 512 = .ok (.iaload, 1) := by decide +kernel
theorem dL_law_513 : decode cL_law 513 = .ok (.aload_n 0, 1) := by decide +kernel
theorem dL_law_514 : decode cL_law 514 = .ok (.iload_n 3, 1) := by decide +kernel
theorem dL_law_515 : decode cL_law 515 = .ok (.iconst 2, 1) := by decide +kernel
theorem dL_law_516 : decode cL_law 516 = .ok (.iadd, 1) := by decide +kernel
theorem dL_law_517 : decode cL_law 517 = .ok (.iaload, 1) := by decide +kernel
theorem dL_law_518 : decode cL_law 518 = .ok (.aload_n 0, 1) := by decide +kernel
theorem dL_law_519 : decode cL_law 519 = .ok (.iload_n 3, 1) := by decide +kernel
theorem dL_law_520 : decode cL_law 520 = .ok (.iconst 3, 1) := by decide +kernel
theorem dL_law_521 : decode cL_law 521 = .ok (.iadd, 1) := by decide +kernel
theorem dL_law_522 : decode cL_law 522 = .ok (.iaload, 1) := by decide +kernel
theorem dL_law_523 : decode cL_law 523 = .ok (.invokevirtual 72, 3) := by decide +kernel
theorem dL_law_526 : decode cL_law 526 = .ok (.aload_n 2, 1) := by decide +kernel
theorem dL_law_527 : decode cL_law 527 = .ok (.aload_n 0, 1) := by decide +kernel
theorem dL_law_528 : decode cL_law 528 = .ok (.iload_n 3, 1) := by decide +kernel
theorem dL_law_529 : decode cL_law 529 = .ok (.iconst 1, 1) := by decide +kernel
theorem dL_law_530 : decode cL_law 530 = .ok (.iadd, 1) := by decide +kernel
theorem dL_law_531 : decode cL_law 531 = .ok (.iaload, 1) := by decide +kernel
theorem dL_law_532 : decode cL_law 532 = .ok (.aload_n 0, 1) := by decide +kernel
theorem dL_law_533 : decode cL_law 533 = .ok (.iload_n 3, 1) := by decide +kernel
theorem dL_law_534 : decode cL_law 534 = .ok (.iconst 2, 1) := by decide +kernel
theorem dL_law_535 : decode cL_law 535 = .ok (.iadd, 1) := by decide +kernel
theorem dL_law_536 : decode cL_law 536 = .ok (.iaload, 1) := by decide +kernel
theorem dL_law_537 : decode cL_law 537 = .ok (.aload_n 0, 1) := by decide +kernel
theorem dL_law_538 : decode cL_law 538 = .ok (.iload_n 3, 1) := by decide +kernel
theorem dL_law_539 : decode cL_law 539 = .ok (.iconst 3, 1) := by decide +kernel
theorem dL_law_540 : decode cL_law 540 = .ok (.iadd, 1) := by decide +kernel
theorem dL_law_541 : decode cL_law 541 = .ok (.iaload, 1) := by decide +kernel
theorem dL_law_542 : decode cL_law 542 = .ok (.invokevirtual 75, 3) := by decide +kernel
theorem dL_law_545 : decode cL_law 545 = .ok (.if_icmp .eq 284, 3) := by decide +kernel
theorem dL_law_548 : decode cL_law 548 = .ok (.iconst 0, 1) := by decide +kernel
theorem dL_law_549 : decode cL_law 549 = .ok (.ireturn, 1) := by decide +kernel
theorem dL_law_550 : decode cL_law 550 = .ok (.aload_n 1, 1) := by decide +kernel
theorem dL_law_551 : decode cL_law 551 = .ok (.aload_n 0, 1) := by decide +kernel
theorem dL_law_552 : decode cL_law 552 = .ok (.iload_n 3, 1) := by decide +kernel
theorem dL_law_553 : decode cL_law 553 = .ok (.iconst 1, 1) := by decide +kernel
theorem dL_law_554 : decode cL_law 554 = .ok (.iadd, 1) := by decide +kernel
theorem dL_law_555 : decode cL_law 555 = .ok (.iaload, 1) := by decide +kernel
theorem dL_law_556 : decode cL_law 556 = .ok (.aload_n 0, 1) := by decide +kernel
theorem dL_law_557 : decode cL_law 557 = .ok (.iload_n 3, 1) := by decide +kernel
theorem dL_law_558 : decode cL_law 558 = .ok (.iconst 2, 1) := by decide +kernel
theorem dL_law_559 : decode cL_law 559 = .ok (.iadd, 1) := by decide +kernel
theorem dL_law_560 : decode cL_law 560 = .ok (.iaload, 1) := by decide +kernel
theorem dL_law_561 : decode cL_law 561 = .ok (.ifCond .eq 7, 3) := by decide +kernel
theorem dL_law_564 : decode cL_law 564 = .ok (.iconst 1, 1) := by decide +kernel
theorem dL_law_565 : decode cL_law 565 = .ok (.goto 4, 3) := by decide +kernel
theorem dL_law_568 : decode cL_law 568 = .ok (.iconst 0, 1) := by decide +kernel
theorem dL_law_569 : decode cL_law 569 = .ok (.invokevirtual 76, 3) := by decide +kernel
theorem dL_law_572 : decode cL_law 572 = .ok (.aload_n 2, 1) := by decide +kernel
theorem dL_law_573 : decode cL_law 573 = .ok (.aload_n 0, 1) := by decide +kernel
theorem dL_law_574 : decode cL_law 574 = .ok (.iload_n 3, 1) := by decide +kernel
theorem dL_law_575 : decode cL_law 575 = .ok (.iconst 1, 1) := by decide +kernel
theorem dL_law_576 : decode cL_law 576 = .ok (.iadd, 1) := by decide +kernel
theorem dL_law_577 : decode cL_law 577 = .ok (.iaload, 1) := by decide +kernel
theorem dL_law_578 : decode cL_law 578 = .ok (.aload_n 0, 1) := by decide +kernel
theorem dL_law_579 : decode cL_law 579 = .ok (.iload_n 3, 1) := by decide +kernel
theorem dL_law_580 : decode cL_law 580 = .ok (.iconst 2, 1) := by decide +kernel
theorem dL_law_581 : decode cL_law 581 = .ok (.iadd, 1) := by decide +kernel
theorem dL_law_582 : decode cL_law 582 = .ok (.iaload, 1) := by decide +kernel
theorem dL_law_583 : decode cL_law 583 = .ok (.ifCond .eq 7, 3) := by decide +kernel
theorem dL_law_586 : decode cL_law 586 = .ok (.iconst 1, 1) := by decide +kernel
theorem dL_law_587 : decode cL_law 587 = .ok (.goto 4, 3) := by decide +kernel
theorem dL_law_590 : decode cL_law 590 = .ok (.iconst 0, 1) := by decide +kernel
theorem dL_law_591 : decode cL_law 591 = .ok (.invokevirtual 80, 3) := by decide +kernel
theorem dL_law_594 : decode cL_law 594 = .ok (.if_icmp .eq 235, 3) := by decide +kernel
theorem dL_law_597 : decode cL_law 597 = .ok (.iconst 0, 1) := by decide +kernel
theorem dL_law_598 : decode cL_law 598 = .ok (.ireturn, 1) := by decide +kernel
theorem dL_law_599 : decode cL_law 599 = .ok (.aload_n 1, 1) := by decide +kernel
theorem dL_law_600 : decode cL_law 600 = .ok (.aload_n 0, 1) := by decide +kernel
theorem dL_law_601 : decode cL_law 601 = .ok (.iload_n 3, 1) := by decide +kernel
theorem dL_law_602 : decode cL_law 602 = .ok (.iconst 1, 1) := by decide +kernel
theorem dL_law_603 : decode cL_law 603 = .ok (.iadd, 1) := by decide +kernel
theorem dL_law_604 : decode cL_law 604 = .ok (.iaload, 1) := by decide +kernel
theorem dL_law_605 : decode cL_law 605 = .ok (.invokevirtual 81, 3) := by decide +kernel
theorem dL_law_608 : decode cL_law 608 = .ok (.aload_n 2, 1) := by decide +kernel
theorem dL_law_609 : decode cL_law 609 = .ok (.aload_n 0, 1) := by decide +kernel
theorem dL_law_610 : decode cL_law 610 = .ok (.iload_n 3, 1) := by decide +kernel
theorem dL_law_611 : decode cL_law 611 = .ok (.iconst 1, 1) := by decide +kernel
theorem dL_law_612 : decode cL_law 612 = .ok (.iadd, 1) := by decide +kernel
theorem dL_law_613 : decode cL_law 613 = .ok (.iaload, 1) := by decide +kernel
theorem dL_law_614 : decode cL_law 614 = .ok (.invokevirtual 84, 3) := by decide +kernel
theorem dL_law_617 : decode cL_law 617 = .ok (.if_icmp .eq 212, 3) := by decide +kernel
theorem dL_law_620 : decode cL_law 620 = .ok (.iconst 0, 1) := by decide +kernel
theorem dL_law_621 : decode cL_law 621 = .ok (.ireturn, 1) := by decide +kernel
theorem dL_law_622 : decode cL_law 622 = .ok (.aload_n 1, 1) := by decide +kernel
theorem dL_law_623 : decode cL_law 623 = .ok (.aload_n 0, 1) := by decide +kernel
theorem dL_law_624 : decode cL_law 624 = .ok (.iload_n 3, 1) := by decide +kernel
theorem dL_law_625 : decode cL_law 625 = .ok (.iconst 1, 1) := by decide +kernel
theorem dL_law_626 : decode cL_law 626 = .ok (.iadd, 1) := by decide +kernel
theorem dL_law_627 : decode cL_law 627 = .ok (.iaload, 1) := by decide +kernel
theorem dL_law_628 : decode cL_law 628 = .ok (.invokevirtual 85, 3) := by decide +kernel
theorem dL_law_631 : decode cL_law 631 = .ok (.aload_n 2, 1) := by decide +kernel
theorem dL_law_632 : decode cL_law 632 = .ok (.aload_n 0, 1) := by decide +kernel
theorem dL_law_633 : decode cL_law 633 = .ok (.iload_n 3, 1) := by decide +kernel
theorem dL_law_634 : decode cL_law 634 = .ok (.iconst 1, 1) := by decide +kernel
theorem dL_law_635 : decode cL_law 635 = .ok (.iadd, 1) := by decide +kernel
theorem dL_law_636 : decode cL_law 636 = .ok (.iaload, 1) := by decide +kernel
theorem dL_law_637 : decode cL_law 637 = .ok (.invokevirtual 88, 3) := by decide +kernel
theorem dL_law_640 : decode cL_law 640 = .ok (.if_icmp .eq 189, 3) := by decide +kernel
theorem dL_law_643 : decode cL_law 643 = .ok (.iconst 0, 1) := by decide +kernel
theorem dL_law_644 : decode cL_law 644 = .ok (.ireturn, 1) := by decide +kernel
theorem dL_law_645 : decode cL_law 645 = .ok (.aload_n 1, 1) := by decide +kernel
theorem dL_law_646 : decode cL_law 646 = .ok (.aload_n 0, 1) := by decide +kernel
theorem dL_law_647 : decode cL_law 647 = .ok (.iload_n 3, 1) := by decide +kernel
theorem dL_law_648 : decode cL_law 648 = .ok (.iconst 1, 1) := by decide +kernel
theorem dL_law_649 : decode cL_law 649 = .ok (.iadd, 1) := by decide +kernel
theorem dL_law_650 : decode cL_law 650 = .ok (.iaload, 1) := by decide +kernel
theorem dL_law_651 : decode cL_law 651 = .ok (.aload_n 0, 1) := by decide +kernel
theorem dL_law_652 : decode cL_law 652 = .ok (.iload_n 3, 1) := by decide +kernel
theorem dL_law_653 : decode cL_law 653 = .ok (.iconst 2, 1) := by decide +kernel
theorem dL_law_654 : decode cL_law 654 = .ok (.iadd, 1) := by decide +kernel
theorem dL_law_655 : decode cL_law 655 = .ok (.iaload, 1) := by decide +kernel
theorem dL_law_656 : decode cL_law 656 = .ok (.invokevirtual 89, 3) := by decide +kernel
theorem dL_law_659 : decode cL_law 659 = .ok (.aload_n 2, 1) := by decide +kernel
theorem dL_law_660 : decode cL_law 660 = .ok (.aload_n 0, 1) := by decide +kernel
theorem dL_law_661 : decode cL_law 661 = .ok (.iload_n 3, 1) := by decide +kernel
theorem dL_law_662 : decode cL_law 662 = .ok (.iconst 1, 1) := by decide +kernel
theorem dL_law_663 : decode cL_law 663 = .ok (.iadd, 1) := by decide +kernel
theorem dL_law_664 : decode cL_law 664 = .ok (.iaload, 1) := by decide +kernel
theorem dL_law_665 : decode cL_law 665 = .ok (.aload_n 0, 1) := by decide +kernel
theorem dL_law_666 : decode cL_law 666 = .ok (.iload_n 3, 1) := by decide +kernel
theorem dL_law_667 : decode cL_law 667 = .ok (.iconst 2, 1) := by decide +kernel
theorem dL_law_668 : decode cL_law 668 = .ok (.iadd, 1) := by decide +kernel
theorem dL_law_669 : decode cL_law 669 = .ok (.iaload, 1) := by decide +kernel
theorem dL_law_670 : decode cL_law 670 = .ok (.invokevirtual 92, 3) := by decide +kernel
theorem dL_law_673 : decode cL_law 673 = .ok (.if_icmp .eq 156, 3) := by decide +kernel
theorem dL_law_676 : decode cL_law 676 = .ok (.iconst 0, 1) := by decide +kernel
theorem dL_law_677 : decode cL_law 677 = .ok (.ireturn, 1) := by decide +kernel
theorem dL_law_678 : decode cL_law 678 = .ok (.aload_n 1, 1) := by decide +kernel
theorem dL_law_679 : decode cL_law 679 = .ok (.invokevirtual 93, 3) := by decide +kernel
theorem dL_law_682 : decode cL_law 682 = .ok (.aload_n 2, 1) := by decide +kernel
theorem dL_law_683 : decode cL_law 683 = .ok (.invokevirtual 96, 3) := by decide +kernel
theorem dL_law_686 : decode cL_law 686 = .ok (.if_icmp .eq 143, 3) := by decide +kernel
theorem dL_law_689 : decode cL_law 689 = .ok (.iconst 0, 1) := by decide +kernel
theorem dL_law_690 : decode cL_law 690 = .ok (.ireturn, 1) := by decide +kernel
theorem dL_law_691 : decode cL_law 691 = .ok (.aload_n 1, 1) := by decide +kernel
theorem dL_law_692 : decode cL_law 692 = .ok (.invokevirtual 97, 3) := by decide +kernel
theorem dL_law_695 : decode cL_law 695 = .ok (.aload_n 2, 1) := by decide +kernel
theorem dL_law_696 : decode cL_law 696 = .ok (.invokevirtual 100, 3) := by decide +kernel
theorem dL_law_699 : decode cL_law 699 = .ok (.if_icmp .eq 130, 3) := by decide +kernel
theorem dL_law_702 : decode cL_law 702 = .ok (.iconst 0, 1) := by decide +kernel
theorem dL_law_703 : decode cL_law 703 = .ok (.ireturn, 1) := by decide +kernel
theorem dL_law_704 : decode cL_law 704 = .ok (.aload_n 1, 1) := by decide +kernel
theorem dL_law_705 : decode cL_law 705 = .ok (.aload_n 0, 1) := by decide +kernel
theorem dL_law_706 : decode cL_law 706 = .ok (.iload_n 3, 1) := by decide +kernel
theorem dL_law_707 : decode cL_law 707 = .ok (.iconst 1, 1) := by decide +kernel
theorem dL_law_708 : decode cL_law 708 = .ok (.iadd, 1) := by decide +kernel
theorem dL_law_709 : decode cL_law 709 = .ok (.iaload, 1) := by decide +kernel
theorem dL_law_710 : decode cL_law 710 = .ok (.aload_n 0, 1) := by decide +kernel
theorem dL_law_711 : decode cL_law 711 = .ok (.iload_n 3, 1) := by decide +kernel
theorem dL_law_712 : decode cL_law 712 = .ok (.iconst 2, 1) := by decide +kernel
theorem dL_law_713 : decode cL_law 713 = .ok (.iadd, 1) := by decide +kernel
theorem dL_law_714 : decode cL_law 714 = .ok (.iaload, 1) := by decide +kernel
theorem dL_law_715 : decode cL_law 715 = .ok (.aload_n 0, 1) := by decide +kernel
theorem dL_law_716 : decode cL_law 716 = .ok (.iload_n 3, 1) := by decide +kernel
theorem dL_law_717 : decode cL_law 717 = .ok (.iconst 3, 1) := by decide +kernel
theorem dL_law_718 : decode cL_law 718 = .ok (.iadd, 1) := by decide +kernel
theorem dL_law_719 : decode cL_law 719 = .ok (.iaload, 1) := by decide +kernel
theorem dL_law_720 : decode cL_law 720 = .ok (.invokevirtual 101, 3) := by decide +kernel
theorem dL_law_723 : decode cL_law 723 = .ok (.aload_n 2, 1) := by decide +kernel
theorem dL_law_724 : decode cL_law 724 = .ok (.aload_n 0, 1) := by decide +kernel
theorem dL_law_725 : decode cL_law 725 = .ok (.iload_n 3, 1) := by decide +kernel
theorem dL_law_726 : decode cL_law 726 = .ok (.iconst 1, 1) := by decide +kernel
theorem dL_law_727 : decode cL_law 727 = .ok (.iadd, 1) := by decide +kernel
theorem dL_law_728 : decode cL_law 728 = .ok (.iaload, 1) := by decide +kernel
theorem dL_law_729 : decode cL_law 729 = .ok (.aload_n 0, 1) := by decide +kernel
theorem dL_law_730 : decode cL_law 730 = .ok (.iload_n 3, 1) := by decide +kernel
theorem dL_law_731 : decode cL_law 731 = .ok (.iconst 2, 1) := by decide +kernel
theorem dL_law_732 : decode cL_law 732 = .ok (.iadd, 1) := by decide +kernel
theorem dL_law_733 : decode cL_law 733 = .ok (.iaload, 1) := by decide +kernel
theorem dL_law_734 : decode cL_law 734 = .ok (.aload_n 0, 1) := by decide +kernel
theorem dL_law_735 : decode cL_law 735 = .ok (.iload_n 3, 1) := by decide +kernel
theorem dL_law_736 : decode cL_law 736 = .ok (.iconst 3, 1) := by decide +kernel
theorem dL_law_737 : decode cL_law 737 = .ok (.iadd, 1) := by decide +kernel
theorem dL_law_738 : decode cL_law 738 = .ok (.iaload, 1) := by decide +kernel
theorem dL_law_739 : decode cL_law 739 = .ok (.invokevirtual 104, 3) := by decide +kernel
theorem dL_law_742 : decode cL_law 742 = .ok (.if_icmp .eq 87, 3) := by decide +kernel
theorem dL_law_745 : decode cL_law 745 = .ok (.iconst 0, 1) := by decide +kernel
theorem dL_law_746 : decode cL_law 746 = .ok (.ireturn, 1) := by decide +kernel
theorem dL_law_747 : decode cL_law 747 = .ok (.aload_n 1, 1) := by decide +kernel
theorem dL_law_748 : decode cL_law 748 = .ok (.aload_n 0, 1) := by decide +kernel
theorem dL_law_749 : decode cL_law 749 = .ok (.iload_n 3, 1) := by decide +kernel
theorem dL_law_750 : decode cL_law 750 = .ok (.iconst 1, 1) := by decide +kernel
theorem dL_law_751 : decode cL_law 751 = .ok (.iadd, 1) := by decide +kernel
theorem dL_law_752 : decode cL_law 752 = .ok (.iaload, 1) := by decide +kernel
theorem dL_law_753 : decode cL_law 753 = .ok (.aload_n 0, 1) := by decide +kernel
theorem dL_law_754 : decode cL_law 754 = .ok (.iload_n 3, 1) := by decide +kernel
theorem dL_law_755 : decode cL_law 755 = .ok (.iconst 2, 1) := by decide +kernel
theorem dL_law_756 : decode cL_law 756 = .ok (.iadd, 1) := by decide +kernel
theorem dL_law_757 : decode cL_law 757 = .ok (.iaload, 1) := by decide +kernel
theorem dL_law_758 : decode cL_law 758 = .ok (.invokevirtual 105, 3) := by decide +kernel
theorem dL_law_761 : decode cL_law 761 = .ok (.aload_n 2, 1) := by decide +kernel
theorem dL_law_762 : decode cL_law 762 = .ok (.aload_n 0, 1) := by decide +kernel
theorem dL_law_763 : decode cL_law 763 = .ok (.iload_n 3, 1) := by decide +kernel
theorem dL_law_764 : decode cL_law 764 = .ok (.iconst 1, 1) := by decide +kernel
theorem dL_law_765 : decode cL_law 765 = .ok (.iadd, 1) := by decide +kernel
theorem dL_law_766 : decode cL_law 766 = .ok (.iaload, 1) := by decide +kernel
theorem dL_law_767 : decode cL_law 767 = .ok (.aload_n 0, 1) := by decide +kernel
theorem dL_law_768 : decode cL_law 768 = .ok (.iload_n 3, 1) := by decide +kernel
theorem dL_law_769 : decode cL_law 769 = .ok (.iconst 2, 1) := by decide +kernel
theorem dL_law_770 : decode cL_law 770 = .ok (.iadd, 1) := by decide +kernel
theorem dL_law_771 : decode cL_law 771 = .ok (.iaload, 1) := by decide +kernel
theorem dL_law_772 : decode cL_law 772 = .ok (.invokevirtual 108, 3) := by decide +kernel
theorem dL_law_775 : decode cL_law 775 = .ok (.if_icmp .eq 54, 3) := by decide +kernel
theorem dL_law_778 : decode cL_law 778 = .ok (.iconst 0, 1) := by decide +kernel
theorem dL_law_779 : decode cL_law 779 = .ok (.ireturn, 1) := by decide +kernel
theorem dL_law_780 : decode cL_law 780 = .ok (.aload_n 1, 1) := by decide +kernel
theorem dL_law_781 : decode cL_law 781 = .ok (.invokevirtual 109, 3) := by decide +kernel
theorem dL_law_784 : decode cL_law 784 = .ok (.aload_n 2, 1) := by decide +kernel
theorem dL_law_785 : decode cL_law 785 = .ok (.invokevirtual 112, 3) := by decide +kernel
theorem dL_law_788 : decode cL_law 788 = .ok (.if_icmp .eq 41, 3) := by decide +kernel
theorem dL_law_791 : decode cL_law 791 = .ok (.iconst 0, 1) := by decide +kernel
theorem dL_law_792 : decode cL_law 792 = .ok (.ireturn, 1) := by decide +kernel
theorem dL_law_793 : decode cL_law 793 = .ok (.aload_n 1, 1) := by decide +kernel
theorem dL_law_794 : decode cL_law 794 = .ok (.invokevirtual 113, 3) := by decide +kernel
theorem dL_law_797 : decode cL_law 797 = .ok (.aload_n 2, 1) := by decide +kernel
theorem dL_law_798 : decode cL_law 798 = .ok (.invokevirtual 116, 3) := by decide +kernel
theorem dL_law_801 : decode cL_law 801 = .ok (.if_icmp .eq 28, 3) := by decide +kernel
theorem dL_law_804 : decode cL_law 804 = .ok (.iconst 0, 1) := by decide +kernel
theorem dL_law_805 : decode cL_law 805 = .ok (.ireturn, 1) := by decide +kernel
theorem dL_law_806 : decode cL_law 806 = .ok (.aload_n 1, 1) := by decide +kernel
theorem dL_law_807 : decode cL_law 807 = .ok (.aload_n 0, 1) := by decide +kernel
theorem dL_law_808 : decode cL_law 808 = .ok (.iload_n 3, 1) := by decide +kernel
theorem dL_law_809 : decode cL_law 809 = .ok (.iconst 1, 1) := by decide +kernel
theorem dL_law_810 : decode cL_law 810 = .ok (.iadd, 1) := by decide +kernel
theorem dL_law_811 : decode cL_law 811 = .ok (.iaload, 1) := by decide +kernel
theorem dL_law_812 : decode cL_law 812 = .ok (.invokevirtual 117, 3) := by decide +kernel
theorem dL_law_815 : decode cL_law 815 = .ok (.aload_n 2, 1) := by decide +kernel
theorem dL_law_816 : decode cL_law 816 = .ok (.aload_n 0, 1) := by decide +kernel
theorem dL_law_817 : decode cL_law 817 = .ok (.iload_n 3, 1) := by decide +kernel
theorem dL_law_818 : decode cL_law 818 = .ok (.iconst 1, 1) := by decide +kernel
theorem dL_law_819 : decode cL_law 819 = .ok (.iadd, 1) := by decide +kernel
theorem dL_law_820 : decode cL_law 820 = .ok (.iaload, 1) := by decide +kernel
theorem dL_law_821 : decode cL_law 821 = .ok (.invokevirtual 120, 3) := by decide +kernel
theorem dL_law_824 : decode cL_law 824 = .ok (.if_icmp .eq 5, 3) := by decide +kernel
theorem dL_law_827 : decode cL_law 827 = .ok (.iconst 0, 1) := by decide +kernel
theorem dL_law_828 : decode cL_law 828 = .ok (.ireturn, 1) := by decide +kernel
theorem dL_law_829 : decode cL_law 829 = .ok (.iinc 3 4, 3) := by decide +kernel
theorem dL_law_832 : decode cL_law 832 = .ok (.goto (-814), 3) := by decide +kernel
theorem dL_law_835 : decode cL_law 835 = .ok (.iconst 1, 1) := by decide +kernel
theorem dL_law_836 : decode cL_law 836 = .ok (.ireturn, 1) := by decide +kernel
end
section
/-! ===== the pure layer: ints as Int, the heap as a table of cells, one fixed lay-out ===== -/
abbrev Sg : Type := Nat → Int → Int
abbrev PV : Type := Int ⊕ (Int ⊕ Nat)
abbrev vI (z : Int) : PV := .inl z
abbrev vL (z : Int) : PV := .inr (.inl z)
abbrev vR (k : Nat) : PV := .inr (.inr k)
abbrev inR (z : Int) : Prop := -2147483648 ≤ z ∧ z ≤ 2147483647
abbrev inL (z : Int) : Prop := -9223372036854775808 ≤ z ∧ z ≤ 9223372036854775807
def tV (ad : Nat → Nat) (v : PV) : Value := match v with
  | .inl z => .int (Int32.ofInt z)
  | .inr (.inl z) => .long (Int64.ofInt z)
  | .inr (.inr k) => .ref (ad k)
def okP (v : PV) : Prop := match v with
  | .inl z => inR z
  | .inr (.inl z) => inL z
  | .inr (.inr _) => True
def pcat (v : PV) : Nat := match v with
  | .inl _ => 1
  | .inr (.inl _) => 2
  | .inr (.inr _) => 1
theorem pcat_eq (ad : Nat → Nat) (v : PV) : (tV ad v).category = pcat v := by
  rcases v with z | z | k <;> rfl
/-- a cell of the lay-out: (0, its class, 0, its fields: none a number, some r the cell r), (1, n ints), (2, n bytes), (3, n rows, the first of them) -/
abbrev LC : Type := Nat × Nat × Nat × List (Option Nat)
def ar_ (n : Nat) : LC := (1, n, 0, [])
def Lay : List LC := [
  (0, 9, 0, [some 1, some 4, some 14, some 24, some 29, some 54, some 59, some 63, some 66, some 69]),
  (0, 8, 0, [none, some 2, some 3]), (2, 300, 0, []), (1, 3, 0, []),
  (0, 4, 0, [none, none, some 5, some 6, some 7, some 13]), (1, 3, 0, []), (1, 5, 0, []), (3, 5, 8, []), (1, 3, 0, []), (1, 3, 0, []), (1, 3, 0, []), (1, 3, 0, []), (1, 3, 0, []), (1, 7, 0, []),
  (0, 4, 0, [none, none, some 15, some 16, some 17, some 23]), (1, 3, 0, []), (1, 5, 0, []), (3, 5, 18, []), (1, 3, 0, []), (1, 3, 0, []), (1, 3, 0, []), (1, 3, 0, []), (1, 3, 0, []), (1, 7, 0, []),
  (0, 2, 0, [some 25, some 26, some 27, some 28]), (1, 5, 0, []), (1, 5, 0, []), (1, 5, 0, []), (1, 3, 0, []),
  (0, 1, 0, [none, none, none, some 30, some 42]),
  (3, 11, 31, []), (1, 11, 0, []), (1, 11, 0, []), (1, 11, 0, []), (1, 11, 0, []), (1, 11, 0, []), (1, 11, 0, []), (1, 11, 0, []), (1, 11, 0, []), (1, 11, 0, []), (1, 11, 0, []), (1, 11, 0, []),
  (3, 11, 43, []), (1, 11, 0, []), (1, 11, 0, []), (1, 11, 0, []), (1, 11, 0, []), (1, 11, 0, []), (1, 11, 0, []), (1, 11, 0, []), (1, 11, 0, []), (1, 11, 0, []), (1, 11, 0, []), (1, 11, 0, []),
  (0, 3, 0, [none, some 55, some 56, some 57, some 58]), (1, 5, 0, []), (1, 5, 0, []), (1, 3, 0, []), (1, 6, 0, []),
  (0, 5, 0, [none, none, some 60, some 61, some 62]), (1, 3, 0, []), (1, 3, 0, []), (1, 3, 0, []),
  (0, 7, 0, [none, some 64, some 65]), (1, 6, 0, []), (1, 6, 0, []),
  (0, 0, 0, [none, some 67, some 68]), (1, 8, 0, []), (1, 8, 0, []),
  (0, 6, 0, [none, some 70]), (3, 2, 71, []), (1, 7, 0, []), (1, 7, 0, []),
  (0, 10, 0, [none, some 74, some 75, some 76, some 77, some 78, some 79, some 80, some 81, some 82, none, none, some 83, none, some 84, some 85, none, some 86, some 87, some 88, none, none, none, some 89, some 90, some 91, some 92, some 93, some 94]),
  (1, 300, 0, []), (1, 2, 0, []), (1, 6, 0, []), (1, 2, 0, []), (1, 10, 0, []), (1, 30, 0, []), (1, 20, 0, []), (1, 4, 0, []), (1, 4, 0, []), (1, 16, 0, []), (1, 6, 0, []), (1, 6, 0, []), (1, 3, 0, []), (1, 5, 0, []), (1, 5, 0, []), (1, 100, 0, []), (1, 100, 0, []), (1, 3, 0, []), (1, 5, 0, []), (1, 3, 0, []), (1, 15, 0, [])]
theorem Lay_len : Lay.length = 95 := by decide +kernel
abbrev vwCl : List vw_C := [(RX0, TX0, 3), (RX1, TX1, 5), (RX2, TX2, 4), (RX3, TX3, 5), (RX4, TX4, 6), (RX5, TX5, 5), (RX6, TX6, 2), (RX7, TX7, 3), (RX8, TX8, 3), (RX9, TX9, 10), (RX10, TX10, 29)]
abbrev C3 : Type := ClassId × ClassId × ClassId
def fE (ad : Nat → Nat) (σ : Sg) (k : Nat) (j : Nat) (f : Option Nat) : Value := match f with
  | some r => .ref (ad r)
  | none => .int (Int32.ofInt (σ k (j : Int)))
def cE (ad : Nat → Nat) (cs : C3) (σ : Sg) (k : Nat) (c : LC) : va_E := match c with
  | (0, ci, _, fs) => .inr (ci, fs.mapIdx (fun j f => fE ad σ k j f))
  | (1, n, _, _) => .inl (cs.1, n, .inl (fun j => Int32.ofInt (σ k (j : Int))))
  | (2, n, _, _) => .inl (cs.2.1, n, .inl (fun j => Int32.ofInt (σ k (j : Int))))
  | (_, n, b, _) => .inl (cs.2.2, n, .inr (.inr (.inr (.inr (fun j => if j < n then some (ad (b + j)) else none)))))
def mkW (ad : Nat → Nat) (cs : C3) (σ : Sg) : va_W := Lay.mapIdx (fun k c => (ad k, cE ad cs σ k c))
theorem mkW_at {ad : Nat → Nat} {cs : C3} {σ : Sg} {k : Nat} {c : LC} (h : Lay[k]? = some c) : (mkW ad cs σ)[k]? = some (ad k, cE ad cs σ k c) := by
  unfold mkW
  rw [List.getElem?_mapIdx, h]
  rfl
theorem mkW_inv {ad : Nat → Nat} {cs : C3} {σ : Sg} {k : Nat} {q : Nat × va_E} (h : (mkW ad cs σ)[k]? = some q) : ∃ c, Lay[k]? = some c ∧ q = (ad k, cE ad cs σ k c) := by
  unfold mkW at h
  rw [List.getElem?_mapIdx] at h
  cases hc : Lay[k]? with
  | none => rw [hc] at h; cases h
  | some c => rw [hc] at h; exact ⟨c, rfl, (Option.some.inj h).symm⟩
def adI (ad : Nat → Nat) : Prop := ∀ i j : Nat, i < 95 → j < 95 → ad i = ad j → i = j
theorem Lay_lt {k : Nat} {c : LC} (h : Lay[k]? = some c) : k < 95 := by
  have := (List.getElem?_eq_some_iff.mp h).1
  rw [Lay_len] at this
  exact this
theorem mkW_D {ad : Nat → Nat} {cs : C3} {σ : Sg} {A : Nat → Prop} (hi : adI ad) (hA : ∀ k, k < 95 → A (ad k)) : va_D A (mkW ad cs σ) := by
  refine ⟨fun i j p q hp hq e => ?_, fun k q hq => ?_⟩
  · obtain ⟨c, h1, rfl⟩ := mkW_inv hp
    obtain ⟨c', h2, rfl⟩ := mkW_inv hq
    exact hi i j (Lay_lt h1) (Lay_lt h2) e
  · obtain ⟨c, h1, rfl⟩ := mkW_inv hq
    exact hA k (Lay_lt h1)
/-- one number of the table changed -/
def up (σ : Sg) (a : Nat) (i v : Int) : Sg := fun k j => if k = a ∧ j = i then v else σ k j
/-- one cell of the table changed -/
def uc (σ : Sg) (a : Nat) (f : Int → Int) : Sg := fun k => if k = a then f else σ k
theorem up_ne {σ : Sg} {a k : Nat} {i v : Int} (h : k ≠ a) : up σ a i v k = σ k := by
  funext j
  simp [up, h]
theorem uc_ne {σ : Sg} {a k : Nat} {f : Int → Int} (h : k ≠ a) : uc σ a f k = σ k := by simp [uc, h]
theorem uc_eq {σ : Sg} {a : Nat} {f : Int → Int} : uc σ a f a = f := by simp [uc]
theorem up_uc (σ : Sg) (a : Nat) (i v : Int) : up σ a i v = uc σ a (fun j => if j = i then v else σ a j) := by
  funext k j
  by_cases h : k = a
  · subst h; simp [up, uc]
  · simp [up, uc, h]
/-- the cells as a list, one of them with other contents -/
theorem mkW_uc {ad : Nat → Nat} {cs : C3} {σ : Sg} {a : Nat} {c : LC} {f : Int → Int} {e : va_E} (h : Lay[a]? = some c) (he : cE ad cs (uc σ a f) a c = e) : (mkW ad cs σ).set a (ad a, e) = mkW ad cs (uc σ a f) := by
  apply List.ext_getElem?
  intro k
  have hl : a < (mkW ad cs σ).length := (List.getElem?_eq_some_iff.mp (mkW_at h)).1
  by_cases hk : k = a
  · subst hk
    rw [List.getElem?_set_self hl, mkW_at h, he]
  · rw [List.getElem?_set_ne (Ne.symm hk)]
    cases hc : Lay[k]? with
    | none =>
      unfold mkW
      rw [List.getElem?_mapIdx, List.getElem?_mapIdx, hc]
      rfl
    | some c' =>
      rw [mkW_at hc, mkW_at hc]
      have e1 : cE ad cs (uc σ a f) k c' = cE ad cs σ k c' := by
        obtain ⟨t, n, b, fs⟩ := c'
        unfold cE fE
        rw [uc_ne hk]
      rw [e1]
theorem i32_in {z : Int} (h : inR z) : (Int32.ofInt z).toInt = z := Int32.toInt_ofInt_of_le (by omega) (by omega)
theorem i32_cl {z : Int} (h : inR z) : (Int32.ofInt z).toNatClampNeg = z.toNat := by
  show (Int32.ofInt z).toInt.toNat = z.toNat
  rw [i32_in h]
theorem i32_lt {a b : Int} (ha : inR a) (hb : inR b) : Int32.ofInt a < Int32.ofInt b ↔ a < b := by rw [Int32.lt_iff_toInt_lt, i32_in ha, i32_in hb]
theorem i32_le {a b : Int} (ha : inR a) (hb : inR b) : Int32.ofInt a ≤ Int32.ofInt b ↔ a ≤ b := by rw [Int32.le_iff_toInt_le, i32_in ha, i32_in hb]
theorem i32_eq {a b : Int} (ha : inR a) (hb : inR b) : Int32.ofInt a = Int32.ofInt b ↔ a = b := by rw [← Int32.toInt_inj, i32_in ha, i32_in hb]
theorem i32_0 : (0 : Int32) = Int32.ofInt 0 := by decide +kernel
theorem i64_in {z : Int} (h : inL z) : (Int64.ofInt z).toInt = z := Int64.toInt_ofInt_of_le (by omega) (by omega)
theorem inR_toInt (x : Int32) : inR x.toInt := ⟨by have := x.le_toInt; omega, by have := x.toInt_lt; omega⟩
theorem inL_toInt (x : Int64) : inL x.toInt := ⟨by have := x.le_toInt; omega, by have := x.toInt_lt; omega⟩
theorem i32_vp {i : Int} {n : Nat} (h : inR i) (h0 : 0 ≤ i) (h1 : i < n) : vp_in (Int32.ofInt i) n := by
  rw [vp_in_iff, i32_in h]
  exact ⟨h0, h1⟩
/-! ===== a method's frame: X holds all that stays the same ===== -/
abbrev CT : Type := Program × Launch × Env × Room × State × MethodId × Array Value × List Frame × Method × Code × va_G × C3 × (Nat → Nat) × (Nat → Prop) × Nat × Nat × (State → Prop)
def lvok (ad : Nat → Nat) (lv : List (Option PV)) (n : Nat) (ls : Array Slot) : Prop :=
  ls.size = n ∧ lv_wf ls ∧ ∀ (i : Nat) (v : PV), lv[i]? = some (some v) → ls[i]? = some (.val (tV ad v)) ∧ okP v
def Gs (X : CT) (pc : Nat) (lv : List (Option PV)) (st : List PV) (σ : Sg) : Prop := match X with
  | (p, l, e, R, s, m, args, below, meth, c, D, cs, ad, A, cells, slots, Q) =>
    ∀ (H : Heap) (locs : List Loc) (ls : Array Slot), lvok ad lv c.maxLocals ls → (∀ v ∈ st, okP v) → (∀ (k : Nat) (j : Int), inR (σ k j)) → va_P D vwCl (mkW ad cs σ) H → va_S A s.heap H locs →
      W p l e R s m args below meth c H locs cells slots Q (F0 m pc ls (st.map (tV ad)))
abbrev MM : Type := MethodName × ByteArray × Nat × Option FieldType
def nestW : Cond := .methodLinkNest RX4 39 yX9_isWithin RX9
def Fix (M : MM) (d : Nat) (X : CT) : Prop := match X with
  | (p, l, e, R, s, m, args, below, meth, c, D, cs, ad, A, cells, slots, Q) =>
    p.tables.exec = Jvm.exec ∧ c.code = M.2.1 ∧ c.maxLocals = M.2.2.1 ∧ s.vm.findClass M.1.cls = some m.cls ∧ (∀ w ∈ wsT, w.before args s = true) ∧ meth.sig.returnType = M.2.2.2 ∧ meth.locks = false ∧ va_K D vwCl [(cs.1, .int), (cs.2.1, .byte), (cs.2.2, .array .int)] s ∧ va_Nw nestW s ∧ adI ad ∧ (∀ k, k < 95 → A (ad k)) ∧ d ≤ R.frames ∧ 64 * d ≤ R.locals ∧ cells ≤ R.cells ∧ slots ≤ R.slots
def AD (ad : Nat → Nat) : Nat → Prop := fun q => ∃ k, k < 95 ∧ q = ad k
def PreB (D : va_G) (cs : C3) (ad : Nat → Nat) (σ : Sg) (U : State) : Prop := (∀ (k : Nat) (j : Int), inR (σ k j)) ∧ va_P D vwCl (mkW ad cs σ) U.heap ∧ va_K D vwCl [(cs.1, .int), (cs.2.1, .byte), (cs.2.2, .array .int)] U ∧ va_Nw nestW U
def QcB (D : va_G) (cs : C3) (ad : Nat → Nat) (Q : Option PV → Sg → Prop) : Array Value → State → Outcome → State → Prop := fun _ st o t =>
  ∃ (r : Option PV) (σ : Sg), o = .returned (r.map (tV ad)) ∧ (∀ v, r = some v → okP v) ∧ (∀ (k : Nat) (j : Int), inR (σ k j)) ∧ va_P D vwCl (mkW ad cs σ) t.heap ∧ va_F (AD ad) st t ∧ Q r σ
def rmD (d : Nat) : Room := { frames := d, cells := 0, slots := 0, locals := 64 * d }
/-- method M, called with as in the world σ, returns, and Q holds of answer and world -/
def RunsM (M : MM) (d : Nat) (as : List PV) (σ : Sg) (Q : Option PV → Sg → Prop) : Prop :=
  ∀ (l : Launch) (D : va_G) (cs : C3) (ad : Nat → Nat), adI ad → (∀ v ∈ as, okP v) → Met l M.1 (.code M.1 M.2.1 M.2.2.1 M.2.2.2 :: wsT) (rmD d) (va_Pc (as.map (tV ad)) (PreB D cs ad σ)) (QcB D cs ad Q) 0 0 (AD ad)
def Ret (X : CT) (Q : Option PV → Sg → Prop) : Prop := match X with
  | (p, l, e, R, s, m, args, below, meth, c, D, cs, ad, A, cells, slots, Qs) => Qs = MQ below (QcB D cs ad Q) args s 0 0 (AD ad) ∧ cells = 0 ∧ slots = 0 ∧ A = AD ad
theorem ok_tl {v : PV} {st : List PV} (h : ∀ x ∈ v :: st, okP x) : ∀ x ∈ st, okP x := fun x hx => h x (List.mem_cons_of_mem _ hx)
theorem ok_hd {v : PV} {st : List PV} (h : ∀ x ∈ v :: st, okP x) : okP v := h v List.mem_cons_self
theorem ok_cs {v : PV} {st : List PV} (h1 : okP v) (h : ∀ x ∈ st, okP x) : ∀ x ∈ v :: st, okP x := fun x hx => (List.mem_cons.mp hx).elim (fun e => e ▸ h1) (h x)
end
section
theorem i32_div {a b : Int} (oa : inR a) (ob : inR b) (ha : 0 ≤ a) (hb : 0 < b) : ¬ Int32.ofInt b = 0 ∧ Int32.ofInt a / Int32.ofInt b = Int32.ofInt (a / b) ∧ inR (a / b) ∧ Int32.ofInt a - Int32.ofInt a / Int32.ofInt b * Int32.ofInt b = Int32.ofInt (a % b) ∧ inR (a % b) := by
  have h0 : ¬ Int32.ofInt b = 0 := fun h => by
    have := (i32_eq ob (b := 0) ⟨by decide, by decide⟩).mp (h.trans i32_0)
    omega
  have hle : a / b ≤ a := Int.ediv_le_self _ ha
  have hge : 0 ≤ a / b := Int.ediv_nonneg ha (by omega)
  have h1 : inR (a / b) := ⟨by omega, by omega⟩
  have e1 : Int32.ofInt a / Int32.ofInt b = Int32.ofInt (a / b) := by
    rw [← Int32.toInt_inj, Int32.toInt_div_of_ne_right, i32_in oa, i32_in ob, i32_in h1, Int.tdiv_eq_ediv_of_nonneg ha]
    intro h
    have h2 := congrArg Int32.toInt h
    rw [i32_in ob] at h2
    have h3 : (-1 : Int32).toInt = -1 := by decide +kernel
    omega
  have hm : a % b = a - a / b * b := by rw [Int.emod_def, Int.mul_comm]
  have h5 := Int.emod_nonneg a (show b ≠ 0 by omega)
  have h6 := Int.emod_lt_of_pos a hb
  refine ⟨h0, e1, h1, ?_, ⟨by omega, by omega⟩⟩
  rw [e1, hm, Int32.ofInt_sub, Int32.ofInt_mul]
theorem i64_rem {a b : Int} (oa : inL a) (ob : inL b) (ha : 0 ≤ a) (hb : 0 < b) : ¬ Int64.ofInt b = 0 ∧ Int64.ofInt a - Int64.ofInt a / Int64.ofInt b * Int64.ofInt b = Int64.ofInt (a % b) ∧ inL (a % b) := by
  have h0 : ¬ Int64.ofInt b = 0 := fun h => by
    have h2 := congrArg Int64.toInt h
    rw [i64_in ob] at h2
    have h3 : (0 : Int64).toInt = 0 := by decide +kernel
    omega
  have hle : a / b ≤ a := Int.ediv_le_self _ ha
  have hge : 0 ≤ a / b := Int.ediv_nonneg ha (by omega)
  have h1 : inL (a / b) := ⟨by omega, by omega⟩
  have e1 : Int64.ofInt a / Int64.ofInt b = Int64.ofInt (a / b) := by
    rw [← Int64.toInt_inj, Int64.toInt_div_of_ne_right, i64_in oa, i64_in ob, i64_in h1, Int.tdiv_eq_ediv_of_nonneg ha]
    intro h
    have h2 := congrArg Int64.toInt h
    rw [i64_in ob] at h2
    have h3 : (-1 : Int64).toInt = -1 := by decide +kernel
    omega
  have hm : a % b = a - a / b * b := by rw [Int.emod_def, Int.mul_comm]
  have h5 := Int.emod_nonneg a (show b ≠ 0 by omega)
  have h6 := Int.emod_lt_of_pos a hb
  refine ⟨h0, ?_, ⟨by omega, by omega⟩⟩
  rw [e1, hm, Int64.ofInt_sub, Int64.ofInt_mul]
theorem i32_64 {a : Int} (oa : inR a) : (Int32.ofInt a).toInt64 = Int64.ofInt a := by
  rw [← Int64.toInt_inj, Int32.toInt_toInt64, i32_in oa, i64_in ⟨by omega, by omega⟩]
theorem i64_32 (a : Int) : (Int64.ofInt a).toInt32 = Int32.ofInt a := by simp
theorem i64_cmp {a b : Int} (oa : inL a) (ob : inL b) : lg_cmp (Int64.ofInt a) (Int64.ofInt b) = Int32.ofInt (if b < a then 1 else if a = b then 0 else -1) := by
  unfold lg_cmp
  simp only [gt_iff_lt, Int64.lt_iff_toInt_lt, ← Int64.toInt_inj, i64_in oa, i64_in ob]
  split
  · decide +kernel
  · split <;> decide +kernel
theorem jr_iconst {M : MM} {d : Nat} {X : CT} (hF : Fix M d X) {pc : Nat} {lv : List (Option PV)} {st : List PV} {σ : Sg} {n : Int} (hdg : decode M.2.1 pc = .ok (.iconst n, 1)) {q : Nat} (hq : pc + 1 = q) (hn : inR n) (k : Gs X q lv (vI n :: st) σ) : Gs X pc lv (st) σ := by
  obtain ⟨p, l, e, R, s, m, args, below, meth, c, D, cs, ad, A, cells, slots, Q⟩ := X
  obtain ⟨hx, hb, hml, hown, hts, hret, hlk, hK, hN, hi, hA, hd1, hd2, hd3, hd4⟩ := hF
  intro H locs ls hl hst hσ hP hS
  subst hq
  exact lv_iconst hx hb hdg rfl (k H locs ls hl (ok_cs hn hst) hσ hP hS)
theorem jr_bipush {M : MM} {d : Nat} {X : CT} (hF : Fix M d X) {pc : Nat} {lv : List (Option PV)} {st : List PV} {σ : Sg} {n : Int} (hdg : decode M.2.1 pc = .ok (.bipush n, 2)) {q : Nat} (hq : pc + 2 = q) (hn : inR n) (hv : (Int8.ofInt n).toInt32 = Int32.ofInt n) (k : Gs X q lv (vI n :: st) σ) : Gs X pc lv (st) σ := by
  obtain ⟨p, l, e, R, s, m, args, below, meth, c, D, cs, ad, A, cells, slots, Q⟩ := X
  obtain ⟨hx, hb, hml, hown, hts, hret, hlk, hK, hN, hi, hA, hd1, hd2, hd3, hd4⟩ := hF
  intro H locs ls hl hst hσ hP hS
  subst hq
  exact lv_bipush hx hb hdg hv (k H locs ls hl (ok_cs hn hst) hσ hP hS)
theorem jr_sipush {M : MM} {d : Nat} {X : CT} (hF : Fix M d X) {pc : Nat} {lv : List (Option PV)} {st : List PV} {σ : Sg} {n : Int} (hdg : decode M.2.1 pc = .ok (.sipush n, 3)) {q : Nat} (hq : pc + 3 = q) (hn : inR n) (hv : (Int16.ofInt n).toInt32 = Int32.ofInt n) (k : Gs X q lv (vI n :: st) σ) : Gs X pc lv (st) σ := by
  obtain ⟨p, l, e, R, s, m, args, below, meth, c, D, cs, ad, A, cells, slots, Q⟩ := X
  obtain ⟨hx, hb, hml, hown, hts, hret, hlk, hK, hN, hi, hA, hd1, hd2, hd3, hd4⟩ := hF
  intro H locs ls hl hst hσ hP hS
  subst hq
  exact lv_sipush hx hb hdg hv (k H locs ls hl (ok_cs hn hst) hσ hP hS)
theorem jr_lconst {M : MM} {d : Nat} {X : CT} (hF : Fix M d X) {pc : Nat} {lv : List (Option PV)} {st : List PV} {σ : Sg} {n : Fin 2} (z : Int) (hdg : decode M.2.1 pc = .ok (.lconst n, 1)) {q : Nat} (hq : pc + 1 = q) (hn : inL z) (hv : Int64.ofNat (n : Nat) = Int64.ofInt z) (k : Gs X q lv (vL z :: st) σ) : Gs X pc lv (st) σ := by
  obtain ⟨p, l, e, R, s, m, args, below, meth, c, D, cs, ad, A, cells, slots, Q⟩ := X
  obtain ⟨hx, hb, hml, hown, hts, hret, hlk, hK, hN, hi, hA, hd1, hd2, hd3, hd4⟩ := hF
  intro H locs ls hl hst hσ hP hS
  subst hq
  exact lv_lconst hx hb hdg hv (k H locs ls hl (ok_cs hn hst) hσ hP hS)
theorem jr_ldc2 {M : MM} {d : Nat} {X : CT} (hF : Fix M d X) {pc : Nat} {lv : List (Option PV)} {st : List PV} {σ : Sg} {idx : Nat} {v : Int64} (z : Int) (hdg : decode M.2.1 pc = .ok (.ldc2_w idx, 3)) {q : Nat} (hq : pc + 3 = q) (hw : Cond.constantLong M.1.cls idx v ∈ wsT) (hn : inL z) (hv : v = Int64.ofInt z) (k : Gs X q lv (vL z :: st) σ) : Gs X pc lv (st) σ := by
  obtain ⟨p, l, e, R, s, m, args, below, meth, c, D, cs, ad, A, cells, slots, Q⟩ := X
  obtain ⟨hx, hb, hml, hown, hts, hret, hlk, hK, hN, hi, hA, hd1, hd2, hd3, hd4⟩ := hF
  intro H locs ls hl hst hσ hP hS
  subst hq
  subst hv
  exact lv_ldc2 hx hb hown (hts _ hw) hdg (k H locs ls hl (ok_cs hn hst) hσ hP hS)
theorem jr_iload_n {M : MM} {d : Nat} {X : CT} (hF : Fix M d X) {pc : Nat} {lv : List (Option PV)} {st : List PV} {σ : Sg} {n : Fin 4} {z : Int} (hdg : decode M.2.1 pc = .ok (.iload_n n, 1)) {q : Nat} (hq : pc + 1 = q) (h : lv[(n : Nat)]? = some (some (vI z))) (k : Gs X q lv (vI z :: st) σ) : Gs X pc lv (st) σ := by
  obtain ⟨p, l, e, R, s, m, args, below, meth, c, D, cs, ad, A, cells, slots, Q⟩ := X
  obtain ⟨hx, hb, hml, hown, hts, hret, hlk, hK, hN, hi, hA, hd1, hd2, hd3, hd4⟩ := hF
  intro H locs ls hl hst hσ hP hS
  subst hq
  exact lv_iload_n hx hb hdg rfl (hl.2.2 _ _ h).1 (k H locs ls hl (ok_cs (hl.2.2 _ _ h).2 hst) hσ hP hS)
theorem jr_iload {M : MM} {d : Nat} {X : CT} (hF : Fix M d X) {pc : Nat} {lv : List (Option PV)} {st : List PV} {σ : Sg} {n : Nat} {z : Int} (hdg : decode M.2.1 pc = .ok (.iload n, 2)) {q : Nat} (hq : pc + 2 = q) (h : lv[n]? = some (some (vI z))) (k : Gs X q lv (vI z :: st) σ) : Gs X pc lv (st) σ := by
  obtain ⟨p, l, e, R, s, m, args, below, meth, c, D, cs, ad, A, cells, slots, Q⟩ := X
  obtain ⟨hx, hb, hml, hown, hts, hret, hlk, hK, hN, hi, hA, hd1, hd2, hd3, hd4⟩ := hF
  intro H locs ls hl hst hσ hP hS
  subst hq
  exact lv_iload hx hb hdg (hl.2.2 _ _ h).1 (k H locs ls hl (ok_cs (hl.2.2 _ _ h).2 hst) hσ hP hS)
theorem jr_lload_n {M : MM} {d : Nat} {X : CT} (hF : Fix M d X) {pc : Nat} {lv : List (Option PV)} {st : List PV} {σ : Sg} {n : Fin 4} {z : Int} (hdg : decode M.2.1 pc = .ok (.lload_n n, 1)) {q : Nat} (hq : pc + 1 = q) (h : lv[(n : Nat)]? = some (some (vL z))) (k : Gs X q lv (vL z :: st) σ) : Gs X pc lv (st) σ := by
  obtain ⟨p, l, e, R, s, m, args, below, meth, c, D, cs, ad, A, cells, slots, Q⟩ := X
  obtain ⟨hx, hb, hml, hown, hts, hret, hlk, hK, hN, hi, hA, hd1, hd2, hd3, hd4⟩ := hF
  intro H locs ls hl hst hσ hP hS
  subst hq
  exact lv_lload_n hx hb hdg rfl (hl.2.2 _ _ h).1 (k H locs ls hl (ok_cs (hl.2.2 _ _ h).2 hst) hσ hP hS)
theorem jr_lload {M : MM} {d : Nat} {X : CT} (hF : Fix M d X) {pc : Nat} {lv : List (Option PV)} {st : List PV} {σ : Sg} {n : Nat} {z : Int} (hdg : decode M.2.1 pc = .ok (.lload n, 2)) {q : Nat} (hq : pc + 2 = q) (h : lv[n]? = some (some (vL z))) (k : Gs X q lv (vL z :: st) σ) : Gs X pc lv (st) σ := by
  obtain ⟨p, l, e, R, s, m, args, below, meth, c, D, cs, ad, A, cells, slots, Q⟩ := X
  obtain ⟨hx, hb, hml, hown, hts, hret, hlk, hK, hN, hi, hA, hd1, hd2, hd3, hd4⟩ := hF
  intro H locs ls hl hst hσ hP hS
  subst hq
  exact lv_lload hx hb hdg (hl.2.2 _ _ h).1 (k H locs ls hl (ok_cs (hl.2.2 _ _ h).2 hst) hσ hP hS)
theorem jr_aload_n {M : MM} {d : Nat} {X : CT} (hF : Fix M d X) {pc : Nat} {lv : List (Option PV)} {st : List PV} {σ : Sg} {n : Fin 4} {z : Nat} (hdg : decode M.2.1 pc = .ok (.aload_n n, 1)) {q : Nat} (hq : pc + 1 = q) (h : lv[(n : Nat)]? = some (some (vR z))) (k : Gs X q lv (vR z :: st) σ) : Gs X pc lv (st) σ := by
  obtain ⟨p, l, e, R, s, m, args, below, meth, c, D, cs, ad, A, cells, slots, Q⟩ := X
  obtain ⟨hx, hb, hml, hown, hts, hret, hlk, hK, hN, hi, hA, hd1, hd2, hd3, hd4⟩ := hF
  intro H locs ls hl hst hσ hP hS
  subst hq
  exact lv_aload_n hx hb hdg rfl (hl.2.2 _ _ h).1 (k H locs ls hl (ok_cs (hl.2.2 _ _ h).2 hst) hσ hP hS)
theorem jr_aload {M : MM} {d : Nat} {X : CT} (hF : Fix M d X) {pc : Nat} {lv : List (Option PV)} {st : List PV} {σ : Sg} {n : Nat} {z : Nat} (hdg : decode M.2.1 pc = .ok (.aload n, 2)) {q : Nat} (hq : pc + 2 = q) (h : lv[n]? = some (some (vR z))) (k : Gs X q lv (vR z :: st) σ) : Gs X pc lv (st) σ := by
  obtain ⟨p, l, e, R, s, m, args, below, meth, c, D, cs, ad, A, cells, slots, Q⟩ := X
  obtain ⟨hx, hb, hml, hown, hts, hret, hlk, hK, hN, hi, hA, hd1, hd2, hd3, hd4⟩ := hF
  intro H locs ls hl hst hσ hP hS
  subst hq
  exact lv_aload hx hb hdg (hl.2.2 _ _ h).1 (k H locs ls hl (ok_cs (hl.2.2 _ _ h).2 hst) hσ hP hS)
theorem jr_iadd {M : MM} {d : Nat} {X : CT} (hF : Fix M d X) {pc : Nat} {lv : List (Option PV)} {st : List PV} {σ : Sg} {a b : Int} (hdg : decode M.2.1 pc = .ok (.iadd, 1)) {q : Nat} (hq : pc + 1 = q) (h : inR (a + b)) (k : Gs X q lv (vI (a + b) :: st) σ) : Gs X pc lv (vI b :: vI a :: st) σ := by
  obtain ⟨p, l, e, R, s, m, args, below, meth, c, D, cs, ad, A, cells, slots, Q⟩ := X
  obtain ⟨hx, hb, hml, hown, hts, hret, hlk, hK, hN, hi, hA, hd1, hd2, hd3, hd4⟩ := hF
  intro H locs ls hl hst hσ hP hS
  subst hq
  refine lv_iadd (x := Int32.ofInt a) (y := Int32.ofInt b) hx hb hdg ?_
  rw [← Int32.ofInt_add]
  exact k H locs ls hl (ok_cs h (ok_tl (ok_tl hst))) hσ hP hS
theorem jr_isub {M : MM} {d : Nat} {X : CT} (hF : Fix M d X) {pc : Nat} {lv : List (Option PV)} {st : List PV} {σ : Sg} {a b : Int} (hdg : decode M.2.1 pc = .ok (.isub, 1)) {q : Nat} (hq : pc + 1 = q) (h : inR (a - b)) (k : Gs X q lv (vI (a - b) :: st) σ) : Gs X pc lv (vI b :: vI a :: st) σ := by
  obtain ⟨p, l, e, R, s, m, args, below, meth, c, D, cs, ad, A, cells, slots, Q⟩ := X
  obtain ⟨hx, hb, hml, hown, hts, hret, hlk, hK, hN, hi, hA, hd1, hd2, hd3, hd4⟩ := hF
  intro H locs ls hl hst hσ hP hS
  subst hq
  refine lv_isub (x := Int32.ofInt a) (y := Int32.ofInt b) hx hb hdg ?_
  rw [← Int32.ofInt_sub]
  exact k H locs ls hl (ok_cs h (ok_tl (ok_tl hst))) hσ hP hS
theorem jr_imul {M : MM} {d : Nat} {X : CT} (hF : Fix M d X) {pc : Nat} {lv : List (Option PV)} {st : List PV} {σ : Sg} {a b : Int} (hdg : decode M.2.1 pc = .ok (.imul, 1)) {q : Nat} (hq : pc + 1 = q) (h : inR (a * b)) (k : Gs X q lv (vI (a * b) :: st) σ) : Gs X pc lv (vI b :: vI a :: st) σ := by
  obtain ⟨p, l, e, R, s, m, args, below, meth, c, D, cs, ad, A, cells, slots, Q⟩ := X
  obtain ⟨hx, hb, hml, hown, hts, hret, hlk, hK, hN, hi, hA, hd1, hd2, hd3, hd4⟩ := hF
  intro H locs ls hl hst hσ hP hS
  subst hq
  refine lv_imul (x := Int32.ofInt a) (y := Int32.ofInt b) hx hb hdg ?_
  rw [← Int32.ofInt_mul]
  exact k H locs ls hl (ok_cs h (ok_tl (ok_tl hst))) hσ hP hS
theorem jr_idiv {M : MM} {d : Nat} {X : CT} (hF : Fix M d X) {pc : Nat} {lv : List (Option PV)} {st : List PV} {σ : Sg} {a b : Int} (hdg : decode M.2.1 pc = .ok (.idiv, 1)) {q : Nat} (hq : pc + 1 = q) (ha : 0 ≤ a) (hb0 : 0 < b) (k : Gs X q lv (vI (a / b) :: st) σ) : Gs X pc lv (vI b :: vI a :: st) σ := by
  obtain ⟨p, l, e, R, s, m, args, below, meth, c, D, cs, ad, A, cells, slots, Q⟩ := X
  obtain ⟨hx, hb, hml, hown, hts, hret, hlk, hK, hN, hi, hA, hd1, hd2, hd3, hd4⟩ := hF
  intro H locs ls hl hst hσ hP hS
  subst hq
  have oa : inR a := ok_hd (ok_tl hst)
  have ob : inR b := ok_hd hst
  have e1 := i32_div oa ob ha hb0
  refine lv_idiv (x := Int32.ofInt a) (y := Int32.ofInt b) hx hb hdg e1.1 ?_
  rw [e1.2.1]
  exact k H locs ls hl (ok_cs e1.2.2.1 (ok_tl (ok_tl hst))) hσ hP hS
theorem jr_irem {M : MM} {d : Nat} {X : CT} (hF : Fix M d X) {pc : Nat} {lv : List (Option PV)} {st : List PV} {σ : Sg} {a b : Int} (hdg : decode M.2.1 pc = .ok (.irem, 1)) {q : Nat} (hq : pc + 1 = q) (ha : 0 ≤ a) (hb0 : 0 < b) (k : Gs X q lv (vI (a % b) :: st) σ) : Gs X pc lv (vI b :: vI a :: st) σ := by
  obtain ⟨p, l, e, R, s, m, args, below, meth, c, D, cs, ad, A, cells, slots, Q⟩ := X
  obtain ⟨hx, hb, hml, hown, hts, hret, hlk, hK, hN, hi, hA, hd1, hd2, hd3, hd4⟩ := hF
  intro H locs ls hl hst hσ hP hS
  subst hq
  have oa : inR a := ok_hd (ok_tl hst)
  have ob : inR b := ok_hd hst
  have e1 := i32_div oa ob ha hb0
  refine lv_irem (x := Int32.ofInt a) (y := Int32.ofInt b) hx hb hdg e1.1 ?_
  rw [e1.2.2.2.1]
  exact k H locs ls hl (ok_cs e1.2.2.2.2 (ok_tl (ok_tl hst))) hσ hP hS
theorem jr_iand {M : MM} {d : Nat} {X : CT} (hF : Fix M d X) {pc : Nat} {lv : List (Option PV)} {st : List PV} {σ : Sg} {a b : Int} (hdg : decode M.2.1 pc = .ok (.iand, 1)) {q : Nat} (hq : pc + 1 = q)  (k : Gs X q lv (vI (Int32.ofInt a &&& Int32.ofInt b).toInt :: st) σ) : Gs X pc lv (vI b :: vI a :: st) σ := by
  obtain ⟨p, l, e, R, s, m, args, below, meth, c, D, cs, ad, A, cells, slots, Q⟩ := X
  obtain ⟨hx, hb, hml, hown, hts, hret, hlk, hK, hN, hi, hA, hd1, hd2, hd3, hd4⟩ := hF
  intro H locs ls hl hst hσ hP hS
  subst hq
  refine lv_iand (x := Int32.ofInt a) (y := Int32.ofInt b) hx hb hdg ?_
  have h := k H locs ls hl (ok_cs (inR_toInt _) (ok_tl (ok_tl hst))) hσ hP hS
  rw [List.map_cons, show tV ad (vI (Int32.ofInt a &&& Int32.ofInt b).toInt) = Value.int (Int32.ofInt (Int32.ofInt a &&& Int32.ofInt b).toInt) from rfl, Int32.ofInt_toInt] at h
  exact h
theorem jr_ior {M : MM} {d : Nat} {X : CT} (hF : Fix M d X) {pc : Nat} {lv : List (Option PV)} {st : List PV} {σ : Sg} {a b : Int} (hdg : decode M.2.1 pc = .ok (.ior, 1)) {q : Nat} (hq : pc + 1 = q)  (k : Gs X q lv (vI (Int32.ofInt a ||| Int32.ofInt b).toInt :: st) σ) : Gs X pc lv (vI b :: vI a :: st) σ := by
  obtain ⟨p, l, e, R, s, m, args, below, meth, c, D, cs, ad, A, cells, slots, Q⟩ := X
  obtain ⟨hx, hb, hml, hown, hts, hret, hlk, hK, hN, hi, hA, hd1, hd2, hd3, hd4⟩ := hF
  intro H locs ls hl hst hσ hP hS
  subst hq
  refine lv_ior (x := Int32.ofInt a) (y := Int32.ofInt b) hx hb hdg ?_
  have h := k H locs ls hl (ok_cs (inR_toInt _) (ok_tl (ok_tl hst))) hσ hP hS
  rw [List.map_cons, show tV ad (vI (Int32.ofInt a ||| Int32.ofInt b).toInt) = Value.int (Int32.ofInt (Int32.ofInt a ||| Int32.ofInt b).toInt) from rfl, Int32.ofInt_toInt] at h
  exact h
theorem jr_ixor {M : MM} {d : Nat} {X : CT} (hF : Fix M d X) {pc : Nat} {lv : List (Option PV)} {st : List PV} {σ : Sg} {a b : Int} (hdg : decode M.2.1 pc = .ok (.ixor, 1)) {q : Nat} (hq : pc + 1 = q)  (k : Gs X q lv (vI (Int32.ofInt a ^^^ Int32.ofInt b).toInt :: st) σ) : Gs X pc lv (vI b :: vI a :: st) σ := by
  obtain ⟨p, l, e, R, s, m, args, below, meth, c, D, cs, ad, A, cells, slots, Q⟩ := X
  obtain ⟨hx, hb, hml, hown, hts, hret, hlk, hK, hN, hi, hA, hd1, hd2, hd3, hd4⟩ := hF
  intro H locs ls hl hst hσ hP hS
  subst hq
  refine lv_ixor (x := Int32.ofInt a) (y := Int32.ofInt b) hx hb hdg ?_
  have h := k H locs ls hl (ok_cs (inR_toInt _) (ok_tl (ok_tl hst))) hσ hP hS
  rw [List.map_cons, show tV ad (vI (Int32.ofInt a ^^^ Int32.ofInt b).toInt) = Value.int (Int32.ofInt (Int32.ofInt a ^^^ Int32.ofInt b).toInt) from rfl, Int32.ofInt_toInt] at h
  exact h
theorem jr_ishl {M : MM} {d : Nat} {X : CT} (hF : Fix M d X) {pc : Nat} {lv : List (Option PV)} {st : List PV} {σ : Sg} {a b : Int} (hdg : decode M.2.1 pc = .ok (.ishl, 1)) {q : Nat} (hq : pc + 1 = q)  (k : Gs X q lv (vI (Int32.ofInt a <<< (Int32.ofInt b &&& 31)).toInt :: st) σ) : Gs X pc lv (vI b :: vI a :: st) σ := by
  obtain ⟨p, l, e, R, s, m, args, below, meth, c, D, cs, ad, A, cells, slots, Q⟩ := X
  obtain ⟨hx, hb, hml, hown, hts, hret, hlk, hK, hN, hi, hA, hd1, hd2, hd3, hd4⟩ := hF
  intro H locs ls hl hst hσ hP hS
  subst hq
  refine lv_ishl (x := Int32.ofInt a) (y := Int32.ofInt b) hx hb hdg ?_
  have h := k H locs ls hl (ok_cs (inR_toInt _) (ok_tl (ok_tl hst))) hσ hP hS
  rw [List.map_cons, show tV ad (vI (Int32.ofInt a <<< (Int32.ofInt b &&& 31)).toInt) = Value.int (Int32.ofInt (Int32.ofInt a <<< (Int32.ofInt b &&& 31)).toInt) from rfl, Int32.ofInt_toInt] at h
  exact h
theorem jr_ishr {M : MM} {d : Nat} {X : CT} (hF : Fix M d X) {pc : Nat} {lv : List (Option PV)} {st : List PV} {σ : Sg} {a b : Int} (hdg : decode M.2.1 pc = .ok (.ishr, 1)) {q : Nat} (hq : pc + 1 = q)  (k : Gs X q lv (vI (Int32.ofInt a >>> (Int32.ofInt b &&& 31)).toInt :: st) σ) : Gs X pc lv (vI b :: vI a :: st) σ := by
  obtain ⟨p, l, e, R, s, m, args, below, meth, c, D, cs, ad, A, cells, slots, Q⟩ := X
  obtain ⟨hx, hb, hml, hown, hts, hret, hlk, hK, hN, hi, hA, hd1, hd2, hd3, hd4⟩ := hF
  intro H locs ls hl hst hσ hP hS
  subst hq
  refine lv_ishr (x := Int32.ofInt a) (y := Int32.ofInt b) hx hb hdg ?_
  have h := k H locs ls hl (ok_cs (inR_toInt _) (ok_tl (ok_tl hst))) hσ hP hS
  rw [List.map_cons, show tV ad (vI (Int32.ofInt a >>> (Int32.ofInt b &&& 31)).toInt) = Value.int (Int32.ofInt (Int32.ofInt a >>> (Int32.ofInt b &&& 31)).toInt) from rfl, Int32.ofInt_toInt] at h
  exact h
theorem jr_i2l {M : MM} {d : Nat} {X : CT} (hF : Fix M d X) {pc : Nat} {lv : List (Option PV)} {st : List PV} {σ : Sg} {a : Int} (hdg : decode M.2.1 pc = .ok (.i2l, 1)) {q : Nat} (hq : pc + 1 = q)  (k : Gs X q lv (vL a :: st) σ) : Gs X pc lv (vI a :: st) σ := by
  obtain ⟨p, l, e, R, s, m, args, below, meth, c, D, cs, ad, A, cells, slots, Q⟩ := X
  obtain ⟨hx, hb, hml, hown, hts, hret, hlk, hK, hN, hi, hA, hd1, hd2, hd3, hd4⟩ := hF
  intro H locs ls hl hst hσ hP hS
  subst hq
  have oa : inR a := ok_hd hst
  refine lv_i2l (x := Int32.ofInt a) (v := Int64.ofInt a) hx hb hdg (i32_64 oa) ?_
  exact k H locs ls hl (ok_cs (show inL a from ⟨by omega, by omega⟩) (ok_tl hst)) hσ hP hS
theorem jr_l2i {M : MM} {d : Nat} {X : CT} (hF : Fix M d X) {pc : Nat} {lv : List (Option PV)} {st : List PV} {σ : Sg} {a : Int} (hdg : decode M.2.1 pc = .ok (.l2i, 1)) {q : Nat} (hq : pc + 1 = q) (h : inR a) (k : Gs X q lv (vI a :: st) σ) : Gs X pc lv (vL a :: st) σ := by
  obtain ⟨p, l, e, R, s, m, args, below, meth, c, D, cs, ad, A, cells, slots, Q⟩ := X
  obtain ⟨hx, hb, hml, hown, hts, hret, hlk, hK, hN, hi, hA, hd1, hd2, hd3, hd4⟩ := hF
  intro H locs ls hl hst hσ hP hS
  subst hq
  refine lv_l2i (x := Int64.ofInt a) (v := Int32.ofInt a) hx hb hdg (i64_32 a) ?_
  exact k H locs ls hl (ok_cs h (ok_tl hst)) hσ hP hS
theorem jr_l2iw {M : MM} {d : Nat} {X : CT} (hF : Fix M d X) {pc : Nat} {lv : List (Option PV)} {st : List PV} {σ : Sg} {a : Int} (hdg : decode M.2.1 pc = .ok (.l2i, 1)) {q : Nat} (hq : pc + 1 = q)  (k : Gs X q lv (vI (Int32.ofInt a).toInt :: st) σ) : Gs X pc lv (vL a :: st) σ := by
  obtain ⟨p, l, e, R, s, m, args, below, meth, c, D, cs, ad, A, cells, slots, Q⟩ := X
  obtain ⟨hx, hb, hml, hown, hts, hret, hlk, hK, hN, hi, hA, hd1, hd2, hd3, hd4⟩ := hF
  intro H locs ls hl hst hσ hP hS
  subst hq
  refine lv_l2i (x := Int64.ofInt a) (v := Int32.ofInt a) hx hb hdg (i64_32 a) ?_
  have h := k H locs ls hl (ok_cs (inR_toInt _) (ok_tl hst)) hσ hP hS
  rw [List.map_cons, show tV ad (vI (Int32.ofInt a).toInt) = Value.int (Int32.ofInt (Int32.ofInt a).toInt) from rfl, Int32.ofInt_toInt] at h
  exact h
theorem jr_i2b {M : MM} {d : Nat} {X : CT} (hF : Fix M d X) {pc : Nat} {lv : List (Option PV)} {st : List PV} {σ : Sg} {a : Int} (hdg : decode M.2.1 pc = .ok (.i2b, 1)) {q : Nat} (hq : pc + 1 = q)  (k : Gs X q lv (vI (Int8.ofInt a).toInt :: st) σ) : Gs X pc lv (vI a :: st) σ := by
  obtain ⟨p, l, e, R, s, m, args, below, meth, c, D, cs, ad, A, cells, slots, Q⟩ := X
  obtain ⟨hx, hb, hml, hown, hts, hret, hlk, hK, hN, hi, hA, hd1, hd2, hd3, hd4⟩ := hF
  intro H locs ls hl hst hσ hP hS
  subst hq
  refine lv_i2b (x := Int32.ofInt a) (v := Int32.ofInt (Int8.ofInt a).toInt) hx hb hdg (by rw [Int32.toInt8_ofInt]; rfl) ?_
  exact k H locs ls hl (ok_cs (show inR (Int8.ofInt a).toInt from ⟨by have := (Int8.ofInt a).le_toInt; omega, by have := (Int8.ofInt a).toInt_lt; omega⟩) (ok_tl hst)) hσ hP hS
theorem jr_ladd {M : MM} {d : Nat} {X : CT} (hF : Fix M d X) {pc : Nat} {lv : List (Option PV)} {st : List PV} {σ : Sg} {a b : Int} (hdg : decode M.2.1 pc = .ok (.ladd, 1)) {q : Nat} (hq : pc + 1 = q) (h : inL (a + b)) (k : Gs X q lv (vL (a + b) :: st) σ) : Gs X pc lv (vL b :: vL a :: st) σ := by
  obtain ⟨p, l, e, R, s, m, args, below, meth, c, D, cs, ad, A, cells, slots, Q⟩ := X
  obtain ⟨hx, hb, hml, hown, hts, hret, hlk, hK, hN, hi, hA, hd1, hd2, hd3, hd4⟩ := hF
  intro H locs ls hl hst hσ hP hS
  subst hq
  refine lv_ladd (x := Int64.ofInt a) (y := Int64.ofInt b) hx hb hdg ?_
  rw [← Int64.ofInt_add]
  exact k H locs ls hl (ok_cs h (ok_tl (ok_tl hst))) hσ hP hS
theorem jr_lmul {M : MM} {d : Nat} {X : CT} (hF : Fix M d X) {pc : Nat} {lv : List (Option PV)} {st : List PV} {σ : Sg} {a b : Int} (hdg : decode M.2.1 pc = .ok (.lmul, 1)) {q : Nat} (hq : pc + 1 = q) (h : inL (a * b)) (k : Gs X q lv (vL (a * b) :: st) σ) : Gs X pc lv (vL b :: vL a :: st) σ := by
  obtain ⟨p, l, e, R, s, m, args, below, meth, c, D, cs, ad, A, cells, slots, Q⟩ := X
  obtain ⟨hx, hb, hml, hown, hts, hret, hlk, hK, hN, hi, hA, hd1, hd2, hd3, hd4⟩ := hF
  intro H locs ls hl hst hσ hP hS
  subst hq
  refine lv_lmul (x := Int64.ofInt a) (y := Int64.ofInt b) hx hb hdg ?_
  rw [← Int64.ofInt_mul]
  exact k H locs ls hl (ok_cs h (ok_tl (ok_tl hst))) hσ hP hS
theorem jr_lrem {M : MM} {d : Nat} {X : CT} (hF : Fix M d X) {pc : Nat} {lv : List (Option PV)} {st : List PV} {σ : Sg} {a b : Int} (hdg : decode M.2.1 pc = .ok (.lrem, 1)) {q : Nat} (hq : pc + 1 = q) (ha : 0 ≤ a) (hb0 : 0 < b) (k : Gs X q lv (vL (a % b) :: st) σ) : Gs X pc lv (vL b :: vL a :: st) σ := by
  obtain ⟨p, l, e, R, s, m, args, below, meth, c, D, cs, ad, A, cells, slots, Q⟩ := X
  obtain ⟨hx, hb, hml, hown, hts, hret, hlk, hK, hN, hi, hA, hd1, hd2, hd3, hd4⟩ := hF
  intro H locs ls hl hst hσ hP hS
  subst hq
  have oa : inL a := ok_hd (ok_tl hst)
  have ob : inL b := ok_hd hst
  have e1 := i64_rem oa ob ha hb0
  refine lv_lrem (x := Int64.ofInt a) (y := Int64.ofInt b) hx hb hdg e1.1 ?_
  rw [e1.2.1]
  exact k H locs ls hl (ok_cs e1.2.2 (ok_tl (ok_tl hst))) hσ hP hS
theorem jr_land {M : MM} {d : Nat} {X : CT} (hF : Fix M d X) {pc : Nat} {lv : List (Option PV)} {st : List PV} {σ : Sg} {a b : Int} (hdg : decode M.2.1 pc = .ok (.land, 1)) {q : Nat} (hq : pc + 1 = q)  (k : Gs X q lv (vL (Int64.ofInt a &&& Int64.ofInt b).toInt :: st) σ) : Gs X pc lv (vL b :: vL a :: st) σ := by
  obtain ⟨p, l, e, R, s, m, args, below, meth, c, D, cs, ad, A, cells, slots, Q⟩ := X
  obtain ⟨hx, hb, hml, hown, hts, hret, hlk, hK, hN, hi, hA, hd1, hd2, hd3, hd4⟩ := hF
  intro H locs ls hl hst hσ hP hS
  subst hq
  refine lv_land (x := Int64.ofInt a) (y := Int64.ofInt b) hx hb hdg ?_
  have h := k H locs ls hl (ok_cs (inL_toInt _) (ok_tl (ok_tl hst))) hσ hP hS
  rw [List.map_cons, show tV ad (vL (Int64.ofInt a &&& Int64.ofInt b).toInt) = Value.long (Int64.ofInt (Int64.ofInt a &&& Int64.ofInt b).toInt) from rfl, Int64.ofInt_toInt] at h
  exact h
theorem jr_lor {M : MM} {d : Nat} {X : CT} (hF : Fix M d X) {pc : Nat} {lv : List (Option PV)} {st : List PV} {σ : Sg} {a b : Int} (hdg : decode M.2.1 pc = .ok (.lor, 1)) {q : Nat} (hq : pc + 1 = q)  (k : Gs X q lv (vL (Int64.ofInt a ||| Int64.ofInt b).toInt :: st) σ) : Gs X pc lv (vL b :: vL a :: st) σ := by
  obtain ⟨p, l, e, R, s, m, args, below, meth, c, D, cs, ad, A, cells, slots, Q⟩ := X
  obtain ⟨hx, hb, hml, hown, hts, hret, hlk, hK, hN, hi, hA, hd1, hd2, hd3, hd4⟩ := hF
  intro H locs ls hl hst hσ hP hS
  subst hq
  refine lv_lor (x := Int64.ofInt a) (y := Int64.ofInt b) hx hb hdg ?_
  have h := k H locs ls hl (ok_cs (inL_toInt _) (ok_tl (ok_tl hst))) hσ hP hS
  rw [List.map_cons, show tV ad (vL (Int64.ofInt a ||| Int64.ofInt b).toInt) = Value.long (Int64.ofInt (Int64.ofInt a ||| Int64.ofInt b).toInt) from rfl, Int64.ofInt_toInt] at h
  exact h
theorem jr_lshl {M : MM} {d : Nat} {X : CT} (hF : Fix M d X) {pc : Nat} {lv : List (Option PV)} {st : List PV} {σ : Sg} {a b : Int} (hdg : decode M.2.1 pc = .ok (.lshl, 1)) {q : Nat} (hq : pc + 1 = q)  (k : Gs X q lv (vL (Int64.ofInt a <<< ((Int32.ofInt b).toInt64 &&& 63)).toInt :: st) σ) : Gs X pc lv (vI b :: vL a :: st) σ := by
  obtain ⟨p, l, e, R, s, m, args, below, meth, c, D, cs, ad, A, cells, slots, Q⟩ := X
  obtain ⟨hx, hb, hml, hown, hts, hret, hlk, hK, hN, hi, hA, hd1, hd2, hd3, hd4⟩ := hF
  intro H locs ls hl hst hσ hP hS
  subst hq
  refine lv_lshl (x := Int64.ofInt a) (y := Int32.ofInt b) hx hb hdg rfl ?_
  have h := k H locs ls hl (ok_cs (inL_toInt _) (ok_tl (ok_tl hst))) hσ hP hS
  rw [List.map_cons, show tV ad (vL (Int64.ofInt a <<< ((Int32.ofInt b).toInt64 &&& 63)).toInt) = Value.long (Int64.ofInt (Int64.ofInt a <<< ((Int32.ofInt b).toInt64 &&& 63)).toInt) from rfl, Int64.ofInt_toInt] at h
  exact h
theorem jr_lshr {M : MM} {d : Nat} {X : CT} (hF : Fix M d X) {pc : Nat} {lv : List (Option PV)} {st : List PV} {σ : Sg} {a b : Int} (hdg : decode M.2.1 pc = .ok (.lshr, 1)) {q : Nat} (hq : pc + 1 = q)  (k : Gs X q lv (vL (Int64.ofInt a >>> ((Int32.ofInt b).toInt64 &&& 63)).toInt :: st) σ) : Gs X pc lv (vI b :: vL a :: st) σ := by
  obtain ⟨p, l, e, R, s, m, args, below, meth, c, D, cs, ad, A, cells, slots, Q⟩ := X
  obtain ⟨hx, hb, hml, hown, hts, hret, hlk, hK, hN, hi, hA, hd1, hd2, hd3, hd4⟩ := hF
  intro H locs ls hl hst hσ hP hS
  subst hq
  refine lv_lshr (x := Int64.ofInt a) (y := Int32.ofInt b) hx hb hdg rfl ?_
  have h := k H locs ls hl (ok_cs (inL_toInt _) (ok_tl (ok_tl hst))) hσ hP hS
  rw [List.map_cons, show tV ad (vL (Int64.ofInt a >>> ((Int32.ofInt b).toInt64 &&& 63)).toInt) = Value.long (Int64.ofInt (Int64.ofInt a >>> ((Int32.ofInt b).toInt64 &&& 63)).toInt) from rfl, Int64.ofInt_toInt] at h
  exact h
theorem jr_lcmp {M : MM} {d : Nat} {X : CT} (hF : Fix M d X) {pc : Nat} {lv : List (Option PV)} {st : List PV} {σ : Sg} {a b : Int} (hdg : decode M.2.1 pc = .ok (.lcmp, 1)) {q : Nat} (hq : pc + 1 = q)  (k : Gs X q lv (vI (if b < a then 1 else if a = b then 0 else -1) :: st) σ) : Gs X pc lv (vL b :: vL a :: st) σ := by
  obtain ⟨p, l, e, R, s, m, args, below, meth, c, D, cs, ad, A, cells, slots, Q⟩ := X
  obtain ⟨hx, hb, hml, hown, hts, hret, hlk, hK, hN, hi, hA, hd1, hd2, hd3, hd4⟩ := hF
  intro H locs ls hl hst hσ hP hS
  subst hq
  have oa : inL a := ok_hd (ok_tl hst)
  have ob : inL b := ok_hd hst
  refine W.lcmp (x := Int64.ofInt a) (y := Int64.ofInt b) hx hb hdg ?_
  rw [i64_cmp oa ob]
  exact k H locs ls hl (ok_cs (show inR _ by split; exact ⟨by decide, by decide⟩; split <;> exact ⟨by decide, by decide⟩) (ok_tl (ok_tl hst))) hσ hP hS
theorem jr_dup {M : MM} {d : Nat} {X : CT} (hF : Fix M d X) {pc : Nat} {lv : List (Option PV)} {st : List PV} {σ : Sg} {v : PV} (hdg : decode M.2.1 pc = .ok (.dup, 1)) {q : Nat} (hq : pc + 1 = q) (hv : pcat v = 1) (k : Gs X q lv (v :: v :: st) σ) : Gs X pc lv (v :: st) σ := by
  obtain ⟨p, l, e, R, s, m, args, below, meth, c, D, cs, ad, A, cells, slots, Q⟩ := X
  obtain ⟨hx, hb, hml, hown, hts, hret, hlk, hK, hN, hi, hA, hd1, hd2, hd3, hd4⟩ := hF
  intro H locs ls hl hst hσ hP hS
  subst hq
  exact lv_dup hx hb hdg ((pcat_eq ad v).trans hv) (k H locs ls hl (ok_cs (ok_hd hst) hst) hσ hP hS)
theorem jr_pop {M : MM} {d : Nat} {X : CT} (hF : Fix M d X) {pc : Nat} {lv : List (Option PV)} {st : List PV} {σ : Sg} {v : PV} (hdg : decode M.2.1 pc = .ok (.pop, 1)) {q : Nat} (hq : pc + 1 = q) (hv : pcat v = 1) (k : Gs X q lv (st) σ) : Gs X pc lv (v :: st) σ := by
  obtain ⟨p, l, e, R, s, m, args, below, meth, c, D, cs, ad, A, cells, slots, Q⟩ := X
  obtain ⟨hx, hb, hml, hown, hts, hret, hlk, hK, hN, hi, hA, hd1, hd2, hd3, hd4⟩ := hF
  intro H locs ls hl hst hσ hP hS
  subst hq
  exact lv_pop hx hb hdg ((pcat_eq ad v).trans hv) (k H locs ls hl (ok_tl hst) hσ hP hS)
theorem jr_dup2 {M : MM} {d : Nat} {X : CT} (hF : Fix M d X) {pc : Nat} {lv : List (Option PV)} {st : List PV} {σ : Sg} {v w : PV} (hdg : decode M.2.1 pc = .ok (.dup2, 1)) {q : Nat} (hq : pc + 1 = q) (hv : pcat v = 1) (hw : pcat w = 1) (k : Gs X q lv (v :: w :: v :: w :: st) σ) : Gs X pc lv (v :: w :: st) σ := by
  obtain ⟨p, l, e, R, s, m, args, below, meth, c, D, cs, ad, A, cells, slots, Q⟩ := X
  obtain ⟨hx, hb, hml, hown, hts, hret, hlk, hK, hN, hi, hA, hd1, hd2, hd3, hd4⟩ := hF
  intro H locs ls hl hst hσ hP hS
  subst hq
  exact lv_dup2_11 hx hb hdg ((pcat_eq ad v).trans hv) ((pcat_eq ad w).trans hw) (k H locs ls hl (ok_cs (ok_hd hst) (ok_cs (ok_hd (ok_tl hst)) hst)) hσ hP hS)
theorem jr_icmp_eq {M : MM} {d : Nat} {X : CT} (hF : Fix M d X) {pc : Nat} {lv : List (Option PV)} {st : List PV} {σ : Sg} {a b : Int} {off : Int} (hdg : decode M.2.1 pc = .ok (.if_icmp .eq off, 3)) {q : Nat} (hq : pc + 3 = q) (t : Nat) (ht : (pc : Int) + off = (t : Int)) (kt : a = b → Gs X t lv (st) σ) (kf : a ≠ b → Gs X q lv (st) σ) : Gs X pc lv (vI b :: vI a :: st) σ := by
  obtain ⟨p, l, e, R, s, m, args, below, meth, c, D, cs, ad, A, cells, slots, Q⟩ := X
  obtain ⟨hx, hb, hml, hown, hts, hret, hlk, hK, hN, hi, hA, hd1, hd2, hd3, hd4⟩ := hF
  intro H locs ls hl hst hσ hP hS
  subst hq
  have oa : inR a := ok_hd (ok_tl hst)
  have ob : inR b := ok_hd hst
  refine lv_icmp_eq (x := Int32.ofInt a) (y := Int32.ofInt b) hx hb hdg ht (fun h => ?_) (fun h => ?_)
  · exact kt ((i32_eq oa ob).mp h) H locs ls hl (ok_tl (ok_tl hst)) hσ hP hS
  · exact kf (fun z => h ((i32_eq oa ob).mpr z)) H locs ls hl (ok_tl (ok_tl hst)) hσ hP hS
theorem jr_icmp_ne {M : MM} {d : Nat} {X : CT} (hF : Fix M d X) {pc : Nat} {lv : List (Option PV)} {st : List PV} {σ : Sg} {a b : Int} {off : Int} (hdg : decode M.2.1 pc = .ok (.if_icmp .ne off, 3)) {q : Nat} (hq : pc + 3 = q) (t : Nat) (ht : (pc : Int) + off = (t : Int)) (kt : a ≠ b → Gs X t lv (st) σ) (kf : a = b → Gs X q lv (st) σ) : Gs X pc lv (vI b :: vI a :: st) σ := by
  obtain ⟨p, l, e, R, s, m, args, below, meth, c, D, cs, ad, A, cells, slots, Q⟩ := X
  obtain ⟨hx, hb, hml, hown, hts, hret, hlk, hK, hN, hi, hA, hd1, hd2, hd3, hd4⟩ := hF
  intro H locs ls hl hst hσ hP hS
  subst hq
  have oa : inR a := ok_hd (ok_tl hst)
  have ob : inR b := ok_hd hst
  refine lv_icmp_ne (x := Int32.ofInt a) (y := Int32.ofInt b) hx hb hdg ht (fun h => ?_) (fun h => ?_)
  · exact kt (fun z => h ((i32_eq oa ob).mpr z)) H locs ls hl (ok_tl (ok_tl hst)) hσ hP hS
  · exact kf ((i32_eq oa ob).mp h) H locs ls hl (ok_tl (ok_tl hst)) hσ hP hS
theorem jr_icmp_lt {M : MM} {d : Nat} {X : CT} (hF : Fix M d X) {pc : Nat} {lv : List (Option PV)} {st : List PV} {σ : Sg} {a b : Int} {off : Int} (hdg : decode M.2.1 pc = .ok (.if_icmp .lt off, 3)) {q : Nat} (hq : pc + 3 = q) (t : Nat) (ht : (pc : Int) + off = (t : Int)) (kt : a < b → Gs X t lv (st) σ) (kf : b ≤ a → Gs X q lv (st) σ) : Gs X pc lv (vI b :: vI a :: st) σ := by
  obtain ⟨p, l, e, R, s, m, args, below, meth, c, D, cs, ad, A, cells, slots, Q⟩ := X
  obtain ⟨hx, hb, hml, hown, hts, hret, hlk, hK, hN, hi, hA, hd1, hd2, hd3, hd4⟩ := hF
  intro H locs ls hl hst hσ hP hS
  subst hq
  have oa : inR a := ok_hd (ok_tl hst)
  have ob : inR b := ok_hd hst
  refine lv_icmp_lt (x := Int32.ofInt a) (y := Int32.ofInt b) hx hb hdg ht (fun h => ?_) (fun h => ?_)
  · exact kt ((i32_lt oa ob).mp h) H locs ls hl (ok_tl (ok_tl hst)) hσ hP hS
  · exact kf (Int.not_lt.mp fun z => h ((i32_lt oa ob).mpr z)) H locs ls hl (ok_tl (ok_tl hst)) hσ hP hS
theorem jr_icmp_ge {M : MM} {d : Nat} {X : CT} (hF : Fix M d X) {pc : Nat} {lv : List (Option PV)} {st : List PV} {σ : Sg} {a b : Int} {off : Int} (hdg : decode M.2.1 pc = .ok (.if_icmp .ge off, 3)) {q : Nat} (hq : pc + 3 = q) (t : Nat) (ht : (pc : Int) + off = (t : Int)) (kt : b ≤ a → Gs X t lv (st) σ) (kf : a < b → Gs X q lv (st) σ) : Gs X pc lv (vI b :: vI a :: st) σ := by
  obtain ⟨p, l, e, R, s, m, args, below, meth, c, D, cs, ad, A, cells, slots, Q⟩ := X
  obtain ⟨hx, hb, hml, hown, hts, hret, hlk, hK, hN, hi, hA, hd1, hd2, hd3, hd4⟩ := hF
  intro H locs ls hl hst hσ hP hS
  subst hq
  have oa : inR a := ok_hd (ok_tl hst)
  have ob : inR b := ok_hd hst
  refine lv_icmp_ge (x := Int32.ofInt a) (y := Int32.ofInt b) hx hb hdg ht (fun h => ?_) (fun h => ?_)
  · exact kt ((i32_le ob oa).mp h) H locs ls hl (ok_tl (ok_tl hst)) hσ hP hS
  · exact kf (Int.not_le.mp fun z => h ((i32_le ob oa).mpr z)) H locs ls hl (ok_tl (ok_tl hst)) hσ hP hS
theorem jr_icmp_gt {M : MM} {d : Nat} {X : CT} (hF : Fix M d X) {pc : Nat} {lv : List (Option PV)} {st : List PV} {σ : Sg} {a b : Int} {off : Int} (hdg : decode M.2.1 pc = .ok (.if_icmp .gt off, 3)) {q : Nat} (hq : pc + 3 = q) (t : Nat) (ht : (pc : Int) + off = (t : Int)) (kt : b < a → Gs X t lv (st) σ) (kf : a ≤ b → Gs X q lv (st) σ) : Gs X pc lv (vI b :: vI a :: st) σ := by
  obtain ⟨p, l, e, R, s, m, args, below, meth, c, D, cs, ad, A, cells, slots, Q⟩ := X
  obtain ⟨hx, hb, hml, hown, hts, hret, hlk, hK, hN, hi, hA, hd1, hd2, hd3, hd4⟩ := hF
  intro H locs ls hl hst hσ hP hS
  subst hq
  have oa : inR a := ok_hd (ok_tl hst)
  have ob : inR b := ok_hd hst
  refine lv_icmp_gt (x := Int32.ofInt a) (y := Int32.ofInt b) hx hb hdg ht (fun h => ?_) (fun h => ?_)
  · exact kt ((i32_lt ob oa).mp h) H locs ls hl (ok_tl (ok_tl hst)) hσ hP hS
  · exact kf (Int.not_lt.mp fun z => h ((i32_lt ob oa).mpr z)) H locs ls hl (ok_tl (ok_tl hst)) hσ hP hS
theorem jr_icmp_le {M : MM} {d : Nat} {X : CT} (hF : Fix M d X) {pc : Nat} {lv : List (Option PV)} {st : List PV} {σ : Sg} {a b : Int} {off : Int} (hdg : decode M.2.1 pc = .ok (.if_icmp .le off, 3)) {q : Nat} (hq : pc + 3 = q) (t : Nat) (ht : (pc : Int) + off = (t : Int)) (kt : a ≤ b → Gs X t lv (st) σ) (kf : b < a → Gs X q lv (st) σ) : Gs X pc lv (vI b :: vI a :: st) σ := by
  obtain ⟨p, l, e, R, s, m, args, below, meth, c, D, cs, ad, A, cells, slots, Q⟩ := X
  obtain ⟨hx, hb, hml, hown, hts, hret, hlk, hK, hN, hi, hA, hd1, hd2, hd3, hd4⟩ := hF
  intro H locs ls hl hst hσ hP hS
  subst hq
  have oa : inR a := ok_hd (ok_tl hst)
  have ob : inR b := ok_hd hst
  refine lv_icmp_le (x := Int32.ofInt a) (y := Int32.ofInt b) hx hb hdg ht (fun h => ?_) (fun h => ?_)
  · exact kt ((i32_le oa ob).mp h) H locs ls hl (ok_tl (ok_tl hst)) hσ hP hS
  · exact kf (Int.not_le.mp fun z => h ((i32_le oa ob).mpr z)) H locs ls hl (ok_tl (ok_tl hst)) hσ hP hS
theorem jr_if_eq {M : MM} {d : Nat} {X : CT} (hF : Fix M d X) {pc : Nat} {lv : List (Option PV)} {st : List PV} {σ : Sg} {a : Int} {off : Int} (hdg : decode M.2.1 pc = .ok (.ifCond .eq off, 3)) {q : Nat} (hq : pc + 3 = q) (t : Nat) (ht : (pc : Int) + off = (t : Int)) (kt : a = 0 → Gs X t lv (st) σ) (kf : a ≠ 0 → Gs X q lv (st) σ) : Gs X pc lv (vI a :: st) σ := by
  obtain ⟨p, l, e, R, s, m, args, below, meth, c, D, cs, ad, A, cells, slots, Q⟩ := X
  obtain ⟨hx, hb, hml, hown, hts, hret, hlk, hK, hN, hi, hA, hd1, hd2, hd3, hd4⟩ := hF
  intro H locs ls hl hst hσ hP hS
  subst hq
  have oa : inR a := ok_hd hst
  have oz : inR 0 := ⟨by decide, by decide⟩
  refine lv_if_eq (x := Int32.ofInt a) hx hb hdg ht (fun h => ?_) (fun h => ?_)
  · exact kt ((i32_eq oa oz).mp (h.trans i32_0)) H locs ls hl (ok_tl hst) hσ hP hS
  · exact kf (fun z => h (((i32_eq oa oz).mpr z).trans i32_0.symm)) H locs ls hl (ok_tl hst) hσ hP hS
theorem jr_if_ne {M : MM} {d : Nat} {X : CT} (hF : Fix M d X) {pc : Nat} {lv : List (Option PV)} {st : List PV} {σ : Sg} {a : Int} {off : Int} (hdg : decode M.2.1 pc = .ok (.ifCond .ne off, 3)) {q : Nat} (hq : pc + 3 = q) (t : Nat) (ht : (pc : Int) + off = (t : Int)) (kt : a ≠ 0 → Gs X t lv (st) σ) (kf : a = 0 → Gs X q lv (st) σ) : Gs X pc lv (vI a :: st) σ := by
  obtain ⟨p, l, e, R, s, m, args, below, meth, c, D, cs, ad, A, cells, slots, Q⟩ := X
  obtain ⟨hx, hb, hml, hown, hts, hret, hlk, hK, hN, hi, hA, hd1, hd2, hd3, hd4⟩ := hF
  intro H locs ls hl hst hσ hP hS
  subst hq
  have oa : inR a := ok_hd hst
  have oz : inR 0 := ⟨by decide, by decide⟩
  refine lv_if_ne (x := Int32.ofInt a) hx hb hdg ht (fun h => ?_) (fun h => ?_)
  · exact kt (fun z => h (((i32_eq oa oz).mpr z).trans i32_0.symm)) H locs ls hl (ok_tl hst) hσ hP hS
  · exact kf ((i32_eq oa oz).mp (h.trans i32_0)) H locs ls hl (ok_tl hst) hσ hP hS
theorem jr_if_lt {M : MM} {d : Nat} {X : CT} (hF : Fix M d X) {pc : Nat} {lv : List (Option PV)} {st : List PV} {σ : Sg} {a : Int} {off : Int} (hdg : decode M.2.1 pc = .ok (.ifCond .lt off, 3)) {q : Nat} (hq : pc + 3 = q) (t : Nat) (ht : (pc : Int) + off = (t : Int)) (kt : a < 0 → Gs X t lv (st) σ) (kf : 0 ≤ a → Gs X q lv (st) σ) : Gs X pc lv (vI a :: st) σ := by
  obtain ⟨p, l, e, R, s, m, args, below, meth, c, D, cs, ad, A, cells, slots, Q⟩ := X
  obtain ⟨hx, hb, hml, hown, hts, hret, hlk, hK, hN, hi, hA, hd1, hd2, hd3, hd4⟩ := hF
  intro H locs ls hl hst hσ hP hS
  subst hq
  have oa : inR a := ok_hd hst
  have oz : inR 0 := ⟨by decide, by decide⟩
  refine lv_if_lt (x := Int32.ofInt a) hx hb hdg ht (fun h => ?_) (fun h => ?_)
  · exact kt ((i32_lt oa oz).mp (i32_0 ▸ h)) H locs ls hl (ok_tl hst) hσ hP hS
  · exact kf (Int.not_lt.mp fun z => h (i32_0 ▸ (i32_lt oa oz).mpr z)) H locs ls hl (ok_tl hst) hσ hP hS
theorem jr_if_ge {M : MM} {d : Nat} {X : CT} (hF : Fix M d X) {pc : Nat} {lv : List (Option PV)} {st : List PV} {σ : Sg} {a : Int} {off : Int} (hdg : decode M.2.1 pc = .ok (.ifCond .ge off, 3)) {q : Nat} (hq : pc + 3 = q) (t : Nat) (ht : (pc : Int) + off = (t : Int)) (kt : 0 ≤ a → Gs X t lv (st) σ) (kf : a < 0 → Gs X q lv (st) σ) : Gs X pc lv (vI a :: st) σ := by
  obtain ⟨p, l, e, R, s, m, args, below, meth, c, D, cs, ad, A, cells, slots, Q⟩ := X
  obtain ⟨hx, hb, hml, hown, hts, hret, hlk, hK, hN, hi, hA, hd1, hd2, hd3, hd4⟩ := hF
  intro H locs ls hl hst hσ hP hS
  subst hq
  have oa : inR a := ok_hd hst
  have oz : inR 0 := ⟨by decide, by decide⟩
  refine lv_if_ge (x := Int32.ofInt a) hx hb hdg ht (fun h => ?_) (fun h => ?_)
  · exact kt ((i32_le oz oa).mp (i32_0 ▸ h)) H locs ls hl (ok_tl hst) hσ hP hS
  · exact kf (Int.not_le.mp fun z => h (i32_0 ▸ (i32_le oz oa).mpr z)) H locs ls hl (ok_tl hst) hσ hP hS
theorem jr_if_gt {M : MM} {d : Nat} {X : CT} (hF : Fix M d X) {pc : Nat} {lv : List (Option PV)} {st : List PV} {σ : Sg} {a : Int} {off : Int} (hdg : decode M.2.1 pc = .ok (.ifCond .gt off, 3)) {q : Nat} (hq : pc + 3 = q) (t : Nat) (ht : (pc : Int) + off = (t : Int)) (kt : 0 < a → Gs X t lv (st) σ) (kf : a ≤ 0 → Gs X q lv (st) σ) : Gs X pc lv (vI a :: st) σ := by
  obtain ⟨p, l, e, R, s, m, args, below, meth, c, D, cs, ad, A, cells, slots, Q⟩ := X
  obtain ⟨hx, hb, hml, hown, hts, hret, hlk, hK, hN, hi, hA, hd1, hd2, hd3, hd4⟩ := hF
  intro H locs ls hl hst hσ hP hS
  subst hq
  have oa : inR a := ok_hd hst
  have oz : inR 0 := ⟨by decide, by decide⟩
  refine lv_if_gt (x := Int32.ofInt a) hx hb hdg ht (fun h => ?_) (fun h => ?_)
  · exact kt ((i32_lt oz oa).mp (i32_0 ▸ h)) H locs ls hl (ok_tl hst) hσ hP hS
  · exact kf (Int.not_lt.mp fun z => h (i32_0 ▸ (i32_lt oz oa).mpr z)) H locs ls hl (ok_tl hst) hσ hP hS
theorem jr_if_le {M : MM} {d : Nat} {X : CT} (hF : Fix M d X) {pc : Nat} {lv : List (Option PV)} {st : List PV} {σ : Sg} {a : Int} {off : Int} (hdg : decode M.2.1 pc = .ok (.ifCond .le off, 3)) {q : Nat} (hq : pc + 3 = q) (t : Nat) (ht : (pc : Int) + off = (t : Int)) (kt : a ≤ 0 → Gs X t lv (st) σ) (kf : 0 < a → Gs X q lv (st) σ) : Gs X pc lv (vI a :: st) σ := by
  obtain ⟨p, l, e, R, s, m, args, below, meth, c, D, cs, ad, A, cells, slots, Q⟩ := X
  obtain ⟨hx, hb, hml, hown, hts, hret, hlk, hK, hN, hi, hA, hd1, hd2, hd3, hd4⟩ := hF
  intro H locs ls hl hst hσ hP hS
  subst hq
  have oa : inR a := ok_hd hst
  have oz : inR 0 := ⟨by decide, by decide⟩
  refine lv_if_le (x := Int32.ofInt a) hx hb hdg ht (fun h => ?_) (fun h => ?_)
  · exact kt ((i32_le oa oz).mp (i32_0 ▸ h)) H locs ls hl (ok_tl hst) hσ hP hS
  · exact kf (Int.not_le.mp fun z => h (i32_0 ▸ (i32_le oa oz).mpr z)) H locs ls hl (ok_tl hst) hσ hP hS
theorem jr_goto {M : MM} {d : Nat} {X : CT} (hF : Fix M d X) {pc : Nat} {lv : List (Option PV)} {st : List PV} {σ : Sg} {off : Int} (hdg : decode M.2.1 pc = .ok (.goto off, 3)) (t : Nat) (ht : (pc : Int) + off = (t : Int)) (k : Gs X t lv st σ) : Gs X pc lv st σ := by
  obtain ⟨p, l, e, R, s, m, args, below, meth, c, D, cs, ad, A, cells, slots, Q⟩ := X
  obtain ⟨hx, hb, hml, hown, hts, hret, hlk, hK, hN, hi, hA, hd1, hd2, hd3, hd4⟩ := hF
  intro H locs ls hl hst hσ hP hS
  exact lv_goto hx hb hdg ht (k H locs ls hl hst hσ hP hS)
theorem jr_tin {M : MM} {d : Nat} {X : CT} (hF : Fix M d X) {pc : Nat} {lv : List (Option PV)} {st : List PV} {σ : Sg} {a dflt lo hi off : Int} {offs : Array Int} {len : Nat} (hdg : decode M.2.1 pc = .ok (.tableswitch dflt lo hi offs, len)) (t : Nat) (h1 : lo ≤ a) (h2 : a ≤ hi) (ho : offs[(a - lo).toNat]? = some off) (ht : (pc : Int) + off = (t : Int)) (k : Gs X t lv st σ) : Gs X pc lv (vI a :: st) σ := by
  obtain ⟨p, l, e, R, s, m, args, below, meth, c, D, cs, ad, A, cells, slots, Q⟩ := X
  obtain ⟨hx, hb, hml, hown, hts, hret, hlk, hK, hN, hi, hA, hd1, hd2, hd3, hd4⟩ := hF
  intro H locs ls hl hst hσ hP hS
  have oa : inR a := ok_hd hst
  refine lv_tableIn (x := Int32.ofInt a) hx hb hdg (by rw [i32_in oa]; omega) (by rw [i32_in oa]; omega) (by rw [i32_in oa]; exact ho) ht ?_
  exact k H locs ls hl (ok_tl hst) hσ hP hS
theorem jr_tout {M : MM} {d : Nat} {X : CT} (hF : Fix M d X) {pc : Nat} {lv : List (Option PV)} {st : List PV} {σ : Sg} {a dflt lo hi : Int} {offs : Array Int} {len : Nat} (hdg : decode M.2.1 pc = .ok (.tableswitch dflt lo hi offs, len)) (t : Nat) (h : a < lo ∨ hi < a) (ht : (pc : Int) + dflt = (t : Int)) (k : Gs X t lv st σ) : Gs X pc lv (vI a :: st) σ := by
  obtain ⟨p, l, e, R, s, m, args, below, meth, c, D, cs, ad, A, cells, slots, Q⟩ := X
  obtain ⟨hx, hb, hml, hown, hts, hret, hlk, hK, hN, hi, hA, hd1, hd2, hd3, hd4⟩ := hF
  intro H locs ls hl hst hσ hP hS
  have oa : inR a := ok_hd hst
  refine lv_tableOut (x := Int32.ofInt a) hx hb hdg (by rw [i32_in oa]; exact h) ht ?_
  exact k H locs ls hl (ok_tl hst) hσ hP hS
theorem jr_lsw {M : MM} {d : Nat} {X : CT} (hF : Fix M d X) {pc : Nat} {lv : List (Option PV)} {st : List PV} {σ : Sg} {a dflt off : Int} {ps : Array (Int × Int)} {len : Nat} (hdg : decode M.2.1 pc = .ok (.lookupswitch dflt ps, len)) (hp : (ps.toList.zip (ps.toList.drop 1)).all (fun (a, next) => a.1 < next.1) = true) (t : Nat) (ho : Op.lookupswitch.offset ps.toList dflt a = off) (ht : (pc : Int) + off = (t : Int)) (k : Gs X t lv st σ) : Gs X pc lv (vI a :: st) σ := by
  obtain ⟨p, l, e, R, s, m, args, below, meth, c, D, cs, ad, A, cells, slots, Q⟩ := X
  obtain ⟨hx, hb, hml, hown, hts, hret, hlk, hK, hN, hi, hA, hd1, hd2, hd3, hd4⟩ := hF
  intro H locs ls hl hst hσ hP hS
  have oa : inR a := ok_hd hst
  refine lv_lookup (x := Int32.ofInt a) hx hb hdg hp (by rw [i32_in oa]; exact ho) ht ?_
  exact k H locs ls hl (ok_tl hst) hσ hP hS
def lvp (ad : Nat → Nat) (lv : List (Option PV)) : List (Nat × Value) := (List.range lv.length).filterMap (fun i => match lv[i]? with
  | some (some v) => some (i, tV ad v)
  | _ => none)
theorem lvp_mem {ad : Nat → Nat} {lv : List (Option PV)} {i : Nat} {v : PV} (h : lv[i]? = some (some v)) : (i, tV ad v) ∈ lvp ad lv := by
  refine List.mem_filterMap.mpr ⟨i, List.mem_range.mpr (List.getElem?_eq_some_iff.mp h).1, ?_⟩
  rw [h]
theorem lvp_has {ad : Nat → Nat} {lv : List (Option PV)} {n : Nat} {ls : Array Slot} (h : lvok ad lv n ls) : lv_has ls n (lvp ad lv) := by
  refine ⟨h.1, h.2.1, fun q hq => ?_⟩
  obtain ⟨i, -, hi⟩ := List.mem_filterMap.mp hq
  split at hi
  · rename_i v hv
    cases hi
    exact (h.2.2 _ _ hv).1
  · cases hi
def prevL (lv : List (Option PV)) (i : Nat) : Bool := match i with
  | 0 => false
  | j + 1 => match lv[j]? with
    | some (some (.inr (.inl _))) => true
    | _ => false
theorem lvok_set1 {ad : Nat → Nat} {lv : List (Option PV)} {n i : Nat} {ls ls' : Array Slot} {v : PV} (h : lvok ad lv n ls) (hp : prevL lv i = false) (hv : okP v)
    (h' : lv_has ls' n ((i, tV ad v) :: (lvp ad lv).filter (fun q => !(q.1 == i) && !(q.1 + 1 == i && q.2.category == 2)))) : lvok ad (lv.set i (some v)) n ls' := by
  refine ⟨h'.1, h'.2.1, fun j w hj => ?_⟩
  by_cases e : j = i
  · subst e
    by_cases hl : j < lv.length
    · rw [List.getElem?_set_self hl] at hj
      cases hj
      exact ⟨h'.2.2 _ List.mem_cons_self, hv⟩
    · rw [List.getElem?_eq_none (by rw [List.length_set]; omega)] at hj
      cases hj
  · rw [List.getElem?_set_ne (Ne.symm e)] at hj
    refine ⟨h'.2.2 (j, tV ad w) (List.mem_cons_of_mem _ (List.mem_filter.mpr ⟨lvp_mem hj, ?_⟩)), (h.2.2 _ _ hj).2⟩
    have e1 : (j == i) = false := by simp [e]
    simp only [e1, Bool.not_false, Bool.true_and, Bool.not_eq_true', Bool.and_eq_false_iff]
    by_cases e2 : j + 1 = i
    · right
      subst e2
      rw [pcat_eq]
      rcases w with z | z | z
      · rfl
      · exact absurd hp (by show ¬ (match lv[j]? with | some (some (.inr (.inl _))) => true | _ => false) = false; rw [hj]; exact fun h => by cases h)
      · rfl
    · left
      simp [e2]
theorem lvok_set2 {ad : Nat → Nat} {lv : List (Option PV)} {n i : Nat} {ls ls' : Array Slot} {v : PV} (h : lvok ad lv n ls) (hp : prevL lv i = false) (hv : okP v)
    (h' : lv_has ls' n ((i, tV ad v) :: (lvp ad lv).filter (fun q => !(q.1 == i) && (!(q.1 == i + 1) && !(q.1 + 1 == i && q.2.category == 2))))) : lvok ad ((lv.set i (some v)).set (i + 1) none) n ls' := by
  refine ⟨h'.1, h'.2.1, fun j w hj => ?_⟩
  by_cases e0 : j = i + 1
  · subst e0
    by_cases hl : i + 1 < (lv.set i (some v)).length
    · rw [List.getElem?_set_self hl] at hj
      cases hj
    · rw [List.getElem?_eq_none (by rw [List.length_set]; omega)] at hj
      cases hj
  · rw [List.getElem?_set_ne (Ne.symm e0)] at hj
    by_cases e : j = i
    · subst e
      by_cases hl : j < lv.length
      · rw [List.getElem?_set_self hl] at hj
        cases hj
        exact ⟨h'.2.2 _ List.mem_cons_self, hv⟩
      · rw [List.getElem?_eq_none (by rw [List.length_set]; omega)] at hj
        cases hj
    · rw [List.getElem?_set_ne (Ne.symm e)] at hj
      refine ⟨h'.2.2 (j, tV ad w) (List.mem_cons_of_mem _ (List.mem_filter.mpr ⟨lvp_mem hj, ?_⟩)), (h.2.2 _ _ hj).2⟩
      have e1 : (j == i) = false := by simp [e]
      have e3 : (j == i + 1) = false := by simp [e0]
      simp only [e1, e3, Bool.not_false, Bool.true_and, Bool.not_eq_true', Bool.and_eq_false_iff]
      by_cases e2 : j + 1 = i
      · right
        subst e2
        rw [pcat_eq]
        rcases w with z | z | z
        · rfl
        · exact absurd hp (by show ¬ (match lv[j]? with | some (some (.inr (.inl _))) => true | _ => false) = false; rw [hj]; exact fun h => by cases h)
        · rfl
      · left
        simp [e2]
theorem jr_istore_n {M : MM} {d : Nat} {X : CT} (hF : Fix M d X) {pc : Nat} {lv : List (Option PV)} {st : List PV} {σ : Sg} {n : Fin 4} {z : Int} (hdg : decode M.2.1 pc = .ok (.istore_n n, 1)) {q : Nat} (hq : pc + 1 = q) (hn : (n : Nat) < M.2.2.1) (hp : prevL lv (n : Nat) = false) (k : Gs X q (lv.set (n : Nat) (some (vI z))) st σ) : Gs X pc lv (vI z :: st) σ := by
  obtain ⟨p, l, e, R, s, m, args, below, meth, c, D, cs, ad, A, cells, slots, Q⟩ := X
  obtain ⟨hx, hb, hml, hown, hts, hret, hlk, hK, hN, hi, hA, hd1, hd2, hd3, hd4⟩ := hF
  intro H locs ls hl hst hσ hP hS
  subst hq
  refine lv_istore_n (x := Int32.ofInt z) (nL := c.maxLocals) hx hb hdg rfl (lvp_has hl) (by rw [hml]; exact hn) rfl (fun ls' hl' => ?_)
  exact k H locs ls' (lvok_set1 hl hp (ok_hd hst) hl') (ok_tl hst) hσ hP hS
theorem jr_istore {M : MM} {d : Nat} {X : CT} (hF : Fix M d X) {pc : Nat} {lv : List (Option PV)} {st : List PV} {σ : Sg} {n : Nat} {z : Int} (hdg : decode M.2.1 pc = .ok (.istore n, 2)) {q : Nat} (hq : pc + 2 = q) (hn : n < M.2.2.1) (hp : prevL lv n = false) (k : Gs X q (lv.set n (some (vI z))) st σ) : Gs X pc lv (vI z :: st) σ := by
  obtain ⟨p, l, e, R, s, m, args, below, meth, c, D, cs, ad, A, cells, slots, Q⟩ := X
  obtain ⟨hx, hb, hml, hown, hts, hret, hlk, hK, hN, hi, hA, hd1, hd2, hd3, hd4⟩ := hF
  intro H locs ls hl hst hσ hP hS
  subst hq
  refine lv_istore (x := Int32.ofInt z) (nL := c.maxLocals) hx hb hdg (lvp_has hl) (by rw [hml]; exact hn) rfl (fun ls' hl' => ?_)
  exact k H locs ls' (lvok_set1 hl hp (ok_hd hst) hl') (ok_tl hst) hσ hP hS
theorem jr_astore_n {M : MM} {d : Nat} {X : CT} (hF : Fix M d X) {pc : Nat} {lv : List (Option PV)} {st : List PV} {σ : Sg} {n : Fin 4} {z : Nat} (hdg : decode M.2.1 pc = .ok (.astore_n n, 1)) {q : Nat} (hq : pc + 1 = q) (hn : (n : Nat) < M.2.2.1) (hp : prevL lv (n : Nat) = false) (k : Gs X q (lv.set (n : Nat) (some (vR z))) st σ) : Gs X pc lv (vR z :: st) σ := by
  obtain ⟨p, l, e, R, s, m, args, below, meth, c, D, cs, ad, A, cells, slots, Q⟩ := X
  obtain ⟨hx, hb, hml, hown, hts, hret, hlk, hK, hN, hi, hA, hd1, hd2, hd3, hd4⟩ := hF
  intro H locs ls hl hst hσ hP hS
  subst hq
  refine lv_astore_n (x := ad z) (nL := c.maxLocals) hx hb hdg rfl (lvp_has hl) (by rw [hml]; exact hn) rfl (fun ls' hl' => ?_)
  exact k H locs ls' (lvok_set1 hl hp (ok_hd hst) hl') (ok_tl hst) hσ hP hS
theorem jr_lstore {M : MM} {d : Nat} {X : CT} (hF : Fix M d X) {pc : Nat} {lv : List (Option PV)} {st : List PV} {σ : Sg} {n : Nat} {z : Int} (hdg : decode M.2.1 pc = .ok (.lstore n, 2)) {q : Nat} (hq : pc + 2 = q) (hn : n + 1 < M.2.2.1) (hp : prevL lv n = false) (k : Gs X q ((lv.set n (some (vL z))).set (n + 1) none) st σ) : Gs X pc lv (vL z :: st) σ := by
  obtain ⟨p, l, e, R, s, m, args, below, meth, c, D, cs, ad, A, cells, slots, Q⟩ := X
  obtain ⟨hx, hb, hml, hown, hts, hret, hlk, hK, hN, hi, hA, hd1, hd2, hd3, hd4⟩ := hF
  intro H locs ls hl hst hσ hP hS
  subst hq
  refine lv_lstore (x := Int64.ofInt z) (nL := c.maxLocals) hx hb hdg (lvp_has hl) (by rw [hml]; exact hn) rfl (fun ls' hl' => ?_)
  exact k H locs ls' (lvok_set2 hl hp (ok_hd hst) hl') (ok_tl hst) hσ hP hS
theorem jr_iinc {M : MM} {d : Nat} {X : CT} (hF : Fix M d X) {pc : Nat} {lv : List (Option PV)} {st : List PV} {σ : Sg} {n : Nat} {z w : Int} (hdg : decode M.2.1 pc = .ok (.iinc n w, 3)) {q : Nat} (hq : pc + 3 = q) (hn : n < M.2.2.1) (hp : prevL lv n = false) (h : lv[n]? = some (some (vI z))) (hr : inR (z + w)) (k : Gs X q (lv.set n (some (vI (z + w)))) st σ) : Gs X pc lv st σ := by
  obtain ⟨p, l, e, R, s, m, args, below, meth, c, D, cs, ad, A, cells, slots, Q⟩ := X
  obtain ⟨hx, hb, hml, hown, hts, hret, hlk, hK, hN, hi, hA, hd1, hd2, hd3, hd4⟩ := hF
  intro H locs ls hl hst hσ hP hS
  subst hq
  obtain ⟨i9, hi9⟩ := List.getElem?_of_mem (lvp_mem (ad := ad) h)
  refine lv_iinc (x := Int32.ofInt z) (v := Int32.ofInt (z + w)) (nL := c.maxLocals) hx hb hdg (lvp_has hl) (k := i9) hi9 (by rw [Int32.ofInt_add]) (by rw [hml]; exact hn) rfl (fun ls' hl' => ?_)
  exact k H locs ls' (lvok_set1 (v := vI (z + w)) hl hp hr hl') hst hσ hP hS
end
section
/-- a field that the class own reaches by its pool's entry idx: field j of class ci -/
def FL (own : String) (idx ci j : Nat) : Prop := ∃ (C : String) (T : u_T) (N : Nat), vwCl[ci]? = some (C, T, N) ∧ j < N ∧ Cond.fieldLink own idx (T j).1 (T j).2.1 (T j).2.2.1 ∈ wsT ∧ ∀ w ∈ u_ws C T N, w ∈ wsT
/-- the same, and it may be written: its type -/
def FP (own : String) (idx ci j : Nat) (ty : FieldType) : Prop := ∃ (C : String) (T : u_T) (N : Nat) (ty0 : Nat → FieldType), vwCl[ci]? = some (C, T, N) ∧ j < N ∧ Cond.fieldLink own idx (T j).1 (T j).2.1 (T j).2.2.1 ∈ wsT ∧ (∀ w ∈ u_ws C T N, w ∈ wsT) ∧ (∀ k, k < N → parseFieldDescriptor (T k).2.2.1 = some (ty0 k)) ∧ (∀ a, a < N → ∀ b, b < N → a ≠ b → (T a).2.1 ≠ (T b).2.1) ∧ (T j).2.2.2 = false ∧ parseFieldDescriptor (T j).2.2.1 = some ty
theorem fE_at {ad : Nat → Nat} {σ : Sg} {k j : Nat} {fs : List (Option Nat)} {f : Option Nat} (h : fs[j]? = some f) : (fs.mapIdx (fun j f => fE ad σ k j f))[j]? = some (fE ad σ k j f) := by
  rw [List.getElem?_mapIdx, h]
  rfl
theorem jr_getI {M : MM} {d : Nat} {X : CT} (hF : Fix M d X) {pc : Nat} {lv : List (Option PV)} {st : List PV} {σ : Sg} {idx a ci j : Nat} {fs : List (Option Nat)} (j0 : Int) (hj0 : (j : Int) = j0) (hdg : decode M.2.1 pc = .ok (.getfield idx, 3)) {q : Nat} (hq : pc + 3 = q) (hL : Lay[a]? = some (0, ci, 0, fs)) (hj : fs[j]? = some none) (hf : FL M.1.cls idx ci j) (k : Gs X q lv (vI (σ a j0) :: st) σ) : Gs X pc lv (vR a :: st) σ := by
  subst hj0
  obtain ⟨p, l, e, R, s, m, args, below, meth, c, D, cs, ad, A, cells, slots, Q⟩ := X
  obtain ⟨hx, hb, hml, hown, hts, hret, hlk, hK, hN, hi, hA, hd1, hd2, hd3, hd4⟩ := hF
  intro H locs ls hl hst hσ hP hS
  subst hq
  obtain ⟨C, T, N, h1, h2, h3, h4⟩ := hf
  exact va_get hx hb hts h4 hown hK hP a (mkW_at hL) h1 j h2 (hts _ h3) (fun _ h9 => h9) (fE_at hj) hdg (k H locs ls hl (ok_cs (hσ a j) (ok_tl hst)) hσ hP hS)
theorem jr_getR {M : MM} {d : Nat} {X : CT} (hF : Fix M d X) {pc : Nat} {lv : List (Option PV)} {st : List PV} {σ : Sg} {idx a ci j r : Nat} {fs : List (Option Nat)} (hdg : decode M.2.1 pc = .ok (.getfield idx, 3)) {q : Nat} (hq : pc + 3 = q) (hL : Lay[a]? = some (0, ci, 0, fs)) (hj : fs[j]? = some (some r)) (hf : FL M.1.cls idx ci j) (k : Gs X q lv (vR r :: st) σ) : Gs X pc lv (vR a :: st) σ := by
  obtain ⟨p, l, e, R, s, m, args, below, meth, c, D, cs, ad, A, cells, slots, Q⟩ := X
  obtain ⟨hx, hb, hml, hown, hts, hret, hlk, hK, hN, hi, hA, hd1, hd2, hd3, hd4⟩ := hF
  intro H locs ls hl hst hσ hP hS
  subst hq
  obtain ⟨C, T, N, h1, h2, h3, h4⟩ := hf
  exact va_get hx hb hts h4 hown hK hP a (mkW_at hL) h1 j h2 (hts _ h3) (fun _ h9 => h9) (fE_at hj) hdg (k H locs ls hl (ok_cs (v := vR r) trivial (ok_tl hst)) hσ hP hS)
theorem cE_put {ad : Nat → Nat} {cs : C3} {σ : Sg} {a ci j : Nat} {fs : List (Option Nat)} {z : Int} (hj : fs[j]? = some none) : cE ad cs (uc σ a (fun i => if i = (j : Int) then z else σ a i)) a (0, ci, 0, fs) = .inr (ci, (fs.mapIdx (fun j f => fE ad σ a j f)).set j (.int (Int32.ofInt z))) := by
  show (Sum.inr (ci, _) : va_E) = _
  refine congrArg (fun x => (Sum.inr (ci, x) : va_E)) ?_
  apply List.ext_getElem?
  intro k
  have hl : j < fs.length := (List.getElem?_eq_some_iff.mp hj).1
  by_cases e : k = j
  · subst e
    rw [List.getElem?_set_self (by rw [List.length_mapIdx]; exact hl), fE_at hj]
    simp [fE, uc]
  · rw [List.getElem?_set_ne (Ne.symm e), List.getElem?_mapIdx, List.getElem?_mapIdx]
    cases hk : fs[k]? with
    | none => rfl
    | some f =>
      cases f with
      | some r => rfl
      | none =>
        have e2 : ¬ (k : Int) = (j : Int) := by omega
        simp [fE, uc, e2]
theorem inR_up {σ : Sg} {a : Nat} {i z : Int} (hσ : ∀ (k : Nat) (j : Int), inR (σ k j)) (hz : inR z) : ∀ (k : Nat) (j : Int), inR (up σ a i z k j) := by
  intro k j
  unfold up
  split
  · exact hz
  · exact hσ k j
theorem jr_putI {M : MM} {d : Nat} {X : CT} (hF : Fix M d X) {pc : Nat} {lv : List (Option PV)} {st : List PV} {σ : Sg} {idx a ci j : Nat} {z : Int} {fs : List (Option Nat)} (j0 : Int) (hj0 : (j : Int) = j0) (hdg : decode M.2.1 pc = .ok (.putfield idx, 3)) {q : Nat} (hq : pc + 3 = q) (hL : Lay[a]? = some (0, ci, 0, fs)) (hj : fs[j]? = some none) (hf : FP M.1.cls idx ci j .int) (k : Gs X q lv st (up σ a j0 z)) : Gs X pc lv (vI z :: vR a :: st) σ := by
  subst hj0
  obtain ⟨p, l, e, R, s, m, args, below, meth, c, D, cs, ad, A, cells, slots, Q⟩ := X
  obtain ⟨hx, hb, hml, hown, hts, hret, hlk, hK, hN, hi, hA, hd1, hd2, hd3, hd4⟩ := hF
  intro H locs ls hl hst hσ hP hS
  subst hq
  obtain ⟨C, T, N, ty0, h1, h2, h3, h4, h5, h6, h7, h8⟩ := hf
  refine va_put (v := .int (Int32.ofInt z)) hx hb hts h4 ty0 h5 h6 hown hK hP (mkW_D hi hA) hS a (mkW_at hL) h1 j h2 (hts _ h3) (fun _ h9 => h9) h7 h8 rfl rfl (by rw [List.length_mapIdx]; exact (List.getElem?_eq_some_iff.mp hj).1) hdg (fun H1 locs1 hP1 hD1 hS1 => ?_)
  rw [mkW_uc hL (cE_put hj), ← up_uc] at hP1
  exact k H1 locs1 ls hl (ok_tl (ok_tl hst)) (inR_up hσ (ok_hd hst)) hP1 hS1
theorem jr_putZ {M : MM} {d : Nat} {X : CT} (hF : Fix M d X) {pc : Nat} {lv : List (Option PV)} {st : List PV} {σ : Sg} {idx a ci j : Nat} {z : Int} {fs : List (Option Nat)} (j0 : Int) (hj0 : (j : Int) = j0) (hdg : decode M.2.1 pc = .ok (.putfield idx, 3)) {q : Nat} (hq : pc + 3 = q) (hL : Lay[a]? = some (0, ci, 0, fs)) (hj : fs[j]? = some none) (hf : FP M.1.cls idx ci j .boolean) (hz : z = 0 ∨ z = 1) (k : Gs X q lv st (up σ a j0 z)) : Gs X pc lv (vI z :: vR a :: st) σ := by
  subst hj0
  obtain ⟨p, l, e, R, s, m, args, below, meth, c, D, cs, ad, A, cells, slots, Q⟩ := X
  obtain ⟨hx, hb, hml, hown, hts, hret, hlk, hK, hN, hi, hA, hd1, hd2, hd3, hd4⟩ := hF
  intro H locs ls hl hst hσ hP hS
  subst hq
  obtain ⟨C, T, N, ty0, h1, h2, h3, h4, h5, h6, h7, h8⟩ := hf
  refine va_put (v := .int (Int32.ofInt z)) hx hb hts h4 ty0 h5 h6 hown hK hP (mkW_D hi hA) hS a (mkW_at hL) h1 j h2 (hts _ h3) (fun _ h9 => h9) h7 h8 (by rcases hz with rfl | rfl <;> decide +kernel) (by rcases hz with rfl | rfl <;> decide +kernel) (by rw [List.length_mapIdx]; exact (List.getElem?_eq_some_iff.mp hj).1) hdg (fun H1 locs1 hP1 hD1 hS1 => ?_)
  rw [mkW_uc hL (cE_put hj), ← up_uc] at hP1
  exact k H1 locs1 ls hl (ok_tl (ok_tl hst)) (inR_up hσ (ok_hd hst)) hP1 hS1
theorem jr_iald {M : MM} {d : Nat} {X : CT} (hF : Fix M d X) {pc : Nat} {lv : List (Option PV)} {st : List PV} {σ : Sg} {a n b : Nat} {i : Int} {fs : List (Option Nat)} (hdg : decode M.2.1 pc = .ok (.iaload, 1)) {q : Nat} (hq : pc + 1 = q) (hL : Lay[a]? = some (1, n, b, fs)) (h0 : 0 ≤ i ∧ i < (n : Int)) (k : Gs X q lv (vI (σ a i) :: st) σ) : Gs X pc lv (vI i :: vR a :: st) σ := by
  obtain ⟨p, l, e, R, s, m, args, below, meth, c, D, cs, ad, A, cells, slots, Q⟩ := X
  obtain ⟨hx, hb, hml, hown, hts, hret, hlk, hK, hN, hi, hA, hd1, hd2, hd3, hd4⟩ := hF
  intro H locs ls hl hst hσ hP hS
  subst hq
  have oi : inR i := ok_hd hst
  refine va_iald (i := Int32.ofInt i) hx hb hK hP a 0 (mkW_at hL) rfl (i32_vp oi h0.1 h0.2) hdg ?_
  rw [i32_cl oi, show ((i.toNat : Nat) : Int) = i by omega]
  exact k H locs ls hl (ok_cs (hσ a i) (ok_tl (ok_tl hst))) hσ hP hS
theorem jr_bald {M : MM} {d : Nat} {X : CT} (hF : Fix M d X) {pc : Nat} {lv : List (Option PV)} {st : List PV} {σ : Sg} {a n b : Nat} {i : Int} {fs : List (Option Nat)} (hdg : decode M.2.1 pc = .ok (.baload, 1)) {q : Nat} (hq : pc + 1 = q) (hL : Lay[a]? = some (2, n, b, fs)) (h0 : 0 ≤ i ∧ i < (n : Int)) (k : Gs X q lv (vI (σ a i) :: st) σ) : Gs X pc lv (vI i :: vR a :: st) σ := by
  obtain ⟨p, l, e, R, s, m, args, below, meth, c, D, cs, ad, A, cells, slots, Q⟩ := X
  obtain ⟨hx, hb, hml, hown, hts, hret, hlk, hK, hN, hi, hA, hd1, hd2, hd3, hd4⟩ := hF
  intro H locs ls hl hst hσ hP hS
  subst hq
  have oi : inR i := ok_hd hst
  refine va_bald (i := Int32.ofInt i) hx hb hK hP a 1 (mkW_at hL) rfl (i32_vp oi h0.1 h0.2) hdg ?_
  rw [i32_cl oi, show ((i.toNat : Nat) : Int) = i by omega]
  exact k H locs ls hl (ok_cs (hσ a i) (ok_tl (ok_tl hst))) hσ hP hS
theorem upd_up {σ : Sg} {a : Nat} {i v : Int} (h0 : 0 ≤ i) : (fun j : Nat => Int32.ofInt ((uc σ a (fun j => if j = i then v else σ a j)) a (j : Int))) = upd (fun j => Int32.ofInt (σ a (j : Int))) i.toNat (Int32.ofInt v) := by
  funext j
  unfold upd
  rw [uc_eq]
  by_cases h : (j : Int) = i
  · have h2 : j = i.toNat := by omega
    rw [if_pos h, if_pos h2]
  · have h2 : ¬ j = i.toNat := by omega
    rw [if_neg h, if_neg h2]
theorem jr_iast {M : MM} {d : Nat} {X : CT} (hF : Fix M d X) {pc : Nat} {lv : List (Option PV)} {st : List PV} {σ : Sg} {a n b : Nat} {i v : Int} {fs : List (Option Nat)} (hdg : decode M.2.1 pc = .ok (.iastore, 1)) {q : Nat} (hq : pc + 1 = q) (hL : Lay[a]? = some (1, n, b, fs)) (h0 : 0 ≤ i ∧ i < (n : Int)) (k : Gs X q lv st (up σ a i v)) : Gs X pc lv (vI v :: vI i :: vR a :: st) σ := by
  obtain ⟨p, l, e, R, s, m, args, below, meth, c, D, cs, ad, A, cells, slots, Q⟩ := X
  obtain ⟨hx, hb, hml, hown, hts, hret, hlk, hK, hN, hi, hA, hd1, hd2, hd3, hd4⟩ := hF
  intro H locs ls hl hst hσ hP hS
  subst hq
  have oi : inR i := ok_hd (ok_tl hst)
  refine va_iast (i := Int32.ofInt i) (x := Int32.ofInt v) hx hb hK hP (mkW_D hi hA) hS a 0 (mkW_at hL) rfl (i32_vp oi h0.1 h0.2) hdg (fun H1 locs1 hP1 hD1 hS1 => ?_)
  rw [i32_cl oi, ← upd_up h0.1, mkW_uc (f := fun j => if j = i then v else σ a j) (e := .inl (cs.1, n, .inl (fun j : Nat => Int32.ofInt (uc σ a (fun j => if j = i then v else σ a j) a (j : Int))))) hL rfl, ← up_uc] at hP1
  exact k H1 locs1 ls hl (ok_tl (ok_tl (ok_tl hst))) (inR_up hσ (ok_hd hst)) hP1 hS1
theorem byte_nar {v : Int} (h : -128 ≤ v ∧ v ≤ 127) : vp_nar .byte (Int32.ofInt v) = Int32.ofInt v := by
  rw [vp_nar_byte, Int32.toInt8_ofInt, ← Int32.toInt_inj, Int8.toInt_toInt32, Int8.toInt_ofInt_of_le (by omega) (by omega), i32_in ⟨by omega, by omega⟩]
theorem jr_bast {M : MM} {d : Nat} {X : CT} (hF : Fix M d X) {pc : Nat} {lv : List (Option PV)} {st : List PV} {σ : Sg} {a n b : Nat} {i v : Int} {fs : List (Option Nat)} (hdg : decode M.2.1 pc = .ok (.bastore, 1)) {q : Nat} (hq : pc + 1 = q) (hL : Lay[a]? = some (2, n, b, fs)) (h0 : 0 ≤ i ∧ i < (n : Int)) (hv : -128 ≤ v ∧ v ≤ 127) (k : Gs X q lv st (up σ a i v)) : Gs X pc lv (vI v :: vI i :: vR a :: st) σ := by
  obtain ⟨p, l, e, R, s, m, args, below, meth, c, D, cs, ad, A, cells, slots, Q⟩ := X
  obtain ⟨hx, hb, hml, hown, hts, hret, hlk, hK, hN, hi, hA, hd1, hd2, hd3, hd4⟩ := hF
  intro H locs ls hl hst hσ hP hS
  subst hq
  have oi : inR i := ok_hd (ok_tl hst)
  refine va_bast (i := Int32.ofInt i) (x := Int32.ofInt v) hx hb hK hP (mkW_D hi hA) hS a 1 (mkW_at hL) rfl (i32_vp oi h0.1 h0.2) hdg (fun H1 locs1 hP1 hD1 hS1 => ?_)
  rw [i32_cl oi, byte_nar hv, ← upd_up h0.1, mkW_uc (f := fun j => if j = i then v else σ a j) (e := .inl (cs.2.1, n, .inl (fun j : Nat => Int32.ofInt (uc σ a (fun j => if j = i then v else σ a j) a (j : Int))))) hL rfl, ← up_uc] at hP1
  exact k H1 locs1 ls hl (ok_tl (ok_tl (ok_tl hst))) (inR_up hσ (ok_hd hst)) hP1 hS1
theorem jr_aald {M : MM} {d : Nat} {X : CT} (hF : Fix M d X) {pc : Nat} {lv : List (Option PV)} {st : List PV} {σ : Sg} {a n b : Nat} {i : Int} {fs : List (Option Nat)} (hdg : decode M.2.1 pc = .ok (.aaload, 1)) {q : Nat} (hq : pc + 1 = q) (hL : Lay[a]? = some (3, n, b, fs)) (h0 : 0 ≤ i ∧ i < (n : Int)) (k : Gs X q lv (vR (b + i.toNat) :: st) σ) : Gs X pc lv (vI i :: vR a :: st) σ := by
  obtain ⟨p, l, e, R, s, m, args, below, meth, c, D, cs, ad, A, cells, slots, Q⟩ := X
  obtain ⟨hx, hb, hml, hown, hts, hret, hlk, hK, hN, hi, hA, hd1, hd2, hd3, hd4⟩ := hF
  intro H locs ls hl hst hσ hP hS
  subst hq
  have oi : inR i := ok_hd hst
  have hin : vp_in (Int32.ofInt i) n := i32_vp oi h0.1 h0.2
  have hlt : (Int32.ofInt i).toNatClampNeg < n := Nat.not_le.mp fun q => hin (Or.inr q)
  have ha := mkW_at (ad := ad) (cs := cs) (σ := σ) hL
  refine W.aald (v := .ref (ad (b + i.toNat))) (ty := .array .int) hx hb (hP a _ ha) ((hK.2 2 _ rfl).1 n (fun j => va_rf (if j < n then some (ad (b + j)) else none))) rfl (fun q => by cases q) (by show ¬ (_ ∨ (arrV _ _ _).slots.size ≤ _); rw [arrV_size]; exact hin) (by show (arrV _ _ _).slots[_]? = _; rw [arrV_read _ _ hlt]; show some (va_rf (if (Int32.ofInt i).toNatClampNeg < n then _ else _)) = _; rw [if_pos hlt, i32_cl oi]; rfl) rfl rfl hdg ?_
  exact k H locs ls hl (ok_cs (v := vR _) trivial (ok_tl (ok_tl hst))) hσ hP hS
theorem jr_alen {M : MM} {d : Nat} {X : CT} (hF : Fix M d X) {pc : Nat} {lv : List (Option PV)} {st : List PV} {σ : Sg} {a n b : Nat} {fs : List (Option Nat)} (hdg : decode M.2.1 pc = .ok (.arraylength, 1)) {q : Nat} (hq : pc + 1 = q) (hL : Lay[a]? = some (1, n, b, fs)) (hn : n < 1000) (k : Gs X q lv (vI (n : Int) :: st) σ) : Gs X pc lv (vR a :: st) σ := by
  obtain ⟨p, l, e, R, s, m, args, below, meth, c, D, cs, ad, A, cells, slots, Q⟩ := X
  obtain ⟨hx, hb, hml, hown, hts, hret, hlk, hK, hN, hi, hA, hd1, hd2, hd3, hd4⟩ := hF
  intro H locs ls hl hst hσ hP hS
  subst hq
  refine va_alen hx hb hK hP a 0 (mkW_at hL) rfl (v := Int32.ofInt (n : Int)) Int32.ofInt_eq_ofNat.symm hdg ?_
  exact k H locs ls hl (ok_cs (v := vI n) (show inR (n : Int) from ⟨by omega, by omega⟩) (ok_tl hst)) hσ hP hS
theorem cat_sum (ad : Nat → Nat) (st : List PV) : ((st.map (tV ad)).map fun v => v.category).sum = (st.map pcat).sum := by
  induction st with
  | nil => rfl
  | cons v st ih =>
    rw [List.map_cons, List.map_cons, List.map_cons, List.sum_cons, List.sum_cons, ih, pcat_eq]
theorem cpy_uc {σ : Sg} {a b : Nat} {sp dp n : Int} (h1 : 0 ≤ sp) (h2 : 0 ≤ dp) (h3 : 0 ≤ n) : (fun j : Nat => Int32.ofInt ((uc σ b (fun j => if dp ≤ j ∧ j < dp + n then σ a (sp + (j - dp)) else σ b j)) b (j : Int))) = va_cpy (fun j => Int32.ofInt (σ a (j : Int))) (fun j => Int32.ofInt (σ b (j : Int))) sp.toNat dp.toNat n.toNat := by
  funext j
  unfold va_cpy
  rw [uc_eq]
  by_cases h : dp ≤ (j : Int) ∧ (j : Int) < dp + n
  · rw [if_pos h, if_pos (show dp.toNat ≤ j ∧ j < dp.toNat + n.toNat by omega)]
    show _ = Int32.ofInt (σ a ((sp.toNat + (j - dp.toNat) : Nat) : Int))
    rw [show ((sp.toNat + (j - dp.toNat) : Nat) : Int) = sp + ((j : Int) - dp) by omega]
  · rw [if_neg h, if_neg (show ¬ (dp.toNat ≤ j ∧ j < dp.toNat + n.toNat) by omega)]
def cpW : Prop := Cond.native arraycopyName ∈ wsT ∧ Cond.static arraycopyName ∈ wsT ∧ Cond.initialized "java/lang/System" ∈ wsT
theorem jr_copy {M : MM} {d : Nat} {X : CT} (hF : Fix M d X) {pc : Nat} {lv : List (Option PV)} {st : List PV} {σ : Sg} {idx a b na nb xa xb : Nat} {sp dp n : Int} {fa fb : List (Option Nat)} (hw : cpW) (hdg : decode M.2.1 pc = .ok (.invokestatic idx, 3)) {q : Nat} (hq : pc + 3 = q) (hlk0 : Cond.methodLink M.1.cls idx arraycopyName ∈ wsT) (hLa : Lay[a]? = some (1, na, xa, fa)) (hLb : Lay[b]? = some (1, nb, xb, fb)) (h0 : 0 ≤ sp ∧ 0 ≤ dp ∧ 0 ≤ n ∧ sp + n ≤ (na : Int) ∧ dp + n ≤ (nb : Int)) (hr : (st.map pcat).sum ≤ 8) (hd : 1 ≤ d) (k : Gs X q lv st (uc σ b (fun j => if dp ≤ j ∧ j < dp + n then σ a (sp + (j - dp)) else σ b j))) : Gs X pc lv (vI n :: vI dp :: vR b :: vI sp :: vR a :: st) σ := by
  obtain ⟨p, l, e, R, s, m, args, below, meth, c, D, cs, ad, A, cells, slots, Q⟩ := X
  obtain ⟨hx, hb, hml, hown, hts, hret, hlk, hK, hN, hi, hA, hd1, hd2, hd3, hd4⟩ := hF
  intro H locs ls hl hst hσ hP hS
  subst hq
  have on : inR n := ok_hd hst
  have od : inR dp := ok_hd (ok_tl hst)
  have os : inR sp := ok_hd (ok_tl (ok_tl (ok_tl hst)))
  obtain ⟨h1, h2, h3, h4, h5⟩ := h0
  have nn : ∀ z : Int, inR z → 0 ≤ z → ¬ Int32.ofInt z < 0 := fun z hz hz0 h => by
    have := (i32_lt hz (b := 0) ⟨by decide, by decide⟩).mp (i32_0 ▸ h)
    omega
  refine va_copyi (sp := Int32.ofInt sp) (dp := Int32.ofInt dp) (n := Int32.ofInt n) (ty := .int) hx hb (hl.1.symm) hown (hts _ hlk0) (hts _ hw.1) (hts _ hw.2.1) (hts _ hw.2.2) hK hP (mkW_D hi hA) hS a b 0 0 (mkW_at hLa) (mkW_at hLb) rfl rfl rfl (nn sp os h1) (nn dp od h2) (nn n on h3) (by rw [i32_cl os, i32_cl on]; omega) (by rw [i32_cl od, i32_cl on]; omega) (fun _ _ => rfl) (by omega) (by rw [cat_sum, show nativeFrameWords "java/lang/System" "arraycopy" 5 = 7 by decide +kernel]; omega) hdg (fun H1 locs1 hP1 hD1 hS1 => ?_)
  rw [i32_cl os, i32_cl od, i32_cl on, ← cpy_uc h1 h2 h3, mkW_uc (f := fun j => if dp ≤ j ∧ j < dp + n then σ a (sp + (j - dp)) else σ b j) (e := .inl (cs.1, nb, .inl (fun j : Nat => Int32.ofInt (uc σ b (fun j => if dp ≤ j ∧ j < dp + n then σ a (sp + (j - dp)) else σ b j) b (j : Int))))) hLb rfl] at hP1
  refine k H1 locs1 ls hl (ok_tl (ok_tl (ok_tl (ok_tl (ok_tl hst))))) (fun k9 j9 => ?_) hP1 hS1
  by_cases e9 : k9 = b
  · subst e9
    rw [uc_eq]
    split <;> exact hσ _ _
  · rw [uc_ne e9]
    exact hσ _ _
def mxW : Prop := Cond.static Lib.Math.max.name ∈ wsT ∧ Cond.initialized "java/lang/Math" ∈ wsT ∧ Cond.code Lib.Math.max.name Lib.Math.max.code 2 (some .int) ∈ wsT
def mnW : Prop := Cond.static Lib.Math.min.name ∈ wsT ∧ Cond.initialized "java/lang/Math" ∈ wsT ∧ Cond.code Lib.Math.min.name Lib.Math.min.code 2 (some .int) ∈ wsT
theorem jr_max {M : MM} {d : Nat} {X : CT} (hF : Fix M d X) {pc : Nat} {lv : List (Option PV)} {st : List PV} {σ : Sg} {idx : Nat} {a b : Int} (hw : mxW) (hdg : decode M.2.1 pc = .ok (.invokestatic idx, 3)) {q : Nat} (hq : pc + 3 = q) (hlk0 : Cond.methodLink M.1.cls idx Lib.Math.max.name ∈ wsT) (hr : (st.map pcat).sum ≤ 8) (hd : 1 ≤ d) (k : Gs X q lv (vI (if a < b then b else a) :: st) σ) : Gs X pc lv (vI b :: vI a :: st) σ := by
  obtain ⟨p, l, e, R, s, m, args, below, meth, c, D, cs, ad, A, cells, slots, Q⟩ := X
  obtain ⟨hx, hb, hml, hown, hts, hret, hlk, hK, hN, hi, hA, hd1, hd2, hd3, hd4⟩ := hF
  intro H locs ls hl hst hσ hP hS
  subst hq
  have oa : inR a := ok_hd (ok_tl hst)
  have ob : inR b := ok_hd hst
  refine va_mmax (x := Int32.ofInt a) (y := Int32.ofInt b) hx hb (hl.1.symm) hown (hts _ hlk0) (hts _ hw.1) (hts _ hw.2.1) (hts _ hw.2.2) (by omega) (by rw [cat_sum]; omega) hd3 hd4 hdg ?_
  have e1 : (if Int32.ofInt a < Int32.ofInt b then Int32.ofInt b else Int32.ofInt a) = Int32.ofInt (if a < b then b else a) := by
    by_cases h : a < b
    · rw [if_pos h, if_pos ((i32_lt oa ob).mpr h)]
    · rw [if_neg h, if_neg (fun z => h ((i32_lt oa ob).mp z))]
  rw [e1]
  refine k H locs ls hl (ok_cs (v := vI _) ?_ (ok_tl (ok_tl hst))) hσ hP hS
  show inR (if a < b then b else a)
  split <;> assumption
theorem jr_min {M : MM} {d : Nat} {X : CT} (hF : Fix M d X) {pc : Nat} {lv : List (Option PV)} {st : List PV} {σ : Sg} {idx : Nat} {a b : Int} (hw : mnW) (hdg : decode M.2.1 pc = .ok (.invokestatic idx, 3)) {q : Nat} (hq : pc + 3 = q) (hlk0 : Cond.methodLink M.1.cls idx Lib.Math.min.name ∈ wsT) (hr : (st.map pcat).sum ≤ 8) (hd : 1 ≤ d) (k : Gs X q lv (vI (if b < a then b else a) :: st) σ) : Gs X pc lv (vI b :: vI a :: st) σ := by
  obtain ⟨p, l, e, R, s, m, args, below, meth, c, D, cs, ad, A, cells, slots, Q⟩ := X
  obtain ⟨hx, hb, hml, hown, hts, hret, hlk, hK, hN, hi, hA, hd1, hd2, hd3, hd4⟩ := hF
  intro H locs ls hl hst hσ hP hS
  subst hq
  have oa : inR a := ok_hd (ok_tl hst)
  have ob : inR b := ok_hd hst
  refine va_mmin (x := Int32.ofInt a) (y := Int32.ofInt b) hx hb (hl.1.symm) hown (hts _ hlk0) (hts _ hw.1) (hts _ hw.2.1) (hts _ hw.2.2) (by omega) (by rw [cat_sum]; omega) hd3 hd4 hdg ?_
  have e1 : (if Int32.ofInt b < Int32.ofInt a then Int32.ofInt b else Int32.ofInt a) = Int32.ofInt (if b < a then b else a) := by
    by_cases h : b < a
    · rw [if_pos h, if_pos ((i32_lt ob oa).mpr h)]
    · rw [if_neg h, if_neg (fun z => h ((i32_lt ob oa).mp z))]
  rw [e1]
  refine k H locs ls hl (ok_cs (v := vI _) ?_ (ok_tl (ok_tl hst))) hσ hP hS
  show inR (if b < a then b else a)
  split <;> assumption
theorem jr_ireturn {M : MM} {d : Nat} {X : CT} (hF : Fix M d X) {pc : Nat} {lv : List (Option PV)} {st : List PV} {σ : Sg} {Q : Option PV → Sg → Prop} (hR : Ret X Q) (hr : M.2.2.2 = some .int) {z : Int} (hdg : decode M.2.1 pc = .ok (.ireturn, 1)) (h : Q (some (vI z)) σ) : Gs X pc lv [vI z] σ := by
  obtain ⟨p, l, e, R, s, m, args, below, meth, c, D, cs, ad, A, cells, slots, Qs⟩ := X
  obtain ⟨hx, hb, hml, hown, hts, hret, hlk, hK, hN, hi, hA, hd1, hd2, hd3, hd4⟩ := hF
  obtain ⟨rfl, rfl, rfl, rfl⟩ := hR
  intro H locs ls hl hst hσ hP hS
  exact W.iret (v := Int32.ofInt z) hx hb (hret.trans hr) (fun t ht _ => ⟨some (vI z), σ, rfl, fun v hv => by cases hv; exact ok_hd hst, hσ, by rw [ht]; exact hP, hS.F ht, h⟩) hS.2.2 hdg hlk
theorem jr_zreturn {M : MM} {d : Nat} {X : CT} (hF : Fix M d X) {pc : Nat} {lv : List (Option PV)} {st : List PV} {σ : Sg} {Q : Option PV → Sg → Prop} (hR : Ret X Q) (hr : M.2.2.2 = some .boolean) {z : Int} (hdg : decode M.2.1 pc = .ok (.ireturn, 1)) (hz : z = 0 ∨ z = 1) (h : Q (some (vI z)) σ) : Gs X pc lv [vI z] σ := by
  obtain ⟨p, l, e, R, s, m, args, below, meth, c, D, cs, ad, A, cells, slots, Qs⟩ := X
  obtain ⟨hx, hb, hml, hown, hts, hret, hlk, hK, hN, hi, hA, hd1, hd2, hd3, hd4⟩ := hF
  obtain ⟨rfl, rfl, rfl, rfl⟩ := hR
  intro H locs ls hl hst hσ hP hS
  exact W.zret (v := Int32.ofInt z) hx hb (hret.trans hr) (by rcases hz with rfl | rfl <;> decide +kernel) (fun t ht _ => ⟨some (vI z), σ, rfl, fun v hv => by cases hv; exact ok_hd hst, hσ, by rw [ht]; exact hP, hS.F ht, h⟩) hS.2.2 hdg hlk
theorem jr_return {M : MM} {d : Nat} {X : CT} (hF : Fix M d X) {pc : Nat} {lv : List (Option PV)} {st : List PV} {σ : Sg} {Q : Option PV → Sg → Prop} (hR : Ret X Q) (hr : M.2.2.2 = none) (hdg : decode M.2.1 pc = .ok (.return_, 1)) (h : Q none σ) : Gs X pc lv [] σ := by
  obtain ⟨p, l, e, R, s, m, args, below, meth, c, D, cs, ad, A, cells, slots, Qs⟩ := X
  obtain ⟨hx, hb, hml, hown, hts, hret, hlk, hK, hN, hi, hA, hd1, hd2, hd3, hd4⟩ := hF
  obtain ⟨rfl, rfl, rfl, rfl⟩ := hR
  intro H locs ls hl hst hσ hP hS
  exact W.vret hx hb (hret.trans hr) (fun t ht _ => ⟨none, σ, rfl, fun v hv => (by cases hv), hσ, by rw [ht]; exact hP, hS.F ht, h⟩) hS.2.2 hdg hlk
/-- what the frame knows of the world, the locals -/
theorem jr_wf {X : CT} {pc : Nat} {lv : List (Option PV)} {st : List PV} {σ : Sg} (k : (∀ (k : Nat) (j : Int), inR (σ k j)) → Gs X pc lv st σ) : Gs X pc lv st σ := by
  obtain ⟨p, l, e, R, s, m, args, below, meth, c, D, cs, ad, A, cells, slots, Qs⟩ := X
  intro H locs ls hl hst hσ hP hS
  exact k hσ H locs ls hl hst hσ hP hS
theorem jr_lok {X : CT} {pc : Nat} {lv : List (Option PV)} {st : List PV} {σ : Sg} (i : Nat) {v : PV} (h : lv[i]? = some (some v)) (k : okP v → Gs X pc lv st σ) : Gs X pc lv st σ := by
  obtain ⟨p, l, e, R, s, m, args, below, meth, c, D, cs, ad, A, cells, slots, Qs⟩ := X
  intro H locs ls hl hst hσ hP hS
  exact k (hl.2.2 _ _ h).2 H locs ls hl hst hσ hP hS
theorem jr_drop {X : CT} {pc : Nat} {lv : List (Option PV)} {st : List PV} {σ : Sg} (lv' : List (Option PV)) (h : ∀ (i : Nat) (v : PV), lv'[i]? = some (some v) → lv[i]? = some (some v)) (k : Gs X pc lv' st σ) : Gs X pc lv st σ := by
  obtain ⟨p, l, e, R, s, m, args, below, meth, c, D, cs, ad, A, cells, slots, Qs⟩ := X
  intro H locs ls hl hst hσ hP hS
  exact k H locs ls ⟨hl.1, hl.2.1, fun i v hv => hl.2.2 i v (h i v hv)⟩ hst hσ hP hS
theorem preB_blind (as : List Value) (D : va_G) (cs : C3) (ad : Nat → Nat) (σ : Sg) : FrameBlind (va_Pc as (PreB D cs ad σ)) := by
  intro a U g mk h
  obtain ⟨h1, h2, h3, h4, h5⟩ := h
  exact ⟨h1, h2, h3, va_K.moved (u := U) (U := U.calling g mk a) (Vm.Alike.refl U.vm) h4, va_Nw.same rfl (rfl : U.vm = (U.calling g mk a).vm) h5⟩
/-- what a call of M needs of the tables, apart from the link -/
def CV (M : MM) (n : Nat) : Prop := Cond.code M.1 M.2.1 M.2.2.1 M.2.2.2 ∈ wsT ∧ Cond.initialized M.1.cls ∈ wsT ∧ (M.1.cls ≠ "java/lang/invoke/MethodHandle" ∧ M.1.cls ≠ "java/lang/invoke/VarHandle" ∧ (parseMethodDescriptor M.1.desc).map (fun d => d.parameters.length) = some n) ∧ M.2.2.1 ≤ 40
def CI (M : MM) : Prop := Cond.instanceMethod M.1 ∈ wsT ∧ Cond.selects M.1.cls M.1 M.1 ∈ wsT
theorem jr_callV {M : MM} {d : Nat} {X : CT} (hF : Fix M d X) {pc : Nat} {lv : List (Option PV)} {st : List PV} {σ : Sg} {Mc : MM} {dc idx b ci : Nat} {fs : List (Option Nat)} {C : String} {T : u_T} {N : Nat} {Q' : Option PV → Sg → Prop} (as : List PV) (hM : RunsM Mc dc (vR b :: as) σ Q') (hdg : decode M.2.1 pc = .ok (.invokevirtual idx, 3)) {q : Nat} (hq : pc + 3 = q) (hlk0 : Cond.methodLink M.1.cls idx Mc.1 ∈ wsT) (hc : CV Mc as.length) (hci : CI Mc) (hL : Lay[b]? = some (0, ci, 0, fs)) (hC : vwCl[ci]? = some (C, T, N)) (hCC : C = Mc.1.cls) (hdd : dc < d) (hrs : (st.map pcat).sum ≤ 8) (k : ∀ (r : Option PV) (σ' : Sg), Q' r σ' → Gs X q lv (r.toList ++ st) σ') : Gs X pc lv (as.reverse ++ vR b :: st) σ := by
  obtain ⟨p, l, e, R, s, m, args, below, meth, c, D, cs, ad, A, cells, slots, Q⟩ := X
  obtain ⟨hx, hb, hml, hown, hts, hret, hlk, hK, hN, hi, hA, hd1, hd2, hd3, hd4⟩ := hF
  intro H locs ls hl hst hσ hP hS
  subst hq
  subst hCC
  have hrest : ∀ x ∈ st, okP x := fun x h => hst x (List.mem_append_right _ (List.mem_cons_of_mem _ h))
  have has : ∀ x ∈ vR b :: as, okP x := ok_cs (v := vR b) trivial (fun x h => hst x (List.mem_append_left _ (List.mem_reverse.mpr h)))
  have cw : CallW R s args M.1.cls Mc.1.cls idx Mc.1 Mc.2.1 Mc.2.2.1 Mc.2.2.2 (.code Mc.1 Mc.2.1 Mc.2.2.1 Mc.2.2.2 :: wsT) (rmD dc) 0 0 as.length :=
    ⟨callB_of as.length hts (goodT hc.1) rfl rfl rfl (hts _ hc.2.1) (hts _ hlk0) hc.2.2.1 ⟨by show dc + 1 ≤ R.frames; omega, by show 8 + (Mc.2.2.1 + 11) + 64 * dc ≤ R.locals; have := hc.2.2.2; omega⟩, hts _ hci.1, hts _ hci.2⟩
  have hr := va_runV (g := F0 m pc ls ((as.reverse ++ vR b :: st).map (tV ad))) (cells := cells) (slots := slots) (locs := locs) (below := below) (meth := meth) (As := as.map (tV ad)) (rest := st.map (tV ad)) (b := ad b) (e := e) ⟨hx, hb, hml, hown, hts⟩ (hM l D cs ad hi has) cw ⟨preB_blind _ D cs ad σ, va_recv hK hP hC (mkW_at hL), fun U hU hW => ⟨rfl, hσ, by rw [hU]; exact hP, va_K.moved hW.alike hK, va_Nw.warmM hW hN⟩⟩ rfl (by rw [List.length_map]) (hl.1.trans hml) (by show List.map _ _ = _; rw [List.map_append, List.map_reverse]; rfl) (by show 2 * 0 + _ ≤ 8; rw [cat_sum]; omega) hdg ⟨by omega, by omega⟩
  intro T hT Xs
  obtain ⟨v, st₀, t, T', L, h0, X', hL, e1, e2, ⟨r, σ', hv, hor, hσ', hP', hF', hq'⟩, stp⟩ := hr T hT Xs
  obtain ⟨hz, hk⟩ := hF'
  rw [h0] at hz hk
  have hv2 : v = r.map (tV ad) := by cases hv; rfl
  subst hv2
  have hAD : ∀ q, AD ad q → A q := fun q hq => by obtain ⟨k9, h9, rfl⟩ := hq; exact hA k9 h9
  have hS' : va_S A s.heap T'.heap (locs ++ L) := ⟨Nat.le_trans hS.1 (by rw [e1]; exact hz), fun q h1 h2 => by rw [e1, hk q (Nat.lt_of_lt_of_le h1 hS.1) (fun z => h2 (hAD q z))]; exact hS.2.1 q h1 h2, fun q hq => by
    rcases List.mem_append.mp hq with h | h
    · exact hS.2.2 q h
    · exact hAD _ (hL q h)⟩
  have hst' : ∀ x ∈ r.toList ++ st, okP x := fun x hx9 => by
    rcases List.mem_append.mp hx9 with h | h
    · exact hor x (by simpa using h)
    · exact hrest x h
  obtain ⟨t2, a1, b1⟩ := k r σ' hq' T'.heap (locs ++ L) ls hl hst' hσ' (by rw [e1]; exact hP') hS' T' rfl (by simpa using X')
  refine ⟨t2, stp t2 ?_, b1⟩
  have e9 : (r.map (tV ad)).toList ++ st.map (tV ad) = (r.toList ++ st).map (tV ad) := by
    cases r <;> simp
  rw [e9]
  exact a1
theorem jr_callS {M : MM} {d : Nat} {X : CT} (hF : Fix M d X) {pc : Nat} {lv : List (Option PV)} {st : List PV} {σ : Sg} {Mc : MM} {dc idx : Nat} {Q' : Option PV → Sg → Prop} (as : List PV) (hM : RunsM Mc dc as σ Q') (hdg : decode M.2.1 pc = .ok (.invokestatic idx, 3)) {q : Nat} (hq : pc + 3 = q) (hlk0 : Cond.methodLink M.1.cls idx Mc.1 ∈ wsT) (hc : CV Mc as.length) (hci : Cond.static Mc.1 ∈ wsT) (hdd : dc < d) (hrs : (st.map pcat).sum ≤ 8) (k : ∀ (r : Option PV) (σ' : Sg), Q' r σ' → Gs X q lv (r.toList ++ st) σ') : Gs X pc lv (as.reverse ++ st) σ := by
  obtain ⟨p, l, e, R, s, m, args, below, meth, c, D, cs, ad, A, cells, slots, Q⟩ := X
  obtain ⟨hx, hb, hml, hown, hts, hret, hlk, hK, hN, hi, hA, hd1, hd2, hd3, hd4⟩ := hF
  intro H locs ls hl hst hσ hP hS
  subst hq
  have hrest : ∀ x ∈ st, okP x := fun x h => hst x (List.mem_append_right _ h)
  have has : ∀ x ∈ as, okP x := fun x h => hst x (List.mem_append_left _ (List.mem_reverse.mpr h))
  have cw : CallB R s args M.1.cls idx Mc.1 Mc.2.1 Mc.2.2.1 Mc.2.2.2 (.code Mc.1 Mc.2.1 Mc.2.2.1 Mc.2.2.2 :: wsT) (rmD dc) 0 0 as.length ∧ (Cond.static Mc.1).before args s = true :=
    ⟨callB_of as.length hts (goodT hc.1) rfl rfl rfl (hts _ hc.2.1) (hts _ hlk0) hc.2.2.1 ⟨by show dc + 1 ≤ R.frames; omega, by show 8 + (Mc.2.2.1 + 11) + 64 * dc ≤ R.locals; have := hc.2.2.2; omega⟩, hts _ hci⟩
  have hr := va_runS (g := F0 m pc ls ((as.reverse ++ st).map (tV ad))) (cells := cells) (slots := slots) (locs := locs) (below := below) (meth := meth) (As := as.map (tV ad)) (rest := st.map (tV ad)) (e := e) ⟨hx, hb, hml, hown, hts⟩ (hM l D cs ad hi has) cw ⟨preB_blind _ D cs ad σ, fun U hU hW => ⟨rfl, hσ, by rw [hU]; exact hP, va_K.moved hW.alike hK, va_Nw.warmM hW hN⟩⟩ rfl (by rw [List.length_map]) (hl.1.trans hml) (by show List.map _ _ = _; rw [List.map_append, List.map_reverse]) (by show 2 * 0 + _ ≤ 8; rw [cat_sum]; omega) hdg ⟨by omega, by omega⟩
  intro T hT Xs
  obtain ⟨v, st₀, t, T', L, h0, X', hL, e1, e2, ⟨r, σ', hv, hor, hσ', hP', hF', hq'⟩, stp⟩ := hr T hT Xs
  obtain ⟨hz, hk⟩ := hF'
  rw [h0] at hz hk
  have hv2 : v = r.map (tV ad) := by cases hv; rfl
  subst hv2
  have hAD : ∀ q, AD ad q → A q := fun q hq => by obtain ⟨k9, h9, rfl⟩ := hq; exact hA k9 h9
  have hS' : va_S A s.heap T'.heap (locs ++ L) := ⟨Nat.le_trans hS.1 (by rw [e1]; exact hz), fun q h1 h2 => by rw [e1, hk q (Nat.lt_of_lt_of_le h1 hS.1) (fun z => h2 (hAD q z))]; exact hS.2.1 q h1 h2, fun q hq => by
    rcases List.mem_append.mp hq with h | h
    · exact hS.2.2 q h
    · exact hAD _ (hL q h)⟩
  have hst' : ∀ x ∈ r.toList ++ st, okP x := fun x hx9 => by
    rcases List.mem_append.mp hx9 with h | h
    · exact hor x (by simpa using h)
    · exact hrest x h
  obtain ⟨t2, a1, b1⟩ := k r σ' hq' T'.heap (locs ++ L) ls hl hst' hσ' (by rw [e1]; exact hP') hS' T' rfl (by simpa using X')
  refine ⟨t2, stp t2 ?_, b1⟩
  have e9 : (r.map (tV ad)).toList ++ st.map (tV ad) = (r.toList ++ st).map (tV ad) := by
    cases r <;> simp
  rw [e9]
  exact a1
theorem jr_callN {M : MM} {d : Nat} {X : CT} (hF : Fix M d X) {pc : Nat} {lv : List (Option PV)} {st : List PV} {σ : Sg} {Mc : MM} {dc : Nat} {Q' : Option PV → Sg → Prop} (as : List PV) (hM : RunsM Mc dc as σ Q') (hdg : decode M.2.1 pc = .ok (.invokestatic 39, 3)) {q : Nat} (hq : pc + 3 = q) (hown4 : M.1.cls = RX4) (hMc : Mc.1 = yX9_isWithin) (hc : CV Mc as.length) (hci : Cond.static Mc.1 ∈ wsT) (hdd : dc < d) (hrs : (st.map pcat).sum ≤ 8) (k : ∀ (r : Option PV) (σ' : Sg), Q' r σ' → Gs X q lv (r.toList ++ st) σ') : Gs X pc lv (as.reverse ++ st) σ := by
  obtain ⟨p, l, e, R, s, m, args, below, meth, c, D, cs, ad, A, cells, slots, Q⟩ := X
  obtain ⟨hx, hb, hml, hown, hts, hret, hlk, hK, hN, hi, hA, hd1, hd2, hd3, hd4⟩ := hF
  intro H locs ls hl hst hσ hP hS
  subst hq
  have hrest : ∀ x ∈ st, okP x := fun x h => hst x (List.mem_append_right _ h)
  have has : ∀ x ∈ as, okP x := fun x h => hst x (List.mem_append_left _ (List.mem_reverse.mpr h))
  have hN2 : va_Nw (.methodLinkNest M.1.cls 39 Mc.1 RX9) s := by rw [hown4, hMc]; exact hN
  have cw : va_CN R s args M.1.cls 39 Mc.1 RX9 Mc.2.1 Mc.2.2.1 Mc.2.2.2 (.code Mc.1 Mc.2.1 Mc.2.2.1 Mc.2.2.2 :: wsT) (rmD dc) 0 0 as.length ∧ (Cond.static Mc.1).before args s = true ∧ True :=
    ⟨va_cnB as.length hts (goodT hc.1) rfl rfl rfl hN2 (hts _ hc.2.1) hc.2.2.1 ⟨by show dc + 1 ≤ R.frames; omega, by show 8 + (Mc.2.2.1 + 11) + 64 * dc ≤ R.locals; have := hc.2.2.2; omega⟩, hts _ hci, trivial⟩
  have hr := va_runSN (g := F0 m pc ls ((as.reverse ++ st).map (tV ad))) (cells := cells) (slots := slots) (locs := locs) (below := below) (meth := meth) (As := as.map (tV ad)) (rest := st.map (tV ad)) (e := e) ⟨hx, hb, hml, hown, hts⟩ (hM l D cs ad hi has) cw ⟨preB_blind _ D cs ad σ, fun U hU hW => ⟨rfl, hσ, by rw [hU]; exact hP, va_K.moved hW.alike hK, va_Nw.warmM hW hN⟩⟩ rfl (by rw [List.length_map]) (hl.1.trans hml) (by show List.map _ _ = _; rw [List.map_append, List.map_reverse]) (by show 2 * 0 + _ ≤ 8; rw [cat_sum]; omega) hdg ⟨by omega, by omega⟩
  intro T hT Xs
  obtain ⟨v, st₀, t, T', L, h0, X', hL, e1, e2, ⟨r, σ', hv, hor, hσ', hP', hF', hq'⟩, stp⟩ := hr T hT Xs
  obtain ⟨hz, hk⟩ := hF'
  rw [h0] at hz hk
  have hv2 : v = r.map (tV ad) := by cases hv; rfl
  subst hv2
  have hAD : ∀ q, AD ad q → A q := fun q hq => by obtain ⟨k9, h9, rfl⟩ := hq; exact hA k9 h9
  have hS' : va_S A s.heap T'.heap (locs ++ L) := ⟨Nat.le_trans hS.1 (by rw [e1]; exact hz), fun q h1 h2 => by rw [e1, hk q (Nat.lt_of_lt_of_le h1 hS.1) (fun z => h2 (hAD q z))]; exact hS.2.1 q h1 h2, fun q hq => by
    rcases List.mem_append.mp hq with h | h
    · exact hS.2.2 q h
    · exact hAD _ (hL q h)⟩
  have hst' : ∀ x ∈ r.toList ++ st, okP x := fun x hx9 => by
    rcases List.mem_append.mp hx9 with h | h
    · exact hor x (by simpa using h)
    · exact hrest x h
  obtain ⟨t2, a1, b1⟩ := k r σ' hq' T'.heap (locs ++ L) ls hl hst' hσ' (by rw [e1]; exact hP') hS' T' rfl (by simpa using X')
  refine ⟨t2, stp t2 ?_, b1⟩
  have e9 : (r.map (tV ad)).toList ++ st.map (tV ad) = (r.toList ++ st).map (tV ad) := by
    cases r <;> simp
  rw [e9]
  exact a1
def eL (as : List PV) : List (Option PV) := match as with
  | [] => []
  | .inl z :: r => some (.inl z) :: eL r
  | .inr (.inl z) :: r => some (.inr (.inl z)) :: none :: eL r
  | .inr (.inr z) :: r => some (.inr (.inr z)) :: eL r
def entryL (as : List PV) (n : Nat) : List (Option PV) := eL as ++ List.replicate (n - (eL as).length) none
theorem eL_args (ad : Nat → Nat) : ∀ (as : List PV) (o i : Nat) (v : PV), (eL as)[i]? = some (some v) → (o + i, tV ad v) ∈ lv_args o (as.map (tV ad)) ∧ v ∈ as := by
  intro as
  induction as with
  | nil => intro o i v h; simp [eL] at h
  | cons a r ih =>
    intro o i v h
    rcases a with z | z | z
    · cases i with
      | zero =>
        simp only [eL, List.getElem?_cons_zero] at h
        cases h
        exact ⟨List.mem_cons_self, List.mem_cons_self⟩
      | succ i =>
        simp only [eL, List.getElem?_cons_succ] at h
        have h2 := ih (o + 1) i v h
        refine ⟨List.mem_cons_of_mem _ ?_, List.mem_cons_of_mem _ h2.2⟩
        rw [show o + (i + 1) = o + 1 + i by omega]
        exact h2.1
    · cases i with
      | zero =>
        simp only [eL, List.getElem?_cons_zero] at h
        cases h
        exact ⟨List.mem_cons_self, List.mem_cons_self⟩
      | succ i =>
        cases i with
        | zero =>
          simp only [eL, List.getElem?_cons_succ, List.getElem?_cons_zero] at h
          cases h
        | succ i =>
          simp only [eL, List.getElem?_cons_succ] at h
          have h2 := ih (o + 2) i v h
          refine ⟨List.mem_cons_of_mem _ ?_, List.mem_cons_of_mem _ h2.2⟩
          rw [show o + (i + 1 + 1) = o + 2 + i by omega]
          exact h2.1
    · cases i with
      | zero =>
        simp only [eL, List.getElem?_cons_zero] at h
        cases h
        exact ⟨List.mem_cons_self, List.mem_cons_self⟩
      | succ i =>
        simp only [eL, List.getElem?_cons_succ] at h
        have h2 := ih (o + 1) i v h
        refine ⟨List.mem_cons_of_mem _ ?_, List.mem_cons_of_mem _ h2.2⟩
        rw [show o + (i + 1) = o + 1 + i by omega]
        exact h2.1
theorem eL_len (ad : Nat → Nat) : ∀ (as : List PV), (lg_sl (as.map (tV ad))).length = (eL as).length := by
  intro as
  induction as with
  | nil => rfl
  | cons a r ih =>
    rcases a with z | z | z
    · show ((if (tV ad (.inl z)).category = 2 then _ else _) ++ lg_sl (r.map (tV ad)) : List Slot).length = _
      rw [List.length_append, ih]
      simp [eL, tV, Value.category]; omega
    · show ((if (tV ad (.inr (.inl z))).category = 2 then _ else _) ++ lg_sl (r.map (tV ad)) : List Slot).length = _
      rw [List.length_append, ih]
      simp [eL, tV, Value.category]; omega
    · show ((if (tV ad (.inr (.inr z))).category = 2 then _ else _) ++ lg_sl (r.map (tV ad)) : List Slot).length = _
      rw [List.length_append, ih]
      simp [eL, tV, Value.category]; omega
/-- a method's contract out of the walk of its body -/
theorem mkRun {M : MM} {d : Nat} {as : List PV} {σ : Sg} {Q : Option PV → Sg → Prop} (hy : plainName M.1.cls = true) (hn : (eL as).length ≤ M.2.2.1) (body : ∀ X : CT, Fix M d X → Ret X Q → Gs X 0 (entryL as M.2.2.1) [] σ) : RunsM M d as σ Q := by
  intro l D cs ad hi has
  refine Met.ofW (cc := M.2.1) (maxL := M.2.2.1) (ret := M.2.2.2) hy rfl ?_
  intro p e s m args below meth c s₁ B hml hv
  obtain ⟨rfl, hσ, hP, hK, hN⟩ := hv
  have hts := atoms_spec B.pre
  have hown : s.vm.findClass M.1.cls = some m.cls := findClass_of_methodNamed B.named
  have hb := body (p, l, e, (headSpec (.code M.1 M.2.1 M.2.2.1 M.2.2.2 :: wsT) (rmD d)).room, s, m, (as.map (tV ad)).toArray, below, meth, c, D, cs, ad, AD ad, 0, 0, MQ below (QcB D cs ad Q) (as.map (tV ad)).toArray s 0 0 (AD ad))
    ⟨B.exec, B.bytes, hml, hown, fun w hw => hts w (List.mem_cons_of_mem _ hw), B.returns, B.notSynchronized, hK, hN, hi, fun k hk => ⟨k, hk, rfl⟩, Nat.le_refl _, Nat.le_refl _, Nat.zero_le _, Nat.zero_le _⟩ ⟨rfl, rfl, rfl, rfl⟩
  have hl := lv_entry (as.map (tV ad)) (n := M.2.2.1) (by rw [eL_len]; exact hn)
  rw [lg_entry_eq]
  generalize (lg_sl (as.map (tV ad)) ++ List.replicate (M.2.2.1 - (lg_sl (as.map (tV ad))).length) Slot.unset).toArray = ls at hl ⊢
  refine hb s.heap [] ls ⟨hl.1.trans hml.symm, hl.2.1, fun i v hv => ?_⟩ (fun _ h => by cases h) hσ hP va_S.rf
  unfold entryL at hv
  by_cases h : i < (eL as).length
  · rw [List.getElem?_append_left h] at hv
    have h2 := eL_args ad as 0 i v hv
    rw [Nat.zero_add] at h2
    exact ⟨hl.2.2 _ h2.1, has v h2.2⟩
  · rw [List.getElem?_append_right (by omega)] at hv
    have := List.eq_of_mem_replicate (List.mem_of_getElem? hv)
    cases this
theorem RunsM.mono {M : MM} {d : Nat} {as : List PV} {σ : Sg} {Q Q' : Option PV → Sg → Prop} (h : RunsM M d as σ Q) (hq : ∀ r σ', Q r σ' → Q' r σ') : RunsM M d as σ Q' := by
  intro l D cs ad hi has
  have h1 := h l D cs ad hi has
  intro p e ha hc hk s m args below hf hap hP hK
  obtain ⟨t, o, a1, b1, b2, ⟨⟨r, σ', c1, c2, c3, c4, c5, c6⟩, b4⟩⟩ := h1 p e ha hc hk s m args below hf hap hP hK
  exact ⟨t, o, a1, b1, b2, ⟨⟨r, σ', c1, c2, c3, c4, c5, hq r σ' c6⟩, b4⟩⟩
end
section
set_option maxRecDepth 100000 in
theorem clX0 : ∀ w ∈ u_ws RX0 TX0 3, w ∈ wsT := by
  show ∀ w ∈ [u_lay RX0 TX0 0, u_lay RX0 TX0 1, u_lay RX0 TX0 2], w ∈ wsT
  exact List.forall_mem_cons.mpr ⟨mT 267 (by decide +kernel) (by decide +kernel), List.forall_mem_cons.mpr ⟨mT 269 (by decide +kernel) (by decide +kernel), List.forall_mem_cons.mpr ⟨mT 271 (by decide +kernel) (by decide +kernel), fun _ h => absurd h List.not_mem_nil⟩⟩⟩
set_option maxRecDepth 100000 in
theorem clX1 : ∀ w ∈ u_ws RX1 TX1 5, w ∈ wsT := by
  show ∀ w ∈ [u_lay RX1 TX1 0, u_lay RX1 TX1 1, u_lay RX1 TX1 2, u_lay RX1 TX1 3, u_lay RX1 TX1 4], w ∈ wsT
  exact List.forall_mem_cons.mpr ⟨mT 180 (by decide +kernel) (by decide +kernel), List.forall_mem_cons.mpr ⟨mT 182 (by decide +kernel) (by decide +kernel), List.forall_mem_cons.mpr ⟨mT 184 (by decide +kernel) (by decide +kernel), List.forall_mem_cons.mpr ⟨mT 186 (by decide +kernel) (by decide +kernel), List.forall_mem_cons.mpr ⟨mT 188 (by decide +kernel) (by decide +kernel), fun _ h => absurd h List.not_mem_nil⟩⟩⟩⟩⟩
set_option maxRecDepth 100000 in
theorem clX2 : ∀ w ∈ u_ws RX2 TX2 4, w ∈ wsT := by
  show ∀ w ∈ [u_lay RX2 TX2 0, u_lay RX2 TX2 1, u_lay RX2 TX2 2, u_lay RX2 TX2 3], w ∈ wsT
  exact List.forall_mem_cons.mpr ⟨mT 156 (by decide +kernel) (by decide +kernel), List.forall_mem_cons.mpr ⟨mT 158 (by decide +kernel) (by decide +kernel), List.forall_mem_cons.mpr ⟨mT 160 (by decide +kernel) (by decide +kernel), List.forall_mem_cons.mpr ⟨mT 162 (by decide +kernel) (by decide +kernel), fun _ h => absurd h List.not_mem_nil⟩⟩⟩⟩
set_option maxRecDepth 100000 in
theorem clX3 : ∀ w ∈ u_ws RX3 TX3 5, w ∈ wsT := by
  show ∀ w ∈ [u_lay RX3 TX3 0, u_lay RX3 TX3 1, u_lay RX3 TX3 2, u_lay RX3 TX3 3, u_lay RX3 TX3 4], w ∈ wsT
  exact List.forall_mem_cons.mpr ⟨mT 204 (by decide +kernel) (by decide +kernel), List.forall_mem_cons.mpr ⟨mT 206 (by decide +kernel) (by decide +kernel), List.forall_mem_cons.mpr ⟨mT 208 (by decide +kernel) (by decide +kernel), List.forall_mem_cons.mpr ⟨mT 210 (by decide +kernel) (by decide +kernel), List.forall_mem_cons.mpr ⟨mT 212 (by decide +kernel) (by decide +kernel), fun _ h => absurd h List.not_mem_nil⟩⟩⟩⟩⟩
set_option maxRecDepth 100000 in
theorem clX4 : ∀ w ∈ u_ws RX4 TX4 6, w ∈ wsT := by
  show ∀ w ∈ [u_lay RX4 TX4 0, u_lay RX4 TX4 1, u_lay RX4 TX4 2, u_lay RX4 TX4 3, u_lay RX4 TX4 4, u_lay RX4 TX4 5], w ∈ wsT
  exact List.forall_mem_cons.mpr ⟨mT 131 (by decide +kernel) (by decide +kernel), List.forall_mem_cons.mpr ⟨mT 133 (by decide +kernel) (by decide +kernel), List.forall_mem_cons.mpr ⟨mT 135 (by decide +kernel) (by decide +kernel), List.forall_mem_cons.mpr ⟨mT 137 (by decide +kernel) (by decide +kernel), List.forall_mem_cons.mpr ⟨mT 139 (by decide +kernel) (by decide +kernel), List.forall_mem_cons.mpr ⟨mT 141 (by decide +kernel) (by decide +kernel), fun _ h => absurd h List.not_mem_nil⟩⟩⟩⟩⟩⟩
set_option maxRecDepth 100000 in
theorem clX5 : ∀ w ∈ u_ws RX5 TX5 5, w ∈ wsT := by
  show ∀ w ∈ [u_lay RX5 TX5 0, u_lay RX5 TX5 1, u_lay RX5 TX5 2, u_lay RX5 TX5 3, u_lay RX5 TX5 4], w ∈ wsT
  exact List.forall_mem_cons.mpr ⟨mT 229 (by decide +kernel) (by decide +kernel), List.forall_mem_cons.mpr ⟨mT 231 (by decide +kernel) (by decide +kernel), List.forall_mem_cons.mpr ⟨mT 233 (by decide +kernel) (by decide +kernel), List.forall_mem_cons.mpr ⟨mT 235 (by decide +kernel) (by decide +kernel), List.forall_mem_cons.mpr ⟨mT 237 (by decide +kernel) (by decide +kernel), fun _ h => absurd h List.not_mem_nil⟩⟩⟩⟩⟩
set_option maxRecDepth 100000 in
theorem clX6 : ∀ w ∈ u_ws RX6 TX6 2, w ∈ wsT := by
  show ∀ w ∈ [u_lay RX6 TX6 0, u_lay RX6 TX6 1], w ∈ wsT
  exact List.forall_mem_cons.mpr ⟨mT 284 (by decide +kernel) (by decide +kernel), List.forall_mem_cons.mpr ⟨mT 286 (by decide +kernel) (by decide +kernel), fun _ h => absurd h List.not_mem_nil⟩⟩
set_option maxRecDepth 100000 in
theorem clX7 : ∀ w ∈ u_ws RX7 TX7 3, w ∈ wsT := by
  show ∀ w ∈ [u_lay RX7 TX7 0, u_lay RX7 TX7 1, u_lay RX7 TX7 2], w ∈ wsT
  exact List.forall_mem_cons.mpr ⟨mT 250 (by decide +kernel) (by decide +kernel), List.forall_mem_cons.mpr ⟨mT 252 (by decide +kernel) (by decide +kernel), List.forall_mem_cons.mpr ⟨mT 254 (by decide +kernel) (by decide +kernel), fun _ h => absurd h List.not_mem_nil⟩⟩⟩
set_option maxRecDepth 100000 in
theorem clX8 : ∀ w ∈ u_ws RX8 TX8 3, w ∈ wsT := by
  show ∀ w ∈ [u_lay RX8 TX8 0, u_lay RX8 TX8 1, u_lay RX8 TX8 2], w ∈ wsT
  exact List.forall_mem_cons.mpr ⟨mT 86 (by decide +kernel) (by decide +kernel), List.forall_mem_cons.mpr ⟨mT 88 (by decide +kernel) (by decide +kernel), List.forall_mem_cons.mpr ⟨mT 90 (by decide +kernel) (by decide +kernel), fun _ h => absurd h List.not_mem_nil⟩⟩⟩
set_option maxRecDepth 100000 in
theorem clX9 : ∀ w ∈ u_ws RX9 TX9 10, w ∈ wsT := by
  show ∀ w ∈ [u_lay RX9 TX9 0, u_lay RX9 TX9 1, u_lay RX9 TX9 2, u_lay RX9 TX9 3, u_lay RX9 TX9 4, u_lay RX9 TX9 5, u_lay RX9 TX9 6, u_lay RX9 TX9 7, u_lay RX9 TX9 8, u_lay RX9 TX9 9], w ∈ wsT
  exact List.forall_mem_cons.mpr ⟨mT 329 (by decide +kernel) (by decide +kernel), List.forall_mem_cons.mpr ⟨mT 331 (by decide +kernel) (by decide +kernel), List.forall_mem_cons.mpr ⟨mT 333 (by decide +kernel) (by decide +kernel), List.forall_mem_cons.mpr ⟨mT 335 (by decide +kernel) (by decide +kernel), List.forall_mem_cons.mpr ⟨mT 337 (by decide +kernel) (by decide +kernel), List.forall_mem_cons.mpr ⟨mT 339 (by decide +kernel) (by decide +kernel), List.forall_mem_cons.mpr ⟨mT 341 (by decide +kernel) (by decide +kernel), List.forall_mem_cons.mpr ⟨mT 343 (by decide +kernel) (by decide +kernel), List.forall_mem_cons.mpr ⟨mT 345 (by decide +kernel) (by decide +kernel), List.forall_mem_cons.mpr ⟨mT 347 (by decide +kernel) (by decide +kernel), fun _ h => absurd h List.not_mem_nil⟩⟩⟩⟩⟩⟩⟩⟩⟩⟩
set_option maxRecDepth 100000 in
theorem clX10 : ∀ w ∈ u_ws RX10 TX10 29, w ∈ wsT := by
  show ∀ w ∈ [u_lay RX10 TX10 0, u_lay RX10 TX10 1, u_lay RX10 TX10 2, u_lay RX10 TX10 3, u_lay RX10 TX10 4, u_lay RX10 TX10 5, u_lay RX10 TX10 6, u_lay RX10 TX10 7, u_lay RX10 TX10 8, u_lay RX10 TX10 9, u_lay RX10 TX10 10, u_lay RX10 TX10 11, u_lay RX10 TX10 12, u_lay RX10 TX10 13, u_lay RX10 TX10 14, u_lay RX10 TX10 15, u_lay RX10 TX10 16, u_lay RX10 TX10 17, u_lay RX10 TX10 18, u_lay RX10 TX10 19, u_lay RX10 TX10 20, u_lay RX10 TX10 21, u_lay RX10 TX10 22, u_lay RX10 TX10 23, u_lay RX10 TX10 24, u_lay RX10 TX10 25, u_lay RX10 TX10 26, u_lay RX10 TX10 27, u_lay RX10 TX10 28], w ∈ wsT
  exact List.forall_mem_cons.mpr ⟨mT 732 (by decide +kernel) (by decide +kernel), List.forall_mem_cons.mpr ⟨mT 734 (by decide +kernel) (by decide +kernel), List.forall_mem_cons.mpr ⟨mT 736 (by decide +kernel) (by decide +kernel), List.forall_mem_cons.mpr ⟨mT 738 (by decide +kernel) (by decide +kernel), List.forall_mem_cons.mpr ⟨mT 740 (by decide +kernel) (by decide +kernel), List.forall_mem_cons.mpr ⟨mT 742 (by decide +kernel) (by decide +kernel), List.forall_mem_cons.mpr ⟨mT 744 (by decide +kernel) (by decide +kernel), List.forall_mem_cons.mpr ⟨mT 746 (by decide +kernel) (by decide +kernel), List.forall_mem_cons.mpr ⟨mT 748 (by decide +kernel) (by decide +kernel), List.forall_mem_cons.mpr ⟨mT 750 (by decide +kernel) (by decide +kernel), List.forall_mem_cons.mpr ⟨mT 752 (by decide +kernel) (by decide +kernel), List.forall_mem_cons.mpr ⟨mT 754 (by decide +kernel) (by decide +kernel), List.forall_mem_cons.mpr ⟨mT 756 (by decide +kernel) (by decide +kernel), List.forall_mem_cons.mpr ⟨mT 758 (by decide +kernel) (by decide +kernel), List.forall_mem_cons.mpr ⟨mT 760 (by decide +kernel) (by decide +kernel), List.forall_mem_cons.mpr ⟨mT 762 (by decide +kernel) (by decide +kernel), List.forall_mem_cons.mpr ⟨mT 764 (by decide +kernel) (by decide +kernel), List.forall_mem_cons.mpr ⟨mT 766 (by decide +kernel) (by decide +kernel), List.forall_mem_cons.mpr ⟨mT 768 (by decide +kernel) (by decide +kernel), List.forall_mem_cons.mpr ⟨mT 770 (by decide +kernel) (by decide +kernel), List.forall_mem_cons.mpr ⟨mT 772 (by decide +kernel) (by decide +kernel), List.forall_mem_cons.mpr ⟨mT 774 (by decide +kernel) (by decide +kernel), List.forall_mem_cons.mpr ⟨mT 776 (by decide +kernel) (by decide +kernel), List.forall_mem_cons.mpr ⟨mT 778 (by decide +kernel) (by decide +kernel), List.forall_mem_cons.mpr ⟨mT 780 (by decide +kernel) (by decide +kernel), List.forall_mem_cons.mpr ⟨mT 782 (by decide +kernel) (by decide +kernel), List.forall_mem_cons.mpr ⟨mT 784 (by decide +kernel) (by decide +kernel), List.forall_mem_cons.mpr ⟨mT 786 (by decide +kernel) (by decide +kernel), List.forall_mem_cons.mpr ⟨mT 788 (by decide +kernel) (by decide +kernel), fun _ h => absurd h List.not_mem_nil⟩⟩⟩⟩⟩⟩⟩⟩⟩⟩⟩⟩⟩⟩⟩⟩⟩⟩⟩⟩⟩⟩⟩⟩⟩⟩⟩⟩⟩
theorem cpW_ok : cpW := ⟨mT 420 (by decide +kernel) rfl, mT 419 (by decide +kernel) rfl, mT 66 (by decide +kernel) rfl⟩
set_option maxRecDepth 100000 in
theorem mxW_ok : mxW := ⟨mT 476 (by decide +kernel) rfl, mT 67 (by decide +kernel) rfl, mT 477 rfl rfl⟩
set_option maxRecDepth 100000 in
theorem mnW_ok : mnW := ⟨mT 436 (by decide +kernel) rfl, mT 67 (by decide +kernel) rfl, mT 437 rfl rfl⟩
abbrev mX4_clear : MM := (yX4_clear, cX4_clear, 1, none)
set_option maxRecDepth 100000 in
theorem vX4_clear : CV mX4_clear 0 := ⟨mT 292 rfl rfl, mT 56 (by decide +kernel) rfl, ⟨by decide +kernel, by decide +kernel, by decide +kernel⟩, by decide⟩
theorem kX4_clear : CI mX4_clear := ⟨mT 290 (by decide +kernel) rfl, mT 291 (by decide +kernel) rfl⟩
abbrev mX4_addMaster : MM := (yX4_addMaster, cX4_addMaster, 2, (some .boolean))
set_option maxRecDepth 100000 in
theorem vX4_addMaster : CV mX4_addMaster 1 := ⟨mT 296 rfl rfl, mT 56 (by decide +kernel) rfl, ⟨by decide +kernel, by decide +kernel, by decide +kernel⟩, by decide⟩
theorem kX4_addMaster : CI mX4_addMaster := ⟨mT 294 (by decide +kernel) rfl, mT 295 (by decide +kernel) rfl⟩
abbrev mX9_isWithin : MM := (yX9_isWithin, cX9_isWithin, 3, (some .boolean))
set_option maxRecDepth 100000 in
theorem vX9_isWithin : CV mX9_isWithin 3 := ⟨mT 299 rfl rfl, mT 54 (by decide +kernel) rfl, ⟨by decide +kernel, by decide +kernel, by decide +kernel⟩, by decide⟩
theorem kX9_isWithin : Cond.static yX9_isWithin ∈ wsT := mT 298 (by decide +kernel) rfl
abbrev mX4_addLad : MM := (yX4_addLad, cX4_addLad, 3, (some .boolean))
set_option maxRecDepth 100000 in
theorem vX4_addLad : CV mX4_addLad 2 := ⟨mT 303 rfl rfl, mT 56 (by decide +kernel) rfl, ⟨by decide +kernel, by decide +kernel, by decide +kernel⟩, by decide⟩
theorem kX4_addLad : CI mX4_addLad := ⟨mT 301 (by decide +kernel) rfl, mT 302 (by decide +kernel) rfl⟩
abbrev mJ7_fill_53178 : MM := (yJ7_fill_53178, cJ7_fill_53178, 4, none)
set_option maxRecDepth 100000 in
theorem vJ7_fill_53178 : CV mJ7_fill_53178 2 := ⟨mT 306 rfl rfl, mT 64 (by decide +kernel) rfl, ⟨by decide +kernel, by decide +kernel, by decide +kernel⟩, by decide⟩
theorem kJ7_fill_53178 : Cond.static yJ7_fill_53178 ∈ wsT := mT 305 (by decide +kernel) rfl
abbrev mX4_addWant : MM := (yX4_addWant, cX4_addWant, 4, (some .boolean))
set_option maxRecDepth 100000 in
theorem vX4_addWant : CV mX4_addWant 3 := ⟨mT 310 rfl rfl, mT 56 (by decide +kernel) rfl, ⟨by decide +kernel, by decide +kernel, by decide +kernel⟩, by decide⟩
theorem kX4_addWant : CI mX4_addWant := ⟨mT 308 (by decide +kernel) rfl, mT 309 (by decide +kernel) rfl⟩
abbrev mX4_hasLad : MM := (yX4_hasLad, cX4_hasLad, 2, (some .boolean))
set_option maxRecDepth 100000 in
theorem vX4_hasLad : CV mX4_hasLad 1 := ⟨mT 314 rfl rfl, mT 56 (by decide +kernel) rfl, ⟨by decide +kernel, by decide +kernel, by decide +kernel⟩, by decide⟩
theorem kX4_hasLad : CI mX4_hasLad := ⟨mT 312 (by decide +kernel) rfl, mT 313 (by decide +kernel) rfl⟩
abbrev mX4_hasMaster : MM := (yX4_hasMaster, cX4_hasMaster, 2, (some .boolean))
set_option maxRecDepth 100000 in
theorem vX4_hasMaster : CV mX4_hasMaster 1 := ⟨mT 318 rfl rfl, mT 56 (by decide +kernel) rfl, ⟨by decide +kernel, by decide +kernel, by decide +kernel⟩, by decide⟩
theorem kX4_hasMaster : CI mX4_hasMaster := ⟨mT 316 (by decide +kernel) rfl, mT 317 (by decide +kernel) rfl⟩
abbrev mX9_write : MM := (yX9_write, cX9_write, 4, (some .int))
set_option maxRecDepth 100000 in
theorem vX9_write : CV mX9_write 2 := ⟨mT 353 rfl rfl, mT 54 (by decide +kernel) rfl, ⟨by decide +kernel, by decide +kernel, by decide +kernel⟩, by decide⟩
theorem kX9_write : CI mX9_write := ⟨mT 351 (by decide +kernel) rfl, mT 352 (by decide +kernel) rfl⟩
abbrev mX8_append : MM := (yX8_append, cX8_append, 5, none)
set_option maxRecDepth 100000 in
theorem vX8_append : CV mX8_append 2 := ⟨mT 358 rfl rfl, mT 55 (by decide +kernel) rfl, ⟨by decide +kernel, by decide +kernel, by decide +kernel⟩, by decide⟩
theorem kX8_append : CI mX8_append := ⟨mT 356 (by decide +kernel) rfl, mT 357 (by decide +kernel) rfl⟩
abbrev mX9_wipe : MM := (yX9_wipe, cX9_wipe, 2, (some .int))
set_option maxRecDepth 100000 in
theorem vX9_wipe : CV mX9_wipe 0 := ⟨mT 362 rfl rfl, mT 54 (by decide +kernel) rfl, ⟨by decide +kernel, by decide +kernel, by decide +kernel⟩, by decide⟩
theorem kX9_wipe : CI mX9_wipe := ⟨mT 360 (by decide +kernel) rfl, mT 361 (by decide +kernel) rfl⟩
abbrev mX9_fault : MM := (yX9_fault, cX9_fault, 1, (some .int))
set_option maxRecDepth 100000 in
theorem vX9_fault : CV mX9_fault 0 := ⟨mT 366 rfl rfl, mT 54 (by decide +kernel) rfl, ⟨by decide +kernel, by decide +kernel, by decide +kernel⟩, by decide⟩
theorem kX9_fault : CI mX9_fault := ⟨mT 364 (by decide +kernel) rfl, mT 365 (by decide +kernel) rfl⟩
abbrev mX8_readInto : MM := (yX8_readInto, cX8_readInto, 6, (some .int))
set_option maxRecDepth 100000 in
theorem vX8_readInto : CV mX8_readInto 1 := ⟨mT 370 rfl rfl, mT 55 (by decide +kernel) rfl, ⟨by decide +kernel, by decide +kernel, by decide +kernel⟩, by decide⟩
theorem kX8_readInto : CI mX8_readInto := ⟨mT 368 (by decide +kernel) rfl, mT 369 (by decide +kernel) rfl⟩
abbrev mX8_numbersOf : MM := (yX8_numbersOf, cX8_numbersOf, 1, (some .int))
set_option maxRecDepth 100000 in
theorem vX8_numbersOf : CV mX8_numbersOf 1 := ⟨mT 374 rfl rfl, mT 55 (by decide +kernel) rfl, ⟨by decide +kernel, by decide +kernel, by decide +kernel⟩, by decide⟩
theorem kX8_numbersOf : Cond.static yX8_numbersOf ∈ wsT := mT 373 (by decide +kernel) rfl
abbrev mX8_readNumbers : MM := (yX8_readNumbers, cX8_readNumbers, 6, (some .int))
set_option maxRecDepth 100000 in
theorem vX8_readNumbers : CV mX8_readNumbers 2 := ⟨mT 378 rfl rfl, mT 55 (by decide +kernel) rfl, ⟨by decide +kernel, by decide +kernel, by decide +kernel⟩, by decide⟩
theorem kX8_readNumbers : CI mX8_readNumbers := ⟨mT 377 (by decide +kernel) rfl, mT 0 (by decide +kernel) rfl⟩
abbrev mX8_figuresAt : MM := (yX8_figuresAt, cX8_figuresAt, 2, (some .int))
set_option maxRecDepth 100000 in
theorem vX8_figuresAt : CV mX8_figuresAt 1 := ⟨mT 382 rfl rfl, mT 55 (by decide +kernel) rfl, ⟨by decide +kernel, by decide +kernel, by decide +kernel⟩, by decide⟩
theorem kX8_figuresAt : CI mX8_figuresAt := ⟨mT 381 (by decide +kernel) rfl, mT 1 (by decide +kernel) rfl⟩
abbrev mX8_isFigureAt : MM := (yX8_isFigureAt, cX8_isFigureAt, 2, (some .boolean))
set_option maxRecDepth 100000 in
theorem vX8_isFigureAt : CV mX8_isFigureAt 1 := ⟨mT 386 rfl rfl, mT 55 (by decide +kernel) rfl, ⟨by decide +kernel, by decide +kernel, by decide +kernel⟩, by decide⟩
theorem kX8_isFigureAt : CI mX8_isFigureAt := ⟨mT 385 (by decide +kernel) rfl, mT 2 (by decide +kernel) rfl⟩
abbrev mX8_numberAt : MM := (yX8_numberAt, cX8_numberAt, 5, (some .int))
set_option maxRecDepth 100000 in
theorem vX8_numberAt : CV mX8_numberAt 2 := ⟨mT 390 rfl rfl, mT 55 (by decide +kernel) rfl, ⟨by decide +kernel, by decide +kernel, by decide +kernel⟩, by decide⟩
theorem kX8_numberAt : CI mX8_numberAt := ⟨mT 389 (by decide +kernel) rfl, mT 3 (by decide +kernel) rfl⟩
abbrev mX8_isSignAt : MM := (yX8_isSignAt, cX8_isSignAt, 3, (some .boolean))
set_option maxRecDepth 100000 in
theorem vX8_isSignAt : CV mX8_isSignAt 2 := ⟨mT 394 rfl rfl, mT 55 (by decide +kernel) rfl, ⟨by decide +kernel, by decide +kernel, by decide +kernel⟩, by decide⟩
theorem kX8_isSignAt : CI mX8_isSignAt := ⟨mT 393 (by decide +kernel) rfl, mT 4 (by decide +kernel) rfl⟩
abbrev mX8_tell : MM := (yX8_tell, cX8_tell, 3, (some .boolean))
set_option maxRecDepth 100000 in
theorem vX8_tell : CV mX8_tell 2 := ⟨mT 398 rfl rfl, mT 55 (by decide +kernel) rfl, ⟨by decide +kernel, by decide +kernel, by decide +kernel⟩, by decide⟩
theorem kX8_tell : CI mX8_tell := ⟨mT 397 (by decide +kernel) rfl, mT 5 (by decide +kernel) rfl⟩
abbrev mX4_tellCalls : MM := (yX4_tellCalls, cX4_tellCalls, 2, (some .boolean))
set_option maxRecDepth 100000 in
theorem vX4_tellCalls : CV mX4_tellCalls 1 := ⟨mT 405 rfl rfl, mT 56 (by decide +kernel) rfl, ⟨by decide +kernel, by decide +kernel, by decide +kernel⟩, by decide⟩
theorem kX4_tellCalls : CI mX4_tellCalls := ⟨mT 403 (by decide +kernel) rfl, mT 404 (by decide +kernel) rfl⟩
abbrev mX4_tellStep : MM := (yX4_tellStep, cX4_tellStep, 2, (some .boolean))
set_option maxRecDepth 100000 in
theorem vX4_tellStep : CV mX4_tellStep 1 := ⟨mT 409 rfl rfl, mT 56 (by decide +kernel) rfl, ⟨by decide +kernel, by decide +kernel, by decide +kernel⟩, by decide⟩
theorem kX4_tellStep : CI mX4_tellStep := ⟨mT 407 (by decide +kernel) rfl, mT 408 (by decide +kernel) rfl⟩
abbrev mX9_lay : MM := (yX9_lay, cX9_lay, 1, (some .int))
set_option maxRecDepth 100000 in
theorem vX9_lay : CV mX9_lay 0 := ⟨mT 413 rfl rfl, mT 54 (by decide +kernel) rfl, ⟨by decide +kernel, by decide +kernel, by decide +kernel⟩, by decide⟩
theorem kX9_lay : CI mX9_lay := ⟨mT 411 (by decide +kernel) rfl, mT 412 (by decide +kernel) rfl⟩
abbrev mX4_copyFrom : MM := (yX4_copyFrom, cX4_copyFrom, 3, none)
set_option maxRecDepth 100000 in
theorem vX4_copyFrom : CV mX4_copyFrom 1 := ⟨mT 417 rfl rfl, mT 56 (by decide +kernel) rfl, ⟨by decide +kernel, by decide +kernel, by decide +kernel⟩, by decide⟩
theorem kX4_copyFrom : CI mX4_copyFrom := ⟨mT 415 (by decide +kernel) rfl, mT 416 (by decide +kernel) rfl⟩
abbrev mX9_lad : MM := (yX9_lad, cX9_lad, 3, (some .int))
set_option maxRecDepth 100000 in
theorem vX9_lad : CV mX9_lad 2 := ⟨mT 424 rfl rfl, mT 54 (by decide +kernel) rfl, ⟨by decide +kernel, by decide +kernel, by decide +kernel⟩, by decide⟩
theorem kX9_lad : CI mX9_lad := ⟨mT 422 (by decide +kernel) rfl, mT 423 (by decide +kernel) rfl⟩
abbrev mX2_hold : MM := (yX2_hold, cX2_hold, 5, none)
set_option maxRecDepth 100000 in
theorem vX2_hold : CV mX2_hold 2 := ⟨mT 429 rfl rfl, mT 57 (by decide +kernel) rfl, ⟨by decide +kernel, by decide +kernel, by decide +kernel⟩, by decide⟩
theorem kX2_hold : CI mX2_hold := ⟨mT 427 (by decide +kernel) rfl, mT 428 (by decide +kernel) rfl⟩
abbrev mX4_boundOf : MM := (yX4_boundOf, cX4_boundOf, 4, (some .int))
set_option maxRecDepth 100000 in
theorem vX4_boundOf : CV mX4_boundOf 2 := ⟨mT 434 rfl rfl, mT 56 (by decide +kernel) rfl, ⟨by decide +kernel, by decide +kernel, by decide +kernel⟩, by decide⟩
theorem kX4_boundOf : CI mX4_boundOf := ⟨mT 432 (by decide +kernel) rfl, mT 433 (by decide +kernel) rfl⟩
abbrev mX2_callFromBelow : MM := (yX2_callFromBelow, cX2_callFromBelow, 6, none)
set_option maxRecDepth 100000 in
theorem vX2_callFromBelow : CV mX2_callFromBelow 2 := ⟨mT 441 rfl rfl, mT 57 (by decide +kernel) rfl, ⟨by decide +kernel, by decide +kernel, by decide +kernel⟩, by decide⟩
theorem kX2_callFromBelow : CI mX2_callFromBelow := ⟨mT 440 (by decide +kernel) rfl, mT 6 (by decide +kernel) rfl⟩
abbrev mX2_howManyIn : MM := (yX2_howManyIn, cX2_howManyIn, 5, (some .int))
set_option maxRecDepth 100000 in
theorem vX2_howManyIn : CV mX2_howManyIn 2 := ⟨mT 445 rfl rfl, mT 57 (by decide +kernel) rfl, ⟨by decide +kernel, by decide +kernel, by decide +kernel⟩, by decide⟩
theorem kX2_howManyIn : CI mX2_howManyIn := ⟨mT 444 (by decide +kernel) rfl, mT 7 (by decide +kernel) rfl⟩
abbrev mX2_isIn : MM := (yX2_isIn, cX2_isIn, 3, (some .boolean))
set_option maxRecDepth 100000 in
theorem vX2_isIn : CV mX2_isIn 2 := ⟨mT 449 rfl rfl, mT 57 (by decide +kernel) rfl, ⟨by decide +kernel, by decide +kernel, by decide +kernel⟩, by decide⟩
theorem kX2_isIn : CI mX2_isIn := ⟨mT 448 (by decide +kernel) rfl, mT 8 (by decide +kernel) rfl⟩
abbrev mX2_hire : MM := (yX2_hire, cX2_hire, 7, (some .int))
set_option maxRecDepth 100000 in
theorem vX2_hire : CV mX2_hire 4 := ⟨mT 453 rfl rfl, mT 57 (by decide +kernel) rfl, ⟨by decide +kernel, by decide +kernel, by decide +kernel⟩, by decide⟩
theorem kX2_hire : CI mX2_hire := ⟨mT 452 (by decide +kernel) rfl, mT 9 (by decide +kernel) rfl⟩
abbrev mX2_callFromAbove : MM := (yX2_callFromAbove, cX2_callFromAbove, 6, none)
set_option maxRecDepth 100000 in
theorem vX2_callFromAbove : CV mX2_callFromAbove 3 := ⟨mT 457 rfl rfl, mT 57 (by decide +kernel) rfl, ⟨by decide +kernel, by decide +kernel, by decide +kernel⟩, by decide⟩
theorem kX2_callFromAbove : CI mX2_callFromAbove := ⟨mT 456 (by decide +kernel) rfl, mT 10 (by decide +kernel) rfl⟩
abbrev mX2_gainOf : MM := (yX2_gainOf, cX2_gainOf, 3, (some .int))
set_option maxRecDepth 100000 in
theorem vX2_gainOf : CV mX2_gainOf 2 := ⟨mT 461 rfl rfl, mT 57 (by decide +kernel) rfl, ⟨by decide +kernel, by decide +kernel, by decide +kernel⟩, by decide⟩
theorem kX2_gainOf : CI mX2_gainOf := ⟨mT 459 (by decide +kernel) rfl, mT 460 (by decide +kernel) rfl⟩
abbrev mX9_master : MM := (yX9_master, cX9_master, 3, (some .int))
set_option maxRecDepth 100000 in
theorem vX9_master : CV mX9_master 2 := ⟨mT 465 rfl rfl, mT 54 (by decide +kernel) rfl, ⟨by decide +kernel, by decide +kernel, by decide +kernel⟩, by decide⟩
theorem kX9_master : CI mX9_master := ⟨mT 463 (by decide +kernel) rfl, mT 464 (by decide +kernel) rfl⟩
abbrev mX2_ladsOf : MM := (yX2_ladsOf, cX2_ladsOf, 5, (some .int))
set_option maxRecDepth 100000 in
theorem vX2_ladsOf : CV mX2_ladsOf 2 := ⟨mT 470 rfl rfl, mT 57 (by decide +kernel) rfl, ⟨by decide +kernel, by decide +kernel, by decide +kernel⟩, by decide⟩
theorem kX2_ladsOf : CI mX2_ladsOf := ⟨mT 468 (by decide +kernel) rfl, mT 469 (by decide +kernel) rfl⟩
abbrev mX2_mostYearsOf : MM := (yX2_mostYearsOf, cX2_mostYearsOf, 5, (some .int))
set_option maxRecDepth 100000 in
theorem vX2_mostYearsOf : CV mX2_mostYearsOf 2 := ⟨mT 474 rfl rfl, mT 57 (by decide +kernel) rfl, ⟨by decide +kernel, by decide +kernel, by decide +kernel⟩, by decide⟩
theorem kX2_mostYearsOf : CI mX2_mostYearsOf := ⟨mT 472 (by decide +kernel) rfl, mT 473 (by decide +kernel) rfl⟩
abbrev mX9_wants : MM := (yX9_wants, cX9_wants, 4, (some .int))
set_option maxRecDepth 100000 in
theorem vX9_wants : CV mX9_wants 3 := ⟨mT 481 rfl rfl, mT 54 (by decide +kernel) rfl, ⟨by decide +kernel, by decide +kernel, by decide +kernel⟩, by decide⟩
theorem kX9_wants : CI mX9_wants := ⟨mT 479 (by decide +kernel) rfl, mT 480 (by decide +kernel) rfl⟩
abbrev mX9_all : MM := (yX9_all, cX9_all, 2, (some .int))
set_option maxRecDepth 100000 in
theorem vX9_all : CV mX9_all 1 := ⟨mT 486 rfl rfl, mT 54 (by decide +kernel) rfl, ⟨by decide +kernel, by decide +kernel, by decide +kernel⟩, by decide⟩
theorem kX9_all : CI mX9_all := ⟨mT 484 (by decide +kernel) rfl, mT 485 (by decide +kernel) rfl⟩
abbrev mX2_yearsOfAll : MM := (yX2_yearsOfAll, cX2_yearsOfAll, 4, (some .int))
set_option maxRecDepth 100000 in
theorem vX2_yearsOfAll : CV mX2_yearsOfAll 1 := ⟨mT 490 rfl rfl, mT 57 (by decide +kernel) rfl, ⟨by decide +kernel, by decide +kernel, by decide +kernel⟩, by decide⟩
theorem kX2_yearsOfAll : CI mX2_yearsOfAll := ⟨mT 488 (by decide +kernel) rfl, mT 489 (by decide +kernel) rfl⟩
abbrev mX2_gainsOfAll : MM := (yX2_gainsOfAll, cX2_gainsOfAll, 4, (some .int))
set_option maxRecDepth 100000 in
theorem vX2_gainsOfAll : CV mX2_gainsOfAll 1 := ⟨mT 494 rfl rfl, mT 57 (by decide +kernel) rfl, ⟨by decide +kernel, by decide +kernel, by decide +kernel⟩, by decide⟩
theorem kX2_gainsOfAll : CI mX2_gainsOfAll := ⟨mT 492 (by decide +kernel) rfl, mT 493 (by decide +kernel) rfl⟩
abbrev mX2_ladsHired : MM := (yX2_ladsHired, cX2_ladsHired, 4, (some .int))
set_option maxRecDepth 100000 in
theorem vX2_ladsHired : CV mX2_ladsHired 1 := ⟨mT 499 rfl rfl, mT 57 (by decide +kernel) rfl, ⟨by decide +kernel, by decide +kernel, by decide +kernel⟩, by decide⟩
theorem kX2_ladsHired : CI mX2_ladsHired := ⟨mT 497 (by decide +kernel) rfl, mT 498 (by decide +kernel) rfl⟩
abbrev mX9_limit : MM := (yX9_limit, cX9_limit, 3, (some .int))
set_option maxRecDepth 100000 in
theorem vX9_limit : CV mX9_limit 2 := ⟨mT 503 rfl rfl, mT 54 (by decide +kernel) rfl, ⟨by decide +kernel, by decide +kernel, by decide +kernel⟩, by decide⟩
theorem kX9_limit : CI mX9_limit := ⟨mT 501 (by decide +kernel) rfl, mT 502 (by decide +kernel) rfl⟩
abbrev mX9_change : MM := (yX9_change, cX9_change, 4, (some .int))
set_option maxRecDepth 100000 in
theorem vX9_change : CV mX9_change 2 := ⟨mT 507 rfl rfl, mT 54 (by decide +kernel) rfl, ⟨by decide +kernel, by decide +kernel, by decide +kernel⟩, by decide⟩
theorem kX9_change : CI mX9_change := ⟨mT 506 (by decide +kernel) rfl, mT 11 (by decide +kernel) rfl⟩
abbrev mX0_note : MM := (yX0_note, cX0_note, 3, none)
set_option maxRecDepth 100000 in
theorem vX0_note : CV mX0_note 2 := ⟨mT 511 rfl rfl, mT 62 (by decide +kernel) rfl, ⟨by decide +kernel, by decide +kernel, by decide +kernel⟩, by decide⟩
theorem kX0_note : CI mX0_note := ⟨mT 509 (by decide +kernel) rfl, mT 510 (by decide +kernel) rfl⟩
abbrev mX9_calls : MM := (yX9_calls, cX9_calls, 2, (some .int))
set_option maxRecDepth 100000 in
theorem vX9_calls : CV mX9_calls 1 := ⟨mT 516 rfl rfl, mT 54 (by decide +kernel) rfl, ⟨by decide +kernel, by decide +kernel, by decide +kernel⟩, by decide⟩
theorem kX9_calls : CI mX9_calls := ⟨mT 514 (by decide +kernel) rfl, mT 515 (by decide +kernel) rfl⟩
abbrev mX9_step : MM := (yX9_step, cX9_step, 2, (some .int))
set_option maxRecDepth 100000 in
theorem vX9_step : CV mX9_step 1 := ⟨mT 520 rfl rfl, mT 54 (by decide +kernel) rfl, ⟨by decide +kernel, by decide +kernel, by decide +kernel⟩, by decide⟩
theorem kX9_step : CI mX9_step := ⟨mT 518 (by decide +kernel) rfl, mT 519 (by decide +kernel) rfl⟩
abbrev mX9_undo : MM := (yX9_undo, cX9_undo, 1, (some .int))
set_option maxRecDepth 100000 in
theorem vX9_undo : CV mX9_undo 0 := ⟨mT 524 rfl rfl, mT 54 (by decide +kernel) rfl, ⟨by decide +kernel, by decide +kernel, by decide +kernel⟩, by decide⟩
theorem kX9_undo : CI mX9_undo := ⟨mT 522 (by decide +kernel) rfl, mT 523 (by decide +kernel) rfl⟩
abbrev mX0_takeBack : MM := (yX0_takeBack, cX0_takeBack, 2, none)
set_option maxRecDepth 100000 in
theorem vX0_takeBack : CV mX0_takeBack 1 := ⟨mT 528 rfl rfl, mT 62 (by decide +kernel) rfl, ⟨by decide +kernel, by decide +kernel, by decide +kernel⟩, by decide⟩
theorem kX0_takeBack : CI mX0_takeBack := ⟨mT 526 (by decide +kernel) rfl, mT 527 (by decide +kernel) rfl⟩
abbrev mX9_lie : MM := (yX9_lie, cX9_lie, 7, (some .int))
set_option maxRecDepth 100000 in
theorem vX9_lie : CV mX9_lie 2 := ⟨mT 532 rfl rfl, mT 54 (by decide +kernel) rfl, ⟨by decide +kernel, by decide +kernel, by decide +kernel⟩, by decide⟩
theorem kX9_lie : CI mX9_lie := ⟨mT 530 (by decide +kernel) rfl, mT 531 (by decide +kernel) rfl⟩
abbrev mX9_gainBySaying : MM := (yX9_gainBySaying, cX9_gainBySaying, 3, (some .int))
set_option maxRecDepth 100000 in
theorem vX9_gainBySaying : CV mX9_gainBySaying 2 := ⟨mT 536 rfl rfl, mT 54 (by decide +kernel) rfl, ⟨by decide +kernel, by decide +kernel, by decide +kernel⟩, by decide⟩
theorem kX9_gainBySaying : CI mX9_gainBySaying := ⟨mT 535 (by decide +kernel) rfl, mT 12 (by decide +kernel) rfl⟩
abbrev mX9_game : MM := (yX9_game, cX9_game, 4, (some .int))
set_option maxRecDepth 100000 in
theorem vX9_game : CV mX9_game 3 := ⟨mT 540 rfl rfl, mT 54 (by decide +kernel) rfl, ⟨by decide +kernel, by decide +kernel, by decide +kernel⟩, by decide⟩
theorem kX9_game : CI mX9_game := ⟨mT 538 (by decide +kernel) rfl, mT 539 (by decide +kernel) rfl⟩
abbrev mX1_play : MM := (yX1_play, cX1_play, 7, none)
set_option maxRecDepth 100000 in
theorem vX1_play : CV mX1_play 4 := ⟨mT 544 rfl rfl, mT 58 (by decide +kernel) rfl, ⟨by decide +kernel, by decide +kernel, by decide +kernel⟩, by decide⟩
theorem kX1_play : CI mX1_play := ⟨mT 542 (by decide +kernel) rfl, mT 543 (by decide +kernel) rfl⟩
abbrev mX1_findRests : MM := (yX1_findRests, cX1_findRests, 3, none)
set_option maxRecDepth 100000 in
theorem vX1_findRests : CV mX1_findRests 0 := ⟨mT 550 rfl rfl, mT 58 (by decide +kernel) rfl, ⟨by decide +kernel, by decide +kernel, by decide +kernel⟩, by decide⟩
theorem kX1_findRests : CI mX1_findRests := ⟨mT 548 (by decide +kernel) rfl, mT 549 (by decide +kernel) rfl⟩
abbrev mX1_isRest : MM := (yX1_isRest, cX1_isRest, 4, (some .boolean))
set_option maxRecDepth 100000 in
theorem vX1_isRest : CV mX1_isRest 2 := ⟨mT 554 rfl rfl, mT 58 (by decide +kernel) rfl, ⟨by decide +kernel, by decide +kernel, by decide +kernel⟩, by decide⟩
theorem kX1_isRest : CI mX1_isRest := ⟨mT 553 (by decide +kernel) rfl, mT 13 (by decide +kernel) rfl⟩
abbrev mX1_noteRest : MM := (yX1_noteRest, cX1_noteRest, 3, none)
set_option maxRecDepth 100000 in
theorem vX1_noteRest : CV mX1_noteRest 2 := ⟨mT 558 rfl rfl, mT 58 (by decide +kernel) rfl, ⟨by decide +kernel, by decide +kernel, by decide +kernel⟩, by decide⟩
theorem kX1_noteRest : CI mX1_noteRest := ⟨mT 557 (by decide +kernel) rfl, mT 14 (by decide +kernel) rfl⟩
abbrev mX9_rest : MM := (yX9_rest, cX9_rest, 3, (some .int))
set_option maxRecDepth 100000 in
theorem vX9_rest : CV mX9_rest 2 := ⟨mT 562 rfl rfl, mT 54 (by decide +kernel) rfl, ⟨by decide +kernel, by decide +kernel, by decide +kernel⟩, by decide⟩
theorem kX9_rest : CI mX9_rest := ⟨mT 560 (by decide +kernel) rfl, mT 561 (by decide +kernel) rfl⟩
abbrev mX3_search : MM := (yX3_search, cX3_search, 4, none)
set_option maxRecDepth 100000 in
theorem vX3_search : CV mX3_search 2 := ⟨mT 566 rfl rfl, mT 59 (by decide +kernel) rfl, ⟨by decide +kernel, by decide +kernel, by decide +kernel⟩, by decide⟩
theorem kX3_search : CI mX3_search := ⟨mT 564 (by decide +kernel) rfl, mT 565 (by decide +kernel) rfl⟩
abbrev mX3_mostWantOf : MM := (yX3_mostWantOf, cX3_mostWantOf, 4, (some .int))
set_option maxRecDepth 100000 in
theorem vX3_mostWantOf : CV mX3_mostWantOf 2 := ⟨mT 570 rfl rfl, mT 59 (by decide +kernel) rfl, ⟨by decide +kernel, by decide +kernel, by decide +kernel⟩, by decide⟩
theorem kX3_mostWantOf : Cond.static yX3_mostWantOf ∈ wsT := mT 569 (by decide +kernel) rfl
abbrev mX3_place : MM := (yX3_place, cX3_place, 6, none)
set_option maxRecDepth 100000 in
theorem vX3_place : CV mX3_place 5 := ⟨mT 574 rfl rfl, mT 59 (by decide +kernel) rfl, ⟨by decide +kernel, by decide +kernel, by decide +kernel⟩, by decide⟩
theorem kX3_place : Cond.static yX3_place ∈ wsT := mT 573 (by decide +kernel) rfl
abbrev mX5_search : MM := (yX5_search, cX5_search, 9, none)
set_option maxRecDepth 100000 in
theorem vX5_search : CV mX5_search 3 := ⟨mT 578 rfl rfl, mT 60 (by decide +kernel) rfl, ⟨by decide +kernel, by decide +kernel, by decide +kernel⟩, by decide⟩
theorem kX5_search : CI mX5_search := ⟨mT 576 (by decide +kernel) rfl, mT 577 (by decide +kernel) rfl⟩
abbrev mX5_countHeld : MM := (yX5_countHeld, cX5_countHeld, 4, none)
set_option maxRecDepth 100000 in
theorem vX5_countHeld : CV mX5_countHeld 2 := ⟨mT 582 rfl rfl, mT 60 (by decide +kernel) rfl, ⟨by decide +kernel, by decide +kernel, by decide +kernel⟩, by decide⟩
theorem kX5_countHeld : CI mX5_countHeld := ⟨mT 581 (by decide +kernel) rfl, mT 15 (by decide +kernel) rfl⟩
abbrev mX5_isBetter : MM := (yX5_isBetter, cX5_isBetter, 3, (some .boolean))
set_option maxRecDepth 100000 in
theorem vX5_isBetter : CV mX5_isBetter 2 := ⟨mT 587 rfl rfl, mT 60 (by decide +kernel) rfl, ⟨by decide +kernel, by decide +kernel, by decide +kernel⟩, by decide⟩
theorem kX5_isBetter : CI mX5_isBetter := ⟨mT 586 (by decide +kernel) rfl, mT 16 (by decide +kernel) rfl⟩
abbrev mX5_isAtRest : MM := (yX5_isAtRest, cX5_isAtRest, 4, (some .boolean))
set_option maxRecDepth 100000 in
theorem vX5_isAtRest : CV mX5_isAtRest 2 := ⟨mT 591 rfl rfl, mT 60 (by decide +kernel) rfl, ⟨by decide +kernel, by decide +kernel, by decide +kernel⟩, by decide⟩
theorem kX5_isAtRest : CI mX5_isAtRest := ⟨mT 590 (by decide +kernel) rfl, mT 17 (by decide +kernel) rfl⟩
abbrev mX5_isContent : MM := (yX5_isContent, cX5_isContent, 6, (some .boolean))
set_option maxRecDepth 100000 in
theorem vX5_isContent : CV mX5_isContent 3 := ⟨mT 595 rfl rfl, mT 60 (by decide +kernel) rfl, ⟨by decide +kernel, by decide +kernel, by decide +kernel⟩, by decide⟩
theorem kX5_isContent : CI mX5_isContent := ⟨mT 594 (by decide +kernel) rfl, mT 18 (by decide +kernel) rfl⟩
abbrev mX5_noteAsked : MM := (yX5_noteAsked, cX5_noteAsked, 2, none)
set_option maxRecDepth 100000 in
theorem vX5_noteAsked : CV mX5_noteAsked 1 := ⟨mT 599 rfl rfl, mT 60 (by decide +kernel) rfl, ⟨by decide +kernel, by decide +kernel, by decide +kernel⟩, by decide⟩
theorem kX5_noteAsked : CI mX5_noteAsked := ⟨mT 598 (by decide +kernel) rfl, mT 19 (by decide +kernel) rfl⟩
abbrev mX9_joint : MM := (yX9_joint, cX9_joint, 2, (some .int))
set_option maxRecDepth 100000 in
theorem vX9_joint : CV mX9_joint 1 := ⟨mT 604 rfl rfl, mT 54 (by decide +kernel) rfl, ⟨by decide +kernel, by decide +kernel, by decide +kernel⟩, by decide⟩
theorem kX9_joint : CI mX9_joint := ⟨mT 602 (by decide +kernel) rfl, mT 603 (by decide +kernel) rfl⟩
abbrev mX9_pay : MM := (yX9_pay, cX9_pay, 3, (some .int))
set_option maxRecDepth 100000 in
theorem vX9_pay : CV mX9_pay 1 := ⟨mT 608 rfl rfl, mT 54 (by decide +kernel) rfl, ⟨by decide +kernel, by decide +kernel, by decide +kernel⟩, by decide⟩
theorem kX9_pay : CI mX9_pay := ⟨mT 606 (by decide +kernel) rfl, mT 607 (by decide +kernel) rfl⟩
abbrev mX9_seen : MM := (yX9_seen, cX9_seen, 3, (some .int))
set_option maxRecDepth 100000 in
theorem vX9_seen : CV mX9_seen 2 := ⟨mT 612 rfl rfl, mT 54 (by decide +kernel) rfl, ⟨by decide +kernel, by decide +kernel, by decide +kernel⟩, by decide⟩
theorem kX9_seen : CI mX9_seen := ⟨mT 610 (by decide +kernel) rfl, mT 611 (by decide +kernel) rfl⟩
abbrev mX7_add : MM := (yX7_add, cX7_add, 3, none)
set_option maxRecDepth 100000 in
theorem vX7_add : CV mX7_add 2 := ⟨mT 616 rfl rfl, mT 61 (by decide +kernel) rfl, ⟨by decide +kernel, by decide +kernel, by decide +kernel⟩, by decide⟩
theorem kX7_add : CI mX7_add := ⟨mT 614 (by decide +kernel) rfl, mT 615 (by decide +kernel) rfl⟩
abbrev mX9_forget : MM := (yX9_forget, cX9_forget, 2, (some .int))
set_option maxRecDepth 100000 in
theorem vX9_forget : CV mX9_forget 0 := ⟨mT 620 rfl rfl, mT 54 (by decide +kernel) rfl, ⟨by decide +kernel, by decide +kernel, by decide +kernel⟩, by decide⟩
theorem kX9_forget : CI mX9_forget := ⟨mT 618 (by decide +kernel) rfl, mT 619 (by decide +kernel) rfl⟩
abbrev mX9_cousins : MM := (yX9_cousins, cX9_cousins, 3, (some .int))
set_option maxRecDepth 100000 in
theorem vX9_cousins : CV mX9_cousins 0 := ⟨mT 624 rfl rfl, mT 54 (by decide +kernel) rfl, ⟨by decide +kernel, by decide +kernel, by decide +kernel⟩, by decide⟩
theorem kX9_cousins : CI mX9_cousins := ⟨mT 622 (by decide +kernel) rfl, mT 623 (by decide +kernel) rfl⟩
abbrev mX9_isAsSeenWithout : MM := (yX9_isAsSeenWithout, cX9_isAsSeenWithout, 2, (some .boolean))
set_option maxRecDepth 100000 in
theorem vX9_isAsSeenWithout : CV mX9_isAsSeenWithout 1 := ⟨mT 628 rfl rfl, mT 54 (by decide +kernel) rfl, ⟨by decide +kernel, by decide +kernel, by decide +kernel⟩, by decide⟩
theorem kX9_isAsSeenWithout : CI mX9_isAsSeenWithout := ⟨mT 627 (by decide +kernel) rfl, mT 20 (by decide +kernel) rfl⟩
abbrev mX7_fit : MM := (yX7_fit, cX7_fit, 4, (some .boolean))
set_option maxRecDepth 100000 in
theorem vX7_fit : CV mX7_fit 2 := ⟨mT 632 rfl rfl, mT 61 (by decide +kernel) rfl, ⟨by decide +kernel, by decide +kernel, by decide +kernel⟩, by decide⟩
theorem kX7_fit : CI mX7_fit := ⟨mT 630 (by decide +kernel) rfl, mT 631 (by decide +kernel) rfl⟩
abbrev mX9_span : MM := (yX9_span, cX9_span, 4, (some .int))
set_option maxRecDepth 100000 in
theorem vX9_span : CV mX9_span 3 := ⟨mT 637 rfl rfl, mT 54 (by decide +kernel) rfl, ⟨by decide +kernel, by decide +kernel, by decide +kernel⟩, by decide⟩
theorem kX9_span : CI mX9_span := ⟨mT 635 (by decide +kernel) rfl, mT 636 (by decide +kernel) rfl⟩
abbrev mX2_spanFrom : MM := (yX2_spanFrom, cX2_spanFrom, 4, (some .int))
set_option maxRecDepth 100000 in
theorem vX2_spanFrom : CV mX2_spanFrom 3 := ⟨mT 641 rfl rfl, mT 57 (by decide +kernel) rfl, ⟨by decide +kernel, by decide +kernel, by decide +kernel⟩, by decide⟩
theorem kX2_spanFrom : CI mX2_spanFrom := ⟨mT 639 (by decide +kernel) rfl, mT 640 (by decide +kernel) rfl⟩
abbrev mX2_hadGotAnother : MM := (yX2_hadGotAnother, cX2_hadGotAnother, 3, (some .boolean))
set_option maxRecDepth 100000 in
theorem vX2_hadGotAnother : CV mX2_hadGotAnother 2 := ⟨mT 645 rfl rfl, mT 57 (by decide +kernel) rfl, ⟨by decide +kernel, by decide +kernel, by decide +kernel⟩, by decide⟩
theorem kX2_hadGotAnother : CI mX2_hadGotAnother := ⟨mT 644 (by decide +kernel) rfl, mT 21 (by decide +kernel) rfl⟩
abbrev mX2_firstCallOut : MM := (yX2_firstCallOut, cX2_firstCallOut, 6, (some .int))
set_option maxRecDepth 100000 in
theorem vX2_firstCallOut : CV mX2_firstCallOut 3 := ⟨mT 649 rfl rfl, mT 57 (by decide +kernel) rfl, ⟨by decide +kernel, by decide +kernel, by decide +kernel⟩, by decide⟩
theorem kX2_firstCallOut : CI mX2_firstCallOut := ⟨mT 648 (by decide +kernel) rfl, mT 22 (by decide +kernel) rfl⟩
abbrev mX2_spanTo : MM := (yX2_spanTo, cX2_spanTo, 5, (some .int))
set_option maxRecDepth 100000 in
theorem vX2_spanTo : CV mX2_spanTo 3 := ⟨mT 653 rfl rfl, mT 57 (by decide +kernel) rfl, ⟨by decide +kernel, by decide +kernel, by decide +kernel⟩, by decide⟩
theorem kX2_spanTo : CI mX2_spanTo := ⟨mT 651 (by decide +kernel) rfl, mT 652 (by decide +kernel) rfl⟩
abbrev mX9_year : MM := (yX9_year, cX9_year, 3, (some .int))
set_option maxRecDepth 100000 in
theorem vX9_year : CV mX9_year 2 := ⟨mT 657 rfl rfl, mT 54 (by decide +kernel) rfl, ⟨by decide +kernel, by decide +kernel, by decide +kernel⟩, by decide⟩
theorem kX9_year : CI mX9_year := ⟨mT 655 (by decide +kernel) rfl, mT 656 (by decide +kernel) rfl⟩
abbrev mX4_drawWants : MM := (yX4_drawWants, cX4_drawWants, 6, none)
set_option maxRecDepth 100000 in
theorem vX4_drawWants : CV mX4_drawWants 1 := ⟨mT 661 rfl rfl, mT 56 (by decide +kernel) rfl, ⟨by decide +kernel, by decide +kernel, by decide +kernel⟩, by decide⟩
theorem kX4_drawWants : CI mX4_drawWants := ⟨mT 659 (by decide +kernel) rfl, mT 660 (by decide +kernel) rfl⟩
abbrev mX2_mastersAlone : MM := (yX2_mastersAlone, cX2_mastersAlone, 4, (some .int))
set_option maxRecDepth 100000 in
theorem vX2_mastersAlone : CV mX2_mastersAlone 1 := ⟨mT 670 rfl rfl, mT 57 (by decide +kernel) rfl, ⟨by decide +kernel, by decide +kernel, by decide +kernel⟩, by decide⟩
theorem kX2_mastersAlone : CI mX2_mastersAlone := ⟨mT 668 (by decide +kernel) rfl, mT 669 (by decide +kernel) rfl⟩
abbrev mX9_keep : MM := (yX9_keep, cX9_keep, 1, (some .int))
set_option maxRecDepth 100000 in
theorem vX9_keep : CV mX9_keep 0 := ⟨mT 675 rfl rfl, mT 54 (by decide +kernel) rfl, ⟨by decide +kernel, by decide +kernel, by decide +kernel⟩, by decide⟩
theorem kX9_keep : CI mX9_keep := ⟨mT 673 (by decide +kernel) rfl, mT 674 (by decide +kernel) rfl⟩
abbrev mX6_put : MM := (yX6_put, cX6_put, 2, none)
set_option maxRecDepth 100000 in
theorem vX6_put : CV mX6_put 1 := ⟨mT 679 rfl rfl, mT 63 (by decide +kernel) rfl, ⟨by decide +kernel, by decide +kernel, by decide +kernel⟩, by decide⟩
theorem kX6_put : CI mX6_put := ⟨mT 677 (by decide +kernel) rfl, mT 678 (by decide +kernel) rfl⟩
abbrev mX9_back : MM := (yX9_back, cX9_back, 1, (some .int))
set_option maxRecDepth 100000 in
theorem vX9_back : CV mX9_back 0 := ⟨mT 684 rfl rfl, mT 54 (by decide +kernel) rfl, ⟨by decide +kernel, by decide +kernel, by decide +kernel⟩, by decide⟩
theorem kX9_back : CI mX9_back := ⟨mT 682 (by decide +kernel) rfl, mT 683 (by decide +kernel) rfl⟩
abbrev mX6_takeInto : MM := (yX6_takeInto, cX6_takeInto, 2, none)
set_option maxRecDepth 100000 in
theorem vX6_takeInto : CV mX6_takeInto 1 := ⟨mT 688 rfl rfl, mT 63 (by decide +kernel) rfl, ⟨by decide +kernel, by decide +kernel, by decide +kernel⟩, by decide⟩
theorem kX6_takeInto : CI mX6_takeInto := ⟨mT 686 (by decide +kernel) rfl, mT 687 (by decide +kernel) rfl⟩
abbrev mX9_count : MM := (yX9_count, cX9_count, 2, (some .int))
set_option maxRecDepth 100000 in
theorem vX9_count : CV mX9_count 1 := ⟨mT 692 rfl rfl, mT 54 (by decide +kernel) rfl, ⟨by decide +kernel, by decide +kernel, by decide +kernel⟩, by decide⟩
theorem kX9_count : CI mX9_count := ⟨mT 690 (by decide +kernel) rfl, mT 691 (by decide +kernel) rfl⟩
abbrev mX10_noFair : MM := (yX10_noFair, cX10_noFair, 3, none)
set_option maxRecDepth 100000 in
theorem vX10_noFair : CV mX10_noFair 1 := ⟨mT 702 rfl rfl, mT 65 (by decide +kernel) rfl, ⟨by decide +kernel, by decide +kernel, by decide +kernel⟩, by decide⟩
theorem kX10_noFair : CI mX10_noFair := ⟨mT 701 (by decide +kernel) rfl, mT 23 (by decide +kernel) rfl⟩
abbrev mX10_write : MM := (yX10_write, cX10_write, 5, (some .int))
set_option maxRecDepth 100000 in
theorem vX10_write : CV mX10_write 2 := ⟨mT 794 rfl rfl, mT 65 (by decide +kernel) rfl, ⟨by decide +kernel, by decide +kernel, by decide +kernel⟩, by decide⟩
theorem kX10_write : CI mX10_write := ⟨mT 792 (by decide +kernel) rfl, mT 793 (by decide +kernel) rfl⟩
abbrev mX10_in : MM := (yX10_in, cX10_in, 6, (some .boolean))
set_option maxRecDepth 100000 in
theorem vX10_in : CV mX10_in 3 := ⟨mT 798 rfl rfl, mT 65 (by decide +kernel) rfl, ⟨by decide +kernel, by decide +kernel, by decide +kernel⟩, by decide⟩
theorem kX10_in : Cond.static yX10_in ∈ wsT := mT 797 (by decide +kernel) rfl
abbrev mX10_wipe : MM := (yX10_wipe, cX10_wipe, 2, (some .int))
set_option maxRecDepth 100000 in
theorem vX10_wipe : CV mX10_wipe 0 := ⟨mT 803 rfl rfl, mT 65 (by decide +kernel) rfl, ⟨by decide +kernel, by decide +kernel, by decide +kernel⟩, by decide⟩
theorem kX10_wipe : CI mX10_wipe := ⟨mT 801 (by decide +kernel) rfl, mT 802 (by decide +kernel) rfl⟩
abbrev mX10_fault : MM := (yX10_fault, cX10_fault, 1, (some .int))
set_option maxRecDepth 100000 in
theorem vX10_fault : CV mX10_fault 0 := ⟨mT 807 rfl rfl, mT 65 (by decide +kernel) rfl, ⟨by decide +kernel, by decide +kernel, by decide +kernel⟩, by decide⟩
theorem kX10_fault : CI mX10_fault := ⟨mT 805 (by decide +kernel) rfl, mT 806 (by decide +kernel) rfl⟩
abbrev mX10_readAll : MM := (yX10_readAll, cX10_readAll, 2, (some .int))
set_option maxRecDepth 100000 in
theorem vX10_readAll : CV mX10_readAll 0 := ⟨mT 811 rfl rfl, mT 65 (by decide +kernel) rfl, ⟨by decide +kernel, by decide +kernel, by decide +kernel⟩, by decide⟩
theorem kX10_readAll : CI mX10_readAll := ⟨mT 810 (by decide +kernel) rfl, mT 24 (by decide +kernel) rfl⟩
abbrev mX10_item : MM := (yX10_item, cX10_item, 2, (some .boolean))
set_option maxRecDepth 100000 in
theorem vX10_item : CV mX10_item 0 := ⟨mT 815 rfl rfl, mT 65 (by decide +kernel) rfl, ⟨by decide +kernel, by decide +kernel, by decide +kernel⟩, by decide⟩
theorem kX10_item : CI mX10_item := ⟨mT 814 (by decide +kernel) rfl, mT 25 (by decide +kernel) rfl⟩
abbrev mX10_byteAt : MM := (yX10_byteAt, cX10_byteAt, 2, (some .int))
set_option maxRecDepth 100000 in
theorem vX10_byteAt : CV mX10_byteAt 1 := ⟨mT 819 rfl rfl, mT 65 (by decide +kernel) rfl, ⟨by decide +kernel, by decide +kernel, by decide +kernel⟩, by decide⟩
theorem kX10_byteAt : CI mX10_byteAt := ⟨mT 818 (by decide +kernel) rfl, mT 26 (by decide +kernel) rfl⟩
abbrev mX10_figures : MM := (yX10_figures, cX10_figures, 5, (some .boolean))
set_option maxRecDepth 100000 in
theorem vX10_figures : CV mX10_figures 1 := ⟨mT 823 rfl rfl, mT 65 (by decide +kernel) rfl, ⟨by decide +kernel, by decide +kernel, by decide +kernel⟩, by decide⟩
theorem kX10_figures : CI mX10_figures := ⟨mT 822 (by decide +kernel) rfl, mT 27 (by decide +kernel) rfl⟩
abbrev mX10_lay : MM := (yX10_lay, cX10_lay, 2, (some .int))
set_option maxRecDepth 100000 in
theorem vX10_lay : CV mX10_lay 0 := ⟨mT 832 rfl rfl, mT 65 (by decide +kernel) rfl, ⟨by decide +kernel, by decide +kernel, by decide +kernel⟩, by decide⟩
theorem kX10_lay : CI mX10_lay := ⟨mT 830 (by decide +kernel) rfl, mT 831 (by decide +kernel) rfl⟩
abbrev mX10_copy : MM := (yX10_copy, cX10_copy, 4, none)
set_option maxRecDepth 100000 in
theorem vX10_copy : CV mX10_copy 2 := ⟨mT 836 rfl rfl, mT 65 (by decide +kernel) rfl, ⟨by decide +kernel, by decide +kernel, by decide +kernel⟩, by decide⟩
theorem kX10_copy : CI mX10_copy := ⟨mT 835 (by decide +kernel) rfl, mT 28 (by decide +kernel) rfl⟩
abbrev mX10_lad : MM := (yX10_lad, cX10_lad, 3, (some .int))
set_option maxRecDepth 100000 in
theorem vX10_lad : CV mX10_lad 2 := ⟨mT 840 rfl rfl, mT 65 (by decide +kernel) rfl, ⟨by decide +kernel, by decide +kernel, by decide +kernel⟩, by decide⟩
theorem kX10_lad : CI mX10_lad := ⟨mT 838 (by decide +kernel) rfl, mT 839 (by decide +kernel) rfl⟩
abbrev mX10_isLad : MM := (yX10_isLad, cX10_isLad, 2, (some .boolean))
set_option maxRecDepth 100000 in
theorem vX10_isLad : CV mX10_isLad 1 := ⟨mT 844 rfl rfl, mT 65 (by decide +kernel) rfl, ⟨by decide +kernel, by decide +kernel, by decide +kernel⟩, by decide⟩
theorem kX10_isLad : CI mX10_isLad := ⟨mT 843 (by decide +kernel) rfl, mT 29 (by decide +kernel) rfl⟩
abbrev mX10_goFair : MM := (yX10_goFair, cX10_goFair, 3, none)
set_option maxRecDepth 100000 in
theorem vX10_goFair : CV mX10_goFair 1 := ⟨mT 849 rfl rfl, mT 65 (by decide +kernel) rfl, ⟨by decide +kernel, by decide +kernel, by decide +kernel⟩, by decide⟩
theorem kX10_goFair : CI mX10_goFair := ⟨mT 848 (by decide +kernel) rfl, mT 30 (by decide +kernel) rfl⟩
abbrev mX10_begin : MM := (yX10_begin, cX10_begin, 3, none)
set_option maxRecDepth 100000 in
theorem vX10_begin : CV mX10_begin 1 := ⟨mT 853 rfl rfl, mT 65 (by decide +kernel) rfl, ⟨by decide +kernel, by decide +kernel, by decide +kernel⟩, by decide⟩
theorem kX10_begin : CI mX10_begin := ⟨mT 852 (by decide +kernel) rfl, mT 31 (by decide +kernel) rfl⟩
abbrev mX10_callOne : MM := (yX10_callOne, cX10_callOne, 3, none)
set_option maxRecDepth 100000 in
theorem vX10_callOne : CV mX10_callOne 2 := ⟨mT 857 rfl rfl, mT 65 (by decide +kernel) rfl, ⟨by decide +kernel, by decide +kernel, by decide +kernel⟩, by decide⟩
theorem kX10_callOne : CI mX10_callOne := ⟨mT 856 (by decide +kernel) rfl, mT 32 (by decide +kernel) rfl⟩
abbrev mX10_callBelow : MM := (yX10_callBelow, cX10_callBelow, 5, none)
set_option maxRecDepth 100000 in
theorem vX10_callBelow : CV mX10_callBelow 1 := ⟨mT 861 rfl rfl, mT 65 (by decide +kernel) rfl, ⟨by decide +kernel, by decide +kernel, by decide +kernel⟩, by decide⟩
theorem kX10_callBelow : CI mX10_callBelow := ⟨mT 860 (by decide +kernel) rfl, mT 33 (by decide +kernel) rfl⟩
abbrev mX10_inSet : MM := (yX10_inSet, cX10_inSet, 5, (some .int))
set_option maxRecDepth 100000 in
theorem vX10_inSet : CV mX10_inSet 2 := ⟨mT 865 rfl rfl, mT 65 (by decide +kernel) rfl, ⟨by decide +kernel, by decide +kernel, by decide +kernel⟩, by decide⟩
theorem kX10_inSet : CI mX10_inSet := ⟨mT 864 (by decide +kernel) rfl, mT 34 (by decide +kernel) rfl⟩
abbrev mX10_isIn : MM := (yX10_isIn, cX10_isIn, 4, (some .boolean))
set_option maxRecDepth 100000 in
theorem vX10_isIn : CV mX10_isIn 3 := ⟨mT 869 rfl rfl, mT 65 (by decide +kernel) rfl, ⟨by decide +kernel, by decide +kernel, by decide +kernel⟩, by decide⟩
theorem kX10_isIn : CI mX10_isIn := ⟨mT 868 (by decide +kernel) rfl, mT 35 (by decide +kernel) rfl⟩
abbrev mX10_boundOf : MM := (yX10_boundOf, cX10_boundOf, 5, (some .int))
set_option maxRecDepth 100000 in
theorem vX10_boundOf : CV mX10_boundOf 2 := ⟨mT 873 rfl rfl, mT 65 (by decide +kernel) rfl, ⟨by decide +kernel, by decide +kernel, by decide +kernel⟩, by decide⟩
theorem kX10_boundOf : CI mX10_boundOf := ⟨mT 872 (by decide +kernel) rfl, mT 36 (by decide +kernel) rfl⟩
abbrev mX10_bits : MM := (yX10_bits, cX10_bits, 3, (some .int))
set_option maxRecDepth 100000 in
theorem vX10_bits : CV mX10_bits 1 := ⟨mT 876 rfl rfl, mT 65 (by decide +kernel) rfl, ⟨by decide +kernel, by decide +kernel, by decide +kernel⟩, by decide⟩
theorem kX10_bits : Cond.static yX10_bits ∈ wsT := mT 875 (by decide +kernel) rfl
abbrev mX10_give : MM := (yX10_give, cX10_give, 5, none)
set_option maxRecDepth 100000 in
theorem vX10_give : CV mX10_give 3 := ⟨mT 880 rfl rfl, mT 65 (by decide +kernel) rfl, ⟨by decide +kernel, by decide +kernel, by decide +kernel⟩, by decide⟩
theorem kX10_give : CI mX10_give := ⟨mT 879 (by decide +kernel) rfl, mT 37 (by decide +kernel) rfl⟩
abbrev mX10_has : MM := (yX10_has, cX10_has, 2, (some .boolean))
set_option maxRecDepth 100000 in
theorem vX10_has : CV mX10_has 2 := ⟨mT 883 rfl rfl, mT 65 (by decide +kernel) rfl, ⟨by decide +kernel, by decide +kernel, by decide +kernel⟩, by decide⟩
theorem kX10_has : Cond.static yX10_has ∈ wsT := mT 882 (by decide +kernel) rfl
abbrev mX10_callAbove : MM := (yX10_callAbove, cX10_callAbove, 3, none)
set_option maxRecDepth 100000 in
theorem vX10_callAbove : CV mX10_callAbove 1 := ⟨mT 887 rfl rfl, mT 65 (by decide +kernel) rfl, ⟨by decide +kernel, by decide +kernel, by decide +kernel⟩, by decide⟩
theorem kX10_callAbove : CI mX10_callAbove := ⟨mT 886 (by decide +kernel) rfl, mT 38 (by decide +kernel) rfl⟩
abbrev mX10_callSealed : MM := (yX10_callSealed, cX10_callSealed, 3, none)
set_option maxRecDepth 100000 in
theorem vX10_callSealed : CV mX10_callSealed 1 := ⟨mT 891 rfl rfl, mT 65 (by decide +kernel) rfl, ⟨by decide +kernel, by decide +kernel, by decide +kernel⟩, by decide⟩
theorem kX10_callSealed : CI mX10_callSealed := ⟨mT 890 (by decide +kernel) rfl, mT 39 (by decide +kernel) rfl⟩
abbrev mX10_gainOf : MM := (yX10_gainOf, cX10_gainOf, 2, (some .int))
set_option maxRecDepth 100000 in
theorem vX10_gainOf : CV mX10_gainOf 1 := ⟨mT 895 rfl rfl, mT 65 (by decide +kernel) rfl, ⟨by decide +kernel, by decide +kernel, by decide +kernel⟩, by decide⟩
theorem kX10_gainOf : CI mX10_gainOf := ⟨mT 894 (by decide +kernel) rfl, mT 40 (by decide +kernel) rfl⟩
abbrev mX10_master : MM := (yX10_master, cX10_master, 3, (some .int))
set_option maxRecDepth 100000 in
theorem vX10_master : CV mX10_master 2 := ⟨mT 899 rfl rfl, mT 65 (by decide +kernel) rfl, ⟨by decide +kernel, by decide +kernel, by decide +kernel⟩, by decide⟩
theorem kX10_master : CI mX10_master := ⟨mT 897 (by decide +kernel) rfl, mT 898 (by decide +kernel) rfl⟩
abbrev mX10_isMaster : MM := (yX10_isMaster, cX10_isMaster, 2, (some .boolean))
set_option maxRecDepth 100000 in
theorem vX10_isMaster : CV mX10_isMaster 1 := ⟨mT 903 rfl rfl, mT 65 (by decide +kernel) rfl, ⟨by decide +kernel, by decide +kernel, by decide +kernel⟩, by decide⟩
theorem kX10_isMaster : CI mX10_isMaster := ⟨mT 902 (by decide +kernel) rfl, mT 41 (by decide +kernel) rfl⟩
abbrev mX10_ladsOf : MM := (yX10_ladsOf, cX10_ladsOf, 4, (some .int))
set_option maxRecDepth 100000 in
theorem vX10_ladsOf : CV mX10_ladsOf 1 := ⟨mT 907 rfl rfl, mT 65 (by decide +kernel) rfl, ⟨by decide +kernel, by decide +kernel, by decide +kernel⟩, by decide⟩
theorem kX10_ladsOf : CI mX10_ladsOf := ⟨mT 906 (by decide +kernel) rfl, mT 42 (by decide +kernel) rfl⟩
abbrev mX10_mostOf : MM := (yX10_mostOf, cX10_mostOf, 4, (some .int))
set_option maxRecDepth 100000 in
theorem vX10_mostOf : CV mX10_mostOf 1 := ⟨mT 911 rfl rfl, mT 65 (by decide +kernel) rfl, ⟨by decide +kernel, by decide +kernel, by decide +kernel⟩, by decide⟩
theorem kX10_mostOf : CI mX10_mostOf := ⟨mT 910 (by decide +kernel) rfl, mT 43 (by decide +kernel) rfl⟩
abbrev mX10_wants : MM := (yX10_wants, cX10_wants, 4, (some .int))
set_option maxRecDepth 100000 in
theorem vX10_wants : CV mX10_wants 3 := ⟨mT 915 rfl rfl, mT 65 (by decide +kernel) rfl, ⟨by decide +kernel, by decide +kernel, by decide +kernel⟩, by decide⟩
theorem kX10_wants : CI mX10_wants := ⟨mT 913 (by decide +kernel) rfl, mT 914 (by decide +kernel) rfl⟩
abbrev mX10_all : MM := (yX10_all, cX10_all, 4, (some .int))
set_option maxRecDepth 100000 in
theorem vX10_all : CV mX10_all 1 := ⟨mT 919 rfl rfl, mT 65 (by decide +kernel) rfl, ⟨by decide +kernel, by decide +kernel, by decide +kernel⟩, by decide⟩
theorem kX10_all : CI mX10_all := ⟨mT 917 (by decide +kernel) rfl, mT 918 (by decide +kernel) rfl⟩
abbrev mX10_limit : MM := (yX10_limit, cX10_limit, 4, (some .int))
set_option maxRecDepth 100000 in
theorem vX10_limit : CV mX10_limit 2 := ⟨mT 923 rfl rfl, mT 65 (by decide +kernel) rfl, ⟨by decide +kernel, by decide +kernel, by decide +kernel⟩, by decide⟩
theorem kX10_limit : CI mX10_limit := ⟨mT 921 (by decide +kernel) rfl, mT 922 (by decide +kernel) rfl⟩
abbrev mX10_note : MM := (yX10_note, cX10_note, 4, (some .int))
set_option maxRecDepth 100000 in
theorem vX10_note : CV mX10_note 2 := ⟨mT 927 rfl rfl, mT 65 (by decide +kernel) rfl, ⟨by decide +kernel, by decide +kernel, by decide +kernel⟩, by decide⟩
theorem kX10_note : CI mX10_note := ⟨mT 926 (by decide +kernel) rfl, mT 44 (by decide +kernel) rfl⟩
abbrev mX10_calls : MM := (yX10_calls, cX10_calls, 3, (some .int))
set_option maxRecDepth 100000 in
theorem vX10_calls : CV mX10_calls 1 := ⟨mT 931 rfl rfl, mT 65 (by decide +kernel) rfl, ⟨by decide +kernel, by decide +kernel, by decide +kernel⟩, by decide⟩
theorem kX10_calls : CI mX10_calls := ⟨mT 929 (by decide +kernel) rfl, mT 930 (by decide +kernel) rfl⟩
abbrev mX10_step : MM := (yX10_step, cX10_step, 3, (some .int))
set_option maxRecDepth 100000 in
theorem vX10_step : CV mX10_step 1 := ⟨mT 935 rfl rfl, mT 65 (by decide +kernel) rfl, ⟨by decide +kernel, by decide +kernel, by decide +kernel⟩, by decide⟩
theorem kX10_step : CI mX10_step := ⟨mT 933 (by decide +kernel) rfl, mT 934 (by decide +kernel) rfl⟩
abbrev mX10_undo : MM := (yX10_undo, cX10_undo, 3, (some .int))
set_option maxRecDepth 100000 in
theorem vX10_undo : CV mX10_undo 0 := ⟨mT 939 rfl rfl, mT 65 (by decide +kernel) rfl, ⟨by decide +kernel, by decide +kernel, by decide +kernel⟩, by decide⟩
theorem kX10_undo : CI mX10_undo := ⟨mT 937 (by decide +kernel) rfl, mT 938 (by decide +kernel) rfl⟩
abbrev mX10_lie : MM := (yX10_lie, cX10_lie, 9, (some .int))
set_option maxRecDepth 100000 in
theorem vX10_lie : CV mX10_lie 2 := ⟨mT 943 rfl rfl, mT 65 (by decide +kernel) rfl, ⟨by decide +kernel, by decide +kernel, by decide +kernel⟩, by decide⟩
theorem kX10_lie : CI mX10_lie := ⟨mT 941 (by decide +kernel) rfl, mT 942 (by decide +kernel) rfl⟩
abbrev mX10_game : MM := (yX10_game, cX10_game, 11, (some .int))
set_option maxRecDepth 100000 in
theorem vX10_game : CV mX10_game 3 := ⟨mT 947 rfl rfl, mT 65 (by decide +kernel) rfl, ⟨by decide +kernel, by decide +kernel, by decide +kernel⟩, by decide⟩
theorem kX10_game : CI mX10_game := ⟨mT 945 (by decide +kernel) rfl, mT 946 (by decide +kernel) rfl⟩
abbrev mX10_rest : MM := (yX10_rest, cX10_rest, 9, (some .int))
set_option maxRecDepth 100000 in
theorem vX10_rest : CV mX10_rest 2 := ⟨mT 951 rfl rfl, mT 65 (by decide +kernel) rfl, ⟨by decide +kernel, by decide +kernel, by decide +kernel⟩, by decide⟩
theorem kX10_rest : CI mX10_rest := ⟨mT 949 (by decide +kernel) rfl, mT 950 (by decide +kernel) rfl⟩
abbrev mX10_takePrices : MM := (yX10_takePrices, cX10_takePrices, 5, (some .int))
set_option maxRecDepth 100000 in
theorem vX10_takePrices : CV mX10_takePrices 1 := ⟨mT 955 rfl rfl, mT 65 (by decide +kernel) rfl, ⟨by decide +kernel, by decide +kernel, by decide +kernel⟩, by decide⟩
theorem kX10_takePrices : CI mX10_takePrices := ⟨mT 954 (by decide +kernel) rfl, mT 45 (by decide +kernel) rfl⟩
abbrev mX10_canRest : MM := (yX10_canRest, cX10_canRest, 2, (some .boolean))
set_option maxRecDepth 100000 in
theorem vX10_canRest : CV mX10_canRest 0 := ⟨mT 959 rfl rfl, mT 65 (by decide +kernel) rfl, ⟨by decide +kernel, by decide +kernel, by decide +kernel⟩, by decide⟩
theorem kX10_canRest : CI mX10_canRest := ⟨mT 958 (by decide +kernel) rfl, mT 46 (by decide +kernel) rfl⟩
abbrev mX10_codes : MM := (yX10_codes, cX10_codes, 3, (some .int))
set_option maxRecDepth 100000 in
theorem vX10_codes : CV mX10_codes 0 := ⟨mT 963 rfl rfl, mT 65 (by decide +kernel) rfl, ⟨by decide +kernel, by decide +kernel, by decide +kernel⟩, by decide⟩
theorem kX10_codes : CI mX10_codes := ⟨mT 962 (by decide +kernel) rfl, mT 47 (by decide +kernel) rfl⟩
abbrev mX10_seatAll : MM := (yX10_seatAll, cX10_seatAll, 5, (some .boolean))
set_option maxRecDepth 100000 in
theorem vX10_seatAll : CV mX10_seatAll 1 := ⟨mT 967 rfl rfl, mT 65 (by decide +kernel) rfl, ⟨by decide +kernel, by decide +kernel, by decide +kernel⟩, by decide⟩
theorem kX10_seatAll : CI mX10_seatAll := ⟨mT 966 (by decide +kernel) rfl, mT 48 (by decide +kernel) rfl⟩
abbrev mX10_isAtRest : MM := (yX10_isAtRest, cX10_isAtRest, 5, (some .boolean))
set_option maxRecDepth 100000 in
theorem vX10_isAtRest : CV mX10_isAtRest 0 := ⟨mT 971 rfl rfl, mT 65 (by decide +kernel) rfl, ⟨by decide +kernel, by decide +kernel, by decide +kernel⟩, by decide⟩
theorem kX10_isAtRest : CI mX10_isAtRest := ⟨mT 970 (by decide +kernel) rfl, mT 49 (by decide +kernel) rfl⟩
abbrev mX10_joint : MM := (yX10_joint, cX10_joint, 2, (some .int))
set_option maxRecDepth 100000 in
theorem vX10_joint : CV mX10_joint 1 := ⟨mT 975 rfl rfl, mT 65 (by decide +kernel) rfl, ⟨by decide +kernel, by decide +kernel, by decide +kernel⟩, by decide⟩
theorem kX10_joint : CI mX10_joint := ⟨mT 973 (by decide +kernel) rfl, mT 974 (by decide +kernel) rfl⟩
abbrev mX10_bestWay : MM := (yX10_bestWay, cX10_bestWay, 7, (some .int))
set_option maxRecDepth 100000 in
theorem vX10_bestWay : CV mX10_bestWay 1 := ⟨mT 979 rfl rfl, mT 65 (by decide +kernel) rfl, ⟨by decide +kernel, by decide +kernel, by decide +kernel⟩, by decide⟩
theorem kX10_bestWay : CI mX10_bestWay := ⟨mT 978 (by decide +kernel) rfl, mT 50 (by decide +kernel) rfl⟩
abbrev mX10_sumOf : MM := (yX10_sumOf, cX10_sumOf, 4, (some .int))
set_option maxRecDepth 100000 in
theorem vX10_sumOf : CV mX10_sumOf 1 := ⟨mT 983 rfl rfl, mT 65 (by decide +kernel) rfl, ⟨by decide +kernel, by decide +kernel, by decide +kernel⟩, by decide⟩
theorem kX10_sumOf : CI mX10_sumOf := ⟨mT 982 (by decide +kernel) rfl, mT 51 (by decide +kernel) rfl⟩
abbrev mX10_pay : MM := (yX10_pay, cX10_pay, 3, (some .int))
set_option maxRecDepth 100000 in
theorem vX10_pay : CV mX10_pay 1 := ⟨mT 987 rfl rfl, mT 65 (by decide +kernel) rfl, ⟨by decide +kernel, by decide +kernel, by decide +kernel⟩, by decide⟩
theorem kX10_pay : CI mX10_pay := ⟨mT 985 (by decide +kernel) rfl, mT 986 (by decide +kernel) rfl⟩
abbrev mX10_seen : MM := (yX10_seen, cX10_seen, 3, (some .int))
set_option maxRecDepth 100000 in
theorem vX10_seen : CV mX10_seen 2 := ⟨mT 991 rfl rfl, mT 65 (by decide +kernel) rfl, ⟨by decide +kernel, by decide +kernel, by decide +kernel⟩, by decide⟩
theorem kX10_seen : CI mX10_seen := ⟨mT 989 (by decide +kernel) rfl, mT 990 (by decide +kernel) rfl⟩
abbrev mX10_forget : MM := (yX10_forget, cX10_forget, 2, (some .int))
set_option maxRecDepth 100000 in
theorem vX10_forget : CV mX10_forget 0 := ⟨mT 995 rfl rfl, mT 65 (by decide +kernel) rfl, ⟨by decide +kernel, by decide +kernel, by decide +kernel⟩, by decide⟩
theorem kX10_forget : CI mX10_forget := ⟨mT 993 (by decide +kernel) rfl, mT 994 (by decide +kernel) rfl⟩
abbrev mX10_cousins : MM := (yX10_cousins, cX10_cousins, 3, (some .int))
set_option maxRecDepth 100000 in
theorem vX10_cousins : CV mX10_cousins 0 := ⟨mT 999 rfl rfl, mT 65 (by decide +kernel) rfl, ⟨by decide +kernel, by decide +kernel, by decide +kernel⟩, by decide⟩
theorem kX10_cousins : CI mX10_cousins := ⟨mT 997 (by decide +kernel) rfl, mT 998 (by decide +kernel) rfl⟩
abbrev mX10_isSeenSo : MM := (yX10_isSeenSo, cX10_isSeenSo, 4, (some .boolean))
set_option maxRecDepth 100000 in
theorem vX10_isSeenSo : CV mX10_isSeenSo 1 := ⟨mT 1003 rfl rfl, mT 65 (by decide +kernel) rfl, ⟨by decide +kernel, by decide +kernel, by decide +kernel⟩, by decide⟩
theorem kX10_isSeenSo : CI mX10_isSeenSo := ⟨mT 1002 (by decide +kernel) rfl, mT 52 (by decide +kernel) rfl⟩
abbrev mX10_span : MM := (yX10_span, cX10_span, 7, (some .int))
set_option maxRecDepth 100000 in
theorem vX10_span : CV mX10_span 3 := ⟨mT 1007 rfl rfl, mT 65 (by decide +kernel) rfl, ⟨by decide +kernel, by decide +kernel, by decide +kernel⟩, by decide⟩
theorem kX10_span : CI mX10_span := ⟨mT 1005 (by decide +kernel) rfl, mT 1006 (by decide +kernel) rfl⟩
abbrev mX10_year : MM := (yX10_year, cX10_year, 6, (some .int))
set_option maxRecDepth 100000 in
theorem vX10_year : CV mX10_year 2 := ⟨mT 1011 rfl rfl, mT 65 (by decide +kernel) rfl, ⟨by decide +kernel, by decide +kernel, by decide +kernel⟩, by decide⟩
theorem kX10_year : CI mX10_year := ⟨mT 1009 (by decide +kernel) rfl, mT 1010 (by decide +kernel) rfl⟩
abbrev mX10_keep : MM := (yX10_keep, cX10_keep, 1, (some .int))
set_option maxRecDepth 100000 in
theorem vX10_keep : CV mX10_keep 0 := ⟨mT 1021 rfl rfl, mT 65 (by decide +kernel) rfl, ⟨by decide +kernel, by decide +kernel, by decide +kernel⟩, by decide⟩
theorem kX10_keep : CI mX10_keep := ⟨mT 1019 (by decide +kernel) rfl, mT 1020 (by decide +kernel) rfl⟩
abbrev mX10_back : MM := (yX10_back, cX10_back, 1, (some .int))
set_option maxRecDepth 100000 in
theorem vX10_back : CV mX10_back 0 := ⟨mT 1025 rfl rfl, mT 65 (by decide +kernel) rfl, ⟨by decide +kernel, by decide +kernel, by decide +kernel⟩, by decide⟩
theorem kX10_back : CI mX10_back := ⟨mT 1023 (by decide +kernel) rfl, mT 1024 (by decide +kernel) rfl⟩
abbrev mX10_count : MM := (yX10_count, cX10_count, 2, (some .int))
set_option maxRecDepth 100000 in
theorem vX10_count : CV mX10_count 1 := ⟨mT 1029 rfl rfl, mT 65 (by decide +kernel) rfl, ⟨by decide +kernel, by decide +kernel, by decide +kernel⟩, by decide⟩
theorem kX10_count : CI mX10_count := ⟨mT 1027 (by decide +kernel) rfl, mT 1028 (by decide +kernel) rfl⟩
theorem lkL_9 : Cond.methodLink RL 9 yX9_init ∈ wsT := mT 70 (by decide +kernel) rfl
theorem lk9_3 : Cond.methodLink RX9 3 objectInit ∈ wsT := mT 73 (by decide +kernel) rfl
theorem lk9_11 : Cond.methodLink RX9 11 yX8_init ∈ wsT := mT 78 (by decide +kernel) rfl
theorem lk8_3 : Cond.methodLink RX8 3 objectInit ∈ wsT := mT 81 (by decide +kernel) rfl
theorem lk9_18 : Cond.methodLink RX9 18 yX4_init ∈ wsT := mT 97 (by decide +kernel) rfl
theorem lk4_3 : Cond.methodLink RX4 3 objectInit ∈ wsT := mT 100 (by decide +kernel) rfl
theorem lk9_28 : Cond.methodLink RX9 28 yX2_init ∈ wsT := mT 146 (by decide +kernel) rfl
theorem lk2_3 : Cond.methodLink RX2 3 objectInit ∈ wsT := mT 149 (by decide +kernel) rfl
theorem lk9_35 : Cond.methodLink RX9 35 yX1_init ∈ wsT := mT 167 (by decide +kernel) rfl
theorem lk1_3 : Cond.methodLink RX1 3 objectInit ∈ wsT := mT 170 (by decide +kernel) rfl
theorem lk9_42 : Cond.methodLink RX9 42 yX3_init ∈ wsT := mT 193 (by decide +kernel) rfl
theorem lk3_3 : Cond.methodLink RX3 3 objectInit ∈ wsT := mT 196 (by decide +kernel) rfl
theorem lk9_49 : Cond.methodLink RX9 49 yX5_init ∈ wsT := mT 217 (by decide +kernel) rfl
theorem lk5_3 : Cond.methodLink RX5 3 objectInit ∈ wsT := mT 220 (by decide +kernel) rfl
theorem lk9_56 : Cond.methodLink RX9 56 yX7_init ∈ wsT := mT 242 (by decide +kernel) rfl
theorem lk7_3 : Cond.methodLink RX7 3 objectInit ∈ wsT := mT 245 (by decide +kernel) rfl
theorem lk9_63 : Cond.methodLink RX9 63 yX0_init ∈ wsT := mT 259 (by decide +kernel) rfl
theorem lk0_3 : Cond.methodLink RX0 3 objectInit ∈ wsT := mT 262 (by decide +kernel) rfl
theorem lk9_70 : Cond.methodLink RX9 70 yX6_init ∈ wsT := mT 276 (by decide +kernel) rfl
theorem lk6_3 : Cond.methodLink RX6 3 objectInit ∈ wsT := mT 279 (by decide +kernel) rfl
theorem lk9_75 : Cond.methodLink RX9 75 yX4_clear ∈ wsT := mT 289 (by decide +kernel) rfl
theorem lk9_78 : Cond.methodLink RX9 78 yX4_addMaster ∈ wsT := mT 293 (by decide +kernel) rfl
theorem lk9_82 : Cond.methodLink RX9 82 yX4_addLad ∈ wsT := mT 300 (by decide +kernel) rfl
theorem lk4_43 : Cond.methodLink RX4 43 yJ7_fill_53178 ∈ wsT := mT 304 (by decide +kernel) rfl
theorem lk9_86 : Cond.methodLink RX9 86 yX4_addWant ∈ wsT := mT 307 (by decide +kernel) rfl
theorem lk4_49 : Cond.methodLink RX4 49 yX4_hasLad ∈ wsT := mT 311 (by decide +kernel) rfl
theorem lk4_53 : Cond.methodLink RX4 53 yX4_hasMaster ∈ wsT := mT 315 (by decide +kernel) rfl
theorem lkL_15 : Cond.methodLink RL 15 yX9_write ∈ wsT := mT 350 (by decide +kernel) rfl
theorem lk9_90 : Cond.methodLink RX9 90 yX9_isWithin ∈ wsT := mT 354 (by decide +kernel) rfl
theorem lk9_97 : Cond.methodLink RX9 97 yX8_append ∈ wsT := mT 355 (by decide +kernel) rfl
theorem lkL_20 : Cond.methodLink RL 20 yX9_wipe ∈ wsT := mT 359 (by decide +kernel) rfl
theorem lkL_25 : Cond.methodLink RL 25 yX9_fault ∈ wsT := mT 363 (by decide +kernel) rfl
theorem lk9_101 : Cond.methodLink RX9 101 yX8_readInto ∈ wsT := mT 367 (by decide +kernel) rfl
theorem lk8_23 : Cond.methodLink RX8 23 yX4_clear ∈ wsT := mT 371 (by decide +kernel) rfl
theorem lk8_28 : Cond.methodLink RX8 28 yX8_numbersOf ∈ wsT := mT 372 (by decide +kernel) rfl
theorem lk8_32 : Cond.methodLink RX8 32 yX8_readNumbers ∈ wsT := mT 375 (by decide +kernel) rfl
theorem lk8_58 : Cond.methodLink RX8 58 yX8_figuresAt ∈ wsT := mT 379 (by decide +kernel) rfl
theorem lk8_68 : Cond.methodLink RX8 68 yX8_isFigureAt ∈ wsT := mT 383 (by decide +kernel) rfl
theorem lk8_61 : Cond.methodLink RX8 61 yX8_numberAt ∈ wsT := mT 387 (by decide +kernel) rfl
theorem lk8_64 : Cond.methodLink RX8 64 yX8_isSignAt ∈ wsT := mT 391 (by decide +kernel) rfl
theorem lk8_36 : Cond.methodLink RX8 36 yX8_tell ∈ wsT := mT 395 (by decide +kernel) rfl
theorem lk8_40 : Cond.methodLink RX8 40 yX4_addMaster ∈ wsT := mT 399 (by decide +kernel) rfl
theorem lk8_44 : Cond.methodLink RX8 44 yX4_addLad ∈ wsT := mT 400 (by decide +kernel) rfl
theorem lk8_48 : Cond.methodLink RX8 48 yX4_addWant ∈ wsT := mT 401 (by decide +kernel) rfl
theorem lk8_52 : Cond.methodLink RX8 52 yX4_tellCalls ∈ wsT := mT 402 (by decide +kernel) rfl
theorem lk8_55 : Cond.methodLink RX8 55 yX4_tellStep ∈ wsT := mT 406 (by decide +kernel) rfl
theorem lkL_29 : Cond.methodLink RL 29 yX9_lay ∈ wsT := mT 410 (by decide +kernel) rfl
theorem lk9_111 : Cond.methodLink RX9 111 yX4_copyFrom ∈ wsT := mT 414 (by decide +kernel) rfl
theorem lk4_33 : Cond.methodLink RX4 33 arraycopyName ∈ wsT := mT 418 (by decide +kernel) rfl
theorem lkL_33 : Cond.methodLink RL 33 yX9_lad ∈ wsT := mT 421 (by decide +kernel) rfl
theorem lk9_120 : Cond.methodLink RX9 120 yX4_hasLad ∈ wsT := mT 425 (by decide +kernel) rfl
theorem lk9_130 : Cond.methodLink RX9 130 yX2_hold ∈ wsT := mT 426 (by decide +kernel) rfl
theorem lk2_24 : Cond.methodLink RX2 24 yJ7_fill_53178 ∈ wsT := mT 430 (by decide +kernel) rfl
theorem lk2_39 : Cond.methodLink RX2 39 yX4_boundOf ∈ wsT := mT 431 (by decide +kernel) rfl
theorem lk4_56 : Cond.methodLink RX4 56 Lib.Math.min.name ∈ wsT := mT 435 (by decide +kernel) rfl
theorem lk2_46 : Cond.methodLink RX2 46 yX2_callFromBelow ∈ wsT := mT 438 (by decide +kernel) rfl
theorem lk2_54 : Cond.methodLink RX2 54 yX2_howManyIn ∈ wsT := mT 442 (by decide +kernel) rfl
theorem lk2_65 : Cond.methodLink RX2 65 yX2_isIn ∈ wsT := mT 446 (by decide +kernel) rfl
theorem lk2_61 : Cond.methodLink RX2 61 yX2_hire ∈ wsT := mT 450 (by decide +kernel) rfl
theorem lk2_50 : Cond.methodLink RX2 50 yX2_callFromAbove ∈ wsT := mT 454 (by decide +kernel) rfl
theorem lk9_140 : Cond.methodLink RX9 140 yX2_gainOf ∈ wsT := mT 458 (by decide +kernel) rfl
theorem lkL_38 : Cond.methodLink RL 38 yX9_master ∈ wsT := mT 462 (by decide +kernel) rfl
theorem lk9_144 : Cond.methodLink RX9 144 yX4_hasMaster ∈ wsT := mT 466 (by decide +kernel) rfl
theorem lk9_150 : Cond.methodLink RX9 150 yX2_ladsOf ∈ wsT := mT 467 (by decide +kernel) rfl
theorem lk9_153 : Cond.methodLink RX9 153 yX2_mostYearsOf ∈ wsT := mT 471 (by decide +kernel) rfl
theorem lk2_73 : Cond.methodLink RX2 73 Lib.Math.max.name ∈ wsT := mT 475 (by decide +kernel) rfl
theorem lkL_42 : Cond.methodLink RL 42 yX9_wants ∈ wsT := mT 478 (by decide +kernel) rfl
theorem lk9_160 : Cond.methodLink RX9 160 yX4_boundOf ∈ wsT := mT 482 (by decide +kernel) rfl
theorem lkL_47 : Cond.methodLink RL 47 yX9_all ∈ wsT := mT 483 (by decide +kernel) rfl
theorem lk9_164 : Cond.methodLink RX9 164 yX2_yearsOfAll ∈ wsT := mT 487 (by decide +kernel) rfl
theorem lk9_167 : Cond.methodLink RX9 167 yX2_gainsOfAll ∈ wsT := mT 491 (by decide +kernel) rfl
theorem lk2_78 : Cond.methodLink RX2 78 yX2_gainOf ∈ wsT := mT 495 (by decide +kernel) rfl
theorem lk9_170 : Cond.methodLink RX9 170 yX2_ladsHired ∈ wsT := mT 496 (by decide +kernel) rfl
theorem lkL_52 : Cond.methodLink RL 52 yX9_limit ∈ wsT := mT 500 (by decide +kernel) rfl
theorem lk9_173 : Cond.methodLink RX9 173 yX9_change ∈ wsT := mT 504 (by decide +kernel) rfl
theorem lk9_245 : Cond.methodLink RX9 245 yX0_note ∈ wsT := mT 508 (by decide +kernel) rfl
theorem lk0_22 : Cond.methodLink RX0 22 arraycopyName ∈ wsT := mT 512 (by decide +kernel) rfl
theorem lkL_56 : Cond.methodLink RL 56 yX9_calls ∈ wsT := mT 513 (by decide +kernel) rfl
theorem lkL_60 : Cond.methodLink RL 60 yX9_step ∈ wsT := mT 517 (by decide +kernel) rfl
theorem lkL_64 : Cond.methodLink RL 64 yX9_undo ∈ wsT := mT 521 (by decide +kernel) rfl
theorem lk9_176 : Cond.methodLink RX9 176 yX0_takeBack ∈ wsT := mT 525 (by decide +kernel) rfl
theorem lkL_68 : Cond.methodLink RL 68 yX9_lie ∈ wsT := mT 529 (by decide +kernel) rfl
theorem lk9_179 : Cond.methodLink RX9 179 yX9_gainBySaying ∈ wsT := mT 533 (by decide +kernel) rfl
theorem lkL_72 : Cond.methodLink RL 72 yX9_game ∈ wsT := mT 537 (by decide +kernel) rfl
theorem lk9_182 : Cond.methodLink RX9 182 yX1_play ∈ wsT := mT 541 (by decide +kernel) rfl
theorem lk1_25 : Cond.methodLink RX1 25 yX2_hold ∈ wsT := mT 545 (by decide +kernel) rfl
theorem lk1_31 : Cond.methodLink RX1 31 yX2_gainOf ∈ wsT := mT 546 (by decide +kernel) rfl
theorem lk9_186 : Cond.methodLink RX9 186 yX1_findRests ∈ wsT := mT 547 (by decide +kernel) rfl
theorem lk1_39 : Cond.methodLink RX1 39 yX1_isRest ∈ wsT := mT 551 (by decide +kernel) rfl
theorem lk1_43 : Cond.methodLink RX1 43 yX1_noteRest ∈ wsT := mT 555 (by decide +kernel) rfl
theorem lkL_76 : Cond.methodLink RL 76 yX9_rest ∈ wsT := mT 559 (by decide +kernel) rfl
theorem lk9_198 : Cond.methodLink RX9 198 yX3_search ∈ wsT := mT 563 (by decide +kernel) rfl
theorem lk3_29 : Cond.methodLink RX3 29 arraycopyName ∈ wsT := mT 567 (by decide +kernel) rfl
theorem lk3_39 : Cond.methodLink RX3 39 yX3_mostWantOf ∈ wsT := mT 568 (by decide +kernel) rfl
theorem lk3_57 : Cond.methodLink RX3 57 Lib.Math.max.name ∈ wsT := mT 571 (by decide +kernel) rfl
theorem lk3_46 : Cond.methodLink RX3 46 yX3_place ∈ wsT := mT 572 (by decide +kernel) rfl
theorem lk9_204 : Cond.methodLink RX9 204 yX5_search ∈ wsT := mT 575 (by decide +kernel) rfl
theorem lk5_25 : Cond.methodLink RX5 25 yX5_countHeld ∈ wsT := mT 579 (by decide +kernel) rfl
theorem lk5_47 : Cond.methodLink RX5 47 yJ7_fill_53178 ∈ wsT := mT 583 (by decide +kernel) rfl
theorem lk5_35 : Cond.methodLink RX5 35 yX5_isBetter ∈ wsT := mT 584 (by decide +kernel) rfl
theorem lk5_39 : Cond.methodLink RX5 39 yX5_isAtRest ∈ wsT := mT 588 (by decide +kernel) rfl
theorem lk5_68 : Cond.methodLink RX5 68 yX5_isContent ∈ wsT := mT 592 (by decide +kernel) rfl
theorem lk5_43 : Cond.methodLink RX5 43 yX5_noteAsked ∈ wsT := mT 596 (by decide +kernel) rfl
theorem lk5_59 : Cond.methodLink RX5 59 arraycopyName ∈ wsT := mT 600 (by decide +kernel) rfl
theorem lkL_81 : Cond.methodLink RL 81 yX9_joint ∈ wsT := mT 601 (by decide +kernel) rfl
theorem lkL_85 : Cond.methodLink RL 85 yX9_pay ∈ wsT := mT 605 (by decide +kernel) rfl
theorem lkL_89 : Cond.methodLink RL 89 yX9_seen ∈ wsT := mT 609 (by decide +kernel) rfl
theorem lk9_218 : Cond.methodLink RX9 218 yX7_add ∈ wsT := mT 613 (by decide +kernel) rfl
theorem lkL_93 : Cond.methodLink RL 93 yX9_forget ∈ wsT := mT 617 (by decide +kernel) rfl
theorem lkL_97 : Cond.methodLink RL 97 yX9_cousins ∈ wsT := mT 621 (by decide +kernel) rfl
theorem lk9_222 : Cond.methodLink RX9 222 yX9_isAsSeenWithout ∈ wsT := mT 625 (by decide +kernel) rfl
theorem lk9_248 : Cond.methodLink RX9 248 yX7_fit ∈ wsT := mT 629 (by decide +kernel) rfl
theorem lk7_22 : Cond.methodLink RX7 22 yX2_mostYearsOf ∈ wsT := mT 633 (by decide +kernel) rfl
theorem lkL_101 : Cond.methodLink RL 101 yX9_span ∈ wsT := mT 634 (by decide +kernel) rfl
theorem lk9_225 : Cond.methodLink RX9 225 yX2_spanFrom ∈ wsT := mT 638 (by decide +kernel) rfl
theorem lk2_84 : Cond.methodLink RX2 84 yX2_hadGotAnother ∈ wsT := mT 642 (by decide +kernel) rfl
theorem lk2_87 : Cond.methodLink RX2 87 yX2_firstCallOut ∈ wsT := mT 646 (by decide +kernel) rfl
theorem lk9_229 : Cond.methodLink RX9 229 yX2_spanTo ∈ wsT := mT 650 (by decide +kernel) rfl
theorem lkL_105 : Cond.methodLink RL 105 yX9_year ∈ wsT := mT 654 (by decide +kernel) rfl
theorem lk9_232 : Cond.methodLink RX9 232 yX4_drawWants ∈ wsT := mT 658 (by decide +kernel) rfl
theorem lk9_236 : Cond.methodLink RX9 236 yX2_mastersAlone ∈ wsT := mT 667 (by decide +kernel) rfl
theorem lk2_81 : Cond.methodLink RX2 81 yX2_ladsOf ∈ wsT := mT 671 (by decide +kernel) rfl
theorem lkL_109 : Cond.methodLink RL 109 yX9_keep ∈ wsT := mT 672 (by decide +kernel) rfl
theorem lk9_239 : Cond.methodLink RX9 239 yX6_put ∈ wsT := mT 676 (by decide +kernel) rfl
theorem lk6_26 : Cond.methodLink RX6 26 arraycopyName ∈ wsT := mT 680 (by decide +kernel) rfl
theorem lkL_113 : Cond.methodLink RL 113 yX9_back ∈ wsT := mT 681 (by decide +kernel) rfl
theorem lk9_242 : Cond.methodLink RX9 242 yX6_takeInto ∈ wsT := mT 685 (by decide +kernel) rfl
theorem lkL_117 : Cond.methodLink RL 117 yX9_count ∈ wsT := mT 689 (by decide +kernel) rfl
theorem lkL_12 : Cond.methodLink RL 12 yX10_init ∈ wsT := mT 695 (by decide +kernel) rfl
theorem lk10_1 : Cond.methodLink RX10 1 objectInit ∈ wsT := mT 698 (by decide +kernel) rfl
theorem lk10_73 : Cond.methodLink RX10 73 yX10_noFair ∈ wsT := mT 699 (by decide +kernel) rfl
theorem lkL_19 : Cond.methodLink RL 19 yX10_write ∈ wsT := mT 791 (by decide +kernel) rfl
theorem lk10_79 : Cond.methodLink RX10 79 yX10_in ∈ wsT := mT 796 (by decide +kernel) rfl
theorem lkL_24 : Cond.methodLink RL 24 yX10_wipe ∈ wsT := mT 800 (by decide +kernel) rfl
theorem lkL_28 : Cond.methodLink RL 28 yX10_fault ∈ wsT := mT 804 (by decide +kernel) rfl
theorem lk10_114 : Cond.methodLink RX10 114 yX10_readAll ∈ wsT := mT 808 (by decide +kernel) rfl
theorem lk10_110 : Cond.methodLink RX10 110 yX10_item ∈ wsT := mT 812 (by decide +kernel) rfl
theorem lk10_92 : Cond.methodLink RX10 92 yX10_byteAt ∈ wsT := mT 816 (by decide +kernel) rfl
theorem lk10_102 : Cond.methodLink RX10 102 yX10_figures ∈ wsT := mT 820 (by decide +kernel) rfl
theorem lkL_32 : Cond.methodLink RL 32 yX10_lay ∈ wsT := mT 829 (by decide +kernel) rfl
theorem lk10_118 : Cond.methodLink RX10 118 yX10_copy ∈ wsT := mT 833 (by decide +kernel) rfl
theorem lkL_37 : Cond.methodLink RL 37 yX10_lad ∈ wsT := mT 837 (by decide +kernel) rfl
theorem lk10_177 : Cond.methodLink RX10 177 yX10_isLad ∈ wsT := mT 841 (by decide +kernel) rfl
theorem lk10_182 : Cond.methodLink RX10 182 yX10_goFair ∈ wsT := mT 846 (by decide +kernel) rfl
theorem lk10_171 : Cond.methodLink RX10 171 yX10_begin ∈ wsT := mT 850 (by decide +kernel) rfl
theorem lk10_174 : Cond.methodLink RX10 174 yX10_callOne ∈ wsT := mT 854 (by decide +kernel) rfl
theorem lk10_162 : Cond.methodLink RX10 162 yX10_callBelow ∈ wsT := mT 858 (by decide +kernel) rfl
theorem lk10_149 : Cond.methodLink RX10 149 yX10_inSet ∈ wsT := mT 862 (by decide +kernel) rfl
theorem lk10_138 : Cond.methodLink RX10 138 yX10_isIn ∈ wsT := mT 866 (by decide +kernel) rfl
theorem lk10_134 : Cond.methodLink RX10 134 yX10_boundOf ∈ wsT := mT 870 (by decide +kernel) rfl
theorem lk10_152 : Cond.methodLink RX10 152 yX10_bits ∈ wsT := mT 874 (by decide +kernel) rfl
theorem lk10_158 : Cond.methodLink RX10 158 yX10_give ∈ wsT := mT 877 (by decide +kernel) rfl
theorem lk10_142 : Cond.methodLink RX10 142 yX10_has ∈ wsT := mT 881 (by decide +kernel) rfl
theorem lk10_165 : Cond.methodLink RX10 165 yX10_callAbove ∈ wsT := mT 884 (by decide +kernel) rfl
theorem lk10_168 : Cond.methodLink RX10 168 yX10_callSealed ∈ wsT := mT 888 (by decide +kernel) rfl
theorem lk10_185 : Cond.methodLink RX10 185 yX10_gainOf ∈ wsT := mT 892 (by decide +kernel) rfl
theorem lkL_41 : Cond.methodLink RL 41 yX10_master ∈ wsT := mT 896 (by decide +kernel) rfl
theorem lk10_188 : Cond.methodLink RX10 188 yX10_isMaster ∈ wsT := mT 900 (by decide +kernel) rfl
theorem lk10_191 : Cond.methodLink RX10 191 yX10_ladsOf ∈ wsT := mT 904 (by decide +kernel) rfl
theorem lk10_194 : Cond.methodLink RX10 194 yX10_mostOf ∈ wsT := mT 908 (by decide +kernel) rfl
theorem lkL_46 : Cond.methodLink RL 46 yX10_wants ∈ wsT := mT 912 (by decide +kernel) rfl
theorem lkL_51 : Cond.methodLink RL 51 yX10_all ∈ wsT := mT 916 (by decide +kernel) rfl
theorem lkL_55 : Cond.methodLink RL 55 yX10_limit ∈ wsT := mT 920 (by decide +kernel) rfl
theorem lk10_197 : Cond.methodLink RX10 197 yX10_note ∈ wsT := mT 924 (by decide +kernel) rfl
theorem lkL_59 : Cond.methodLink RL 59 yX10_calls ∈ wsT := mT 928 (by decide +kernel) rfl
theorem lkL_63 : Cond.methodLink RL 63 yX10_step ∈ wsT := mT 932 (by decide +kernel) rfl
theorem lkL_67 : Cond.methodLink RL 67 yX10_undo ∈ wsT := mT 936 (by decide +kernel) rfl
theorem lkL_71 : Cond.methodLink RL 71 yX10_lie ∈ wsT := mT 940 (by decide +kernel) rfl
theorem lkL_75 : Cond.methodLink RL 75 yX10_game ∈ wsT := mT 944 (by decide +kernel) rfl
theorem lkL_80 : Cond.methodLink RL 80 yX10_rest ∈ wsT := mT 948 (by decide +kernel) rfl
theorem lk10_209 : Cond.methodLink RX10 209 yX10_takePrices ∈ wsT := mT 952 (by decide +kernel) rfl
theorem lk10_212 : Cond.methodLink RX10 212 yX10_canRest ∈ wsT := mT 956 (by decide +kernel) rfl
theorem lk10_200 : Cond.methodLink RX10 200 yX10_codes ∈ wsT := mT 960 (by decide +kernel) rfl
theorem lk10_203 : Cond.methodLink RX10 203 yX10_seatAll ∈ wsT := mT 964 (by decide +kernel) rfl
theorem lk10_206 : Cond.methodLink RX10 206 yX10_isAtRest ∈ wsT := mT 968 (by decide +kernel) rfl
theorem lkL_84 : Cond.methodLink RL 84 yX10_joint ∈ wsT := mT 972 (by decide +kernel) rfl
theorem lk10_218 : Cond.methodLink RX10 218 yX10_bestWay ∈ wsT := mT 976 (by decide +kernel) rfl
theorem lk10_215 : Cond.methodLink RX10 215 yX10_sumOf ∈ wsT := mT 980 (by decide +kernel) rfl
theorem lkL_88 : Cond.methodLink RL 88 yX10_pay ∈ wsT := mT 984 (by decide +kernel) rfl
theorem lkL_92 : Cond.methodLink RL 92 yX10_seen ∈ wsT := mT 988 (by decide +kernel) rfl
theorem lkL_96 : Cond.methodLink RL 96 yX10_forget ∈ wsT := mT 992 (by decide +kernel) rfl
theorem lkL_100 : Cond.methodLink RL 100 yX10_cousins ∈ wsT := mT 996 (by decide +kernel) rfl
theorem lk10_221 : Cond.methodLink RX10 221 yX10_isSeenSo ∈ wsT := mT 1000 (by decide +kernel) rfl
theorem lkL_104 : Cond.methodLink RL 104 yX10_span ∈ wsT := mT 1004 (by decide +kernel) rfl
theorem lkL_108 : Cond.methodLink RL 108 yX10_year ∈ wsT := mT 1008 (by decide +kernel) rfl
theorem lkL_112 : Cond.methodLink RL 112 yX10_keep ∈ wsT := mT 1018 (by decide +kernel) rfl
theorem lkL_116 : Cond.methodLink RL 116 yX10_back ∈ wsT := mT 1022 (by decide +kernel) rfl
theorem lkL_120 : Cond.methodLink RL 120 yX10_count ∈ wsT := mT 1026 (by decide +kernel) rfl
theorem fl8_19 : FL RX8 19 8 0 := ⟨RX8, TX8, 3, rfl, by decide, mT 82 (by decide +kernel) rfl, clX8⟩
theorem fp8_19 : FP RX8 19 8 0 .int := ⟨RX8, TX8, 3, tyX8, rfl, by decide, mT 82 (by decide +kernel) rfl, clX8, tyX8_ok, nmX8, rfl, by decide +kernel⟩
theorem fl9_93 : FL RX9 93 8 0 := ⟨RX8, TX8, 3, rfl, by decide, mT 83 (by decide +kernel) rfl, clX8⟩
theorem fp9_93 : FP RX9 93 8 0 .int := ⟨RX8, TX8, 3, tyX8, rfl, by decide, mT 83 (by decide +kernel) rfl, clX8, tyX8_ok, nmX8, rfl, by decide +kernel⟩
theorem fl8_9 : FL RX8 9 8 1 := ⟨RX8, TX8, 3, rfl, by decide, mT 84 (by decide +kernel) rfl, clX8⟩
theorem fl8_15 : FL RX8 15 8 2 := ⟨RX8, TX8, 3, rfl, by decide, mT 85 (by decide +kernel) rfl, clX8⟩
theorem fl4_26 : FL RX4 26 4 0 := ⟨RX4, TX4, 6, rfl, by decide, mT 103 (by decide +kernel) rfl, clX4⟩
theorem fp4_26 : FP RX4 26 4 0 .int := ⟨RX4, TX4, 6, tyX4, rfl, by decide, mT 103 (by decide +kernel) rfl, clX4, tyX4_ok, nmX4, rfl, by decide +kernel⟩
theorem fl5_29 : FL RX5 29 4 0 := ⟨RX4, TX4, 6, rfl, by decide, mT 104 (by decide +kernel) rfl, clX4⟩
theorem fp5_29 : FP RX5 29 4 0 .int := ⟨RX4, TX4, 6, tyX4, rfl, by decide, mT 104 (by decide +kernel) rfl, clX4, tyX4_ok, nmX4, rfl, by decide +kernel⟩
theorem fl2_30 : FL RX2 30 4 0 := ⟨RX4, TX4, 6, rfl, by decide, mT 105 (by decide +kernel) rfl, clX4⟩
theorem fp2_30 : FP RX2 30 4 0 .int := ⟨RX4, TX4, 6, tyX4, rfl, by decide, mT 105 (by decide +kernel) rfl, clX4, tyX4_ok, nmX4, rfl, by decide +kernel⟩
theorem fl3_50 : FL RX3 50 4 0 := ⟨RX4, TX4, 6, rfl, by decide, mT 106 (by decide +kernel) rfl, clX4⟩
theorem fp3_50 : FP RX3 50 4 0 .int := ⟨RX4, TX4, 6, tyX4, rfl, by decide, mT 106 (by decide +kernel) rfl, clX4, tyX4_ok, nmX4, rfl, by decide +kernel⟩
theorem fl9_105 : FL RX9 105 4 0 := ⟨RX4, TX4, 6, rfl, by decide, mT 107 (by decide +kernel) rfl, clX4⟩
theorem fp9_105 : FP RX9 105 4 0 .int := ⟨RX4, TX4, 6, tyX4, rfl, by decide, mT 107 (by decide +kernel) rfl, clX4, tyX4_ok, nmX4, rfl, by decide +kernel⟩
theorem fl4_30 : FL RX4 30 4 1 := ⟨RX4, TX4, 6, rfl, by decide, mT 108 (by decide +kernel) rfl, clX4⟩
theorem fp4_30 : FP RX4 30 4 1 .int := ⟨RX4, TX4, 6, tyX4, rfl, by decide, mT 108 (by decide +kernel) rfl, clX4, tyX4_ok, nmX4, rfl, by decide +kernel⟩
theorem fl3_35 : FL RX3 35 4 1 := ⟨RX4, TX4, 6, rfl, by decide, mT 109 (by decide +kernel) rfl, clX4⟩
theorem fp3_35 : FP RX3 35 4 1 .int := ⟨RX4, TX4, 6, tyX4, rfl, by decide, mT 109 (by decide +kernel) rfl, clX4, tyX4_ok, nmX4, rfl, by decide +kernel⟩
theorem fl2_36 : FL RX2 36 4 1 := ⟨RX4, TX4, 6, rfl, by decide, mT 110 (by decide +kernel) rfl, clX4⟩
theorem fp2_36 : FP RX2 36 4 1 .int := ⟨RX4, TX4, 6, tyX4, rfl, by decide, mT 110 (by decide +kernel) rfl, clX4, tyX4_ok, nmX4, rfl, by decide +kernel⟩
theorem fl5_53 : FL RX5 53 4 1 := ⟨RX4, TX4, 6, rfl, by decide, mT 111 (by decide +kernel) rfl, clX4⟩
theorem fp5_53 : FP RX5 53 4 1 .int := ⟨RX4, TX4, 6, tyX4, rfl, by decide, mT 111 (by decide +kernel) rfl, clX4, tyX4_ok, nmX4, rfl, by decide +kernel⟩
theorem fl9_108 : FL RX9 108 4 1 := ⟨RX4, TX4, 6, rfl, by decide, mT 112 (by decide +kernel) rfl, clX4⟩
theorem fp9_108 : FP RX9 108 4 1 .int := ⟨RX4, TX4, 6, tyX4, rfl, by decide, mT 112 (by decide +kernel) rfl, clX4, tyX4_ok, nmX4, rfl, by decide +kernel⟩
theorem fl4_9 : FL RX4 9 4 2 := ⟨RX4, TX4, 6, rfl, by decide, mT 113 (by decide +kernel) rfl, clX4⟩
theorem fl3_24 : FL RX3 24 4 2 := ⟨RX4, TX4, 6, rfl, by decide, mT 114 (by decide +kernel) rfl, clX4⟩
theorem fl2_58 : FL RX2 58 4 2 := ⟨RX4, TX4, 6, rfl, by decide, mT 115 (by decide +kernel) rfl, clX4⟩
theorem fl5_65 : FL RX5 65 4 2 := ⟨RX4, TX4, 6, rfl, by decide, mT 116 (by decide +kernel) rfl, clX4⟩
theorem fl9_147 : FL RX9 147 4 2 := ⟨RX4, TX4, 6, rfl, by decide, mT 117 (by decide +kernel) rfl, clX4⟩
theorem fl4_15 : FL RX4 15 4 3 := ⟨RX4, TX4, 6, rfl, by decide, mT 118 (by decide +kernel) rfl, clX4⟩
theorem fl9_127 : FL RX9 127 4 3 := ⟨RX4, TX4, 6, rfl, by decide, mT 119 (by decide +kernel) rfl, clX4⟩
theorem fl4_20 : FL RX4 20 4 4 := ⟨RX4, TX4, 6, rfl, by decide, mT 120 (by decide +kernel) rfl, clX4⟩
theorem fl3_53 : FL RX3 53 4 4 := ⟨RX4, TX4, 6, rfl, by decide, mT 121 (by decide +kernel) rfl, clX4⟩
theorem fl5_72 : FL RX5 72 4 4 := ⟨RX4, TX4, 6, rfl, by decide, mT 122 (by decide +kernel) rfl, clX4⟩
theorem fl2_69 : FL RX2 69 4 4 := ⟨RX4, TX4, 6, rfl, by decide, mT 123 (by decide +kernel) rfl, clX4⟩
theorem fl9_156 : FL RX9 156 4 4 := ⟨RX4, TX4, 6, rfl, by decide, mT 124 (by decide +kernel) rfl, clX4⟩
theorem fl4_23 : FL RX4 23 4 5 := ⟨RX4, TX4, 6, rfl, by decide, mT 125 (by decide +kernel) rfl, clX4⟩
theorem fl6_16 : FL RX6 16 4 5 := ⟨RX4, TX4, 6, rfl, by decide, mT 126 (by decide +kernel) rfl, clX4⟩
theorem fl1_19 : FL RX1 19 4 5 := ⟨RX4, TX4, 6, rfl, by decide, mT 127 (by decide +kernel) rfl, clX4⟩
theorem fl2_43 : FL RX2 43 4 5 := ⟨RX4, TX4, 6, rfl, by decide, mT 128 (by decide +kernel) rfl, clX4⟩
theorem fl0_28 : FL RX0 28 4 5 := ⟨RX4, TX4, 6, rfl, by decide, mT 129 (by decide +kernel) rfl, clX4⟩
theorem fl9_123 : FL RX9 123 4 5 := ⟨RX4, TX4, 6, rfl, by decide, mT 130 (by decide +kernel) rfl, clX4⟩
theorem fl2_9 : FL RX2 9 2 0 := ⟨RX2, TX2, 4, rfl, by decide, mT 150 (by decide +kernel) rfl, clX2⟩
theorem fl9_134 : FL RX9 134 2 0 := ⟨RX2, TX2, 4, rfl, by decide, mT 151 (by decide +kernel) rfl, clX2⟩
theorem fl2_15 : FL RX2 15 2 1 := ⟨RX2, TX2, 4, rfl, by decide, mT 152 (by decide +kernel) rfl, clX2⟩
theorem fl9_137 : FL RX9 137 2 1 := ⟨RX2, TX2, 4, rfl, by decide, mT 153 (by decide +kernel) rfl, clX2⟩
theorem fl2_18 : FL RX2 18 2 2 := ⟨RX2, TX2, 4, rfl, by decide, mT 154 (by decide +kernel) rfl, clX2⟩
theorem fl2_21 : FL RX2 21 2 3 := ⟨RX2, TX2, 4, rfl, by decide, mT 155 (by decide +kernel) rfl, clX2⟩
theorem fl1_35 : FL RX1 35 1 0 := ⟨RX1, TX1, 5, rfl, by decide, mT 172 (by decide +kernel) rfl, clX1⟩
theorem fp1_35 : FP RX1 35 1 0 .int := ⟨RX1, TX1, 5, tyX1, rfl, by decide, mT 172 (by decide +kernel) rfl, clX1, tyX1_ok, nmX1, rfl, by decide +kernel⟩
theorem fl9_189 : FL RX9 189 1 0 := ⟨RX1, TX1, 5, rfl, by decide, mT 173 (by decide +kernel) rfl, clX1⟩
theorem fp9_189 : FP RX9 189 1 0 .int := ⟨RX1, TX1, 5, tyX1, rfl, by decide, mT 173 (by decide +kernel) rfl, clX1, tyX1_ok, nmX1, rfl, by decide +kernel⟩
theorem fl1_47 : FL RX1 47 1 1 := ⟨RX1, TX1, 5, rfl, by decide, mT 174 (by decide +kernel) rfl, clX1⟩
theorem fp1_47 : FP RX1 47 1 1 .int := ⟨RX1, TX1, 5, tyX1, rfl, by decide, mT 174 (by decide +kernel) rfl, clX1, tyX1_ok, nmX1, rfl, by decide +kernel⟩
theorem fl9_192 : FL RX9 192 1 1 := ⟨RX1, TX1, 5, rfl, by decide, mT 175 (by decide +kernel) rfl, clX1⟩
theorem fp9_192 : FP RX9 192 1 1 .int := ⟨RX1, TX1, 5, tyX1, rfl, by decide, mT 175 (by decide +kernel) rfl, clX1, tyX1_ok, nmX1, rfl, by decide +kernel⟩
theorem fl1_50 : FL RX1 50 1 2 := ⟨RX1, TX1, 5, rfl, by decide, mT 176 (by decide +kernel) rfl, clX1⟩
theorem fp1_50 : FP RX1 50 1 2 .int := ⟨RX1, TX1, 5, tyX1, rfl, by decide, mT 176 (by decide +kernel) rfl, clX1, tyX1_ok, nmX1, rfl, by decide +kernel⟩
theorem fl9_195 : FL RX9 195 1 2 := ⟨RX1, TX1, 5, rfl, by decide, mT 177 (by decide +kernel) rfl, clX1⟩
theorem fp9_195 : FP RX9 195 1 2 .int := ⟨RX1, TX1, 5, tyX1, rfl, by decide, mT 177 (by decide +kernel) rfl, clX1, tyX1_ok, nmX1, rfl, by decide +kernel⟩
theorem fl1_11 : FL RX1 11 1 3 := ⟨RX1, TX1, 5, rfl, by decide, mT 178 (by decide +kernel) rfl, clX1⟩
theorem fl1_16 : FL RX1 16 1 4 := ⟨RX1, TX1, 5, rfl, by decide, mT 179 (by decide +kernel) rfl, clX1⟩
theorem fl3_43 : FL RX3 43 3 0 := ⟨RX3, TX3, 5, rfl, by decide, mT 197 (by decide +kernel) rfl, clX3⟩
theorem fp3_43 : FP RX3 43 3 0 .int := ⟨RX3, TX3, 5, tyX3, rfl, by decide, mT 197 (by decide +kernel) rfl, clX3, tyX3_ok, nmX3, rfl, by decide +kernel⟩
theorem fl9_215 : FL RX9 215 3 0 := ⟨RX3, TX3, 5, rfl, by decide, mT 198 (by decide +kernel) rfl, clX3⟩
theorem fp9_215 : FP RX9 215 3 0 .int := ⟨RX3, TX3, 5, tyX3, rfl, by decide, mT 198 (by decide +kernel) rfl, clX3, tyX3_ok, nmX3, rfl, by decide +kernel⟩
theorem fl3_9 : FL RX3 9 3 1 := ⟨RX3, TX3, 5, rfl, by decide, mT 199 (by decide +kernel) rfl, clX3⟩
theorem fl9_201 : FL RX9 201 3 1 := ⟨RX3, TX3, 5, rfl, by decide, mT 200 (by decide +kernel) rfl, clX3⟩
theorem fl3_15 : FL RX3 15 3 2 := ⟨RX3, TX3, 5, rfl, by decide, mT 201 (by decide +kernel) rfl, clX3⟩
theorem fl3_18 : FL RX3 18 3 3 := ⟨RX3, TX3, 5, rfl, by decide, mT 202 (by decide +kernel) rfl, clX3⟩
theorem fl3_21 : FL RX3 21 3 4 := ⟨RX3, TX3, 5, rfl, by decide, mT 203 (by decide +kernel) rfl, clX3⟩
theorem fl5_21 : FL RX5 21 5 0 := ⟨RX5, TX5, 5, rfl, by decide, mT 221 (by decide +kernel) rfl, clX5⟩
theorem fp5_21 : FP RX5 21 5 0 .boolean := ⟨RX5, TX5, 5, tyX5, rfl, by decide, mT 221 (by decide +kernel) rfl, clX5, tyX5_ok, nmX5, rfl, by decide +kernel⟩
theorem fl9_207 : FL RX9 207 5 0 := ⟨RX5, TX5, 5, rfl, by decide, mT 222 (by decide +kernel) rfl, clX5⟩
theorem fp9_207 : FP RX9 207 5 0 .boolean := ⟨RX5, TX5, 5, tyX5, rfl, by decide, mT 222 (by decide +kernel) rfl, clX5, tyX5_ok, nmX5, rfl, by decide +kernel⟩
theorem fl5_56 : FL RX5 56 5 1 := ⟨RX5, TX5, 5, rfl, by decide, mT 223 (by decide +kernel) rfl, clX5⟩
theorem fp5_56 : FP RX5 56 5 1 .int := ⟨RX5, TX5, 5, tyX5, rfl, by decide, mT 223 (by decide +kernel) rfl, clX5, tyX5_ok, nmX5, rfl, by decide +kernel⟩
theorem fl9_211 : FL RX9 211 5 1 := ⟨RX5, TX5, 5, rfl, by decide, mT 224 (by decide +kernel) rfl, clX5⟩
theorem fp9_211 : FP RX9 211 5 1 .int := ⟨RX5, TX5, 5, tyX5, rfl, by decide, mT 224 (by decide +kernel) rfl, clX5, tyX5_ok, nmX5, rfl, by decide +kernel⟩
theorem fl5_9 : FL RX5 9 5 2 := ⟨RX5, TX5, 5, rfl, by decide, mT 225 (by decide +kernel) rfl, clX5⟩
theorem fl9_214 : FL RX9 214 5 2 := ⟨RX5, TX5, 5, rfl, by decide, mT 226 (by decide +kernel) rfl, clX5⟩
theorem fl5_15 : FL RX5 15 5 3 := ⟨RX5, TX5, 5, rfl, by decide, mT 227 (by decide +kernel) rfl, clX5⟩
theorem fl5_18 : FL RX5 18 5 4 := ⟨RX5, TX5, 5, rfl, by decide, mT 228 (by decide +kernel) rfl, clX5⟩
theorem fl7_18 : FL RX7 18 7 0 := ⟨RX7, TX7, 3, rfl, by decide, mT 246 (by decide +kernel) rfl, clX7⟩
theorem fp7_18 : FP RX7 18 7 0 .int := ⟨RX7, TX7, 3, tyX7, rfl, by decide, mT 246 (by decide +kernel) rfl, clX7, tyX7_ok, nmX7, rfl, by decide +kernel⟩
theorem fl9_115 : FL RX9 115 7 0 := ⟨RX7, TX7, 3, rfl, by decide, mT 247 (by decide +kernel) rfl, clX7⟩
theorem fp9_115 : FP RX9 115 7 0 .int := ⟨RX7, TX7, 3, tyX7, rfl, by decide, mT 247 (by decide +kernel) rfl, clX7, tyX7_ok, nmX7, rfl, by decide +kernel⟩
theorem fl7_9 : FL RX7 9 7 1 := ⟨RX7, TX7, 3, rfl, by decide, mT 248 (by decide +kernel) rfl, clX7⟩
theorem fl7_15 : FL RX7 15 7 2 := ⟨RX7, TX7, 3, rfl, by decide, mT 249 (by decide +kernel) rfl, clX7⟩
theorem fl0_18 : FL RX0 18 0 0 := ⟨RX0, TX0, 3, rfl, by decide, mT 263 (by decide +kernel) rfl, clX0⟩
theorem fp0_18 : FP RX0 18 0 0 .int := ⟨RX0, TX0, 3, tyX0, rfl, by decide, mT 263 (by decide +kernel) rfl, clX0, tyX0_ok, nmX0, rfl, by decide +kernel⟩
theorem fl9_118 : FL RX9 118 0 0 := ⟨RX0, TX0, 3, rfl, by decide, mT 264 (by decide +kernel) rfl, clX0⟩
theorem fp9_118 : FP RX9 118 0 0 .int := ⟨RX0, TX0, 3, tyX0, rfl, by decide, mT 264 (by decide +kernel) rfl, clX0, tyX0_ok, nmX0, rfl, by decide +kernel⟩
theorem fl0_9 : FL RX0 9 0 1 := ⟨RX0, TX0, 3, rfl, by decide, mT 265 (by decide +kernel) rfl, clX0⟩
theorem fl0_15 : FL RX0 15 0 2 := ⟨RX0, TX0, 3, rfl, by decide, mT 266 (by decide +kernel) rfl, clX0⟩
theorem fl6_22 : FL RX6 22 6 0 := ⟨RX6, TX6, 2, rfl, by decide, mT 281 (by decide +kernel) rfl, clX6⟩
theorem fp6_22 : FP RX6 22 6 0 .int := ⟨RX6, TX6, 2, tyX6, rfl, by decide, mT 281 (by decide +kernel) rfl, clX6, tyX6_ok, nmX6, rfl, by decide +kernel⟩
theorem fl9_119 : FL RX9 119 6 0 := ⟨RX6, TX6, 2, rfl, by decide, mT 282 (by decide +kernel) rfl, clX6⟩
theorem fp9_119 : FP RX9 119 6 0 .int := ⟨RX6, TX6, 2, tyX6, rfl, by decide, mT 282 (by decide +kernel) rfl, clX6, tyX6_ok, nmX6, rfl, by decide +kernel⟩
theorem fl6_11 : FL RX6 11 6 1 := ⟨RX6, TX6, 2, rfl, by decide, mT 283 (by decide +kernel) rfl, clX6⟩
theorem fl9_12 : FL RX9 12 9 0 := ⟨RX9, TX9, 10, rfl, by decide, mT 319 (by decide +kernel) rfl, clX9⟩
theorem fl9_19 : FL RX9 19 9 1 := ⟨RX9, TX9, 10, rfl, by decide, mT 320 (by decide +kernel) rfl, clX9⟩
theorem fl9_23 : FL RX9 23 9 2 := ⟨RX9, TX9, 10, rfl, by decide, mT 321 (by decide +kernel) rfl, clX9⟩
theorem fl9_29 : FL RX9 29 9 3 := ⟨RX9, TX9, 10, rfl, by decide, mT 322 (by decide +kernel) rfl, clX9⟩
theorem fl9_36 : FL RX9 36 9 4 := ⟨RX9, TX9, 10, rfl, by decide, mT 323 (by decide +kernel) rfl, clX9⟩
theorem fl9_43 : FL RX9 43 9 5 := ⟨RX9, TX9, 10, rfl, by decide, mT 324 (by decide +kernel) rfl, clX9⟩
theorem fl9_50 : FL RX9 50 9 6 := ⟨RX9, TX9, 10, rfl, by decide, mT 325 (by decide +kernel) rfl, clX9⟩
theorem fl9_57 : FL RX9 57 9 7 := ⟨RX9, TX9, 10, rfl, by decide, mT 326 (by decide +kernel) rfl, clX9⟩
theorem fl9_64 : FL RX9 64 9 8 := ⟨RX9, TX9, 10, rfl, by decide, mT 327 (by decide +kernel) rfl, clX9⟩
theorem fl9_71 : FL RX9 71 9 9 := ⟨RX9, TX9, 10, rfl, by decide, mT 328 (by decide +kernel) rfl, clX9⟩
theorem fl10_83 : FL RX10 83 10 0 := ⟨RX10, TX10, 29, rfl, by decide, mT 703 (by decide +kernel) rfl, clX10⟩
theorem fp10_83 : FP RX10 83 10 0 .int := ⟨RX10, TX10, 29, tyX10, rfl, by decide, mT 703 (by decide +kernel) rfl, clX10, tyX10_ok, nmX10, rfl, by decide +kernel⟩
theorem fl10_7 : FL RX10 7 10 1 := ⟨RX10, TX10, 29, rfl, by decide, mT 704 (by decide +kernel) rfl, clX10⟩
theorem fl10_13 : FL RX10 13 10 2 := ⟨RX10, TX10, 29, rfl, by decide, mT 705 (by decide +kernel) rfl, clX10⟩
theorem fl10_16 : FL RX10 16 10 3 := ⟨RX10, TX10, 29, rfl, by decide, mT 706 (by decide +kernel) rfl, clX10⟩
theorem fl10_19 : FL RX10 19 10 4 := ⟨RX10, TX10, 29, rfl, by decide, mT 707 (by decide +kernel) rfl, clX10⟩
theorem fl10_22 : FL RX10 22 10 5 := ⟨RX10, TX10, 29, rfl, by decide, mT 708 (by decide +kernel) rfl, clX10⟩
theorem fl10_25 : FL RX10 25 10 6 := ⟨RX10, TX10, 29, rfl, by decide, mT 709 (by decide +kernel) rfl, clX10⟩
theorem fl10_28 : FL RX10 28 10 7 := ⟨RX10, TX10, 29, rfl, by decide, mT 710 (by decide +kernel) rfl, clX10⟩
theorem fl10_31 : FL RX10 31 10 8 := ⟨RX10, TX10, 29, rfl, by decide, mT 711 (by decide +kernel) rfl, clX10⟩
theorem fl10_34 : FL RX10 34 10 9 := ⟨RX10, TX10, 29, rfl, by decide, mT 712 (by decide +kernel) rfl, clX10⟩
theorem fl10_122 : FL RX10 122 10 10 := ⟨RX10, TX10, 29, rfl, by decide, mT 713 (by decide +kernel) rfl, clX10⟩
theorem fp10_122 : FP RX10 122 10 10 .int := ⟨RX10, TX10, 29, tyX10, rfl, by decide, mT 713 (by decide +kernel) rfl, clX10, tyX10_ok, nmX10, rfl, by decide +kernel⟩
theorem fl10_125 : FL RX10 125 10 11 := ⟨RX10, TX10, 29, rfl, by decide, mT 714 (by decide +kernel) rfl, clX10⟩
theorem fp10_125 : FP RX10 125 10 11 .int := ⟨RX10, TX10, 29, tyX10, rfl, by decide, mT 714 (by decide +kernel) rfl, clX10, tyX10_ok, nmX10, rfl, by decide +kernel⟩
theorem fl10_37 : FL RX10 37 10 12 := ⟨RX10, TX10, 29, rfl, by decide, mT 715 (by decide +kernel) rfl, clX10⟩
theorem fl10_128 : FL RX10 128 10 13 := ⟨RX10, TX10, 29, rfl, by decide, mT 716 (by decide +kernel) rfl, clX10⟩
theorem fp10_128 : FP RX10 128 10 13 .int := ⟨RX10, TX10, 29, tyX10, rfl, by decide, mT 716 (by decide +kernel) rfl, clX10, tyX10_ok, nmX10, rfl, by decide +kernel⟩
theorem fl10_40 : FL RX10 40 10 14 := ⟨RX10, TX10, 29, rfl, by decide, mT 717 (by decide +kernel) rfl, clX10⟩
theorem fl10_43 : FL RX10 43 10 15 := ⟨RX10, TX10, 29, rfl, by decide, mT 718 (by decide +kernel) rfl, clX10⟩
theorem fl10_89 : FL RX10 89 10 16 := ⟨RX10, TX10, 29, rfl, by decide, mT 719 (by decide +kernel) rfl, clX10⟩
theorem fp10_89 : FP RX10 89 10 16 .int := ⟨RX10, TX10, 29, tyX10, rfl, by decide, mT 719 (by decide +kernel) rfl, clX10, tyX10_ok, nmX10, rfl, by decide +kernel⟩
theorem fl10_46 : FL RX10 46 10 17 := ⟨RX10, TX10, 29, rfl, by decide, mT 720 (by decide +kernel) rfl, clX10⟩
theorem fl10_49 : FL RX10 49 10 18 := ⟨RX10, TX10, 29, rfl, by decide, mT 721 (by decide +kernel) rfl, clX10⟩
theorem fl10_52 : FL RX10 52 10 19 := ⟨RX10, TX10, 29, rfl, by decide, mT 722 (by decide +kernel) rfl, clX10⟩
theorem fl10_131 : FL RX10 131 10 20 := ⟨RX10, TX10, 29, rfl, by decide, mT 723 (by decide +kernel) rfl, clX10⟩
theorem fp10_131 : FP RX10 131 10 20 .int := ⟨RX10, TX10, 29, tyX10, rfl, by decide, mT 723 (by decide +kernel) rfl, clX10, tyX10_ok, nmX10, rfl, by decide +kernel⟩
theorem fl10_146 : FL RX10 146 10 21 := ⟨RX10, TX10, 29, rfl, by decide, mT 724 (by decide +kernel) rfl, clX10⟩
theorem fp10_146 : FP RX10 146 10 21 .int := ⟨RX10, TX10, 29, tyX10, rfl, by decide, mT 724 (by decide +kernel) rfl, clX10, tyX10_ok, nmX10, rfl, by decide +kernel⟩
theorem fl10_155 : FL RX10 155 10 22 := ⟨RX10, TX10, 29, rfl, by decide, mT 725 (by decide +kernel) rfl, clX10⟩
theorem fp10_155 : FP RX10 155 10 22 .int := ⟨RX10, TX10, 29, tyX10, rfl, by decide, mT 725 (by decide +kernel) rfl, clX10, tyX10_ok, nmX10, rfl, by decide +kernel⟩
theorem fl10_55 : FL RX10 55 10 23 := ⟨RX10, TX10, 29, rfl, by decide, mT 726 (by decide +kernel) rfl, clX10⟩
theorem fl10_58 : FL RX10 58 10 24 := ⟨RX10, TX10, 29, rfl, by decide, mT 727 (by decide +kernel) rfl, clX10⟩
theorem fl10_61 : FL RX10 61 10 25 := ⟨RX10, TX10, 29, rfl, by decide, mT 728 (by decide +kernel) rfl, clX10⟩
theorem fl10_64 : FL RX10 64 10 26 := ⟨RX10, TX10, 29, rfl, by decide, mT 729 (by decide +kernel) rfl, clX10⟩
theorem fl10_67 : FL RX10 67 10 27 := ⟨RX10, TX10, 29, rfl, by decide, mT 730 (by decide +kernel) rfl, clX10⟩
theorem fl10_70 : FL RX10 70 10 28 := ⟨RX10, TX10, 29, rfl, by decide, mT 731 (by decide +kernel) rfl, clX10⟩
theorem kl4_62 : Cond.constantLong RX4 62 7919 ∈ wsT := mT 662 (by decide +kernel) rfl
theorem kl4_64 : Cond.constantLong RX4 64 6151 ∈ wsT := mT 663 (by decide +kernel) rfl
theorem kl4_66 : Cond.constantLong RX4 66 3571 ∈ wsT := mT 664 (by decide +kernel) rfl
theorem kl4_68 : Cond.constantLong RX4 68 65521 ∈ wsT := mT 665 (by decide +kernel) rfl
theorem kl4_70 : Cond.constantLong RX4 70 11 ∈ wsT := mT 666 (by decide +kernel) rfl
theorem kl10_77 : Cond.constantLong RX10 77 8 ∈ wsT := mT 795 (by decide +kernel) rfl
theorem kl10_87 : Cond.constantLong RX10 87 255 ∈ wsT := mT 799 (by decide +kernel) rfl
theorem kl10_96 : Cond.constantLong RX10 96 48 ∈ wsT := mT 824 (by decide +kernel) rfl
theorem kl10_98 : Cond.constantLong RX10 98 57 ∈ wsT := mT 825 (by decide +kernel) rfl
theorem kl10_100 : Cond.constantLong RX10 100 2 ∈ wsT := mT 826 (by decide +kernel) rfl
theorem kl10_106 : Cond.constantLong RX10 106 3 ∈ wsT := mT 827 (by decide +kernel) rfl
theorem kl10_108 : Cond.constantLong RX10 108 10 ∈ wsT := mT 828 (by decide +kernel) rfl
theorem kl10_180 : Cond.constantLong RX10 180 4 ∈ wsT := mT 845 (by decide +kernel) rfl
theorem kl10_224 : Cond.constantLong RX10 224 9999 ∈ wsT := mT 1012 (by decide +kernel) rfl
theorem kl10_226 : Cond.constantLong RX10 226 7919 ∈ wsT := mT 1013 (by decide +kernel) rfl
theorem kl10_228 : Cond.constantLong RX10 228 6151 ∈ wsT := mT 1014 (by decide +kernel) rfl
theorem kl10_230 : Cond.constantLong RX10 230 3571 ∈ wsT := mT 1015 (by decide +kernel) rfl
theorem kl10_232 : Cond.constantLong RX10 232 65521 ∈ wsT := mT 1016 (by decide +kernel) rfl
theorem kl10_234 : Cond.constantLong RX10 234 11 ∈ wsT := mT 1017 (by decide +kernel) rfl
theorem klL_13 : Cond.constantLong RL 13 4294967295 ∈ wsT := mT 1030 (by decide +kernel) rfl
end
section
/-- a contract of a method that answers an int (a boolean), of one that answers nothing -/
def qI (P : Int → Sg → Prop) : Option PV → Sg → Prop := fun r σ => ∃ z : Int, r = some (vI z) ∧ P z σ
def qV (P : Sg → Prop) : Option PV → Sg → Prop := fun r σ => r = none ∧ P σ
abbrev RI (M : MM) (d : Nat) (as : List PV) (σ : Sg) (P : Int → Sg → Prop) : Prop := RunsM M d as σ (qI P)
abbrev RV (M : MM) (d : Nat) (as : List PV) (σ : Sg) (P : Sg → Prop) : Prop := RunsM M d as σ (qV P)
theorem RI.mono {M : MM} {d : Nat} {as : List PV} {σ : Sg} {P P' : Int → Sg → Prop} (h : RI M d as σ P) (hq : ∀ z σ', P z σ' → P' z σ') : RI M d as σ P' := RunsM.mono h (fun r σ' ⟨z, h1, h2⟩ => ⟨z, h1, hq z σ' h2⟩)
theorem RV.mono {M : MM} {d : Nat} {as : List PV} {σ : Sg} {P P' : Sg → Prop} (h : RV M d as σ P) (hq : ∀ σ', P σ' → P' σ') : RV M d as σ P' := RunsM.mono h (fun r σ' ⟨h1, h2⟩ => ⟨h1, hq σ' h2⟩)
theorem jr_retI {M : MM} {d : Nat} {X : CT} (hF : Fix M d X) {pc : Nat} {lv : List (Option PV)} {σ : Sg} {P : Int → Sg → Prop} (hR : Ret X (qI P)) {z : Int} (hdg : decode M.2.1 pc = .ok (.ireturn, 1)) (hr : M.2.2.2 = some .int) (h : P z σ) : Gs X pc lv [vI z] σ := jr_ireturn (st := []) hF hR hr hdg ⟨z, rfl, h⟩
theorem jr_retZ {M : MM} {d : Nat} {X : CT} (hF : Fix M d X) {pc : Nat} {lv : List (Option PV)} {σ : Sg} {P : Int → Sg → Prop} (hR : Ret X (qI P)) {z : Int} (hdg : decode M.2.1 pc = .ok (.ireturn, 1)) (hr : M.2.2.2 = some .boolean) (hz : z = 0 ∨ z = 1) (h : P z σ) : Gs X pc lv [vI z] σ := jr_zreturn (st := []) hF hR hr hdg hz ⟨z, rfl, h⟩
theorem jr_retV {M : MM} {d : Nat} {X : CT} (hF : Fix M d X) {pc : Nat} {lv : List (Option PV)} {σ : Sg} {P : Sg → Prop} (hR : Ret X (qV P)) (hdg : decode M.2.1 pc = .ok (.return_, 1)) (hr : M.2.2.2 = none) (h : P σ) : Gs X pc lv [] σ := jr_return (st := []) hF hR hr hdg ⟨rfl, h⟩
theorem jr_cV0I {M : MM} {d : Nat} {X : CT} (hF : Fix M d X) {pc : Nat} {lv : List (Option PV)} {st : List PV} {σ : Sg} {Mc : MM} {dc idx b ci : Nat} {fs : List (Option Nat)} {C : String} {T : u_T} {N : Nat} {P : Int → Sg → Prop} (hM : RI Mc dc [vR b] σ P) (hdg : decode M.2.1 pc = .ok (.invokevirtual idx, 3)) {q : Nat} (hq : pc + 3 = q) (hlk0 : Cond.methodLink M.1.cls idx Mc.1 ∈ wsT) (hc : CV Mc 0) (hci : CI Mc) (hL : Lay[b]? = some (0, ci, 0, fs)) (hC : vwCl[ci]? = some (C, T, N)) (hCC : C = Mc.1.cls) (hdd : dc < d) (hrs : (st.map pcat).sum ≤ 8) (k : ∀ (z : Int) (σ1 : Sg), P z σ1 → Gs X q lv (vI z :: st) σ1) : Gs X pc lv (vR b :: st) σ := jr_callV hF [] hM hdg hq hlk0 hc hci hL hC hCC hdd hrs (fun r σ1 ⟨z, h1, h2⟩ => by subst h1; exact k z σ1 h2)
theorem jr_cV0V {M : MM} {d : Nat} {X : CT} (hF : Fix M d X) {pc : Nat} {lv : List (Option PV)} {st : List PV} {σ : Sg} {Mc : MM} {dc idx b ci : Nat} {fs : List (Option Nat)} {C : String} {T : u_T} {N : Nat} {P : Sg → Prop} (hM : RV Mc dc [vR b] σ P) (hdg : decode M.2.1 pc = .ok (.invokevirtual idx, 3)) {q : Nat} (hq : pc + 3 = q) (hlk0 : Cond.methodLink M.1.cls idx Mc.1 ∈ wsT) (hc : CV Mc 0) (hci : CI Mc) (hL : Lay[b]? = some (0, ci, 0, fs)) (hC : vwCl[ci]? = some (C, T, N)) (hCC : C = Mc.1.cls) (hdd : dc < d) (hrs : (st.map pcat).sum ≤ 8) (k : ∀ σ1 : Sg, P σ1 → Gs X q lv st σ1) : Gs X pc lv (vR b :: st) σ := jr_callV hF [] hM hdg hq hlk0 hc hci hL hC hCC hdd hrs (fun r σ1 ⟨h1, h2⟩ => by subst h1; exact k σ1 h2)
theorem jr_cV1I {M : MM} {d : Nat} {X : CT} (hF : Fix M d X) {pc : Nat} {lv : List (Option PV)} {st : List PV} {σ : Sg} {Mc : MM} {dc idx b ci : Nat} {fs : List (Option Nat)} {C : String} {T : u_T} {N : Nat} {P : Int → Sg → Prop} {a1 : PV} (hM : RI Mc dc [vR b, a1] σ P) (hdg : decode M.2.1 pc = .ok (.invokevirtual idx, 3)) {q : Nat} (hq : pc + 3 = q) (hlk0 : Cond.methodLink M.1.cls idx Mc.1 ∈ wsT) (hc : CV Mc 1) (hci : CI Mc) (hL : Lay[b]? = some (0, ci, 0, fs)) (hC : vwCl[ci]? = some (C, T, N)) (hCC : C = Mc.1.cls) (hdd : dc < d) (hrs : (st.map pcat).sum ≤ 8) (k : ∀ (z : Int) (σ1 : Sg), P z σ1 → Gs X q lv (vI z :: st) σ1) : Gs X pc lv (a1 :: vR b :: st) σ := jr_callV hF [a1] hM hdg hq hlk0 hc hci hL hC hCC hdd hrs (fun r σ1 ⟨z, h1, h2⟩ => by subst h1; exact k z σ1 h2)
theorem jr_cS1I {M : MM} {d : Nat} {X : CT} (hF : Fix M d X) {pc : Nat} {lv : List (Option PV)} {st : List PV} {σ : Sg} {Mc : MM} {dc idx : Nat} {P : Int → Sg → Prop} {a1 : PV} (hM : RI Mc dc [a1] σ P) (hdg : decode M.2.1 pc = .ok (.invokestatic idx, 3)) {q : Nat} (hq : pc + 3 = q) (hlk0 : Cond.methodLink M.1.cls idx Mc.1 ∈ wsT) (hc : CV Mc 1) (hci : Cond.static Mc.1 ∈ wsT) (hdd : dc < d) (hrs : (st.map pcat).sum ≤ 8) (k : ∀ (z : Int) (σ1 : Sg), P z σ1 → Gs X q lv (vI z :: st) σ1) : Gs X pc lv (a1 :: st) σ := jr_callS hF [a1] hM hdg hq hlk0 hc hci hdd hrs (fun r σ1 ⟨z, h1, h2⟩ => by subst h1; exact k z σ1 h2)
theorem jr_cV1V {M : MM} {d : Nat} {X : CT} (hF : Fix M d X) {pc : Nat} {lv : List (Option PV)} {st : List PV} {σ : Sg} {Mc : MM} {dc idx b ci : Nat} {fs : List (Option Nat)} {C : String} {T : u_T} {N : Nat} {P : Sg → Prop} {a1 : PV} (hM : RV Mc dc [vR b, a1] σ P) (hdg : decode M.2.1 pc = .ok (.invokevirtual idx, 3)) {q : Nat} (hq : pc + 3 = q) (hlk0 : Cond.methodLink M.1.cls idx Mc.1 ∈ wsT) (hc : CV Mc 1) (hci : CI Mc) (hL : Lay[b]? = some (0, ci, 0, fs)) (hC : vwCl[ci]? = some (C, T, N)) (hCC : C = Mc.1.cls) (hdd : dc < d) (hrs : (st.map pcat).sum ≤ 8) (k : ∀ σ1 : Sg, P σ1 → Gs X q lv st σ1) : Gs X pc lv (a1 :: vR b :: st) σ := jr_callV hF [a1] hM hdg hq hlk0 hc hci hL hC hCC hdd hrs (fun r σ1 ⟨h1, h2⟩ => by subst h1; exact k σ1 h2)
theorem jr_cS1V {M : MM} {d : Nat} {X : CT} (hF : Fix M d X) {pc : Nat} {lv : List (Option PV)} {st : List PV} {σ : Sg} {Mc : MM} {dc idx : Nat} {P : Sg → Prop} {a1 : PV} (hM : RV Mc dc [a1] σ P) (hdg : decode M.2.1 pc = .ok (.invokestatic idx, 3)) {q : Nat} (hq : pc + 3 = q) (hlk0 : Cond.methodLink M.1.cls idx Mc.1 ∈ wsT) (hc : CV Mc 1) (hci : Cond.static Mc.1 ∈ wsT) (hdd : dc < d) (hrs : (st.map pcat).sum ≤ 8) (k : ∀ σ1 : Sg, P σ1 → Gs X q lv st σ1) : Gs X pc lv (a1 :: st) σ := jr_callS hF [a1] hM hdg hq hlk0 hc hci hdd hrs (fun r σ1 ⟨h1, h2⟩ => by subst h1; exact k σ1 h2)
theorem jr_cV2I {M : MM} {d : Nat} {X : CT} (hF : Fix M d X) {pc : Nat} {lv : List (Option PV)} {st : List PV} {σ : Sg} {Mc : MM} {dc idx b ci : Nat} {fs : List (Option Nat)} {C : String} {T : u_T} {N : Nat} {P : Int → Sg → Prop} {a1 a2 : PV} (hM : RI Mc dc [vR b, a1, a2] σ P) (hdg : decode M.2.1 pc = .ok (.invokevirtual idx, 3)) {q : Nat} (hq : pc + 3 = q) (hlk0 : Cond.methodLink M.1.cls idx Mc.1 ∈ wsT) (hc : CV Mc 2) (hci : CI Mc) (hL : Lay[b]? = some (0, ci, 0, fs)) (hC : vwCl[ci]? = some (C, T, N)) (hCC : C = Mc.1.cls) (hdd : dc < d) (hrs : (st.map pcat).sum ≤ 8) (k : ∀ (z : Int) (σ1 : Sg), P z σ1 → Gs X q lv (vI z :: st) σ1) : Gs X pc lv (a2 :: a1 :: vR b :: st) σ := jr_callV hF [a1, a2] hM hdg hq hlk0 hc hci hL hC hCC hdd hrs (fun r σ1 ⟨z, h1, h2⟩ => by subst h1; exact k z σ1 h2)
theorem jr_cS2I {M : MM} {d : Nat} {X : CT} (hF : Fix M d X) {pc : Nat} {lv : List (Option PV)} {st : List PV} {σ : Sg} {Mc : MM} {dc idx : Nat} {P : Int → Sg → Prop} {a1 a2 : PV} (hM : RI Mc dc [a1, a2] σ P) (hdg : decode M.2.1 pc = .ok (.invokestatic idx, 3)) {q : Nat} (hq : pc + 3 = q) (hlk0 : Cond.methodLink M.1.cls idx Mc.1 ∈ wsT) (hc : CV Mc 2) (hci : Cond.static Mc.1 ∈ wsT) (hdd : dc < d) (hrs : (st.map pcat).sum ≤ 8) (k : ∀ (z : Int) (σ1 : Sg), P z σ1 → Gs X q lv (vI z :: st) σ1) : Gs X pc lv (a2 :: a1 :: st) σ := jr_callS hF [a1, a2] hM hdg hq hlk0 hc hci hdd hrs (fun r σ1 ⟨z, h1, h2⟩ => by subst h1; exact k z σ1 h2)
theorem jr_cV2V {M : MM} {d : Nat} {X : CT} (hF : Fix M d X) {pc : Nat} {lv : List (Option PV)} {st : List PV} {σ : Sg} {Mc : MM} {dc idx b ci : Nat} {fs : List (Option Nat)} {C : String} {T : u_T} {N : Nat} {P : Sg → Prop} {a1 a2 : PV} (hM : RV Mc dc [vR b, a1, a2] σ P) (hdg : decode M.2.1 pc = .ok (.invokevirtual idx, 3)) {q : Nat} (hq : pc + 3 = q) (hlk0 : Cond.methodLink M.1.cls idx Mc.1 ∈ wsT) (hc : CV Mc 2) (hci : CI Mc) (hL : Lay[b]? = some (0, ci, 0, fs)) (hC : vwCl[ci]? = some (C, T, N)) (hCC : C = Mc.1.cls) (hdd : dc < d) (hrs : (st.map pcat).sum ≤ 8) (k : ∀ σ1 : Sg, P σ1 → Gs X q lv st σ1) : Gs X pc lv (a2 :: a1 :: vR b :: st) σ := jr_callV hF [a1, a2] hM hdg hq hlk0 hc hci hL hC hCC hdd hrs (fun r σ1 ⟨h1, h2⟩ => by subst h1; exact k σ1 h2)
theorem jr_cS2V {M : MM} {d : Nat} {X : CT} (hF : Fix M d X) {pc : Nat} {lv : List (Option PV)} {st : List PV} {σ : Sg} {Mc : MM} {dc idx : Nat} {P : Sg → Prop} {a1 a2 : PV} (hM : RV Mc dc [a1, a2] σ P) (hdg : decode M.2.1 pc = .ok (.invokestatic idx, 3)) {q : Nat} (hq : pc + 3 = q) (hlk0 : Cond.methodLink M.1.cls idx Mc.1 ∈ wsT) (hc : CV Mc 2) (hci : Cond.static Mc.1 ∈ wsT) (hdd : dc < d) (hrs : (st.map pcat).sum ≤ 8) (k : ∀ σ1 : Sg, P σ1 → Gs X q lv st σ1) : Gs X pc lv (a2 :: a1 :: st) σ := jr_callS hF [a1, a2] hM hdg hq hlk0 hc hci hdd hrs (fun r σ1 ⟨h1, h2⟩ => by subst h1; exact k σ1 h2)
theorem jr_cV3I {M : MM} {d : Nat} {X : CT} (hF : Fix M d X) {pc : Nat} {lv : List (Option PV)} {st : List PV} {σ : Sg} {Mc : MM} {dc idx b ci : Nat} {fs : List (Option Nat)} {C : String} {T : u_T} {N : Nat} {P : Int → Sg → Prop} {a1 a2 a3 : PV} (hM : RI Mc dc [vR b, a1, a2, a3] σ P) (hdg : decode M.2.1 pc = .ok (.invokevirtual idx, 3)) {q : Nat} (hq : pc + 3 = q) (hlk0 : Cond.methodLink M.1.cls idx Mc.1 ∈ wsT) (hc : CV Mc 3) (hci : CI Mc) (hL : Lay[b]? = some (0, ci, 0, fs)) (hC : vwCl[ci]? = some (C, T, N)) (hCC : C = Mc.1.cls) (hdd : dc < d) (hrs : (st.map pcat).sum ≤ 8) (k : ∀ (z : Int) (σ1 : Sg), P z σ1 → Gs X q lv (vI z :: st) σ1) : Gs X pc lv (a3 :: a2 :: a1 :: vR b :: st) σ := jr_callV hF [a1, a2, a3] hM hdg hq hlk0 hc hci hL hC hCC hdd hrs (fun r σ1 ⟨z, h1, h2⟩ => by subst h1; exact k z σ1 h2)
theorem jr_cS3I {M : MM} {d : Nat} {X : CT} (hF : Fix M d X) {pc : Nat} {lv : List (Option PV)} {st : List PV} {σ : Sg} {Mc : MM} {dc idx : Nat} {P : Int → Sg → Prop} {a1 a2 a3 : PV} (hM : RI Mc dc [a1, a2, a3] σ P) (hdg : decode M.2.1 pc = .ok (.invokestatic idx, 3)) {q : Nat} (hq : pc + 3 = q) (hlk0 : Cond.methodLink M.1.cls idx Mc.1 ∈ wsT) (hc : CV Mc 3) (hci : Cond.static Mc.1 ∈ wsT) (hdd : dc < d) (hrs : (st.map pcat).sum ≤ 8) (k : ∀ (z : Int) (σ1 : Sg), P z σ1 → Gs X q lv (vI z :: st) σ1) : Gs X pc lv (a3 :: a2 :: a1 :: st) σ := jr_callS hF [a1, a2, a3] hM hdg hq hlk0 hc hci hdd hrs (fun r σ1 ⟨z, h1, h2⟩ => by subst h1; exact k z σ1 h2)
theorem jr_cN3I {M : MM} {d : Nat} {X : CT} (hF : Fix M d X) {pc : Nat} {lv : List (Option PV)} {st : List PV} {σ : Sg} {Mc : MM} {dc : Nat} {P : Int → Sg → Prop} {a1 a2 a3 : PV} (hM : RI Mc dc [a1, a2, a3] σ P) (hdg : decode M.2.1 pc = .ok (.invokestatic 39, 3)) {q : Nat} (hq : pc + 3 = q) (hown4 : M.1.cls = RX4) (hMc : Mc.1 = yX9_isWithin) (hc : CV Mc 3) (hci : Cond.static Mc.1 ∈ wsT) (hdd : dc < d) (hrs : (st.map pcat).sum ≤ 8) (k : ∀ (z : Int) (σ1 : Sg), P z σ1 → Gs X q lv (vI z :: st) σ1) : Gs X pc lv (a3 :: a2 :: a1 :: st) σ := jr_callN hF [a1, a2, a3] hM hdg hq hown4 hMc hc hci hdd hrs (fun r σ1 ⟨z, h1, h2⟩ => by subst h1; exact k z σ1 h2)
theorem jr_cV3V {M : MM} {d : Nat} {X : CT} (hF : Fix M d X) {pc : Nat} {lv : List (Option PV)} {st : List PV} {σ : Sg} {Mc : MM} {dc idx b ci : Nat} {fs : List (Option Nat)} {C : String} {T : u_T} {N : Nat} {P : Sg → Prop} {a1 a2 a3 : PV} (hM : RV Mc dc [vR b, a1, a2, a3] σ P) (hdg : decode M.2.1 pc = .ok (.invokevirtual idx, 3)) {q : Nat} (hq : pc + 3 = q) (hlk0 : Cond.methodLink M.1.cls idx Mc.1 ∈ wsT) (hc : CV Mc 3) (hci : CI Mc) (hL : Lay[b]? = some (0, ci, 0, fs)) (hC : vwCl[ci]? = some (C, T, N)) (hCC : C = Mc.1.cls) (hdd : dc < d) (hrs : (st.map pcat).sum ≤ 8) (k : ∀ σ1 : Sg, P σ1 → Gs X q lv st σ1) : Gs X pc lv (a3 :: a2 :: a1 :: vR b :: st) σ := jr_callV hF [a1, a2, a3] hM hdg hq hlk0 hc hci hL hC hCC hdd hrs (fun r σ1 ⟨h1, h2⟩ => by subst h1; exact k σ1 h2)
theorem jr_cS3V {M : MM} {d : Nat} {X : CT} (hF : Fix M d X) {pc : Nat} {lv : List (Option PV)} {st : List PV} {σ : Sg} {Mc : MM} {dc idx : Nat} {P : Sg → Prop} {a1 a2 a3 : PV} (hM : RV Mc dc [a1, a2, a3] σ P) (hdg : decode M.2.1 pc = .ok (.invokestatic idx, 3)) {q : Nat} (hq : pc + 3 = q) (hlk0 : Cond.methodLink M.1.cls idx Mc.1 ∈ wsT) (hc : CV Mc 3) (hci : Cond.static Mc.1 ∈ wsT) (hdd : dc < d) (hrs : (st.map pcat).sum ≤ 8) (k : ∀ σ1 : Sg, P σ1 → Gs X q lv st σ1) : Gs X pc lv (a3 :: a2 :: a1 :: st) σ := jr_callS hF [a1, a2, a3] hM hdg hq hlk0 hc hci hdd hrs (fun r σ1 ⟨h1, h2⟩ => by subst h1; exact k σ1 h2)
theorem jr_cV4I {M : MM} {d : Nat} {X : CT} (hF : Fix M d X) {pc : Nat} {lv : List (Option PV)} {st : List PV} {σ : Sg} {Mc : MM} {dc idx b ci : Nat} {fs : List (Option Nat)} {C : String} {T : u_T} {N : Nat} {P : Int → Sg → Prop} {a1 a2 a3 a4 : PV} (hM : RI Mc dc [vR b, a1, a2, a3, a4] σ P) (hdg : decode M.2.1 pc = .ok (.invokevirtual idx, 3)) {q : Nat} (hq : pc + 3 = q) (hlk0 : Cond.methodLink M.1.cls idx Mc.1 ∈ wsT) (hc : CV Mc 4) (hci : CI Mc) (hL : Lay[b]? = some (0, ci, 0, fs)) (hC : vwCl[ci]? = some (C, T, N)) (hCC : C = Mc.1.cls) (hdd : dc < d) (hrs : (st.map pcat).sum ≤ 8) (k : ∀ (z : Int) (σ1 : Sg), P z σ1 → Gs X q lv (vI z :: st) σ1) : Gs X pc lv (a4 :: a3 :: a2 :: a1 :: vR b :: st) σ := jr_callV hF [a1, a2, a3, a4] hM hdg hq hlk0 hc hci hL hC hCC hdd hrs (fun r σ1 ⟨z, h1, h2⟩ => by subst h1; exact k z σ1 h2)
theorem jr_cS4I {M : MM} {d : Nat} {X : CT} (hF : Fix M d X) {pc : Nat} {lv : List (Option PV)} {st : List PV} {σ : Sg} {Mc : MM} {dc idx : Nat} {P : Int → Sg → Prop} {a1 a2 a3 a4 : PV} (hM : RI Mc dc [a1, a2, a3, a4] σ P) (hdg : decode M.2.1 pc = .ok (.invokestatic idx, 3)) {q : Nat} (hq : pc + 3 = q) (hlk0 : Cond.methodLink M.1.cls idx Mc.1 ∈ wsT) (hc : CV Mc 4) (hci : Cond.static Mc.1 ∈ wsT) (hdd : dc < d) (hrs : (st.map pcat).sum ≤ 8) (k : ∀ (z : Int) (σ1 : Sg), P z σ1 → Gs X q lv (vI z :: st) σ1) : Gs X pc lv (a4 :: a3 :: a2 :: a1 :: st) σ := jr_callS hF [a1, a2, a3, a4] hM hdg hq hlk0 hc hci hdd hrs (fun r σ1 ⟨z, h1, h2⟩ => by subst h1; exact k z σ1 h2)
theorem jr_cV4V {M : MM} {d : Nat} {X : CT} (hF : Fix M d X) {pc : Nat} {lv : List (Option PV)} {st : List PV} {σ : Sg} {Mc : MM} {dc idx b ci : Nat} {fs : List (Option Nat)} {C : String} {T : u_T} {N : Nat} {P : Sg → Prop} {a1 a2 a3 a4 : PV} (hM : RV Mc dc [vR b, a1, a2, a3, a4] σ P) (hdg : decode M.2.1 pc = .ok (.invokevirtual idx, 3)) {q : Nat} (hq : pc + 3 = q) (hlk0 : Cond.methodLink M.1.cls idx Mc.1 ∈ wsT) (hc : CV Mc 4) (hci : CI Mc) (hL : Lay[b]? = some (0, ci, 0, fs)) (hC : vwCl[ci]? = some (C, T, N)) (hCC : C = Mc.1.cls) (hdd : dc < d) (hrs : (st.map pcat).sum ≤ 8) (k : ∀ σ1 : Sg, P σ1 → Gs X q lv st σ1) : Gs X pc lv (a4 :: a3 :: a2 :: a1 :: vR b :: st) σ := jr_callV hF [a1, a2, a3, a4] hM hdg hq hlk0 hc hci hL hC hCC hdd hrs (fun r σ1 ⟨h1, h2⟩ => by subst h1; exact k σ1 h2)
theorem jr_cS4V {M : MM} {d : Nat} {X : CT} (hF : Fix M d X) {pc : Nat} {lv : List (Option PV)} {st : List PV} {σ : Sg} {Mc : MM} {dc idx : Nat} {P : Sg → Prop} {a1 a2 a3 a4 : PV} (hM : RV Mc dc [a1, a2, a3, a4] σ P) (hdg : decode M.2.1 pc = .ok (.invokestatic idx, 3)) {q : Nat} (hq : pc + 3 = q) (hlk0 : Cond.methodLink M.1.cls idx Mc.1 ∈ wsT) (hc : CV Mc 4) (hci : Cond.static Mc.1 ∈ wsT) (hdd : dc < d) (hrs : (st.map pcat).sum ≤ 8) (k : ∀ σ1 : Sg, P σ1 → Gs X q lv st σ1) : Gs X pc lv (a4 :: a3 :: a2 :: a1 :: st) σ := jr_callS hF [a1, a2, a3, a4] hM hdg hq hlk0 hc hci hdd hrs (fun r σ1 ⟨h1, h2⟩ => by subst h1; exact k σ1 h2)
theorem jr_cS5I {M : MM} {d : Nat} {X : CT} (hF : Fix M d X) {pc : Nat} {lv : List (Option PV)} {st : List PV} {σ : Sg} {Mc : MM} {dc idx : Nat} {P : Int → Sg → Prop} {a1 a2 a3 a4 a5 : PV} (hM : RI Mc dc [a1, a2, a3, a4, a5] σ P) (hdg : decode M.2.1 pc = .ok (.invokestatic idx, 3)) {q : Nat} (hq : pc + 3 = q) (hlk0 : Cond.methodLink M.1.cls idx Mc.1 ∈ wsT) (hc : CV Mc 5) (hci : Cond.static Mc.1 ∈ wsT) (hdd : dc < d) (hrs : (st.map pcat).sum ≤ 8) (k : ∀ (z : Int) (σ1 : Sg), P z σ1 → Gs X q lv (vI z :: st) σ1) : Gs X pc lv (a5 :: a4 :: a3 :: a2 :: a1 :: st) σ := jr_callS hF [a1, a2, a3, a4, a5] hM hdg hq hlk0 hc hci hdd hrs (fun r σ1 ⟨z, h1, h2⟩ => by subst h1; exact k z σ1 h2)
theorem jr_cS5V {M : MM} {d : Nat} {X : CT} (hF : Fix M d X) {pc : Nat} {lv : List (Option PV)} {st : List PV} {σ : Sg} {Mc : MM} {dc idx : Nat} {P : Sg → Prop} {a1 a2 a3 a4 a5 : PV} (hM : RV Mc dc [a1, a2, a3, a4, a5] σ P) (hdg : decode M.2.1 pc = .ok (.invokestatic idx, 3)) {q : Nat} (hq : pc + 3 = q) (hlk0 : Cond.methodLink M.1.cls idx Mc.1 ∈ wsT) (hc : CV Mc 5) (hci : Cond.static Mc.1 ∈ wsT) (hdd : dc < d) (hrs : (st.map pcat).sum ≤ 8) (k : ∀ σ1 : Sg, P σ1 → Gs X q lv st σ1) : Gs X pc lv (a5 :: a4 :: a3 :: a2 :: a1 :: st) σ := jr_callS hF [a1, a2, a3, a4, a5] hM hdg hq hlk0 hc hci hdd hrs (fun r σ1 ⟨h1, h2⟩ => by subst h1; exact k σ1 h2)
end
section
/-! ===== the fair, as numbers ===== -/
theorem gs_loop {X : CT} {pc : Nat} {α : Type} (L : Nat → α → List (Option PV)) (S : α → Sg) (I : Nat → α → Prop) (n : Nat) (hx : ∀ a, I n a → Gs X pc (L n a) [] (S a)) (hs : ∀ k a, k < n → I k a → (∀ a', I (k + 1) a' → Gs X pc (L (k + 1) a') [] (S a')) → Gs X pc (L k a) [] (S a)) (a : α) (h0 : I 0 a) : Gs X pc (L 0 a) [] (S a) := by
  have key : ∀ (j k : Nat) (a : α), k + j = n → I k a → Gs X pc (L k a) [] (S a) := by
    intro j
    induction j with
    | zero =>
      intro k a hk hI
      have e : k = n := by omega
      subst e
      exact hx a hI
    | succ j ih =>
      intro k a hk hI
      exact hs k a (by omega) hI (fun a' h' => ih (k + 1) a' (by omega) h')
  exact key n 0 a (by omega) h0
theorem gs_down {X : CT} {pc : Nat} {α : Type} (L : α → List (Option PV)) (S : α → Sg) (I : Nat → α → Prop) (hz : ∀ a, I 0 a → Gs X pc (L a) [] (S a)) (hs : ∀ k a, I (k + 1) a → (∀ a', I k a' → Gs X pc (L a') [] (S a')) → Gs X pc (L a) [] (S a)) (n : Nat) (a : α) (h0 : I n a) : Gs X pc (L a) [] (S a) := by
  have key : ∀ (k : Nat) (a : α), I k a → Gs X pc (L a) [] (S a) := by
    intro k
    induction k with
    | zero => exact hz
    | succ k ih => exact fun a h => hs k a h ih
  exact key n a h0
def cnt (f : Nat → Bool) (n : Nat) : Int := match n with
  | 0 => 0
  | n + 1 => cnt f n + (if f n = true then 1 else 0)
theorem cnt_le (f : Nat → Bool) (n : Nat) : 0 ≤ cnt f n ∧ cnt f n ≤ n := by
  induction n with
  | zero => exact ⟨Int.le_refl _, Int.le_refl _⟩
  | succ n ih =>
    unfold cnt
    split <;> omega
theorem cnt_congr {f g : Nat → Bool} {n : Nat} (h : ∀ i, i < n → f i = g i) : cnt f n = cnt g n := by
  induction n with
  | zero => rfl
  | succ n ih =>
    unfold cnt
    rw [ih (fun i hi => h i (by omega)), h n (by omega)]
theorem cnt_zero {f : Nat → Bool} {n : Nat} (h : ∀ i, i < n → f i = false) : cnt f n = 0 := by
  induction n with
  | zero => rfl
  | succ n ih =>
    unfold cnt
    rw [ih (fun i hi => h i (by omega)), h n (by omega)]
    rfl
/-- masters, lads, room, kind, want, limit, calls, step -/
abbrev FD : Type := Nat × Nat × (Nat → Int) × (Nat → Int) × (Nat → Nat → Int) × (Nat → Int) × Int × Int
abbrev f_nm (F : FD) : Nat := F.1
abbrev f_nl (F : FD) : Nat := F.2.1
abbrev f_rm (F : FD) : Nat → Int := F.2.2.1
abbrev f_kd (F : FD) : Nat → Int := F.2.2.2.1
abbrev f_wt (F : FD) : Nat → Nat → Int := F.2.2.2.2.1
abbrev f_lm (F : FD) : Nat → Int := F.2.2.2.2.2.1
abbrev f_ca (F : FD) : Int := F.2.2.2.2.2.2.1
abbrev f_sp (F : FD) : Int := F.2.2.2.2.2.2.2
def okF (F : FD) : Prop := f_nm F ≤ 3 ∧ f_nl F ≤ 5 ∧ (∀ m, m < f_nm F → 1 ≤ f_rm F m ∧ f_rm F m ≤ 3) ∧ (∀ i, i < f_nl F → 0 ≤ f_kd F i ∧ f_kd F i ≤ 3) ∧ (∀ i m, i < f_nl F → m < f_nm F → 0 ≤ f_wt F i m ∧ f_wt F i m ≤ 10) ∧ (∀ i, i < f_nl F → 1 ≤ f_lm F i ∧ f_lm F i ≤ 10) ∧ (0 ≤ f_ca F ∧ f_ca F ≤ 2) ∧ (1 ≤ f_sp F ∧ f_sp F ≤ 3)
def f_bnd (F : FD) (i m : Nat) : Int :=
  if f_kd F i = 1 then (if f_lm F i < f_wt F i m then f_lm F i else f_wt F i m) / 2
  else if f_kd F i = 2 then (if 5 ≤ f_wt F i m then (if f_lm F i < f_wt F i m then f_lm F i else f_wt F i m) else 0)
  else if f_kd F i = 3 then (if f_lm F i < f_wt F i m then f_lm F i else f_wt F i m) - (if f_lm F i < f_wt F i m then f_lm F i else f_wt F i m) % 2
  else (if f_lm F i < f_wt F i m then f_lm F i else f_wt F i m)
theorem f_bnd_le {F : FD} (h : okF F) {i m : Nat} (hi : i < f_nl F) (hm : m < f_nm F) : 0 ≤ f_bnd F i m ∧ f_bnd F i m ≤ 10 ∧ f_bnd F i m ≤ f_wt F i m := by
  obtain ⟨h1, h2, h3, h4, h5, h6, h7, h8⟩ := h
  have a1 := h5 i m hi hm
  have a2 := h6 i hi
  unfold f_bnd
  generalize f_wt F i m = w at *
  generalize f_lm F i = l at *
  have e : 0 ≤ (if l < w then l else w) ∧ (if l < w then l else w) ≤ 10 ∧ (if l < w then l else w) ≤ w := by split <;> omega
  generalize (if l < w then l else w) = v at *
  repeat' split
  all_goals omega
def f_bd (F : FD) (ab i m : Nat) : Int := if i = ab then 0 else f_bnd F i m
theorem f_bd_le {F : FD} (h : okF F) (ab : Nat) {i m : Nat} (hi : i < f_nl F) (hm : m < f_nm F) : 0 ≤ f_bd F ab i m ∧ f_bd F ab i m ≤ 10 ∧ f_bd F ab i m ≤ f_wt F i m := by
  have h1 := f_bnd_le h hi hm
  have h2 := h.2.2.2.2.1 i m hi hm
  unfold f_bd
  split <;> omega
def f_in (F : FD) (ab : Nat) (g : Nat → Int) (m : Nat) (p : Int) (i : Nat) : Bool := decide (g i = -4 ∧ p ≤ f_bd F ab i m)
theorem f_in_big {F : FD} (h : okF F) {ab : Nat} {g : Nat → Int} {m : Nat} {p : Int} (hm : m < f_nm F) (hp : 10 < p) : cnt (f_in F ab g m p) (f_nl F) = 0 := by
  apply cnt_zero
  intro i hi
  have := f_bd_le h ab hi hm
  unfold f_in
  simp only [decide_eq_false_iff_not]
  omega
def st1 (f : Nat → Int) (n : Nat) (v : Int) : Nat → Int := fun j => if j = n then v else f j
abbrev GY : Type := (Nat → Int) × (Nat → Int)
abbrev GYL : Type := (Nat → Int) × (Nat → Int) × Int
/-- the lowest of S, below n, get m for p years, as long as there is room -/
def grant (S : Nat → Bool) (m p : Int) (n : Nat) (q : GYL) : GYL := match n with
  | 0 => q
  | n + 1 => if S n = true ∧ 0 < (grant S m p n q).2.2 then (st1 (grant S m p n q).1 n m, st1 (grant S m p n q).2.1 n p, (grant S m p n q).2.2 - 1) else grant S m p n q
theorem grant_hi (S : Nat → Bool) (m p : Int) (n : Nat) (q : GYL) : ∀ j, n ≤ j → (grant S m p n q).1 j = q.1 j ∧ (grant S m p n q).2.1 j = q.2.1 j := by
  induction n with
  | zero => intro j _; exact ⟨rfl, rfl⟩
  | succ n ih =>
    intro j hj
    have h := ih j (by omega)
    unfold grant
    split
    · simp only [st1]
      rw [if_neg (by omega), if_neg (by omega)]
      exact h
    · exact h
theorem grant_cases (S : Nat → Bool) (m p : Int) (n : Nat) (q : GYL) : ∀ j, ((grant S m p n q).1 j = q.1 j ∧ (grant S m p n q).2.1 j = q.2.1 j) ∨ (j < n ∧ S j = true ∧ (grant S m p n q).1 j = m ∧ (grant S m p n q).2.1 j = p) := by
  induction n with
  | zero => intro j; exact Or.inl ⟨rfl, rfl⟩
  | succ n ih =>
    intro j
    unfold grant
    split
    · rename_i hc
      simp only [st1]
      by_cases e : j = n
      · subst e
        right
        rw [if_pos rfl, if_pos rfl]
        exact ⟨by omega, hc.1, rfl, rfl⟩
      · rw [if_neg e, if_neg e]
        rcases ih j with h | h
        · exact Or.inl h
        · exact Or.inr ⟨by omega, h.2⟩
    · rcases ih j with h | h
      · exact Or.inl h
      · exact Or.inr ⟨by omega, h.2⟩
theorem grant_left (S : Nat → Bool) (m p : Int) (n : Nat) (q : GYL) (h : 0 ≤ q.2.2) : 0 ≤ (grant S m p n q).2.2 ∧ (grant S m p n q).2.2 ≤ q.2.2 := by
  induction n with
  | zero => exact ⟨h, Int.le_refl _⟩
  | succ n ih =>
    unfold grant
    split
    · rename_i hc
      have := hc.2
      show 0 ≤ _ - 1 ∧ _ - 1 ≤ _
      omega
    · exact ih
theorem grant_stop (S : Nat → Bool) (m p : Int) (q : GYL) (k : Nat) (h : (grant S m p k q).2.2 ≤ 0) : ∀ n, k ≤ n → grant S m p n q = grant S m p k q := by
  intro n
  induction n with
  | zero =>
    intro hk
    have e : k = 0 := by omega
    subst e
    rfl
  | succ n ih =>
    intro hk
    by_cases e : k = n + 1
    · subst e; rfl
    · have h1 := ih (by omega)
      rw [grant, h1, if_neg (by omega)]
theorem grant_congr {S S' : Nat → Bool} {m p : Int} {n : Nat} {q : GYL} (h : ∀ i, i < n → S i = S' i) : grant S m p n q = grant S' m p n q := by
  induction n with
  | zero => rfl
  | succ n ih =>
    unfold grant
    rw [ih (fun i hi => h i (by omega)), h n (by omega)]
theorem grant_empty {S : Nat → Bool} {m p : Int} {n : Nat} {q : GYL} (h : ∀ i, i < n → S i = false) : grant S m p n q = q := by
  induction n with
  | zero => rfl
  | succ n ih =>
    unfold grant
    rw [ih (fun i hi => h i (by omega)), if_neg]
    rw [h n (by omega)]
    simp
theorem grant_all (S : Nat → Bool) (m p : Int) (q : GYL) : ∀ n, cnt S n ≤ q.2.2 → (grant S m p n q).2.2 = q.2.2 - cnt S n ∧ ∀ j, j < n → (grant S m p n q).1 j = if S j = true then m else q.1 j := by
  intro n
  induction n with
  | zero =>
    intro _
    exact ⟨by simp [grant, cnt], fun j hj => by omega⟩
  | succ n ih =>
    intro h
    have hc := cnt_le S n
    have e : cnt S (n + 1) = cnt S n + (if S n = true then 1 else 0) := rfl
    by_cases hS : S n = true
    · rw [if_pos hS] at e
      obtain ⟨h1, h2⟩ := ih (by omega)
      have hpos : 0 < (grant S m p n q).2.2 := by omega
      rw [grant, if_pos ⟨hS, hpos⟩]
      refine ⟨by show _ - 1 = _; omega, fun j hj => ?_⟩
      show st1 _ n m j = _
      unfold st1
      by_cases ej : j = n
      · subst ej
        rw [if_pos rfl, if_pos hS]
      · rw [if_neg ej]
        exact h2 j (by omega)
    · rw [if_neg hS] at e
      obtain ⟨h1, h2⟩ := ih (by omega)
      rw [grant, if_neg (fun hh => hS hh.1)]
      refine ⟨by omega, fun j hj => ?_⟩
      by_cases ej : j = n
      · subst ej
        rw [if_neg hS]
        exact (grant_hi S m p j q j (Nat.le_refl _)).1
      · exact h2 j (by omega)
/-- the years at which the calls from below end -/
def f_pB (F : FD) (ab : Nat) (g : Nat → Int) (m : Nat) (n : Nat) (p : Int) : Int := match n with
  | 0 => p
  | n + 1 => if cnt (f_in F ab g m p) (f_nl F) ≤ f_rm F m then p else f_pB F ab g m n (p + f_sp F)
theorem f_pB_ge {F : FD} (h : okF F) (ab : Nat) (g : Nat → Int) (m n : Nat) : ∀ p, f_pB F ab g m n p = p ∨ p + f_sp F ≤ f_pB F ab g m n p := by
  have hs := h.2.2.2.2.2.2.2
  induction n with
  | zero => intro p; exact Or.inl rfl
  | succ n ih =>
    intro p
    unfold f_pB
    split
    · exact Or.inl rfl
    · rcases ih (p + f_sp F) with e | e <;> omega
theorem f_pB_cnt {F : FD} (h : okF F) (ab : Nat) (g : Nat → Int) {m : Nat} (hm : m < f_nm F) (n : Nat) : ∀ p : Int, 12 ≤ p + n → cnt (f_in F ab g m (f_pB F ab g m n p)) (f_nl F) ≤ f_rm F m := by
  have hs := h.2.2.2.2.2.2.2
  have hr := h.2.2.1 m hm
  induction n with
  | zero =>
    intro p hp
    show cnt (f_in F ab g m p) _ ≤ _
    rw [f_in_big h hm (by omega)]
    omega
  | succ n ih =>
    intro p hp
    unfold f_pB
    split
    · assumption
    · exact ih _ (by omega)
theorem f_pB_le {F : FD} (h : okF F) (ab : Nat) (g : Nat → Int) {m : Nat} (hm : m < f_nm F) (n : Nat) : ∀ p : Int, p ≤ 13 → f_pB F ab g m n p ≤ 13 := by
  have hs := h.2.2.2.2.2.2.2
  have hr := h.2.2.1 m hm
  induction n with
  | zero => intro p hp; exact hp
  | succ n ih =>
    intro p hp
    unfold f_pB
    split
    · exact hp
    · rename_i hc
      refine ih _ ?_
      by_cases e : 10 < p
      · rw [f_in_big h hm e] at hc
        omega
      · omega
def f_end (F : FD) (ab : Nat) (g : Nat → Int) (m : Nat) : Int := f_pB F ab g m 11 1
def f_bel1 (F : FD) (ab m : Nat) (w : GY) : GYL := grant (f_in F ab w.1 m (f_end F ab w.1 m)) m (f_end F ab w.1 m) (f_nl F) (w.1, w.2, f_rm F m)
def f_bel (F : FD) (ab m : Nat) (w : GY) : GYL :=
  if 1 < f_end F ab w.1 m then grant (fun i => f_in F ab w.1 m (f_end F ab w.1 m - f_sp F) i && !f_in F ab w.1 m (f_end F ab w.1 m) i) m (f_end F ab w.1 m - f_sp F) (f_nl F) (f_bel1 F ab m w) else f_bel1 F ab m w
def f_abv (F : FD) (ab m : Nat) (s : Int) (n : Nat) (q : GYL) : GYL := match n with
  | 0 => q
  | n + 1 => if 1 ≤ 10 - n * s then grant (f_in F ab (f_abv F ab m s n q).1 m (10 - n * s)) m (10 - n * s) (f_nl F) (f_abv F ab m s n q) else f_abv F ab m s n q
def f_one (F : FD) (ab m : Nat) (w : GY) : GY :=
  if f_ca F = 0 then ((f_bel F ab m w).1, (f_bel F ab m w).2.1)
  else ((f_abv F ab m (if f_ca F = 1 then f_sp F else 1) 10 (w.1, w.2, f_rm F m)).1, (f_abv F ab m (if f_ca F = 1 then f_sp F else 1) 10 (w.1, w.2, f_rm F m)).2.1)
def f_fair (F : FD) (ab : Nat) (n : Nat) : GY := match n with
  | 0 => (fun _ => -4, fun _ => 0)
  | n + 1 => f_one F ab n (f_fair F ab n)
/-- every lad has nobody, or one of the masters called, for at most his bound -/
def wOK (F : FD) (ab n : Nat) (w : GY) : Prop := ∀ i, (w.1 i = -4 ∧ w.2 i = 0) ∨ ∃ m, m < n ∧ i < f_nl F ∧ w.1 i = (m : Int) ∧ 1 ≤ w.2 i ∧ w.2 i ≤ f_bd F ab i m
theorem wOK_grant {F : FD} {ab m : Nat} {S : Nat → Bool} {p : Int} {q : GYL} (hp : 1 ≤ p) (hS : ∀ i, i < f_nl F → S i = true → p ≤ f_bd F ab i m) (h : wOK F ab (m + 1) (q.1, q.2.1)) : wOK F ab (m + 1) ((grant S m p (f_nl F) q).1, (grant S m p (f_nl F) q).2.1) := by
  intro i
  rcases grant_cases S m p (f_nl F) q i with ⟨h1, h2⟩ | ⟨h1, h2, h3, h4⟩
  · have h0 := h i
    simp only [h1, h2]
    exact h0
  · right
    refine ⟨m, by omega, h1, h3, ?_, ?_⟩
    · show 1 ≤ (grant S m p (f_nl F) q).2.1 i
      omega
    · show (grant S m p (f_nl F) q).2.1 i ≤ _
      have := hS i h1 h2
      omega
theorem wOK_mono {F : FD} {ab n n' : Nat} {w : GY} (h : wOK F ab n w) (hn : n ≤ n') : wOK F ab n' w := fun i => (h i).elim Or.inl (fun ⟨m, h1, h2⟩ => Or.inr ⟨m, by omega, h2⟩)
theorem f_in_bd {F : FD} {ab : Nat} {g : Nat → Int} {m : Nat} {p : Int} {i : Nat} (h : f_in F ab g m p i = true) : g i = -4 ∧ p ≤ f_bd F ab i m := by
  unfold f_in at h
  simpa using h
theorem wOK_bel {F : FD} (hF : okF F) {ab m : Nat} {w : GY} (h : wOK F ab m w) : wOK F ab (m + 1) ((f_bel F ab m w).1, (f_bel F ab m w).2.1) := by
  have h1 : 1 ≤ f_end F ab w.1 m := by
    have := hF.2.2.2.2.2.2.2
    rcases f_pB_ge hF ab w.1 m 11 1 with e | e <;> (unfold f_end; omega)
  have hb : wOK F ab (m + 1) ((f_bel1 F ab m w).1, (f_bel1 F ab m w).2.1) := wOK_grant h1 (fun i _ hi => (f_in_bd hi).2) (wOK_mono h (by omega))
  unfold f_bel
  split
  · refine wOK_grant ?_ (fun i _ hi => ?_) hb
    · rcases f_pB_ge hF ab w.1 m 11 1 with e | e
      · rename_i hc
        unfold f_end at hc
        omega
      · unfold f_end
        omega
    · rw [Bool.and_eq_true] at hi
      exact (f_in_bd hi.1).2
  · exact hb
theorem wOK_abv {F : FD} {ab m : Nat} {s : Int} {q : GYL} (h : wOK F ab (m + 1) (q.1, q.2.1)) : ∀ n, wOK F ab (m + 1) ((f_abv F ab m s n q).1, (f_abv F ab m s n q).2.1) := by
  intro n
  induction n with
  | zero => exact h
  | succ n ih =>
    unfold f_abv
    split
    · rename_i hc
      exact wOK_grant hc (fun i _ hi => (f_in_bd hi).2) ih
    · exact ih
theorem wOK_fair {F : FD} (hF : okF F) (ab : Nat) : ∀ n, wOK F ab n (f_fair F ab n) := by
  intro n
  induction n with
  | zero => intro i; exact Or.inl ⟨rfl, rfl⟩
  | succ n ih =>
    unfold f_fair f_one
    split
    · exact wOK_bel hF ih
    · exact wOK_abv (q := ((f_fair F ab n).1, (f_fair F ab n).2, f_rm F n)) (wOK_mono ih (by omega)) 10
end
section
/-! ===== small methods: bounds, who is in ===== -/
set_option maxRecDepth 100000 in
theorem c_isWithin (σ : Sg) (a lo hi : Int) : RI mX9_isWithin 1 [vI a, vI lo, vI hi] σ (fun z σ' => z = (if lo ≤ a ∧ a ≤ hi then 1 else 0) ∧ σ = σ') := by
  refine mkRun (by decide +kernel) (Nat.le_of_ble_eq_true rfl) (fun X hF hR => ?_)
  refine jr_iload_n hF dX9_isWithin_0 (q := 1) rfl rfl ?_
  refine jr_iload_n hF dX9_isWithin_1 (q := 2) rfl rfl ?_
  refine jr_icmp_lt hF dX9_isWithin_2 (q := 5) rfl 14 (by decide) (fun h1 => ?_) (fun h1 => ?_)
  · refine jr_iconst hF dX9_isWithin_14 (q := 15) rfl (by decide) ?_
    refine jr_retZ hF hR dX9_isWithin_15 rfl (by first | exact Or.inl rfl | exact Or.inr rfl | omega) ⟨by rw [if_neg (by omega)], rfl⟩
  · refine jr_iload_n hF dX9_isWithin_5 (q := 6) rfl rfl ?_
    refine jr_iload_n hF dX9_isWithin_6 (q := 7) rfl rfl ?_
    refine jr_icmp_gt hF dX9_isWithin_7 (q := 10) rfl 14 (by decide) (fun h2 => ?_) (fun h2 => ?_)
    · refine jr_iconst hF dX9_isWithin_14 (q := 15) rfl (by decide) ?_
      refine jr_retZ hF hR dX9_isWithin_15 rfl (by first | exact Or.inl rfl | exact Or.inr rfl | omega) ⟨by rw [if_neg (by omega)], rfl⟩
    · refine jr_iconst hF dX9_isWithin_10 (q := 11) rfl (by decide) ?_
      refine jr_goto hF dX9_isWithin_11 15 (by decide) ?_
      refine jr_retZ hF hR dX9_isWithin_15 rfl (by first | exact Or.inl rfl | exact Or.inr rfl | omega) ⟨by rw [if_pos (by omega)], rfl⟩
set_option maxRecDepth 100000 in
theorem c_hasLad (σ : Sg) (pl : Nat) (hpl : pl = 4 ∨ pl = 14) (i : Int) : RI mX4_hasLad 1 [vR pl, vI i] σ (fun z σ' => z = (if 0 ≤ i ∧ i < σ pl 1 then 1 else 0) ∧ σ = σ') := by
  rcases hpl with rfl | rfl
  all_goals
    refine mkRun (by decide +kernel) (Nat.le_of_ble_eq_true rfl) (fun X hF hR => ?_)
    refine jr_iload_n hF dX4_hasLad_0 (q := 1) rfl rfl ?_
    refine jr_if_lt hF dX4_hasLad_1 (q := 4) rfl 16 (by decide) (fun h1 => ?_) (fun h1 => ?_)
    · refine jr_iconst hF dX4_hasLad_16 (q := 17) rfl (by decide) ?_
      refine jr_retZ hF hR dX4_hasLad_17 rfl (by first | exact Or.inl rfl | exact Or.inr rfl | omega) ⟨by rw [if_neg (by omega)], rfl⟩
    · refine jr_iload_n hF dX4_hasLad_4 (q := 5) rfl rfl ?_
      refine jr_aload_n hF dX4_hasLad_5 (q := 6) rfl rfl ?_
      refine jr_getI (ci := 4) (j := 1) hF 1 rfl dX4_hasLad_6 (q := 9) rfl rfl rfl fl4_30 ?_
      refine jr_icmp_ge hF dX4_hasLad_9 (q := 12) rfl 16 (by decide) (fun h2 => ?_) (fun h2 => ?_)
      · refine jr_iconst hF dX4_hasLad_16 (q := 17) rfl (by decide) ?_
        refine jr_retZ hF hR dX4_hasLad_17 rfl (by first | exact Or.inl rfl | exact Or.inr rfl | omega) ⟨by rw [if_neg (by omega)], rfl⟩
      · refine jr_iconst hF dX4_hasLad_12 (q := 13) rfl (by decide) ?_
        refine jr_goto hF dX4_hasLad_13 17 (by decide) ?_
        refine jr_retZ hF hR dX4_hasLad_17 rfl (by first | exact Or.inl rfl | exact Or.inr rfl | omega) ⟨by rw [if_pos (by omega)], rfl⟩
set_option maxRecDepth 100000 in
theorem c_hasMaster (σ : Sg) (pl : Nat) (hpl : pl = 4 ∨ pl = 14) (i : Int) : RI mX4_hasMaster 1 [vR pl, vI i] σ (fun z σ' => z = (if 0 ≤ i ∧ i < σ pl 0 then 1 else 0) ∧ σ = σ') := by
  rcases hpl with rfl | rfl
  all_goals
    refine mkRun (by decide +kernel) (Nat.le_of_ble_eq_true rfl) (fun X hF hR => ?_)
    refine jr_iload_n hF dX4_hasMaster_0 (q := 1) rfl rfl ?_
    refine jr_if_lt hF dX4_hasMaster_1 (q := 4) rfl 16 (by decide) (fun h1 => ?_) (fun h1 => ?_)
    · refine jr_iconst hF dX4_hasMaster_16 (q := 17) rfl (by decide) ?_
      refine jr_retZ hF hR dX4_hasMaster_17 rfl (by first | exact Or.inl rfl | exact Or.inr rfl | omega) ⟨by rw [if_neg (by omega)], rfl⟩
    · refine jr_iload_n hF dX4_hasMaster_4 (q := 5) rfl rfl ?_
      refine jr_aload_n hF dX4_hasMaster_5 (q := 6) rfl rfl ?_
      refine jr_getI (ci := 4) (j := 0) hF 0 rfl dX4_hasMaster_6 (q := 9) rfl rfl rfl fl4_26 ?_
      refine jr_icmp_ge hF dX4_hasMaster_9 (q := 12) rfl 16 (by decide) (fun h2 => ?_) (fun h2 => ?_)
      · refine jr_iconst hF dX4_hasMaster_16 (q := 17) rfl (by decide) ?_
        refine jr_retZ hF hR dX4_hasMaster_17 rfl (by first | exact Or.inl rfl | exact Or.inr rfl | omega) ⟨by rw [if_neg (by omega)], rfl⟩
      · refine jr_iconst hF dX4_hasMaster_12 (q := 13) rfl (by decide) ?_
        refine jr_goto hF dX4_hasMaster_13 17 (by decide) ?_
        refine jr_retZ hF hR dX4_hasMaster_17 rfl (by first | exact Or.inl rfl | exact Or.inr rfl | omega) ⟨by rw [if_pos (by omega)], rfl⟩
set_option maxRecDepth 100000 in
theorem c_isIn (σ : Sg) (i p : Int) (hi : 0 ≤ i ∧ i < 5) : RI mX2_isIn 1 [vR 24, vI i, vI p] σ (fun z σ' => z = (if σ 25 i = -4 ∧ p ≤ σ 27 i then 1 else 0) ∧ σ = σ') := by
  refine mkRun (by decide +kernel) (Nat.le_of_ble_eq_true rfl) (fun X hF hR => ?_)
  refine jr_aload_n hF dX2_isIn_0 (q := 1) rfl rfl ?_
  refine jr_getR (ci := 2) (j := 0) hF dX2_isIn_1 (q := 4) rfl rfl rfl fl2_9 ?_
  refine jr_iload_n hF dX2_isIn_4 (q := 5) rfl rfl ?_
  refine jr_iald hF dX2_isIn_5 (q := 6) rfl rfl (by omega) ?_
  refine jr_bipush hF dX2_isIn_6 (q := 8) rfl (by decide) (by decide +kernel) ?_
  refine jr_icmp_ne hF dX2_isIn_8 (q := 11) rfl 25 (by decide) (fun h1 => ?_) (fun h1 => ?_)
  · refine jr_iconst hF dX2_isIn_25 (q := 26) rfl (by decide) ?_
    refine jr_retZ hF hR dX2_isIn_26 rfl (by first | exact Or.inl rfl | exact Or.inr rfl | omega) ⟨by rw [if_neg (by omega)], rfl⟩
  · refine jr_aload_n hF dX2_isIn_11 (q := 12) rfl rfl ?_
    refine jr_getR (ci := 2) (j := 2) hF dX2_isIn_12 (q := 15) rfl rfl rfl fl2_18 ?_
    refine jr_iload_n hF dX2_isIn_15 (q := 16) rfl rfl ?_
    refine jr_iald hF dX2_isIn_16 (q := 17) rfl rfl (by omega) ?_
    refine jr_iload_n hF dX2_isIn_17 (q := 18) rfl rfl ?_
    refine jr_icmp_lt hF dX2_isIn_18 (q := 21) rfl 25 (by decide) (fun h2 => ?_) (fun h2 => ?_)
    · refine jr_iconst hF dX2_isIn_25 (q := 26) rfl (by decide) ?_
      refine jr_retZ hF hR dX2_isIn_26 rfl (by first | exact Or.inl rfl | exact Or.inr rfl | omega) ⟨by rw [if_neg (by omega)], rfl⟩
    · refine jr_iconst hF dX2_isIn_21 (q := 22) rfl (by decide) ?_
      refine jr_goto hF dX2_isIn_22 26 (by decide) ?_
      refine jr_retZ hF hR dX2_isIn_26 rfl (by first | exact Or.inl rfl | exact Or.inr rfl | omega) ⟨by rw [if_pos (by omega)], rfl⟩
/-- Arrays.fill -/
theorem uc_uc (σ : Sg) (a : Nat) (f g : Int → Int) : uc (uc σ a f) a g = uc σ a g := by
  funext k
  unfold uc
  split <;> rfl
theorem uc_self (σ : Sg) (a : Nat) : uc σ a (σ a) = σ := by
  funext k
  unfold uc
  split
  · rename_i h; rw [h]
  · rfl
set_option maxRecDepth 100000 in
theorem c_fill (σ : Sg) (a n b : Nat) (fs : List (Option Nat)) (hL : Lay[a]? = some (1, n, b, fs)) (hn : n < 1000) (v : Int) : RV mJ7_fill_53178 1 [vR a, vI v] σ (fun σ' => uc σ a (fun j => if 0 ≤ j ∧ j < (n : Int) then v else σ a j) = σ') := by
  refine mkRun (by decide +kernel) (Nat.le_of_ble_eq_true rfl) (fun X hF hR => ?_)
  refine jr_iconst hF dJ7_fill_53178_0 (q := 1) rfl (by decide) ?_
  refine jr_istore_n hF dJ7_fill_53178_1 (q := 2) rfl (by decide) rfl ?_
  refine jr_aload_n hF dJ7_fill_53178_2 (q := 3) rfl rfl ?_
  refine jr_alen hF dJ7_fill_53178_3 (q := 4) rfl hL hn ?_
  refine jr_istore_n hF dJ7_fill_53178_4 (q := 5) rfl (by decide) rfl ?_
  have e0 : σ = uc σ a (fun j => if 0 ≤ j ∧ j < ((0 : Nat) : Int) then v else σ a j) := by
    have : (fun j => if 0 ≤ j ∧ j < ((0 : Nat) : Int) then v else σ a j) = σ a := by
      funext j
      rw [if_neg (by omega)]
    rw [this, uc_self]
  have key := gs_loop (X := X) (pc := 5) (α := Unit) (fun k _ => [some (vR a), some (vI v), some (vI (k : Int)), some (vI (n : Int))]) (fun _ => σ) (fun k _ => True) n
  have main : ∀ j k : Nat, k + j = n → Gs X 5 [some (vR a), some (vI v), some (vI (k : Int)), some (vI (n : Int))] [] (uc σ a (fun j => if 0 ≤ j ∧ j < (k : Int) then v else σ a j)) := by
    intro j
    induction j with
    | zero =>
      intro k hk
      have e : k = n := by omega
      subst e
      refine jr_iload_n hF dJ7_fill_53178_5 (q := 6) rfl rfl ?_
      refine jr_iload_n hF dJ7_fill_53178_6 (q := 7) rfl rfl ?_
      refine jr_icmp_ge hF dJ7_fill_53178_7 (q := 10) rfl 20 (by decide) (fun h => ?_) (fun h => ?_)
      · refine jr_retV hF hR dJ7_fill_53178_20 rfl rfl
      · omega
    | succ j ih =>
      intro k hk
      have ih1 := ih (k + 1) (by omega)
      refine jr_iload_n hF dJ7_fill_53178_5 (q := 6) rfl rfl ?_
      refine jr_iload_n hF dJ7_fill_53178_6 (q := 7) rfl rfl ?_
      refine jr_icmp_ge hF dJ7_fill_53178_7 (q := 10) rfl 20 (by decide) (fun h => ?_) (fun h => ?_)
      · omega
      · refine jr_aload_n hF dJ7_fill_53178_10 (q := 11) rfl rfl ?_
        refine jr_iload_n hF dJ7_fill_53178_11 (q := 12) rfl rfl ?_
        refine jr_iload_n hF dJ7_fill_53178_12 (q := 13) rfl rfl ?_
        refine jr_iast hF dJ7_fill_53178_13 (q := 14) rfl hL (by omega) ?_
        refine jr_iinc hF dJ7_fill_53178_14 (q := 17) rfl (by decide) rfl rfl (by omega) ?_
        refine jr_goto hF dJ7_fill_53178_17 5 (by decide) ?_
        rw [up_uc, uc_uc, uc_eq]
        have e1 : (fun j => if j = (k : Int) then v else if 0 ≤ j ∧ j < (k : Int) then v else σ a j) = (fun j => if 0 ≤ j ∧ j < ((k + 1 : Nat) : Int) then v else σ a j) := by
          funext j
          by_cases h1 : j = (k : Int)
          · rw [if_pos h1, if_pos (by omega)]
          · rw [if_neg h1]
            by_cases h2 : 0 ≤ j ∧ j < (k : Int)
            · rw [if_pos h2, if_pos (by omega)]
            · rw [if_neg h2, if_neg (by omega)]
        rw [e1]
        exact ih1
  have h0 := main n 0 (by omega)
  rw [← e0] at h0
  exact h0
end
section
/-! ===== Plan.boundOf; Hiring: how many are in, hire ===== -/
def RepC (σ : Sg) (pl : Nat) (F : FD) : Prop := σ pl 0 = (f_nm F : Int) ∧ σ pl 1 = (f_nl F : Int) ∧ (∀ m : Nat, m < f_nm F → σ (pl + 1) (m : Int) = f_rm F m) ∧ (∀ i : Nat, i < f_nl F → σ (pl + 2) (i : Int) = f_kd F i) ∧ (∀ i m : Nat, i < f_nl F → m < f_nm F → σ (pl + 4 + i) (m : Int) = f_wt F i m) ∧ (∀ i : Nat, i < f_nl F → σ (pl + 9) (i : Int) = f_lm F i) ∧ σ (pl + 9) 5 = f_ca F ∧ σ (pl + 9) 6 = f_sp F
theorem tn (b i : Nat) : b + ((i : Int)).toNat = b + i := by omega
theorem L_pl {pl : Nat} (h : pl = 4 ∨ pl = 14) : Lay[pl]? = some (0, 4, 0, [none, none, some (pl + 1), some (pl + 2), some (pl + 3), some (pl + 9)]) := by rcases h with rfl | rfl <;> rfl
theorem L_rm {pl : Nat} (h : pl = 4 ∨ pl = 14) : Lay[pl + 1]? = some (1, 3, 0, []) := by rcases h with rfl | rfl <;> rfl
theorem L_kd {pl : Nat} (h : pl = 4 ∨ pl = 14) : Lay[pl + 2]? = some (1, 5, 0, []) := by rcases h with rfl | rfl <;> rfl
theorem L_wo {pl : Nat} (h : pl = 4 ∨ pl = 14) : Lay[pl + 3]? = some (3, 5, pl + 4, []) := by rcases h with rfl | rfl <;> rfl
theorem L_lw {pl : Nat} (h : pl = 4 ∨ pl = 14) : Lay[pl + 9]? = some (1, 7, 0, []) := by rcases h with rfl | rfl <;> rfl
theorem L_wr {pl i : Nat} (h : pl = 4 ∨ pl = 14) (hi : i < 5) : Lay[pl + 4 + i]? = some (1, 3, 0, []) := by
  have : i = 0 ∨ i = 1 ∨ i = 2 ∨ i = 3 ∨ i = 4 := by omega
  rcases h with rfl | rfl <;> rcases this with rfl | rfl | rfl | rfl | rfl <;> rfl
theorem up_nat {σ : Sg} {a k j : Nat} {v : Int} : up σ a (k : Int) v a (j : Int) = if j = k then v else σ a (j : Int) := by
  unfold up
  by_cases h : j = k
  · subst h; rw [if_pos ⟨rfl, rfl⟩, if_pos rfl]
  · rw [if_neg (by omega), if_neg h]
theorem RepC.want {σ : Sg} {pl : Nat} {F : FD} (h : RepC σ pl F) {i m : Nat} (hi : i < f_nl F) (hm : m < f_nm F) : σ (pl + 4 + i) (m : Int) = f_wt F i m := h.2.2.2.2.1 i m hi hm
theorem RepC.lim {σ : Sg} {pl : Nat} {F : FD} (h : RepC σ pl F) {i : Nat} (hi : i < f_nl F) : σ (pl + 9) (i : Int) = f_lm F i := h.2.2.2.2.2.1 i hi
theorem RepC.kind {σ : Sg} {pl : Nat} {F : FD} (h : RepC σ pl F) {i : Nat} (hi : i < f_nl F) : σ (pl + 2) (i : Int) = f_kd F i := h.2.2.2.1 i hi
theorem RepC.room {σ : Sg} {pl : Nat} {F : FD} (h : RepC σ pl F) {m : Nat} (hm : m < f_nm F) : σ (pl + 1) (m : Int) = f_rm F m := h.2.2.1 m hm
set_option maxRecDepth 100000 in
theorem c_boundOf (σ : Sg) (pl : Nat) (hpl : pl = 4 ∨ pl = 14) (F : FD) (hC : RepC σ pl F) (ok : okF F) (i m : Nat) (hi : i < f_nl F) (hm : m < f_nm F) : RI mX4_boundOf 1 [vR pl, vI (i : Int), vI (m : Int)] σ (fun z σ' => z = f_bnd F i m ∧ σ = σ') := by
  have hn := ok.2.1
  have hn2 := ok.1
  have hk := ok.2.2.2.1 i hi
  have hw := ok.2.2.2.2.1 i m hi hm
  have hl := ok.2.2.2.2.2.1 i hi
  have r4 := hC.kind hi
  have r5 := hC.want hi hm
  have r6 := hC.lim hi
  have hv : 0 ≤ (if f_lm F i < f_wt F i m then f_lm F i else f_wt F i m) ∧ (if f_lm F i < f_wt F i m then f_lm F i else f_wt F i m) ≤ 10 := by split <;> omega
  refine mkRun (by decide +kernel) (Nat.le_of_ble_eq_true rfl) (fun X hF hR => ?_)
  refine jr_aload_n hF dX4_boundOf_0 (q := 1) rfl rfl ?_
  refine jr_getR (ci := 4) (j := 4) hF dX4_boundOf_1 (q := 4) rfl (by first | rfl | exact L_pl hpl | exact L_rm hpl | exact L_kd hpl | exact L_lw hpl | exact L_wo hpl | exact L_wr hpl (by omega)) rfl fl4_20 ?_
  refine jr_iload_n hF dX4_boundOf_4 (q := 5) rfl rfl ?_
  refine jr_aald hF dX4_boundOf_5 (q := 6) rfl (by first | rfl | exact L_pl hpl | exact L_rm hpl | exact L_kd hpl | exact L_lw hpl | exact L_wo hpl | exact L_wr hpl (by omega)) (by omega) ?_
  rw [tn]
  refine jr_iload_n hF dX4_boundOf_6 (q := 7) rfl rfl ?_
  refine jr_iald hF dX4_boundOf_7 (q := 8) rfl (by first | rfl | exact L_pl hpl | exact L_rm hpl | exact L_kd hpl | exact L_lw hpl | exact L_wo hpl | exact L_wr hpl (by omega)) (by omega) ?_
  refine jr_aload_n hF dX4_boundOf_8 (q := 9) rfl rfl ?_
  refine jr_getR (ci := 4) (j := 5) hF dX4_boundOf_9 (q := 12) rfl (by first | rfl | exact L_pl hpl | exact L_rm hpl | exact L_kd hpl | exact L_lw hpl | exact L_wo hpl | exact L_wr hpl (by omega)) rfl fl4_23 ?_
  refine jr_iload_n hF dX4_boundOf_12 (q := 13) rfl rfl ?_
  refine jr_iald hF dX4_boundOf_13 (q := 14) rfl (by first | rfl | exact L_pl hpl | exact L_rm hpl | exact L_kd hpl | exact L_lw hpl | exact L_wo hpl | exact L_wr hpl (by omega)) (by omega) ?_
  refine jr_min hF mnW_ok dX4_boundOf_14 (q := 17) rfl lk4_56 (Nat.le_of_ble_eq_true rfl) (by decide) ?_
  refine jr_istore_n hF dX4_boundOf_17 (q := 18) rfl (by decide) rfl ?_
  refine jr_aload_n hF dX4_boundOf_18 (q := 19) rfl rfl ?_
  refine jr_getR (ci := 4) (j := 3) hF dX4_boundOf_19 (q := 22) rfl (by first | rfl | exact L_pl hpl | exact L_rm hpl | exact L_kd hpl | exact L_lw hpl | exact L_wo hpl | exact L_wr hpl (by omega)) rfl fl4_15 ?_
  refine jr_iload_n hF dX4_boundOf_22 (q := 23) rfl rfl ?_
  refine jr_iald hF dX4_boundOf_23 (q := 24) rfl (by first | rfl | exact L_pl hpl | exact L_rm hpl | exact L_kd hpl | exact L_lw hpl | exact L_wo hpl | exact L_wr hpl (by omega)) (by omega) ?_
  rw [r4, r5, r6]
  have hc : f_kd F i = 0 ∨ f_kd F i = 1 ∨ f_kd F i = 2 ∨ f_kd F i = 3 := by omega
  rcases hc with hc | hc | hc | hc
  · rw [hc]
    refine jr_tout hF dX4_boundOf_24 80 (by omega) (by decide) ?_
    refine jr_iload_n hF dX4_boundOf_80 (q := 81) rfl rfl ?_
    refine jr_retI hF hR dX4_boundOf_81 rfl ⟨by simp [f_bnd, hc], rfl⟩
  · rw [hc]
    refine jr_tin hF dX4_boundOf_24 52 (by decide) (by decide) rfl (by decide) ?_
    refine jr_iload_n hF dX4_boundOf_52 (q := 53) rfl rfl ?_
    refine jr_iconst hF dX4_boundOf_53 (q := 54) rfl (by decide) ?_
    refine jr_idiv hF dX4_boundOf_54 (q := 55) rfl (by omega) (by omega) ?_
    refine jr_retI hF hR dX4_boundOf_55 rfl ⟨by simp [f_bnd, hc], rfl⟩
  · rw [hc]
    refine jr_tin hF dX4_boundOf_24 56 (by decide) (by decide) rfl (by decide) ?_
    refine jr_aload_n hF dX4_boundOf_56 (q := 57) rfl rfl ?_
    refine jr_getR (ci := 4) (j := 4) hF dX4_boundOf_57 (q := 60) rfl (by first | rfl | exact L_pl hpl | exact L_rm hpl | exact L_kd hpl | exact L_lw hpl | exact L_wo hpl | exact L_wr hpl (by omega)) rfl fl4_20 ?_
    refine jr_iload_n hF dX4_boundOf_60 (q := 61) rfl rfl ?_
    refine jr_aald hF dX4_boundOf_61 (q := 62) rfl (by first | rfl | exact L_pl hpl | exact L_rm hpl | exact L_kd hpl | exact L_lw hpl | exact L_wo hpl | exact L_wr hpl (by omega)) (by omega) ?_
    rw [tn]
    refine jr_iload_n hF dX4_boundOf_62 (q := 63) rfl rfl ?_
    refine jr_iald hF dX4_boundOf_63 (q := 64) rfl (by first | rfl | exact L_pl hpl | exact L_rm hpl | exact L_kd hpl | exact L_lw hpl | exact L_wo hpl | exact L_wr hpl (by omega)) (by omega) ?_
    refine jr_iconst hF dX4_boundOf_64 (q := 65) rfl (by decide) ?_
    rw [r5]
    refine jr_icmp_lt hF dX4_boundOf_65 (q := 68) rfl 72 (by decide) (fun h => ?_) (fun h => ?_)
    · refine jr_iconst hF dX4_boundOf_72 (q := 73) rfl (by decide) ?_
      refine jr_retI hF hR dX4_boundOf_73 rfl ⟨by simp [f_bnd, hc, show ¬ 5 ≤ f_wt F i m by omega], rfl⟩
    · refine jr_iload_n hF dX4_boundOf_68 (q := 69) rfl rfl ?_
      refine jr_goto hF dX4_boundOf_69 73 (by decide) ?_
      refine jr_retI hF hR dX4_boundOf_73 rfl ⟨by simp [f_bnd, hc, h], rfl⟩
  · rw [hc]
    refine jr_tin hF dX4_boundOf_24 74 (by decide) (by decide) rfl (by decide) ?_
    refine jr_iload_n hF dX4_boundOf_74 (q := 75) rfl rfl ?_
    refine jr_iload_n hF dX4_boundOf_75 (q := 76) rfl rfl ?_
    refine jr_iconst hF dX4_boundOf_76 (q := 77) rfl (by decide) ?_
    refine jr_irem hF dX4_boundOf_77 (q := 78) rfl (by omega) (by omega) ?_
    refine jr_isub hF dX4_boundOf_78 (q := 79) rfl (by omega) ?_
    refine jr_retI hF hR dX4_boundOf_79 rfl ⟨by simp [f_bnd, hc], rfl⟩
set_option maxRecDepth 100000 in
theorem c_howManyIn (σ : Sg) (pl : Nat) (hpl : pl = 4 ∨ pl = 14) (p : Int) (nl : Nat) (hn : σ pl 1 = (nl : Int)) (h5 : nl ≤ 5) : RI mX2_howManyIn 2 [vR 24, vR pl, vI p] σ (fun z σ' => z = cnt (fun i => decide (σ 25 (i : Int) = -4 ∧ p ≤ σ 27 (i : Int))) nl ∧ σ = σ') := by
  refine mkRun (by decide +kernel) (Nat.le_of_ble_eq_true rfl) (fun X hF hR => ?_)
  generalize hf : (fun i : Nat => decide (σ 25 (i : Int) = -4 ∧ p ≤ σ 27 (i : Int))) = f at hR
  refine jr_iconst hF dX2_howManyIn_0 (q := 1) rfl (by decide) ?_
  refine jr_istore_n hF dX2_howManyIn_1 (q := 2) rfl (by decide) rfl ?_
  refine jr_iconst hF dX2_howManyIn_2 (q := 3) rfl (by decide) ?_
  refine jr_istore hF dX2_howManyIn_3 (q := 5) rfl (by decide) rfl ?_
  refine gs_loop (α := Unit) (fun k _ => [some (vR 24), some (vR pl), some (vI p), some (vI (cnt f k)), some (vI (k : Int))]) (fun _ => σ) (fun _ _ => True) nl (fun _ _ => ?_) (fun k _ hk _ ih => ?_) () trivial
  · refine jr_iload hF dX2_howManyIn_5 (q := 7) rfl rfl ?_
    refine jr_aload_n hF dX2_howManyIn_7 (q := 8) rfl rfl ?_
    refine jr_getI (ci := 4) (j := 1) hF 1 rfl dX2_howManyIn_8 (q := 11) rfl (by first | rfl | exact L_pl hpl | exact L_rm hpl | exact L_kd hpl | exact L_lw hpl | exact L_wo hpl | exact L_wr hpl (by omega)) rfl fl2_36 ?_
    refine jr_icmp_ge hF dX2_howManyIn_11 (q := 14) rfl 33 (by decide) (fun h1 => ?_) (fun h1 => ?_)
    · refine jr_iload_n hF dX2_howManyIn_33 (q := 34) rfl rfl ?_
      refine jr_retI hF hR dX2_howManyIn_34 rfl ⟨rfl, rfl⟩
    · omega
  · have hc := cnt_le f k
    have e : f k = decide (σ 25 (k : Int) = -4 ∧ p ≤ σ 27 (k : Int)) := by rw [← hf]
    have e2 : cnt f (k + 1) = cnt f k + (if f k = true then 1 else 0) := rfl
    refine jr_iload hF dX2_howManyIn_5 (q := 7) rfl rfl ?_
    refine jr_aload_n hF dX2_howManyIn_7 (q := 8) rfl rfl ?_
    refine jr_getI (ci := 4) (j := 1) hF 1 rfl dX2_howManyIn_8 (q := 11) rfl (by first | rfl | exact L_pl hpl | exact L_rm hpl | exact L_kd hpl | exact L_lw hpl | exact L_wo hpl | exact L_wr hpl (by omega)) rfl fl2_36 ?_
    refine jr_icmp_ge hF dX2_howManyIn_11 (q := 14) rfl 33 (by decide) (fun h1 => ?_) (fun h1 => ?_)
    · omega
    · refine jr_aload_n hF dX2_howManyIn_14 (q := 15) rfl rfl ?_
      refine jr_iload hF dX2_howManyIn_15 (q := 17) rfl rfl ?_
      refine jr_iload_n hF dX2_howManyIn_17 (q := 18) rfl rfl ?_
      refine jr_cV2I hF (c_isIn σ k p (by omega)) dX2_howManyIn_18 (q := 21) rfl lk2_65 vX2_isIn kX2_isIn rfl rfl rfl (by decide) (Nat.le_of_ble_eq_true rfl) (fun z σ1 h3 => ?_)
      obtain ⟨rfl, rfl⟩ := h3
      have ih1 := ih () trivial
      refine jr_if_eq hF dX2_howManyIn_21 (q := 24) rfl 27 (by decide) (fun h2 => ?_) (fun h2 => ?_)
      · refine jr_iinc hF dX2_howManyIn_27 (q := 30) rfl (by decide) rfl rfl (by omega) ?_
        refine jr_goto hF dX2_howManyIn_30 5 (by decide) ?_
        have e3 : ¬ (σ 25 (k : Int) = -4 ∧ p ≤ σ 27 (k : Int)) := fun h => by rw [if_pos h] at h2; omega
        rw [e, decide_eq_false e3, if_neg (by decide), Int.add_zero] at e2
        rw [e2] at ih1
        exact ih1
      · refine jr_iinc hF dX2_howManyIn_24 (q := 27) rfl (by decide) rfl rfl (by omega) ?_
        refine jr_iinc hF dX2_howManyIn_27 (q := 30) rfl (by decide) rfl rfl (by omega) ?_
        refine jr_goto hF dX2_howManyIn_30 5 (by decide) ?_
        have e3 : σ 25 (k : Int) = -4 ∧ p ≤ σ 27 (k : Int) := Classical.byContradiction fun h => by rw [if_neg h] at h2; omega
        rw [e, decide_eq_true e3, if_pos rfl] at e2
        rw [e2] at ih1
        exact ih1
/-- the hiring's rows hold who has whom and for how long -/
def HR (σ : Sg) (g y : Nat → Int) : Prop := ∀ j : Nat, j < 5 → σ 25 (j : Int) = g j ∧ σ 26 (j : Int) = y j
def HB (σ : Sg) (F : FD) (ab m : Nat) : Prop := ∀ i : Nat, i < f_nl F → σ 27 (i : Int) = f_bd F ab i m
set_option maxRecDepth 100000 in
theorem c_hire (σ : Sg) (pl : Nat) (hpl : pl = 4 ∨ pl = 14) (F : FD) (hn : σ pl 1 = (f_nl F : Int)) (h5 : f_nl F ≤ 5) (ab m : Nat) (g y : Nat → Int) (hH : HR σ g y) (hB : HB σ F ab m) (p room : Int) (hr : 0 ≤ room ∧ room ≤ 3) : RI mX2_hire 2 [vR 24, vR pl, vI (m : Int), vI p, vI room] σ (fun z σ' => z = (grant (f_in F ab g m p) m p (f_nl F) (g, y, room)).2.2 ∧ HR σ' (grant (f_in F ab g m p) m p (f_nl F) (g, y, room)).1 (grant (f_in F ab g m p) m p (f_nl F) (g, y, room)).2.1 ∧ ∀ k, k ≠ 25 → k ≠ 26 → σ' k = σ k) := by
  refine mkRun (by decide +kernel) (Nat.le_of_ble_eq_true rfl) (fun X hF hR => ?_)
  refine jr_iload hF dX2_hire_0 (q := 2) rfl rfl ?_
  refine jr_istore hF dX2_hire_2 (q := 4) rfl (by decide) rfl ?_
  refine jr_iconst hF dX2_hire_4 (q := 5) rfl (by decide) ?_
  refine jr_istore hF dX2_hire_5 (q := 7) rfl (by decide) rfl ?_
  refine gs_loop (α := Sg) (fun k _ => [some (vR 24), some (vR pl), some (vI (m : Int)), some (vI p), some (vI room), some (vI (grant (f_in F ab g m p) m p k (g, y, room)).2.2), some (vI (k : Int))]) (fun σ' => σ') (fun k σ' => HR σ' (grant (f_in F ab g m p) m p k (g, y, room)).1 (grant (f_in F ab g m p) m p k (g, y, room)).2.1 ∧ ∀ k, k ≠ 25 → k ≠ 26 → σ' k = σ k) (f_nl F) (fun σ' h => ?_) (fun k σ' hk h ih => ?_) σ ⟨hH, fun _ _ _ => rfl⟩
  · have e1 : σ' pl 1 = (f_nl F : Int) := by rw [h.2 pl (by omega) (by omega)]; exact hn
    refine jr_iload hF dX2_hire_7 (q := 9) rfl rfl ?_
    refine jr_aload_n hF dX2_hire_9 (q := 10) rfl rfl ?_
    refine jr_getI (ci := 4) (j := 1) hF 1 rfl dX2_hire_10 (q := 13) rfl (by first | rfl | exact L_pl hpl | exact L_rm hpl | exact L_kd hpl | exact L_lw hpl | exact L_wo hpl | exact L_wr hpl (by omega)) rfl fl2_36 ?_
    refine jr_icmp_ge hF dX2_hire_13 (q := 16) rfl 56 (by decide) (fun h1 => ?_) (fun h1 => ?_)
    · refine jr_iload hF dX2_hire_56 (q := 58) rfl rfl ?_
      refine jr_retI hF hR dX2_hire_58 rfl ⟨rfl, h⟩
    · omega
  · have e1 : σ' pl 1 = (f_nl F : Int) := by rw [h.2 pl (by omega) (by omega)]; exact hn
    have hl := grant_left (f_in F ab g m p) m p k (g, y, room) hr.1
    have hl2 : (grant (f_in F ab g m p) m p k (g, y, room)).2.2 ≤ room := hl.2
    have e2 : σ' 25 (k : Int) = g k := ((h.1 k (by omega)).1).trans (grant_hi (f_in F ab g m p) m p k (g, y, room) k (Nat.le_refl _)).1
    have e3 : σ' 27 (k : Int) = f_bd F ab k m := by rw [h.2 27 (by decide) (by decide)]; exact hB k hk
    refine jr_iload hF dX2_hire_7 (q := 9) rfl rfl ?_
    refine jr_aload_n hF dX2_hire_9 (q := 10) rfl rfl ?_
    refine jr_getI (ci := 4) (j := 1) hF 1 rfl dX2_hire_10 (q := 13) rfl (by first | rfl | exact L_pl hpl | exact L_rm hpl | exact L_kd hpl | exact L_lw hpl | exact L_wo hpl | exact L_wr hpl (by omega)) rfl fl2_36 ?_
    refine jr_icmp_ge hF dX2_hire_13 (q := 16) rfl 56 (by decide) (fun h1 => ?_) (fun h1 => ?_)
    · omega
    · refine jr_iload hF dX2_hire_16 (q := 18) rfl rfl ?_
      refine jr_if_le hF dX2_hire_18 (q := 21) rfl 56 (by decide) (fun h2 => ?_) (fun h2 => ?_)
      · have hs := grant_stop (f_in F ab g m p) m p (g, y, room) k h2 (f_nl F) (by omega)
        refine jr_iload hF dX2_hire_56 (q := 58) rfl rfl ?_
        refine jr_retI hF hR dX2_hire_58 rfl ⟨by rw [hs], by rw [hs]; exact h⟩
      · refine jr_aload_n hF dX2_hire_21 (q := 22) rfl rfl ?_
        refine jr_iload hF dX2_hire_22 (q := 24) rfl rfl ?_
        refine jr_iload_n hF dX2_hire_24 (q := 25) rfl rfl ?_
        refine jr_cV2I hF (c_isIn σ' k p (by omega)) dX2_hire_25 (q := 28) rfl lk2_65 vX2_isIn kX2_isIn rfl rfl rfl (by decide) (Nat.le_of_ble_eq_true rfl) (fun z σ1 h3 => ?_)
        obtain ⟨rfl, rfl⟩ := h3
        rw [e2, e3]
        refine jr_if_eq hF dX2_hire_28 (q := 31) rfl 50 (by decide) (fun h4 => ?_) (fun h4 => ?_)
        · have hS : f_in F ab g m p k = false := by
            unfold f_in
            exact decide_eq_false (fun hh => by rw [if_pos hh] at h4; omega)
          have eg : grant (f_in F ab g m p) m p (k + 1) (g, y, room) = grant (f_in F ab g m p) m p k (g, y, room) := by
            rw [grant, if_neg (by rw [hS]; simp)]
          have ih1 := ih σ' (by rw [eg]; exact h)
          rw [eg] at ih1
          refine jr_iinc hF dX2_hire_50 (q := 53) rfl (by decide) rfl rfl (by omega) ?_
          refine jr_goto hF dX2_hire_53 7 (by decide) ?_
          exact ih1
        · have hS : f_in F ab g m p k = true := by
            unfold f_in
            exact decide_eq_true (Classical.byContradiction fun hh => by rw [if_neg hh] at h4; omega)
          have eg : grant (f_in F ab g m p) m p (k + 1) (g, y, room) = (st1 (grant (f_in F ab g m p) m p k (g, y, room)).1 k m, st1 (grant (f_in F ab g m p) m p k (g, y, room)).2.1 k p, (grant (f_in F ab g m p) m p k (g, y, room)).2.2 - 1) := by
            rw [grant, if_pos ⟨hS, h2⟩]
          have ih1 := ih (up (up σ' 25 (k : Int) m) 26 (k : Int) p) (by
            rw [eg]
            refine ⟨fun j hj => ⟨?_, ?_⟩, fun c h1 h2 => ?_⟩
            · rw [up_ne (by decide), up_nat, (h.1 j hj).1]
              rfl
            · rw [up_nat, up_ne (by decide), (h.1 j hj).2]
              rfl
            · rw [up_ne h2, up_ne h1]
              exact h.2 c h1 h2)
          rw [eg] at ih1
          refine jr_aload_n hF dX2_hire_31 (q := 32) rfl rfl ?_
          refine jr_getR (ci := 2) (j := 0) hF dX2_hire_32 (q := 35) rfl rfl rfl fl2_9 ?_
          refine jr_iload hF dX2_hire_35 (q := 37) rfl rfl ?_
          refine jr_iload_n hF dX2_hire_37 (q := 38) rfl rfl ?_
          refine jr_iast hF dX2_hire_38 (q := 39) rfl rfl (by omega) ?_
          refine jr_aload_n hF dX2_hire_39 (q := 40) rfl rfl ?_
          refine jr_getR (ci := 2) (j := 1) hF dX2_hire_40 (q := 43) rfl rfl rfl fl2_15 ?_
          refine jr_iload hF dX2_hire_43 (q := 45) rfl rfl ?_
          refine jr_iload_n hF dX2_hire_45 (q := 46) rfl rfl ?_
          refine jr_iast hF dX2_hire_46 (q := 47) rfl rfl (by omega) ?_
          refine jr_iinc hF dX2_hire_47 (q := 50) rfl (by decide) rfl rfl (by omega) ?_
          refine jr_iinc hF dX2_hire_50 (q := 53) rfl (by decide) rfl rfl (by omega) ?_
          refine jr_goto hF dX2_hire_53 7 (by decide) ?_
          exact ih1
end
section
/-! ===== Hiring: the calls from below, from above, the fair ===== -/
theorem jr_fg {X : CT} {pc : Nat} {lv : List (Option PV)} {st : List PV} {σ : Sg} (i : Nat) (k : Gs X pc (lv.set i none) st σ) : Gs X pc lv st σ := by
  refine jr_drop (lv.set i none) (fun j v h => ?_) k
  by_cases e : j = i
  · subst e
    by_cases hl : j < lv.length
    · rw [List.getElem?_set_self hl] at h
      cases h
    · rw [List.getElem?_eq_none (by rw [List.length_set]; omega)] at h
      cases h
  · rw [List.getElem?_set_ne (Ne.symm e)] at h
    exact h
theorem RepC.fr {σ σ' : Sg} {pl : Nat} {F : FD} (h : RepC σ pl F) (h5 : f_nl F ≤ 5) (hf : ∀ k, pl ≤ k → k ≤ pl + 9 → σ' k = σ k) : RepC σ' pl F := by
  obtain ⟨r1, r2, r3, r4, r5, r6, r7, r8⟩ := h
  refine ⟨?_, ?_, fun m hm => ?_, fun i hi => ?_, fun i m hi hm => ?_, fun i hi => ?_, ?_, ?_⟩
  · rw [hf pl (by omega) (by omega)]; exact r1
  · rw [hf pl (by omega) (by omega)]; exact r2
  · rw [hf (pl + 1) (by omega) (by omega)]; exact r3 m hm
  · rw [hf (pl + 2) (by omega) (by omega)]; exact r4 i hi
  · rw [hf (pl + 4 + i) (by omega) (by omega)]; exact r5 i m hi hm
  · rw [hf (pl + 9) (by omega) (by omega)]; exact r6 i hi
  · rw [hf (pl + 9) (by omega) (by omega)]; exact r7
  · rw [hf (pl + 9) (by omega) (by omega)]; exact r8
theorem f_end_ge {F : FD} (ok : okF F) (ab : Nat) (g : Nat → Int) (m : Nat) : f_end F ab g m = 1 ∨ 1 + f_sp F ≤ f_end F ab g m := f_pB_ge ok ab g m 11 1
theorem f_in_sec {F : FD} (ok : okF F) {ab m : Nat} {w : GY} (hm : m < f_nm F) : ∀ i, i < f_nl F → f_in F ab (f_bel1 F ab m w).1 m (f_end F ab w.1 m - f_sp F) i = (f_in F ab w.1 m (f_end F ab w.1 m - f_sp F) i && !f_in F ab w.1 m (f_end F ab w.1 m) i) := by
  intro i hi
  have h1 : cnt (f_in F ab w.1 m (f_end F ab w.1 m)) (f_nl F) ≤ f_rm F m := f_pB_cnt ok ab w.1 hm 11 1 (by omega)
  have h2 := (grant_all (f_in F ab w.1 m (f_end F ab w.1 m)) m (f_end F ab w.1 m) (w.1, w.2, f_rm F m) (f_nl F) h1).2 i hi
  replace h2 : (f_bel1 F ab m w).1 i = if f_in F ab w.1 m (f_end F ab w.1 m) i = true then (m : Int) else w.1 i := h2
  by_cases hS : f_in F ab w.1 m (f_end F ab w.1 m) i = true
  · rw [if_pos hS] at h2
    rw [hS]
    simp only [Bool.not_true, Bool.and_false]
    unfold f_in
    exact decide_eq_false (fun hh => by omega)
  · rw [if_neg hS] at h2
    have hS2 : f_in F ab w.1 m (f_end F ab w.1 m) i = false := by simpa using hS
    rw [hS2]
    simp only [Bool.not_false, Bool.and_true]
    unfold f_in
    rw [h2]
theorem HR.fr {σ σ' : Sg} {g y : Nat → Int} (h : HR σ g y) (h1 : σ' 25 = σ 25) (h2 : σ' 26 = σ 26) : HR σ' g y := fun j hj => by rw [h1, h2]; exact h j hj
theorem HB.fr {σ σ' : Sg} {F : FD} {ab m : Nat} (h : HB σ F ab m) (h1 : σ' 27 = σ 27) : HB σ' F ab m := fun j hj => by rw [h1]; exact h j hj
set_option maxRecDepth 100000 in
theorem c_below (σ : Sg) (pl : Nat) (hpl : pl = 4 ∨ pl = 14) (F : FD) (hC : RepC σ pl F) (ok : okF F) (ab m : Nat) (hm : m < f_nm F) (g y : Nat → Int) (hH : HR σ g y) (hB : HB σ F ab m) : RV mX2_callFromBelow 3 [vR 24, vR pl, vI (m : Int)] σ (fun σ' => HR σ' (f_bel F ab m (g, y)).1 (f_bel F ab m (g, y)).2.1 ∧ (∀ j : Nat, σ' 28 (j : Int) = if j = m then f_end F ab g m else σ 28 (j : Int)) ∧ ∀ k, k ≠ 25 → k ≠ 26 → k ≠ 28 → σ' k = σ k) := by
  have h5 := ok.2.1
  have h3 := ok.1
  have hsp := ok.2.2.2.2.2.2.2
  have hrm := ok.2.2.1 m hm
  have r2 := hC.2.1
  have r3 := hC.room hm
  have r8 := hC.2.2.2.2.2.2.2
  have hP1 := f_end_ge ok ab g m
  have hP2 : f_end F ab g m ≤ 13 := f_pB_le ok ab g hm 11 1 (by omega)
  refine mkRun (by decide +kernel) (Nat.le_of_ble_eq_true rfl) (fun X hF hR => ?_)
  have hexit : Gs X 43 [some (vR 24), some (vR pl), some (vI (m : Int)), some (vI (f_sp F)), some (vI (f_end F ab g m)), none] [] σ := by
    refine jr_aload_n hF dX2_callFromBelow_43 (q := 44) rfl rfl ?_
    refine jr_getR (ci := 2) (j := 3) hF dX2_callFromBelow_44 (q := 47) rfl (by first | rfl | exact L_pl hpl | exact L_rm hpl | exact L_kd hpl | exact L_lw hpl | exact L_wo hpl | exact L_wr hpl (by omega)) rfl fl2_21 ?_
    refine jr_iload_n hF dX2_callFromBelow_47 (q := 48) rfl rfl ?_
    refine jr_iload hF dX2_callFromBelow_48 (q := 50) rfl rfl ?_
    refine jr_iast hF dX2_callFromBelow_50 (q := 51) rfl (by first | rfl | exact L_pl hpl | exact L_rm hpl | exact L_kd hpl | exact L_lw hpl | exact L_wo hpl | exact L_wr hpl (by omega)) (by omega) ?_
    refine jr_aload_n hF dX2_callFromBelow_51 (q := 52) rfl rfl ?_
    refine jr_aload_n hF dX2_callFromBelow_52 (q := 53) rfl rfl ?_
    refine jr_iload_n hF dX2_callFromBelow_53 (q := 54) rfl rfl ?_
    refine jr_iload hF dX2_callFromBelow_54 (q := 56) rfl rfl ?_
    refine jr_aload_n hF dX2_callFromBelow_56 (q := 57) rfl rfl ?_
    refine jr_getR (ci := 4) (j := 2) hF dX2_callFromBelow_57 (q := 60) rfl (by first | rfl | exact L_pl hpl | exact L_rm hpl | exact L_kd hpl | exact L_lw hpl | exact L_wo hpl | exact L_wr hpl (by omega)) rfl fl2_58 ?_
    refine jr_iload_n hF dX2_callFromBelow_60 (q := 61) rfl rfl ?_
    refine jr_iald hF dX2_callFromBelow_61 (q := 62) rfl (by first | rfl | exact L_pl hpl | exact L_rm hpl | exact L_kd hpl | exact L_lw hpl | exact L_wo hpl | exact L_wr hpl (by omega)) (by omega) ?_
    rw [up_ne (show pl + 1 ≠ 28 by omega), r3]
    have hH1 : HR (up σ 28 (m : Int) (f_end F ab g m)) g y := hH.fr (up_ne (by decide)) (up_ne (by decide))
    have hB1 : HB (up σ 28 (m : Int) (f_end F ab g m)) F ab m := hB.fr (up_ne (by decide))
    have r2' : up σ 28 (m : Int) (f_end F ab g m) pl 1 = (f_nl F : Int) := by rw [up_ne (by omega)]; exact r2
    refine jr_cV4I hF (c_hire _ pl hpl F r2' h5 ab m g y hH1 hB1 (f_end F ab g m) (f_rm F m) (by omega)) dX2_callFromBelow_62 (q := 65) rfl lk2_61 vX2_hire kX2_hire rfl rfl rfl (by decide) (Nat.le_of_ble_eq_true rfl) (fun z σ1 hz => ?_)
    obtain ⟨rfl, hH2, hf2⟩ := hz
    refine jr_istore hF dX2_callFromBelow_65 (q := 67) rfl (by decide) rfl ?_
    refine jr_iload hF dX2_callFromBelow_67 (q := 69) rfl rfl ?_
    refine jr_iconst hF dX2_callFromBelow_69 (q := 70) rfl (by decide) ?_
    refine jr_icmp_le hF dX2_callFromBelow_70 (q := 73) rfl 86 (by decide) (fun hc => ?_) (fun hc => ?_)
    · have e : f_bel F ab m (g, y) = grant (f_in F ab g m (f_end F ab g m)) m (f_end F ab g m) (f_nl F) (g, y, f_rm F m) := by
        unfold f_bel
        rw [if_neg (by show ¬ 1 < f_end F ab g m; omega)]
        rfl
      refine jr_retV hF hR dX2_callFromBelow_86 rfl ⟨by rw [e]; exact hH2, fun j => by rw [hf2 28 (by decide) (by decide), up_nat], fun k h1 h2 h3 => by rw [hf2 k h1 h2, up_ne h3]⟩
    · refine jr_aload_n hF dX2_callFromBelow_73 (q := 74) rfl rfl ?_
      refine jr_aload_n hF dX2_callFromBelow_74 (q := 75) rfl rfl ?_
      refine jr_iload_n hF dX2_callFromBelow_75 (q := 76) rfl rfl ?_
      refine jr_iload hF dX2_callFromBelow_76 (q := 78) rfl rfl ?_
      refine jr_iload_n hF dX2_callFromBelow_78 (q := 79) rfl rfl ?_
      refine jr_isub hF dX2_callFromBelow_79 (q := 80) rfl (by omega) ?_
      refine jr_iload hF dX2_callFromBelow_80 (q := 82) rfl rfl ?_
      have hl := grant_left (f_in F ab g m (f_end F ab g m)) m (f_end F ab g m) (f_nl F) (g, y, f_rm F m) (by show 0 ≤ f_rm F m; omega)
      have hl2 : (grant (f_in F ab g m (f_end F ab g m)) m (f_end F ab g m) (f_nl F) (g, y, f_rm F m)).2.2 ≤ f_rm F m := hl.2
      have hB2 : HB σ1 F ab m := hB1.fr (hf2 27 (by decide) (by decide))
      have r2'' : σ1 pl 1 = (f_nl F : Int) := by rw [hf2 pl (by omega) (by omega)]; exact r2'
      refine jr_cV4I hF (c_hire _ pl hpl F r2'' h5 ab m _ _ hH2 hB2 (f_end F ab g m - f_sp F) _ (by omega)) dX2_callFromBelow_82 (q := 85) rfl lk2_61 vX2_hire kX2_hire rfl rfl rfl (by decide) (Nat.le_of_ble_eq_true rfl) (fun z σ2 hz => ?_)
      obtain ⟨rfl, hH3, hf3⟩ := hz
      refine jr_pop hF dX2_callFromBelow_85 (q := 86) rfl rfl ?_
      have e : f_bel F ab m (g, y) = grant (f_in F ab (grant (f_in F ab g m (f_end F ab g m)) m (f_end F ab g m) (f_nl F) (g, y, f_rm F m)).1 m (f_end F ab g m - f_sp F)) m (f_end F ab g m - f_sp F) (f_nl F) (grant (f_in F ab g m (f_end F ab g m)) m (f_end F ab g m) (f_nl F) (g, y, f_rm F m)) := by
        unfold f_bel
        rw [if_pos (by show 1 < f_end F ab g m; omega)]
        exact (grant_congr (fun i hi => f_in_sec (w := (g, y)) ok hm i hi)).symm
      refine jr_retV hF hR dX2_callFromBelow_86 rfl ⟨by rw [e]; exact hH3, fun j => by rw [hf3 28 (by decide) (by decide), hf2 28 (by decide) (by decide), up_nat], fun k h1 h2 h3 => by rw [hf3 k h1 h2, hf2 k h1 h2, up_ne h3]⟩
  refine jr_aload_n hF dX2_callFromBelow_0 (q := 1) rfl rfl ?_
  refine jr_getR (ci := 4) (j := 5) hF dX2_callFromBelow_1 (q := 4) rfl (by first | rfl | exact L_pl hpl | exact L_rm hpl | exact L_kd hpl | exact L_lw hpl | exact L_wo hpl | exact L_wr hpl (by omega)) rfl fl2_43 ?_
  refine jr_bipush hF dX2_callFromBelow_4 (q := 6) rfl (by decide) (by decide +kernel) ?_
  refine jr_iald hF dX2_callFromBelow_6 (q := 7) rfl (by first | rfl | exact L_pl hpl | exact L_rm hpl | exact L_kd hpl | exact L_lw hpl | exact L_wo hpl | exact L_wr hpl (by omega)) (by omega) ?_
  refine jr_istore_n hF dX2_callFromBelow_7 (q := 8) rfl (by decide) rfl ?_
  refine jr_iconst hF dX2_callFromBelow_8 (q := 9) rfl (by decide) ?_
  refine jr_istore hF dX2_callFromBelow_9 (q := 11) rfl (by decide) rfl ?_
  rw [r8]
  refine gs_down (α := Int) (fun p => [some (vR 24), some (vR pl), some (vI (m : Int)), some (vI (f_sp F)), some (vI p), none]) (fun _ => σ) (fun n p => f_pB F ab g m n p = f_end F ab g m ∧ 12 ≤ p + n ∧ 1 ≤ p ∧ p ≤ 13) (fun p hI => ?_) (fun n p hI ih => ?_) 11 1 ⟨rfl, by omega, by omega, by omega⟩
  · have e : p = f_end F ab g m := hI.1
    refine jr_iload hF dX2_callFromBelow_11 (q := 13) rfl rfl ?_
    refine jr_bipush hF dX2_callFromBelow_13 (q := 15) rfl (by decide) (by decide +kernel) ?_
    refine jr_icmp_gt hF dX2_callFromBelow_15 (q := 18) rfl 43 (by decide) (fun hc => ?_) (fun hc => ?_)
    · rw [e]
      exact hexit
    · omega
  · have e0 : f_pB F ab g m (n + 1) p = if cnt (f_in F ab g m p) (f_nl F) ≤ f_rm F m then p else f_pB F ab g m n (p + f_sp F) := rfl
    have hn := hI.2.1
    have ec : cnt (fun i : Nat => decide (σ 25 (i : Int) = -4 ∧ p ≤ σ 27 (i : Int))) (f_nl F) = cnt (f_in F ab g m p) (f_nl F) := by
      apply cnt_congr
      intro i hi
      unfold f_in
      rw [(hH i (by omega)).1, hB i hi]
    refine jr_iload hF dX2_callFromBelow_11 (q := 13) rfl rfl ?_
    refine jr_bipush hF dX2_callFromBelow_13 (q := 15) rfl (by decide) (by decide +kernel) ?_
    refine jr_icmp_gt hF dX2_callFromBelow_15 (q := 18) rfl 43 (by decide) (fun hc => ?_) (fun hc => ?_)
    · have e : p = f_end F ab g m := by
        rw [← hI.1, e0, if_pos]
        rw [f_in_big ok hm hc]
        omega
      rw [e]
      exact hexit
    · refine jr_aload_n hF dX2_callFromBelow_18 (q := 19) rfl rfl ?_
      refine jr_aload_n hF dX2_callFromBelow_19 (q := 20) rfl rfl ?_
      refine jr_iload hF dX2_callFromBelow_20 (q := 22) rfl rfl ?_
      refine jr_cV2I hF (c_howManyIn σ pl hpl p (f_nl F) r2 h5) dX2_callFromBelow_22 (q := 25) rfl lk2_54 vX2_howManyIn kX2_howManyIn rfl rfl rfl (by decide) (Nat.le_of_ble_eq_true rfl) (fun z σ1 hz => ?_)
      obtain ⟨rfl, rfl⟩ := hz
      rw [ec]
      refine jr_aload_n hF dX2_callFromBelow_25 (q := 26) rfl rfl ?_
      refine jr_getR (ci := 4) (j := 2) hF dX2_callFromBelow_26 (q := 29) rfl (by first | rfl | exact L_pl hpl | exact L_rm hpl | exact L_kd hpl | exact L_lw hpl | exact L_wo hpl | exact L_wr hpl (by omega)) rfl fl2_58 ?_
      refine jr_iload_n hF dX2_callFromBelow_29 (q := 30) rfl rfl ?_
      refine jr_iald hF dX2_callFromBelow_30 (q := 31) rfl (by first | rfl | exact L_pl hpl | exact L_rm hpl | exact L_kd hpl | exact L_lw hpl | exact L_wo hpl | exact L_wr hpl (by omega)) (by omega) ?_
      rw [r3]
      refine jr_icmp_le hF dX2_callFromBelow_31 (q := 34) rfl 43 (by decide) (fun hd => ?_) (fun hd => ?_)
      · have e : p = f_end F ab g m := by rw [← hI.1, e0, if_pos hd]
        rw [e]
        exact hexit
      · refine jr_iload hF dX2_callFromBelow_34 (q := 36) rfl rfl ?_
        refine jr_iload_n hF dX2_callFromBelow_36 (q := 37) rfl rfl ?_
        refine jr_iadd hF dX2_callFromBelow_37 (q := 38) rfl (by omega) ?_
        refine jr_istore hF dX2_callFromBelow_38 (q := 40) rfl (by decide) rfl ?_
        refine jr_goto hF dX2_callFromBelow_40 11 (by decide) ?_
        have e : f_pB F ab g m n (p + f_sp F) = f_end F ab g m := by rw [← hI.1, e0, if_neg (by omega)]
        exact ih (p + f_sp F) ⟨e, by omega, by omega, by omega⟩
theorem f_abv_lo {F : FD} {ab m : Nat} {s : Int} {q : GYL} {k : Nat} (hs : 1 ≤ s) (h : 10 - (k : Int) * s < 1) : ∀ n, k ≤ n → f_abv F ab m s n q = f_abv F ab m s k q := by
  intro n
  induction n with
  | zero =>
    intro hk
    have e : k = 0 := by omega
    subst e
    rfl
  | succ n ih =>
    intro hk
    by_cases e : k = n + 1
    · subst e; rfl
    · have h1 : (k : Int) * s ≤ (n : Int) * s := Int.mul_le_mul_of_nonneg_right (by omega) (by omega)
      rw [f_abv, if_neg (by omega)]
      exact ih (by omega)
theorem f_abv_stop {F : FD} {ab m : Nat} {s : Int} {q : GYL} {k : Nat} (h : (f_abv F ab m s k q).2.2 ≤ 0) : ∀ n, k ≤ n → f_abv F ab m s n q = f_abv F ab m s k q := by
  intro n
  induction n with
  | zero =>
    intro hk
    have e : k = 0 := by omega
    subst e
    rfl
  | succ n ih =>
    intro hk
    by_cases e : k = n + 1
    · subst e; rfl
    · have h1 := ih (by omega)
      rw [f_abv]
      split
      · rw [h1]
        exact grant_stop _ _ _ _ 0 h _ (Nat.zero_le _)
      · exact h1
theorem f_abv_left {F : FD} {ab m : Nat} {s : Int} {q : GYL} (h : 0 ≤ q.2.2) : ∀ n, 0 ≤ (f_abv F ab m s n q).2.2 ∧ (f_abv F ab m s n q).2.2 ≤ q.2.2 := by
  intro n
  induction n with
  | zero => exact ⟨h, Int.le_refl _⟩
  | succ n ih =>
    rw [f_abv]
    split
    · have := grant_left (f_in F ab (f_abv F ab m s n q).1 m (10 - n * s)) m (10 - n * s) (f_nl F) (f_abv F ab m s n q) ih.1
      omega
    · exact ih
set_option maxRecDepth 100000 in
theorem c_above (σ : Sg) (pl : Nat) (hpl : pl = 4 ∨ pl = 14) (F : FD) (hC : RepC σ pl F) (ok : okF F) (ab m : Nat) (hm : m < f_nm F) (g y : Nat → Int) (hH : HR σ g y) (hB : HB σ F ab m) (s : Int) (hs : 1 ≤ s ∧ s ≤ 3) : RV mX2_callFromAbove 3 [vR 24, vR pl, vI (m : Int), vI s] σ (fun σ' => HR σ' (f_abv F ab m s 10 (g, y, f_rm F m)).1 (f_abv F ab m s 10 (g, y, f_rm F m)).2.1 ∧ ∀ k, k ≠ 25 → k ≠ 26 → σ' k = σ k) := by
  have h5 := ok.2.1
  have h3 := ok.1
  have hrm := ok.2.2.1 m hm
  have r2 := hC.2.1
  have r3 := hC.room hm
  refine mkRun (by decide +kernel) (Nat.le_of_ble_eq_true rfl) (fun X hF hR => ?_)
  refine jr_aload_n hF dX2_callFromAbove_0 (q := 1) rfl rfl ?_
  refine jr_getR (ci := 4) (j := 2) hF dX2_callFromAbove_1 (q := 4) rfl (by first | rfl | exact L_pl hpl | exact L_rm hpl | exact L_kd hpl | exact L_lw hpl | exact L_wo hpl | exact L_wr hpl (by omega)) rfl fl2_58 ?_
  refine jr_iload_n hF dX2_callFromAbove_4 (q := 5) rfl rfl ?_
  refine jr_iald hF dX2_callFromAbove_5 (q := 6) rfl (by first | rfl | exact L_pl hpl | exact L_rm hpl | exact L_kd hpl | exact L_lw hpl | exact L_wo hpl | exact L_wr hpl (by omega)) (by omega) ?_
  refine jr_istore hF dX2_callFromAbove_6 (q := 8) rfl (by decide) rfl ?_
  refine jr_bipush hF dX2_callFromAbove_8 (q := 10) rfl (by decide) (by decide +kernel) ?_
  refine jr_istore hF dX2_callFromAbove_10 (q := 12) rfl (by decide) rfl ?_
  rw [r3]
  have e0 : (10 : Int) = 10 - ((0 : Nat) : Int) * s := by omega
  rw [e0]
  refine gs_loop (α := Sg) (fun k _ => [some (vR 24), some (vR pl), some (vI (m : Int)), some (vI s), some (vI (f_abv F ab m s k (g, y, f_rm F m)).2.2), some (vI (10 - (k : Int) * s))]) (fun σ' => σ') (fun k σ' => HR σ' (f_abv F ab m s k (g, y, f_rm F m)).1 (f_abv F ab m s k (g, y, f_rm F m)).2.1 ∧ ∀ c, c ≠ 25 → c ≠ 26 → σ' c = σ c) 10 (fun σ' h => ?_) (fun k σ' hk h ih => ?_) σ ⟨hH, fun _ _ _ => rfl⟩
  · refine jr_iload hF dX2_callFromAbove_12 (q := 14) rfl rfl ?_
    refine jr_iconst hF dX2_callFromAbove_14 (q := 15) rfl (by decide) ?_
    refine jr_icmp_lt hF dX2_callFromAbove_15 (q := 18) rfl 44 (by decide) (fun hc => ?_) (fun hc => ?_)
    · refine jr_retV hF hR dX2_callFromAbove_44 rfl h
    · omega
  · have hl := f_abv_left (F := F) (ab := ab) (m := m) (s := s) (q := (g, y, f_rm F m)) (by show 0 ≤ f_rm F m; omega) k
    have hl2 : (f_abv F ab m s k (g, y, f_rm F m)).2.2 ≤ f_rm F m := hl.2
    have hks : 0 ≤ (k : Int) * s := Int.mul_nonneg (by omega) (by omega)
    have hks2 : ((k + 1 : Nat) : Int) * s = (k : Int) * s + s := by
      rw [show ((k + 1 : Nat) : Int) = (k : Int) + 1 from rfl, Int.add_mul, Int.one_mul]
    refine jr_iload hF dX2_callFromAbove_12 (q := 14) rfl rfl ?_
    refine jr_iconst hF dX2_callFromAbove_14 (q := 15) rfl (by decide) ?_
    refine jr_icmp_lt hF dX2_callFromAbove_15 (q := 18) rfl 44 (by decide) (fun hc => ?_) (fun hc => ?_)
    · have e := f_abv_lo (F := F) (ab := ab) (m := m) (q := (g, y, f_rm F m)) hs.1 hc 10 (by omega)
      refine jr_retV hF hR dX2_callFromAbove_44 rfl (by rw [e]; exact h)
    · refine jr_iload hF dX2_callFromAbove_18 (q := 20) rfl rfl ?_
      refine jr_if_le hF dX2_callFromAbove_20 (q := 23) rfl 44 (by decide) (fun hd => ?_) (fun hd => ?_)
      · have e := f_abv_stop (F := F) (ab := ab) (m := m) (s := s) (q := (g, y, f_rm F m)) hd 10 (by omega)
        refine jr_retV hF hR dX2_callFromAbove_44 rfl (by rw [e]; exact h)
      · refine jr_aload_n hF dX2_callFromAbove_23 (q := 24) rfl rfl ?_
        refine jr_aload_n hF dX2_callFromAbove_24 (q := 25) rfl rfl ?_
        refine jr_iload_n hF dX2_callFromAbove_25 (q := 26) rfl rfl ?_
        refine jr_iload hF dX2_callFromAbove_26 (q := 28) rfl rfl ?_
        refine jr_iload hF dX2_callFromAbove_28 (q := 30) rfl rfl ?_
        have r2' : σ' pl 1 = (f_nl F : Int) := by rw [h.2 pl (by omega) (by omega)]; exact r2
        have hB' : HB σ' F ab m := hB.fr (h.2 27 (by decide) (by decide))
        refine jr_cV4I hF (c_hire σ' pl hpl F r2' h5 ab m _ _ h.1 hB' (10 - (k : Int) * s) (f_abv F ab m s k (g, y, f_rm F m)).2.2 (by omega)) dX2_callFromAbove_30 (q := 33) rfl lk2_61 vX2_hire kX2_hire rfl rfl rfl (by decide) (Nat.le_of_ble_eq_true rfl) (fun z σ1 hz => ?_)
        obtain ⟨rfl, hH2, hf2⟩ := hz
        have e : f_abv F ab m s (k + 1) (g, y, f_rm F m) = grant (f_in F ab (f_abv F ab m s k (g, y, f_rm F m)).1 m (10 - (k : Int) * s)) m (10 - (k : Int) * s) (f_nl F) (f_abv F ab m s k (g, y, f_rm F m)) := by
          rw [f_abv, if_pos hc]
        have ih1 := ih σ1 ⟨by rw [e]; exact hH2, fun c h1 h2 => by rw [hf2 c h1 h2, h.2 c h1 h2]⟩
        rw [e, show 10 - ((k + 1 : Nat) : Int) * s = 10 - (k : Int) * s - s by omega] at ih1
        refine jr_istore hF dX2_callFromAbove_33 (q := 35) rfl (by decide) rfl ?_
        refine jr_iload hF dX2_callFromAbove_35 (q := 37) rfl rfl ?_
        refine jr_iload_n hF dX2_callFromAbove_37 (q := 38) rfl rfl ?_
        refine jr_isub hF dX2_callFromAbove_38 (q := 39) rfl (by omega) ?_
        refine jr_istore hF dX2_callFromAbove_39 (q := 41) rfl (by decide) rfl ?_
        refine jr_goto hF dX2_callFromAbove_41 12 (by decide) ?_
        exact ih1
end
section
/-! ===== Hiring.hold: the fair ===== -/
/-- who is away: nobody (-1 in the class, any number below 0), or a lad -/
def absR (z : Int) (ab : Nat) : Prop := (z < 0 ∧ ab = 99) ∨ (z = (ab : Int) ∧ ab < 5)
theorem absR_iff {z : Int} {ab i : Nat} (h : absR z ab) (hi : i < 5) : (i : Int) = z ↔ i = ab := by
  unfold absR at h
  omega
set_option maxRecDepth 100000 in
theorem c_hold (σ : Sg) (pl : Nat) (hpl : pl = 4 ∨ pl = 14) (F : FD) (hC : RepC σ pl F) (ok : okF F) (az : Int) (ab : Nat) (hab : absR az ab) : RV mX2_hold 4 [vR 24, vR pl, vI az] σ (fun σ' => HR σ' (f_fair F ab (f_nm F)).1 (f_fair F ab (f_nm F)).2 ∧ (f_ca F = 0 → ∀ m : Nat, m < f_nm F → σ' 28 (m : Int) = f_end F ab (f_fair F ab m).1 m) ∧ ∀ k, k ≠ 25 → k ≠ 26 → k ≠ 27 → k ≠ 28 → σ' k = σ k) := by
  have h5 := ok.2.1
  have h3 := ok.1
  have hsp := ok.2.2.2.2.2.2.2
  have hca := ok.2.2.2.2.2.2.1
  refine mkRun (by decide +kernel) (Nat.le_of_ble_eq_true rfl) (fun X hF hR => ?_)
  refine jr_aload_n hF dX2_hold_0 (q := 1) rfl rfl ?_
  refine jr_getR (ci := 2) (j := 0) hF dX2_hold_1 (q := 4) rfl rfl rfl fl2_9 ?_
  refine jr_bipush hF dX2_hold_4 (q := 6) rfl (by decide) (by decide +kernel) ?_
  refine jr_cS2V hF (c_fill σ 25 5 0 [] rfl (by decide) (-4)) dX2_hold_6 (q := 9) rfl lk2_24 vJ7_fill_53178 kJ7_fill_53178 (by decide) (Nat.le_of_ble_eq_true rfl) (fun σ1 hz => ?_)
  subst hz
  refine jr_aload_n hF dX2_hold_9 (q := 10) rfl rfl ?_
  refine jr_getR (ci := 2) (j := 1) hF dX2_hold_10 (q := 13) rfl rfl rfl fl2_15 ?_
  refine jr_iconst hF dX2_hold_13 (q := 14) rfl (by decide) ?_
  refine jr_cS2V hF (c_fill _ 26 5 0 [] rfl (by decide) 0) dX2_hold_14 (q := 17) rfl lk2_24 vJ7_fill_53178 kJ7_fill_53178 (by decide) (Nat.le_of_ble_eq_true rfl) (fun σ1 hz => ?_)
  have hI0 : HR σ1 (f_fair F ab 0).1 (f_fair F ab 0).2 := by
    intro j hj
    rw [← hz]
    rw [uc_ne (show 25 ≠ 26 by decide), uc_eq, uc_eq, if_pos (by omega), if_pos (by omega)]
    exact ⟨rfl, rfl⟩
  have hfr0 : ∀ k, k ≠ 25 → k ≠ 26 → k ≠ 27 → k ≠ 28 → σ1 k = σ k := fun k h1 h2 _ _ => by rw [← hz, uc_ne h2, uc_ne h1]
  clear hz
  refine jr_iconst hF dX2_hold_17 (q := 18) rfl (by decide) ?_
  refine jr_istore_n hF dX2_hold_18 (q := 19) rfl (by decide) rfl ?_
  refine gs_loop (α := Sg) (fun k _ => [some (vR 24), some (vR pl), some (vI az), some (vI (k : Int)), none]) (fun σ' => σ') (fun m σ' => HR σ' (f_fair F ab m).1 (f_fair F ab m).2 ∧ (f_ca F = 0 → ∀ j : Nat, j < m → σ' 28 (j : Int) = f_end F ab (f_fair F ab j).1 j) ∧ ∀ k, k ≠ 25 → k ≠ 26 → k ≠ 27 → k ≠ 28 → σ' k = σ k) (f_nm F) (fun σ' h => ?_) (fun m σ' hm h ih => ?_) σ1 ⟨hI0, fun _ j hj => by omega, hfr0⟩
  · have hC' : RepC σ' pl F := hC.fr h5 (fun k h1 h2 => h.2.2 k (by omega) (by omega) (by omega) (by omega))
    have r1 := hC'.1
    refine jr_iload_n hF dX2_hold_19 (q := 20) rfl rfl ?_
    refine jr_aload_n hF dX2_hold_20 (q := 21) rfl rfl ?_
    refine jr_getI (ci := 4) (j := 0) hF 0 rfl dX2_hold_21 (q := 24) rfl (by first | rfl | exact L_pl hpl | exact L_rm hpl | exact L_kd hpl | exact L_lw hpl | exact L_wo hpl | exact L_wr hpl (by omega)) rfl fl2_30 ?_
    refine jr_icmp_ge hF dX2_hold_24 (q := 27) rfl 120 (by decide) (fun hc => ?_) (fun hc => ?_)
    · refine jr_retV hF hR dX2_hold_120 rfl h
    · omega
  · obtain ⟨hH, hE, hfr⟩ := h
    have hC' : RepC σ' pl F := hC.fr h5 (fun k h1 h2 => hfr k (by omega) (by omega) (by omega) (by omega))
    have r1 := hC'.1
    refine jr_iload_n hF dX2_hold_19 (q := 20) rfl rfl ?_
    refine jr_aload_n hF dX2_hold_20 (q := 21) rfl rfl ?_
    refine jr_getI (ci := 4) (j := 0) hF 0 rfl dX2_hold_21 (q := 24) rfl (by first | rfl | exact L_pl hpl | exact L_rm hpl | exact L_kd hpl | exact L_lw hpl | exact L_wo hpl | exact L_wr hpl (by omega)) rfl fl2_30 ?_
    refine jr_icmp_ge hF dX2_hold_24 (q := 27) rfl 120 (by decide) (fun hc => ?_) (fun hc => ?_)
    · omega
    · refine jr_iconst hF dX2_hold_27 (q := 28) rfl (by decide) ?_
      refine jr_istore hF dX2_hold_28 (q := 30) rfl (by decide) rfl ?_
      refine gs_loop (α := Sg) (fun k _ => [some (vR 24), some (vR pl), some (vI az), some (vI (m : Int)), some (vI (k : Int))]) (fun σ' => σ') (fun i σ2 => (∀ j : Nat, j < i → σ2 27 (j : Int) = f_bd F ab j m) ∧ ∀ k, k ≠ 27 → σ2 k = σ' k) (f_nl F) (fun σ2 h2 => ?_) (fun i σ2 hi h2 ih2 => ?_) σ' ⟨fun j hj => by omega, fun _ _ => rfl⟩
      · have hC2 : RepC σ2 pl F := hC'.fr h5 (fun k h1 h3 => h2.2 k (by omega))
        have q2 := hC2.2.1
        have q7 := hC2.2.2.2.2.2.2.1
        have q8 := hC2.2.2.2.2.2.2.2
        have hH2 : HR σ2 (f_fair F ab m).1 (f_fair F ab m).2 := hH.fr (h2.2 25 (by decide)) (h2.2 26 (by decide))
        have hB2 : HB σ2 F ab m := h2.1
        refine jr_iload hF dX2_hold_30 (q := 32) rfl rfl ?_
        refine jr_aload_n hF dX2_hold_32 (q := 33) rfl rfl ?_
        refine jr_getI (ci := 4) (j := 1) hF 1 rfl dX2_hold_33 (q := 36) rfl (by first | rfl | exact L_pl hpl | exact L_rm hpl | exact L_kd hpl | exact L_lw hpl | exact L_wo hpl | exact L_wr hpl (by omega)) rfl fl2_36 ?_
        refine jr_icmp_ge hF dX2_hold_36 (q := 39) rfl 69 (by decide) (fun hc2 => ?_) (fun hc2 => ?_)
        · refine jr_aload_n hF dX2_hold_69 (q := 70) rfl rfl ?_
          refine jr_getR (ci := 4) (j := 5) hF dX2_hold_70 (q := 73) rfl (by first | rfl | exact L_pl hpl | exact L_rm hpl | exact L_kd hpl | exact L_lw hpl | exact L_wo hpl | exact L_wr hpl (by omega)) rfl fl2_43 ?_
          refine jr_iconst hF dX2_hold_73 (q := 74) rfl (by decide) ?_
          refine jr_iald hF dX2_hold_74 (q := 75) rfl (by first | rfl | exact L_pl hpl | exact L_rm hpl | exact L_kd hpl | exact L_lw hpl | exact L_wo hpl | exact L_wr hpl (by omega)) (by omega) ?_
          rw [q7]
          refine jr_if_ne hF dX2_hold_75 (q := 78) rfl 87 (by decide) (fun hc3 => ?_) (fun hc3 => ?_)
          · refine jr_aload_n hF dX2_hold_87 (q := 88) rfl rfl ?_
            refine jr_aload_n hF dX2_hold_88 (q := 89) rfl rfl ?_
            refine jr_iload_n hF dX2_hold_89 (q := 90) rfl rfl ?_
            refine jr_aload_n hF dX2_hold_90 (q := 91) rfl rfl ?_
            refine jr_getR (ci := 4) (j := 5) hF dX2_hold_91 (q := 94) rfl (by first | rfl | exact L_pl hpl | exact L_rm hpl | exact L_kd hpl | exact L_lw hpl | exact L_wo hpl | exact L_wr hpl (by omega)) rfl fl2_43 ?_
            refine jr_iconst hF dX2_hold_94 (q := 95) rfl (by decide) ?_
            refine jr_iald hF dX2_hold_95 (q := 96) rfl (by first | rfl | exact L_pl hpl | exact L_rm hpl | exact L_kd hpl | exact L_lw hpl | exact L_wo hpl | exact L_wr hpl (by omega)) (by omega) ?_
            refine jr_iconst hF dX2_hold_96 (q := 97) rfl (by decide) ?_
            rw [q7]
            have hfin : ∀ s : Int, 1 ≤ s ∧ s ≤ 3 → s = (if f_ca F = 1 then f_sp F else 1) → Gs X 111 [some (vR 24), some (vR pl), some (vI az), some (vI (m : Int)), some (vI (f_nl F : Int))] [vI s, vI (m : Int), vR pl, vR 24] σ2 := by
              intro s hs hs2
              refine jr_cV3V hF (c_above σ2 pl hpl F hC2 ok ab m hm _ _ hH2 hB2 s hs) dX2_hold_111 (q := 114) rfl lk2_50 vX2_callFromAbove kX2_callFromAbove rfl rfl rfl (by decide) (Nat.le_of_ble_eq_true rfl) (fun σ3 hz => ?_)
              refine jr_fg 4 ?_
              refine jr_iinc hF dX2_hold_114 (q := 117) rfl (by decide) rfl rfl (by omega) ?_
              refine jr_goto hF dX2_hold_117 19 (by decide) ?_
              have e : f_fair F ab (m + 1) = ((f_abv F ab m s 10 ((f_fair F ab m).1, (f_fair F ab m).2, f_rm F m)).1, (f_abv F ab m s 10 ((f_fair F ab m).1, (f_fair F ab m).2, f_rm F m)).2.1) := by
                rw [f_fair, f_one, if_neg hc3, hs2]
              refine ih σ3 ⟨by rw [e]; exact hz.1, fun h => absurd h hc3, fun k h1 h3 h4 h6 => by rw [hz.2 k h1 h3, h2.2 k h4, hfr k h1 h3 h4 h6]⟩
            refine jr_icmp_ne hF dX2_hold_97 (q := 100) rfl 110 (by decide) (fun hc4 => ?_) (fun hc4 => ?_)
            · refine jr_iconst hF dX2_hold_110 (q := 111) rfl (by decide) ?_
              exact hfin 1 (by omega) (by rw [if_neg hc4])
            · refine jr_aload_n hF dX2_hold_100 (q := 101) rfl rfl ?_
              refine jr_getR (ci := 4) (j := 5) hF dX2_hold_101 (q := 104) rfl (by first | rfl | exact L_pl hpl | exact L_rm hpl | exact L_kd hpl | exact L_lw hpl | exact L_wo hpl | exact L_wr hpl (by omega)) rfl fl2_43 ?_
              refine jr_bipush hF dX2_hold_104 (q := 106) rfl (by decide) (by decide +kernel) ?_
              refine jr_iald hF dX2_hold_106 (q := 107) rfl (by first | rfl | exact L_pl hpl | exact L_rm hpl | exact L_kd hpl | exact L_lw hpl | exact L_wo hpl | exact L_wr hpl (by omega)) (by omega) ?_
              refine jr_goto hF dX2_hold_107 111 (by decide) ?_
              rw [q8]
              exact hfin (f_sp F) hsp (by rw [if_pos hc4])
          · refine jr_aload_n hF dX2_hold_78 (q := 79) rfl rfl ?_
            refine jr_aload_n hF dX2_hold_79 (q := 80) rfl rfl ?_
            refine jr_iload_n hF dX2_hold_80 (q := 81) rfl rfl ?_
            refine jr_cV2V hF (c_below σ2 pl hpl F hC2 ok ab m hm _ _ hH2 hB2) dX2_hold_81 (q := 84) rfl lk2_46 vX2_callFromBelow kX2_callFromBelow rfl rfl rfl (by decide) (Nat.le_of_ble_eq_true rfl) (fun σ3 hz => ?_)
            refine jr_fg 4 ?_
            refine jr_goto hF dX2_hold_84 114 (by decide) ?_
            refine jr_iinc hF dX2_hold_114 (q := 117) rfl (by decide) rfl rfl (by omega) ?_
            refine jr_goto hF dX2_hold_117 19 (by decide) ?_
            have e : f_fair F ab (m + 1) = ((f_bel F ab m (f_fair F ab m)).1, (f_bel F ab m (f_fair F ab m)).2.1) := by
              rw [f_fair, f_one, if_pos hc3]
            refine ih σ3 ⟨by rw [e]; exact hz.1, fun h j hj => ?_, fun k h1 h3 h4 h6 => by rw [hz.2.2 k h1 h3 h6, h2.2 k h4, hfr k h1 h3 h4 h6]⟩
            rw [hz.2.1 j]
            by_cases ej : j = m
            · subst ej
              rw [if_pos rfl]
            · rw [if_neg ej, h2.2 28 (by decide)]
              exact hE h j (by omega)
        · omega
      · have hC2 : RepC σ2 pl F := hC'.fr h5 (fun k h1 h3 => h2.2 k (by omega))
        have q2 := hC2.2.1
        have ha := absR_iff hab (show i < 5 by omega)
        have hfin : ∀ v : Int, v = f_bd F ab i m → Gs X 62 [some (vR 24), some (vR pl), some (vI az), some (vI (m : Int)), some (vI (i : Int))] [vI v, vI (i : Int), vR 27] σ2 := by
          intro v hv
          refine jr_iast hF dX2_hold_62 (q := 63) rfl rfl (by omega) ?_
          refine jr_iinc hF dX2_hold_63 (q := 66) rfl (by decide) rfl rfl (by omega) ?_
          refine jr_goto hF dX2_hold_66 30 (by decide) ?_
          refine ih2 _ ⟨fun j hj => ?_, fun k hk => by rw [up_ne hk]; exact h2.2 k hk⟩
          rw [up_nat]
          by_cases ej : j = i
          · subst ej
            rw [if_pos rfl]
            exact hv
          · rw [if_neg ej]
            exact h2.1 j (by omega)
        refine jr_iload hF dX2_hold_30 (q := 32) rfl rfl ?_
        refine jr_aload_n hF dX2_hold_32 (q := 33) rfl rfl ?_
        refine jr_getI (ci := 4) (j := 1) hF 1 rfl dX2_hold_33 (q := 36) rfl (by first | rfl | exact L_pl hpl | exact L_rm hpl | exact L_kd hpl | exact L_lw hpl | exact L_wo hpl | exact L_wr hpl (by omega)) rfl fl2_36 ?_
        refine jr_icmp_ge hF dX2_hold_36 (q := 39) rfl 69 (by decide) (fun hc2 => ?_) (fun hc2 => ?_)
        · omega
        · refine jr_aload_n hF dX2_hold_39 (q := 40) rfl rfl ?_
          refine jr_getR (ci := 2) (j := 2) hF dX2_hold_40 (q := 43) rfl rfl rfl fl2_18 ?_
          refine jr_iload hF dX2_hold_43 (q := 45) rfl rfl ?_
          refine jr_iload hF dX2_hold_45 (q := 47) rfl rfl ?_
          refine jr_iload_n hF dX2_hold_47 (q := 48) rfl rfl ?_
          refine jr_icmp_ne hF dX2_hold_48 (q := 51) rfl 55 (by decide) (fun hc3 => ?_) (fun hc3 => ?_)
          · refine jr_aload_n hF dX2_hold_55 (q := 56) rfl rfl ?_
            refine jr_iload hF dX2_hold_56 (q := 58) rfl rfl ?_
            refine jr_iload_n hF dX2_hold_58 (q := 59) rfl rfl ?_
            refine jr_cV2I hF (c_boundOf σ2 pl hpl F hC2 ok i m hi hm) dX2_hold_59 (q := 62) rfl lk2_39 vX4_boundOf kX4_boundOf (by first | rfl | exact L_pl hpl | exact L_rm hpl | exact L_kd hpl | exact L_lw hpl | exact L_wo hpl | exact L_wr hpl (by omega)) rfl rfl (by decide) (Nat.le_of_ble_eq_true rfl) (fun z σ3 hz => ?_)
            obtain ⟨rfl, rfl⟩ := hz
            exact hfin _ (by unfold f_bd; rw [if_neg (by omega)])
          · refine jr_iconst hF dX2_hold_51 (q := 52) rfl (by decide) ?_
            refine jr_goto hF dX2_hold_52 62 (by decide) ?_
            exact hfin 0 (by unfold f_bd; rw [if_pos (by omega)])
end
section
/-! ===== Hiring: what is read off a fair ===== -/
def f_gn (F : FD) (w : GY) (i : Nat) : Int := if w.1 i = -4 then 0 else f_wt F i (w.1 i).toNat - w.2 i
theorem f_gn_le {F : FD} (ok : okF F) {ab : Nat} {w : GY} (hw : wOK F ab (f_nm F) w) (i : Nat) : 0 ≤ f_gn F w i ∧ f_gn F w i ≤ 10 := by
  unfold f_gn
  rcases hw i with ⟨h1, h2⟩ | ⟨m, h1, h2, h3, h4, h5⟩
  · rw [if_pos h1]
    omega
  · rw [if_neg (by omega), h3]
    have a1 := f_bd_le ok ab h2 h1
    have a2 := ok.2.2.2.2.1 i m h2 h1
    rw [show ((m : Int)).toNat = m by omega]
    omega
theorem wOK_y {F : FD} (ok : okF F) {ab : Nat} {w : GY} (hw : wOK F ab (f_nm F) w) (i : Nat) : 0 ≤ w.2 i ∧ w.2 i ≤ 10 := by
  rcases hw i with ⟨h1, h2⟩ | ⟨m, h1, h2, h3, h4, h5⟩
  · omega
  · have a1 := f_bd_le ok ab h2 h1
    omega
def orb (a : Int) (k : Nat) : Int := (Int32.ofInt a ||| Int32.ofInt (Int32.ofInt 1 <<< (Int32.ofInt (k : Int) &&& 31)).toInt).toInt
def bitsF (f : Nat → Bool) (n : Nat) : Int := match n with
  | 0 => 0
  | n + 1 => if f n = true then orb (bitsF f n) n else bitsF f n
def mostF (f : Nat → Bool) (y : Nat → Int) (n : Nat) : Int := match n with
  | 0 => 0
  | n + 1 => if f n = true ∧ mostF f y n < y n then y n else mostF f y n
def sumF (y : Nat → Int) (n : Nat) : Int := match n with
  | 0 => 0
  | n + 1 => sumF y n + y n
theorem sumF_le {y : Nat → Int} {n : Nat} (h : ∀ i, i < n → 0 ≤ y i ∧ y i ≤ 10) : 0 ≤ sumF y n ∧ sumF y n ≤ 10 * n := by
  induction n with
  | zero => exact ⟨Int.le_refl _, Int.le_refl _⟩
  | succ n ih =>
    have := ih (fun i hi => h i (by omega))
    have := h n (by omega)
    unfold sumF
    omega
theorem sumF_congr {y y' : Nat → Int} {n : Nat} (h : ∀ i, i < n → y i = y' i) : sumF y n = sumF y' n := by
  induction n with
  | zero => rfl
  | succ n ih =>
    unfold sumF
    rw [ih (fun i hi => h i (by omega)), h n (by omega)]
set_option maxRecDepth 100000 in
theorem c_gainOf (σ : Sg) (pl : Nat) (hpl : pl = 4 ∨ pl = 14) (F : FD) (hC : RepC σ pl F) (ok : okF F) (ab : Nat) (w : GY) (hw : wOK F ab (f_nm F) w) (hH : HR σ w.1 w.2) (i : Nat) (hi : i < f_nl F) : RI mX2_gainOf 1 [vR 24, vR pl, vI (i : Int)] σ (fun z σ' => z = f_gn F w i ∧ σ = σ') := by
  have h5 := ok.2.1
  have h3 := ok.1
  have hg := f_gn_le ok hw i
  have hy := wOK_y ok hw i
  obtain ⟨e1, e2⟩ := hH i (by omega)
  refine mkRun (by decide +kernel) (Nat.le_of_ble_eq_true rfl) (fun X hF hR => ?_)
  refine jr_aload_n hF dX2_gainOf_0 (q := 1) rfl rfl ?_
  refine jr_getR (ci := 2) (j := 0) hF dX2_gainOf_1 (q := 4) rfl rfl rfl fl2_9 ?_
  refine jr_iload_n hF dX2_gainOf_4 (q := 5) rfl rfl ?_
  refine jr_iald hF dX2_gainOf_5 (q := 6) rfl rfl (by omega) ?_
  refine jr_bipush hF dX2_gainOf_6 (q := 8) rfl (by decide) (by decide +kernel) ?_
  rw [e1]
  refine jr_icmp_ne hF dX2_gainOf_8 (q := 11) rfl 15 (by decide) (fun hc => ?_) (fun hc => ?_)
  · rcases hw i with ⟨a1, -⟩ | ⟨m, a1, a2, a3, -⟩
    · exact absurd a1 hc
    · have e3 := hC.want a2 a1
      have e4 : f_gn F w i = f_wt F i m - w.2 i := by
        unfold f_gn
        rw [if_neg hc, a3, show ((m : Int)).toNat = m by omega]
      refine jr_aload_n hF dX2_gainOf_15 (q := 16) rfl rfl ?_
      refine jr_getR (ci := 4) (j := 4) hF dX2_gainOf_16 (q := 19) rfl (by first | rfl | exact L_pl hpl | exact L_rm hpl | exact L_kd hpl | exact L_lw hpl | exact L_wo hpl | exact L_wr hpl (by omega)) rfl fl2_69 ?_
      refine jr_iload_n hF dX2_gainOf_19 (q := 20) rfl rfl ?_
      refine jr_aald hF dX2_gainOf_20 (q := 21) rfl (by first | rfl | exact L_pl hpl | exact L_rm hpl | exact L_kd hpl | exact L_lw hpl | exact L_wo hpl | exact L_wr hpl (by omega)) (by omega) ?_
      rw [tn]
      refine jr_aload_n hF dX2_gainOf_21 (q := 22) rfl rfl ?_
      refine jr_getR (ci := 2) (j := 0) hF dX2_gainOf_22 (q := 25) rfl rfl rfl fl2_9 ?_
      refine jr_iload_n hF dX2_gainOf_25 (q := 26) rfl rfl ?_
      refine jr_iald hF dX2_gainOf_26 (q := 27) rfl rfl (by omega) ?_
      rw [e1, a3]
      refine jr_iald hF dX2_gainOf_27 (q := 28) rfl (by first | rfl | exact L_pl hpl | exact L_rm hpl | exact L_kd hpl | exact L_lw hpl | exact L_wo hpl | exact L_wr hpl (by omega)) (by omega) ?_
      refine jr_aload_n hF dX2_gainOf_28 (q := 29) rfl rfl ?_
      refine jr_getR (ci := 2) (j := 1) hF dX2_gainOf_29 (q := 32) rfl (by first | rfl | exact L_pl hpl | exact L_rm hpl | exact L_kd hpl | exact L_lw hpl | exact L_wo hpl | exact L_wr hpl (by omega)) rfl fl2_15 ?_
      refine jr_iload_n hF dX2_gainOf_32 (q := 33) rfl rfl ?_
      refine jr_iald hF dX2_gainOf_33 (q := 34) rfl (by first | rfl | exact L_pl hpl | exact L_rm hpl | exact L_kd hpl | exact L_lw hpl | exact L_wo hpl | exact L_wr hpl (by omega)) (by omega) ?_
      rw [e3, e2]
      refine jr_isub hF dX2_gainOf_34 (q := 35) rfl (by omega) ?_
      refine jr_retI hF hR dX2_gainOf_35 rfl ⟨by rw [e4], rfl⟩
  · refine jr_iconst hF dX2_gainOf_11 (q := 12) rfl (by decide) ?_
    refine jr_goto hF dX2_gainOf_12 35 (by decide) ?_
    refine jr_retI hF hR dX2_gainOf_35 rfl ⟨by unfold f_gn; rw [if_pos hc], rfl⟩
set_option maxRecDepth 100000 in
theorem c_ladsOf (σ : Sg) (pl : Nat) (hpl : pl = 4 ∨ pl = 14) (nl : Nat) (hn : σ pl 1 = (nl : Int)) (h5 : nl ≤ 5) (w : GY) (hH : HR σ w.1 w.2) (m : Int) : RI mX2_ladsOf 1 [vR 24, vR pl, vI m] σ (fun z σ' => z = bitsF (fun i => decide (w.1 i = m)) nl ∧ σ = σ') := by
  refine mkRun (by decide +kernel) (Nat.le_of_ble_eq_true rfl) (fun X hF hR => ?_)
  refine jr_iconst hF dX2_ladsOf_0 (q := 1) rfl (by decide) ?_
  refine jr_istore_n hF dX2_ladsOf_1 (q := 2) rfl (by decide) rfl ?_
  refine jr_iconst hF dX2_ladsOf_2 (q := 3) rfl (by decide) ?_
  refine jr_istore hF dX2_ladsOf_3 (q := 5) rfl (by decide) rfl ?_
  refine gs_loop (α := Unit) (fun k _ => [some (vR 24), some (vR pl), some (vI m), some (vI (bitsF (fun i => decide (w.1 i = m)) k)), some (vI (k : Int))]) (fun _ => σ) (fun _ _ => True) nl (fun _ _ => ?_) (fun k _ hk _ ih => ?_) () trivial
  · refine jr_iload hF dX2_ladsOf_5 (q := 7) rfl rfl ?_
    refine jr_aload_n hF dX2_ladsOf_7 (q := 8) rfl rfl ?_
    refine jr_getI (ci := 4) (j := 1) hF 1 rfl dX2_ladsOf_8 (q := 11) rfl (by first | rfl | exact L_pl hpl | exact L_rm hpl | exact L_kd hpl | exact L_lw hpl | exact L_wo hpl | exact L_wr hpl (by omega)) rfl fl2_36 ?_
    refine jr_icmp_ge hF dX2_ladsOf_11 (q := 14) rfl 38 (by decide) (fun h1 => ?_) (fun h1 => ?_)
    · refine jr_iload_n hF dX2_ladsOf_38 (q := 39) rfl rfl ?_
      refine jr_retI hF hR dX2_ladsOf_39 rfl ⟨rfl, rfl⟩
    · omega
  · have e1 := (hH k (by omega)).1
    have e2 : bitsF (fun i => decide (w.1 i = m)) (k + 1) = if decide (w.1 k = m) = true then orb (bitsF (fun i => decide (w.1 i = m)) k) k else bitsF (fun i => decide (w.1 i = m)) k := rfl
    have ih1 := ih () trivial
    refine jr_iload hF dX2_ladsOf_5 (q := 7) rfl rfl ?_
    refine jr_aload_n hF dX2_ladsOf_7 (q := 8) rfl rfl ?_
    refine jr_getI (ci := 4) (j := 1) hF 1 rfl dX2_ladsOf_8 (q := 11) rfl (by first | rfl | exact L_pl hpl | exact L_rm hpl | exact L_kd hpl | exact L_lw hpl | exact L_wo hpl | exact L_wr hpl (by omega)) rfl fl2_36 ?_
    refine jr_icmp_ge hF dX2_ladsOf_11 (q := 14) rfl 38 (by decide) (fun h1 => ?_) (fun h1 => ?_)
    · omega
    · refine jr_aload_n hF dX2_ladsOf_14 (q := 15) rfl rfl ?_
      refine jr_getR (ci := 2) (j := 0) hF dX2_ladsOf_15 (q := 18) rfl rfl rfl fl2_9 ?_
      refine jr_iload hF dX2_ladsOf_18 (q := 20) rfl rfl ?_
      refine jr_iald hF dX2_ladsOf_20 (q := 21) rfl rfl (by omega) ?_
      refine jr_iload_n hF dX2_ladsOf_21 (q := 22) rfl rfl ?_
      rw [e1]
      refine jr_icmp_ne hF dX2_ladsOf_22 (q := 25) rfl 32 (by decide) (fun h2 => ?_) (fun h2 => ?_)
      · rw [e2, decide_eq_false h2, if_neg (by decide)] at ih1
        refine jr_iinc hF dX2_ladsOf_32 (q := 35) rfl (by decide) rfl rfl (by omega) ?_
        refine jr_goto hF dX2_ladsOf_35 5 (by decide) ?_
        exact ih1
      · rw [e2, decide_eq_true h2, if_pos rfl] at ih1
        refine jr_iload_n hF dX2_ladsOf_25 (q := 26) rfl rfl ?_
        refine jr_iconst hF dX2_ladsOf_26 (q := 27) rfl (by decide) ?_
        refine jr_iload hF dX2_ladsOf_27 (q := 29) rfl rfl ?_
        refine jr_ishl hF dX2_ladsOf_29 (q := 30) rfl ?_
        refine jr_ior hF dX2_ladsOf_30 (q := 31) rfl ?_
        refine jr_istore_n hF dX2_ladsOf_31 (q := 32) rfl (by decide) rfl ?_
        refine jr_iinc hF dX2_ladsOf_32 (q := 35) rfl (by decide) rfl rfl (by omega) ?_
        refine jr_goto hF dX2_ladsOf_35 5 (by decide) ?_
        exact ih1
theorem mostF_le {f : Nat → Bool} {y : Nat → Int} {n : Nat} (h : ∀ i, i < n → 0 ≤ y i ∧ y i ≤ 10) : 0 ≤ mostF f y n ∧ mostF f y n ≤ 10 := by
  induction n with
  | zero => exact ⟨Int.le_refl 0, (by decide : (0 : Int) ≤ 10)⟩
  | succ n ih =>
    have := ih (fun i hi => h i (by omega))
    have := h n (by omega)
    unfold mostF
    split <;> omega
set_option maxRecDepth 100000 in
theorem c_mostYearsOf (σ : Sg) (pl : Nat) (hpl : pl = 4 ∨ pl = 14) (nl : Nat) (hn : σ pl 1 = (nl : Int)) (h5 : nl ≤ 5) (w : GY) (hH : HR σ w.1 w.2) (m : Int) : RI mX2_mostYearsOf 1 [vR 24, vR pl, vI m] σ (fun z σ' => z = mostF (fun i => decide (w.1 i = m)) w.2 nl ∧ σ = σ') := by
  refine mkRun (by decide +kernel) (Nat.le_of_ble_eq_true rfl) (fun X hF hR => ?_)
  refine jr_iconst hF dX2_mostYearsOf_0 (q := 1) rfl (by decide) ?_
  refine jr_istore_n hF dX2_mostYearsOf_1 (q := 2) rfl (by decide) rfl ?_
  refine jr_iconst hF dX2_mostYearsOf_2 (q := 3) rfl (by decide) ?_
  refine jr_istore hF dX2_mostYearsOf_3 (q := 5) rfl (by decide) rfl ?_
  refine gs_loop (α := Unit) (fun k _ => [some (vR 24), some (vR pl), some (vI m), some (vI (mostF (fun i => decide (w.1 i = m)) w.2 k)), some (vI (k : Int))]) (fun _ => σ) (fun _ _ => True) nl (fun _ _ => ?_) (fun k _ hk _ ih => ?_) () trivial
  · refine jr_iload hF dX2_mostYearsOf_5 (q := 7) rfl rfl ?_
    refine jr_aload_n hF dX2_mostYearsOf_7 (q := 8) rfl rfl ?_
    refine jr_getI (ci := 4) (j := 1) hF 1 rfl dX2_mostYearsOf_8 (q := 11) rfl (by first | rfl | exact L_pl hpl | exact L_rm hpl | exact L_kd hpl | exact L_lw hpl | exact L_wo hpl | exact L_wr hpl (by omega)) rfl fl2_36 ?_
    refine jr_icmp_ge hF dX2_mostYearsOf_11 (q := 14) rfl 43 (by decide) (fun h1 => ?_) (fun h1 => ?_)
    · refine jr_iload_n hF dX2_mostYearsOf_43 (q := 44) rfl rfl ?_
      refine jr_retI hF hR dX2_mostYearsOf_44 rfl ⟨rfl, rfl⟩
    · omega
  · obtain ⟨e1, e3⟩ := hH k (by omega)
    have e2 : mostF (fun i => decide (w.1 i = m)) w.2 (k + 1) = if decide (w.1 k = m) = true ∧ mostF (fun i => decide (w.1 i = m)) w.2 k < w.2 k then w.2 k else mostF (fun i => decide (w.1 i = m)) w.2 k := rfl
    have ih1 := ih () trivial
    refine jr_iload hF dX2_mostYearsOf_5 (q := 7) rfl rfl ?_
    refine jr_aload_n hF dX2_mostYearsOf_7 (q := 8) rfl rfl ?_
    refine jr_getI (ci := 4) (j := 1) hF 1 rfl dX2_mostYearsOf_8 (q := 11) rfl (by first | rfl | exact L_pl hpl | exact L_rm hpl | exact L_kd hpl | exact L_lw hpl | exact L_wo hpl | exact L_wr hpl (by omega)) rfl fl2_36 ?_
    refine jr_icmp_ge hF dX2_mostYearsOf_11 (q := 14) rfl 43 (by decide) (fun h1 => ?_) (fun h1 => ?_)
    · omega
    · refine jr_aload_n hF dX2_mostYearsOf_14 (q := 15) rfl rfl ?_
      refine jr_getR (ci := 2) (j := 0) hF dX2_mostYearsOf_15 (q := 18) rfl rfl rfl fl2_9 ?_
      refine jr_iload hF dX2_mostYearsOf_18 (q := 20) rfl rfl ?_
      refine jr_iald hF dX2_mostYearsOf_20 (q := 21) rfl rfl (by omega) ?_
      refine jr_iload_n hF dX2_mostYearsOf_21 (q := 22) rfl rfl ?_
      rw [e1]
      refine jr_icmp_ne hF dX2_mostYearsOf_22 (q := 25) rfl 37 (by decide) (fun h2 => ?_) (fun h2 => ?_)
      · rw [e2, if_neg (by rw [decide_eq_false h2]; simp)] at ih1
        refine jr_iinc hF dX2_mostYearsOf_37 (q := 40) rfl (by decide) rfl rfl (by omega) ?_
        refine jr_goto hF dX2_mostYearsOf_40 5 (by decide) ?_
        exact ih1
      · refine jr_iload_n hF dX2_mostYearsOf_25 (q := 26) rfl rfl ?_
        refine jr_aload_n hF dX2_mostYearsOf_26 (q := 27) rfl rfl ?_
        refine jr_getR (ci := 2) (j := 1) hF dX2_mostYearsOf_27 (q := 30) rfl rfl rfl fl2_15 ?_
        refine jr_iload hF dX2_mostYearsOf_30 (q := 32) rfl rfl ?_
        refine jr_iald hF dX2_mostYearsOf_32 (q := 33) rfl rfl (by omega) ?_
        refine jr_max hF mxW_ok dX2_mostYearsOf_33 (q := 36) rfl lk2_73 (Nat.le_of_ble_eq_true rfl) (by decide) ?_
        refine jr_istore_n hF dX2_mostYearsOf_36 (q := 37) rfl (by decide) rfl ?_
        refine jr_iinc hF dX2_mostYearsOf_37 (q := 40) rfl (by decide) rfl rfl (by omega) ?_
        refine jr_goto hF dX2_mostYearsOf_40 5 (by decide) ?_
        rw [e3]
        have e4 : (if mostF (fun i => decide (w.1 i = m)) w.2 k < w.2 k then w.2 k else mostF (fun i => decide (w.1 i = m)) w.2 k) = mostF (fun i => decide (w.1 i = m)) w.2 (k + 1) := by
          rw [e2]
          simp [h2]
        rw [e4]
        exact ih1
set_option maxRecDepth 100000 in
theorem c_yearsOfAll (σ : Sg) (pl : Nat) (hpl : pl = 4 ∨ pl = 14) (nl : Nat) (hn : σ pl 1 = (nl : Int)) (h5 : nl ≤ 5) (w : GY) (hH : HR σ w.1 w.2) (hy : ∀ i, 0 ≤ w.2 i ∧ w.2 i ≤ 10) : RI mX2_yearsOfAll 1 [vR 24, vR pl] σ (fun z σ' => z = sumF w.2 nl ∧ σ = σ') := by
  refine mkRun (by decide +kernel) (Nat.le_of_ble_eq_true rfl) (fun X hF hR => ?_)
  refine jr_iconst hF dX2_yearsOfAll_0 (q := 1) rfl (by decide) ?_
  refine jr_istore_n hF dX2_yearsOfAll_1 (q := 2) rfl (by decide) rfl ?_
  refine jr_iconst hF dX2_yearsOfAll_2 (q := 3) rfl (by decide) ?_
  refine jr_istore_n hF dX2_yearsOfAll_3 (q := 4) rfl (by decide) rfl ?_
  refine gs_loop (α := Unit) (fun k _ => [some (vR 24), some (vR pl), some (vI (sumF w.2 k)), some (vI (k : Int))]) (fun _ => σ) (fun _ _ => True) nl (fun _ _ => ?_) (fun k _ hk _ ih => ?_) () trivial
  · refine jr_iload_n hF dX2_yearsOfAll_4 (q := 5) rfl rfl ?_
    refine jr_aload_n hF dX2_yearsOfAll_5 (q := 6) rfl rfl ?_
    refine jr_getI (ci := 4) (j := 1) hF 1 rfl dX2_yearsOfAll_6 (q := 9) rfl (by first | rfl | exact L_pl hpl | exact L_rm hpl | exact L_kd hpl | exact L_lw hpl | exact L_wo hpl | exact L_wr hpl (by omega)) rfl fl2_36 ?_
    refine jr_icmp_ge hF dX2_yearsOfAll_9 (q := 12) rfl 27 (by decide) (fun h1 => ?_) (fun h1 => ?_)
    · refine jr_iload_n hF dX2_yearsOfAll_27 (q := 28) rfl rfl ?_
      refine jr_retI hF hR dX2_yearsOfAll_28 rfl ⟨rfl, rfl⟩
    · omega
  · obtain ⟨e1, e3⟩ := hH k (by omega)
    have hs := sumF_le (n := k) (fun i _ => hy i)
    have hyk := hy k
    have ih1 := ih () trivial
    refine jr_iload_n hF dX2_yearsOfAll_4 (q := 5) rfl rfl ?_
    refine jr_aload_n hF dX2_yearsOfAll_5 (q := 6) rfl rfl ?_
    refine jr_getI (ci := 4) (j := 1) hF 1 rfl dX2_yearsOfAll_6 (q := 9) rfl (by first | rfl | exact L_pl hpl | exact L_rm hpl | exact L_kd hpl | exact L_lw hpl | exact L_wo hpl | exact L_wr hpl (by omega)) rfl fl2_36 ?_
    refine jr_icmp_ge hF dX2_yearsOfAll_9 (q := 12) rfl 27 (by decide) (fun h1 => ?_) (fun h1 => ?_)
    · omega
    · refine jr_iload_n hF dX2_yearsOfAll_12 (q := 13) rfl rfl ?_
      refine jr_aload_n hF dX2_yearsOfAll_13 (q := 14) rfl rfl ?_
      refine jr_getR (ci := 2) (j := 1) hF dX2_yearsOfAll_14 (q := 17) rfl rfl rfl fl2_15 ?_
      refine jr_iload_n hF dX2_yearsOfAll_17 (q := 18) rfl rfl ?_
      refine jr_iald hF dX2_yearsOfAll_18 (q := 19) rfl rfl (by omega) ?_
      refine jr_iadd hF dX2_yearsOfAll_19 (q := 20) rfl (by rw [e3]; omega) ?_
      refine jr_istore_n hF dX2_yearsOfAll_20 (q := 21) rfl (by decide) rfl ?_
      refine jr_iinc hF dX2_yearsOfAll_21 (q := 24) rfl (by decide) rfl rfl (by omega) ?_
      refine jr_goto hF dX2_yearsOfAll_24 4 (by decide) ?_
      rw [e3]
      exact ih1
set_option maxRecDepth 100000 in
theorem c_gainsOfAll (σ : Sg) (pl : Nat) (hpl : pl = 4 ∨ pl = 14) (F : FD) (hC : RepC σ pl F) (ok : okF F) (ab : Nat) (w : GY) (hw : wOK F ab (f_nm F) w) (hH : HR σ w.1 w.2) : RI mX2_gainsOfAll 2 [vR 24, vR pl] σ (fun z σ' => z = sumF (f_gn F w) (f_nl F) ∧ σ = σ') := by
  have hn := hC.2.1
  have h5 := ok.2.1
  refine mkRun (by decide +kernel) (Nat.le_of_ble_eq_true rfl) (fun X hF hR => ?_)
  refine jr_iconst hF dX2_gainsOfAll_0 (q := 1) rfl (by decide) ?_
  refine jr_istore_n hF dX2_gainsOfAll_1 (q := 2) rfl (by decide) rfl ?_
  refine jr_iconst hF dX2_gainsOfAll_2 (q := 3) rfl (by decide) ?_
  refine jr_istore_n hF dX2_gainsOfAll_3 (q := 4) rfl (by decide) rfl ?_
  refine gs_loop (α := Unit) (fun k _ => [some (vR 24), some (vR pl), some (vI (sumF (f_gn F w) k)), some (vI (k : Int))]) (fun _ => σ) (fun _ _ => True) (f_nl F) (fun _ _ => ?_) (fun k _ hk _ ih => ?_) () trivial
  · refine jr_iload_n hF dX2_gainsOfAll_4 (q := 5) rfl rfl ?_
    refine jr_aload_n hF dX2_gainsOfAll_5 (q := 6) rfl rfl ?_
    refine jr_getI (ci := 4) (j := 1) hF 1 rfl dX2_gainsOfAll_6 (q := 9) rfl (by first | rfl | exact L_pl hpl | exact L_rm hpl | exact L_kd hpl | exact L_lw hpl | exact L_wo hpl | exact L_wr hpl (by omega)) rfl fl2_36 ?_
    refine jr_icmp_ge hF dX2_gainsOfAll_9 (q := 12) rfl 27 (by decide) (fun h1 => ?_) (fun h1 => ?_)
    · refine jr_iload_n hF dX2_gainsOfAll_27 (q := 28) rfl rfl ?_
      refine jr_retI hF hR dX2_gainsOfAll_28 rfl ⟨rfl, rfl⟩
    · omega
  · have hs := sumF_le (n := k) (fun i _ => f_gn_le ok hw i)
    have hyk := f_gn_le ok hw k
    have ih1 := ih () trivial
    refine jr_iload_n hF dX2_gainsOfAll_4 (q := 5) rfl rfl ?_
    refine jr_aload_n hF dX2_gainsOfAll_5 (q := 6) rfl rfl ?_
    refine jr_getI (ci := 4) (j := 1) hF 1 rfl dX2_gainsOfAll_6 (q := 9) rfl (by first | rfl | exact L_pl hpl | exact L_rm hpl | exact L_kd hpl | exact L_lw hpl | exact L_wo hpl | exact L_wr hpl (by omega)) rfl fl2_36 ?_
    refine jr_icmp_ge hF dX2_gainsOfAll_9 (q := 12) rfl 27 (by decide) (fun h1 => ?_) (fun h1 => ?_)
    · omega
    · refine jr_iload_n hF dX2_gainsOfAll_12 (q := 13) rfl rfl ?_
      refine jr_aload_n hF dX2_gainsOfAll_13 (q := 14) rfl rfl ?_
      refine jr_aload_n hF dX2_gainsOfAll_14 (q := 15) rfl rfl ?_
      refine jr_iload_n hF dX2_gainsOfAll_15 (q := 16) rfl rfl ?_
      refine jr_cV2I hF (c_gainOf σ pl hpl F hC ok ab w hw hH k hk) dX2_gainsOfAll_16 (q := 19) rfl lk2_78 vX2_gainOf kX2_gainOf rfl rfl rfl (by decide) (Nat.le_of_ble_eq_true rfl) (fun z σ1 hz => ?_)
      obtain ⟨rfl, rfl⟩ := hz
      refine jr_iadd hF dX2_gainsOfAll_19 (q := 20) rfl (by omega) ?_
      refine jr_istore_n hF dX2_gainsOfAll_20 (q := 21) rfl (by decide) rfl ?_
      refine jr_iinc hF dX2_gainsOfAll_21 (q := 24) rfl (by decide) rfl rfl (by omega) ?_
      refine jr_goto hF dX2_gainsOfAll_24 4 (by decide) ?_
      exact ih1
set_option maxRecDepth 100000 in
theorem c_ladsHired (σ : Sg) (pl : Nat) (hpl : pl = 4 ∨ pl = 14) (nl : Nat) (hn : σ pl 1 = (nl : Int)) (h5 : nl ≤ 5) (w : GY) (hH : HR σ w.1 w.2) : RI mX2_ladsHired 1 [vR 24, vR pl] σ (fun z σ' => z = cnt (fun i => decide (w.1 i ≠ -4)) nl ∧ σ = σ') := by
  refine mkRun (by decide +kernel) (Nat.le_of_ble_eq_true rfl) (fun X hF hR => ?_)
  refine jr_iconst hF dX2_ladsHired_0 (q := 1) rfl (by decide) ?_
  refine jr_istore_n hF dX2_ladsHired_1 (q := 2) rfl (by decide) rfl ?_
  refine jr_iconst hF dX2_ladsHired_2 (q := 3) rfl (by decide) ?_
  refine jr_istore_n hF dX2_ladsHired_3 (q := 4) rfl (by decide) rfl ?_
  refine gs_loop (α := Unit) (fun k _ => [some (vR 24), some (vR pl), some (vI (cnt (fun i => decide (w.1 i ≠ -4)) k)), some (vI (k : Int))]) (fun _ => σ) (fun _ _ => True) nl (fun _ _ => ?_) (fun k _ hk _ ih => ?_) () trivial
  · refine jr_iload_n hF dX2_ladsHired_4 (q := 5) rfl rfl ?_
    refine jr_aload_n hF dX2_ladsHired_5 (q := 6) rfl rfl ?_
    refine jr_getI (ci := 4) (j := 1) hF 1 rfl dX2_ladsHired_6 (q := 9) rfl (by first | rfl | exact L_pl hpl | exact L_rm hpl | exact L_kd hpl | exact L_lw hpl | exact L_wo hpl | exact L_wr hpl (by omega)) rfl fl2_36 ?_
    refine jr_icmp_ge hF dX2_ladsHired_9 (q := 12) rfl 32 (by decide) (fun h1 => ?_) (fun h1 => ?_)
    · refine jr_iload_n hF dX2_ladsHired_32 (q := 33) rfl rfl ?_
      refine jr_retI hF hR dX2_ladsHired_33 rfl ⟨rfl, rfl⟩
    · omega
  · obtain ⟨e1, e3⟩ := hH k (by omega)
    have hc := cnt_le (fun i => decide (w.1 i ≠ -4)) k
    have e2 : cnt (fun i => decide (w.1 i ≠ -4)) (k + 1) = cnt (fun i => decide (w.1 i ≠ -4)) k + if decide (w.1 k ≠ -4) = true then 1 else 0 := rfl
    have ih1 := ih () trivial
    refine jr_iload_n hF dX2_ladsHired_4 (q := 5) rfl rfl ?_
    refine jr_aload_n hF dX2_ladsHired_5 (q := 6) rfl rfl ?_
    refine jr_getI (ci := 4) (j := 1) hF 1 rfl dX2_ladsHired_6 (q := 9) rfl (by first | rfl | exact L_pl hpl | exact L_rm hpl | exact L_kd hpl | exact L_lw hpl | exact L_wo hpl | exact L_wr hpl (by omega)) rfl fl2_36 ?_
    refine jr_icmp_ge hF dX2_ladsHired_9 (q := 12) rfl 32 (by decide) (fun h1 => ?_) (fun h1 => ?_)
    · omega
    · refine jr_aload_n hF dX2_ladsHired_12 (q := 13) rfl rfl ?_
      refine jr_getR (ci := 2) (j := 0) hF dX2_ladsHired_13 (q := 16) rfl rfl rfl fl2_9 ?_
      refine jr_iload_n hF dX2_ladsHired_16 (q := 17) rfl rfl ?_
      refine jr_iald hF dX2_ladsHired_17 (q := 18) rfl rfl (by omega) ?_
      refine jr_bipush hF dX2_ladsHired_18 (q := 20) rfl (by decide) (by decide +kernel) ?_
      rw [e1]
      refine jr_icmp_eq hF dX2_ladsHired_20 (q := 23) rfl 26 (by decide) (fun h2 => ?_) (fun h2 => ?_)
      · rw [e2, decide_eq_false (by omega), if_neg (by decide), Int.add_zero] at ih1
        refine jr_iinc hF dX2_ladsHired_26 (q := 29) rfl (by decide) rfl rfl (by omega) ?_
        refine jr_goto hF dX2_ladsHired_29 4 (by decide) ?_
        exact ih1
      · rw [e2, decide_eq_true h2, if_pos rfl] at ih1
        refine jr_iinc hF dX2_ladsHired_23 (q := 26) rfl (by decide) rfl rfl (by omega) ?_
        refine jr_iinc hF dX2_ladsHired_26 (q := 29) rfl (by decide) rfl rfl (by omega) ?_
        refine jr_goto hF dX2_ladsHired_29 4 (by decide) ?_
        exact ih1
set_option maxRecDepth 100000 in
theorem c_mastersAlone (σ : Sg) (pl : Nat) (hpl : pl = 4 ∨ pl = 14) (nl nm : Nat) (hn : σ pl 1 = (nl : Int)) (hm : σ pl 0 = (nm : Int)) (h5 : nl ≤ 5) (h3 : nm ≤ 3) (w : GY) (hH : HR σ w.1 w.2) : RI mX2_mastersAlone 2 [vR 24, vR pl] σ (fun z σ' => z = cnt (fun m => decide (bitsF (fun i => decide (w.1 i = (m : Int))) nl = 0)) nm ∧ σ = σ') := by
  refine mkRun (by decide +kernel) (Nat.le_of_ble_eq_true rfl) (fun X hF hR => ?_)
  refine jr_iconst hF dX2_mastersAlone_0 (q := 1) rfl (by decide) ?_
  refine jr_istore_n hF dX2_mastersAlone_1 (q := 2) rfl (by decide) rfl ?_
  refine jr_iconst hF dX2_mastersAlone_2 (q := 3) rfl (by decide) ?_
  refine jr_istore_n hF dX2_mastersAlone_3 (q := 4) rfl (by decide) rfl ?_
  refine gs_loop (α := Unit) (fun k _ => [some (vR 24), some (vR pl), some (vI (cnt (fun m => decide (bitsF (fun i => decide (w.1 i = (m : Int))) nl = 0)) k)), some (vI (k : Int))]) (fun _ => σ) (fun _ _ => True) nm (fun _ _ => ?_) (fun k _ hk _ ih => ?_) () trivial
  · refine jr_iload_n hF dX2_mastersAlone_4 (q := 5) rfl rfl ?_
    refine jr_aload_n hF dX2_mastersAlone_5 (q := 6) rfl rfl ?_
    refine jr_getI (ci := 4) (j := 0) hF 0 rfl dX2_mastersAlone_6 (q := 9) rfl (by first | rfl | exact L_pl hpl | exact L_rm hpl | exact L_kd hpl | exact L_lw hpl | exact L_wo hpl | exact L_wr hpl (by omega)) rfl fl2_30 ?_
    refine jr_icmp_ge hF dX2_mastersAlone_9 (q := 12) rfl 30 (by decide) (fun h1 => ?_) (fun h1 => ?_)
    · refine jr_iload_n hF dX2_mastersAlone_30 (q := 31) rfl rfl ?_
      refine jr_retI hF hR dX2_mastersAlone_31 rfl ⟨rfl, rfl⟩
    · omega
  · have hc := cnt_le (fun m => decide (bitsF (fun i => decide (w.1 i = (m : Int))) nl = 0)) k
    have e2 : cnt (fun m => decide (bitsF (fun i => decide (w.1 i = (m : Int))) nl = 0)) (k + 1) = cnt (fun m => decide (bitsF (fun i => decide (w.1 i = (m : Int))) nl = 0)) k + if decide (bitsF (fun i => decide (w.1 i = (k : Int))) nl = 0) = true then 1 else 0 := rfl
    have ih1 := ih () trivial
    refine jr_iload_n hF dX2_mastersAlone_4 (q := 5) rfl rfl ?_
    refine jr_aload_n hF dX2_mastersAlone_5 (q := 6) rfl rfl ?_
    refine jr_getI (ci := 4) (j := 0) hF 0 rfl dX2_mastersAlone_6 (q := 9) rfl (by first | rfl | exact L_pl hpl | exact L_rm hpl | exact L_kd hpl | exact L_lw hpl | exact L_wo hpl | exact L_wr hpl (by omega)) rfl fl2_30 ?_
    refine jr_icmp_ge hF dX2_mastersAlone_9 (q := 12) rfl 30 (by decide) (fun h1 => ?_) (fun h1 => ?_)
    · omega
    · refine jr_aload_n hF dX2_mastersAlone_12 (q := 13) rfl rfl ?_
      refine jr_aload_n hF dX2_mastersAlone_13 (q := 14) rfl rfl ?_
      refine jr_iload_n hF dX2_mastersAlone_14 (q := 15) rfl rfl ?_
      refine jr_cV2I hF (c_ladsOf σ pl hpl nl hn h5 w hH k) dX2_mastersAlone_15 (q := 18) rfl lk2_81 vX2_ladsOf kX2_ladsOf rfl rfl rfl (by decide) (Nat.le_of_ble_eq_true rfl) (fun z σ1 hz => ?_)
      obtain ⟨rfl, rfl⟩ := hz
      refine jr_if_ne hF dX2_mastersAlone_18 (q := 21) rfl 24 (by decide) (fun h2 => ?_) (fun h2 => ?_)
      · rw [e2, decide_eq_false h2, if_neg (by decide), Int.add_zero] at ih1
        refine jr_iinc hF dX2_mastersAlone_24 (q := 27) rfl (by decide) rfl rfl (by omega) ?_
        refine jr_goto hF dX2_mastersAlone_27 4 (by decide) ?_
        exact ih1
      · rw [e2, decide_eq_true h2, if_pos rfl] at ih1
        refine jr_iinc hF dX2_mastersAlone_21 (q := 24) rfl (by decide) rfl rfl (by omega) ?_
        refine jr_iinc hF dX2_mastersAlone_24 (q := 27) rfl (by decide) rfl rfl (by omega) ?_
        refine jr_goto hF dX2_mastersAlone_27 4 (by decide) ?_
        exact ih1
set_option maxRecDepth 100000 in
theorem c_hadGot (σ : Sg) (i m : Int) (hi : 0 ≤ i ∧ i < 5) : RI mX2_hadGotAnother 1 [vR 24, vI i, vI m] σ (fun z σ' => z = (if σ 25 i ≠ -4 ∧ σ 25 i < m then 1 else 0) ∧ σ = σ') := by
  refine mkRun (by decide +kernel) (Nat.le_of_ble_eq_true rfl) (fun X hF hR => ?_)
  refine jr_aload_n hF dX2_hadGotAnother_0 (q := 1) rfl rfl ?_
  refine jr_getR (ci := 2) (j := 0) hF dX2_hadGotAnother_1 (q := 4) rfl rfl rfl fl2_9 ?_
  refine jr_iload_n hF dX2_hadGotAnother_4 (q := 5) rfl rfl ?_
  refine jr_iald hF dX2_hadGotAnother_5 (q := 6) rfl rfl (by omega) ?_
  refine jr_bipush hF dX2_hadGotAnother_6 (q := 8) rfl (by decide) (by decide +kernel) ?_
  refine jr_icmp_eq hF dX2_hadGotAnother_8 (q := 11) rfl 25 (by decide) (fun h1 => ?_) (fun h1 => ?_)
  · refine jr_iconst hF dX2_hadGotAnother_25 (q := 26) rfl (by decide) ?_
    refine jr_retZ hF hR dX2_hadGotAnother_26 rfl (by first | exact Or.inl rfl | exact Or.inr rfl | omega) ⟨by rw [if_neg (by omega)], rfl⟩
  · refine jr_aload_n hF dX2_hadGotAnother_11 (q := 12) rfl rfl ?_
    refine jr_getR (ci := 2) (j := 0) hF dX2_hadGotAnother_12 (q := 15) rfl rfl rfl fl2_9 ?_
    refine jr_iload_n hF dX2_hadGotAnother_15 (q := 16) rfl rfl ?_
    refine jr_iald hF dX2_hadGotAnother_16 (q := 17) rfl rfl (by omega) ?_
    refine jr_iload_n hF dX2_hadGotAnother_17 (q := 18) rfl rfl ?_
    refine jr_icmp_ge hF dX2_hadGotAnother_18 (q := 21) rfl 25 (by decide) (fun h2 => ?_) (fun h2 => ?_)
    · refine jr_iconst hF dX2_hadGotAnother_25 (q := 26) rfl (by decide) ?_
      refine jr_retZ hF hR dX2_hadGotAnother_26 rfl (by first | exact Or.inl rfl | exact Or.inr rfl | omega) ⟨by rw [if_neg (by omega)], rfl⟩
    · refine jr_iconst hF dX2_hadGotAnother_21 (q := 22) rfl (by decide) ?_
      refine jr_goto hF dX2_hadGotAnother_22 26 (by decide) ?_
      refine jr_retZ hF hR dX2_hadGotAnother_26 rfl (by first | exact Or.inl rfl | exact Or.inr rfl | omega) ⟨by rw [if_pos (by omega)], rfl⟩
/-- the first call that a bound B does not answer, of those up to E -/
def f_out (sp E B : Int) (n : Nat) (p : Int) : Int := match n with
  | 0 => p
  | n + 1 => if p ≤ E ∧ p ≤ B then f_out sp E B n (p + sp) else p
theorem f_out_ge {sp E B : Int} (h : 1 ≤ sp ∧ sp ≤ 3) (n : Nat) : ∀ p, f_out sp E B n p = p ∨ p + sp ≤ f_out sp E B n p := by
  induction n with
  | zero => intro p; exact Or.inl rfl
  | succ n ih =>
    intro p
    unfold f_out
    split
    · rcases ih (p + sp) with e | e <;> omega
    · exact Or.inl rfl
theorem f_out_le {sp E B : Int} (h : 1 ≤ sp ∧ sp ≤ 3) (hB : B ≤ 10) (n : Nat) : ∀ p, p ≤ 13 → f_out sp E B n p ≤ 13 := by
  induction n with
  | zero => intro p hp; exact hp
  | succ n ih =>
    intro p hp
    unfold f_out
    split
    · exact ih _ (by omega)
    · exact hp
set_option maxRecDepth 100000 in
theorem c_firstOut (σ : Sg) (pl : Nat) (hpl : pl = 4 ∨ pl = 14) (F : FD) (hC : RepC σ pl F) (ok : okF F) (i m : Nat) (hi : i < f_nl F) (hm : m < f_nm F) : RI mX2_firstCallOut 2 [vR 24, vR pl, vI (i : Int), vI (m : Int)] σ (fun z σ' => z = f_out (f_sp F) (σ 28 (m : Int)) (f_bnd F i m) 11 1 ∧ σ = σ') := by
  have h5 := ok.2.1
  have h3 := ok.1
  have hsp := ok.2.2.2.2.2.2.2
  have hb := f_bnd_le ok hi hm
  have r8 := hC.2.2.2.2.2.2.2
  refine mkRun (by decide +kernel) (Nat.le_of_ble_eq_true rfl) (fun X hF hR => ?_)
  refine jr_aload_n hF dX2_firstCallOut_0 (q := 1) rfl rfl ?_
  refine jr_iload_n hF dX2_firstCallOut_1 (q := 2) rfl rfl ?_
  refine jr_iload_n hF dX2_firstCallOut_2 (q := 3) rfl rfl ?_
  refine jr_cV2I hF (c_boundOf σ pl hpl F hC ok i m hi hm) dX2_firstCallOut_3 (q := 6) rfl lk2_39 vX4_boundOf kX4_boundOf (by first | rfl | exact L_pl hpl | exact L_rm hpl | exact L_kd hpl | exact L_lw hpl | exact L_wo hpl | exact L_wr hpl (by omega)) rfl rfl (by decide) (Nat.le_of_ble_eq_true rfl) (fun z σ1 hz => ?_)
  obtain ⟨rfl, rfl⟩ := hz
  refine jr_istore hF dX2_firstCallOut_6 (q := 8) rfl (by decide) rfl ?_
  refine jr_iconst hF dX2_firstCallOut_8 (q := 9) rfl (by decide) ?_
  refine jr_istore hF dX2_firstCallOut_9 (q := 11) rfl (by decide) rfl ?_
  refine gs_down (α := Int) (fun p => [some (vR 24), some (vR pl), some (vI (i : Int)), some (vI (m : Int)), some (vI (f_bnd F i m)), some (vI p)]) (fun _ => σ) (fun n p => f_out (f_sp F) (σ 28 (m : Int)) (f_bnd F i m) n p = f_out (f_sp F) (σ 28 (m : Int)) (f_bnd F i m) 11 1 ∧ 12 ≤ p + n ∧ 1 ≤ p ∧ p ≤ 13) (fun p hI => ?_) (fun n p hI ih => ?_) 11 1 ⟨rfl, by omega, by omega, by omega⟩
  · have e : p = _ := hI.1
    refine jr_iload hF dX2_firstCallOut_11 (q := 13) rfl rfl ?_
    refine jr_aload_n hF dX2_firstCallOut_13 (q := 14) rfl rfl ?_
    refine jr_getR (ci := 2) (j := 3) hF dX2_firstCallOut_14 (q := 17) rfl rfl rfl fl2_21 ?_
    refine jr_iload_n hF dX2_firstCallOut_17 (q := 18) rfl rfl ?_
    refine jr_iald hF dX2_firstCallOut_18 (q := 19) rfl rfl (by omega) ?_
    refine jr_icmp_gt hF dX2_firstCallOut_19 (q := 22) rfl 44 (by decide) (fun hc => ?_) (fun hc => ?_)
    · refine jr_iload hF dX2_firstCallOut_44 (q := 46) rfl rfl ?_
      refine jr_retI hF hR dX2_firstCallOut_46 rfl ⟨e, rfl⟩
    · refine jr_iload hF dX2_firstCallOut_22 (q := 24) rfl rfl ?_
      refine jr_iload hF dX2_firstCallOut_24 (q := 26) rfl rfl ?_
      refine jr_icmp_gt hF dX2_firstCallOut_26 (q := 29) rfl 44 (by decide) (fun hd => ?_) (fun hd => ?_)
      · refine jr_iload hF dX2_firstCallOut_44 (q := 46) rfl rfl ?_
        refine jr_retI hF hR dX2_firstCallOut_46 rfl ⟨e, rfl⟩
      · omega
  · have e0 : f_out (f_sp F) (σ 28 (m : Int)) (f_bnd F i m) (n + 1) p = if p ≤ σ 28 (m : Int) ∧ p ≤ f_bnd F i m then f_out (f_sp F) (σ 28 (m : Int)) (f_bnd F i m) n (p + f_sp F) else p := rfl
    have hI1 := hI.1
    have hn := hI.2.1
    refine jr_iload hF dX2_firstCallOut_11 (q := 13) rfl rfl ?_
    refine jr_aload_n hF dX2_firstCallOut_13 (q := 14) rfl rfl ?_
    refine jr_getR (ci := 2) (j := 3) hF dX2_firstCallOut_14 (q := 17) rfl rfl rfl fl2_21 ?_
    refine jr_iload_n hF dX2_firstCallOut_17 (q := 18) rfl rfl ?_
    refine jr_iald hF dX2_firstCallOut_18 (q := 19) rfl rfl (by omega) ?_
    refine jr_icmp_gt hF dX2_firstCallOut_19 (q := 22) rfl 44 (by decide) (fun hc => ?_) (fun hc => ?_)
    · refine jr_iload hF dX2_firstCallOut_44 (q := 46) rfl rfl ?_
      rw [e0, if_neg (by omega)] at hI1
      refine jr_retI hF hR dX2_firstCallOut_46 rfl ⟨hI1, rfl⟩
    · refine jr_iload hF dX2_firstCallOut_22 (q := 24) rfl rfl ?_
      refine jr_iload hF dX2_firstCallOut_24 (q := 26) rfl rfl ?_
      refine jr_icmp_gt hF dX2_firstCallOut_26 (q := 29) rfl 44 (by decide) (fun hd => ?_) (fun hd => ?_)
      · refine jr_iload hF dX2_firstCallOut_44 (q := 46) rfl rfl ?_
        rw [e0, if_neg (by omega)] at hI1
        refine jr_retI hF hR dX2_firstCallOut_46 rfl ⟨hI1, rfl⟩
      · rw [e0, if_pos ⟨hc, hd⟩] at hI1
        refine jr_iload hF dX2_firstCallOut_29 (q := 31) rfl rfl ?_
        refine jr_aload_n hF dX2_firstCallOut_31 (q := 32) rfl rfl ?_
        refine jr_getR (ci := 4) (j := 5) hF dX2_firstCallOut_32 (q := 35) rfl (by first | rfl | exact L_pl hpl | exact L_rm hpl | exact L_kd hpl | exact L_lw hpl | exact L_wo hpl | exact L_wr hpl (by omega)) rfl fl2_43 ?_
        refine jr_bipush hF dX2_firstCallOut_35 (q := 37) rfl (by decide) (by decide +kernel) ?_
        refine jr_iald hF dX2_firstCallOut_37 (q := 38) rfl (by first | rfl | exact L_pl hpl | exact L_rm hpl | exact L_kd hpl | exact L_lw hpl | exact L_wo hpl | exact L_wr hpl (by omega)) (by omega) ?_
        refine jr_iadd hF dX2_firstCallOut_38 (q := 39) rfl (by rw [r8]; omega) ?_
        refine jr_istore hF dX2_firstCallOut_39 (q := 41) rfl (by decide) rfl ?_
        refine jr_goto hF dX2_firstCallOut_41 11 (by decide) ?_
        rw [r8]
        exact ih _ ⟨hI1, by omega, by omega, by omega⟩
set_option maxRecDepth 100000 in
theorem c_spanFrom (σ : Sg) (pl : Nat) (hpl : pl = 4 ∨ pl = 14) (F : FD) (hC : RepC σ pl F) (ok : okF F) (i m : Nat) (hi : i < f_nl F) (hm : m < f_nm F) : RI mX2_spanFrom 3 [vR 24, vR pl, vI (i : Int), vI (m : Int)] σ (fun z σ' => z = (if σ 25 (i : Int) ≠ -4 ∧ σ 25 (i : Int) < (m : Int) then 0 else if f_out (f_sp F) (σ 28 (m : Int)) (f_bnd F i m) 11 1 = 1 then 0 else f_out (f_sp F) (σ 28 (m : Int)) (f_bnd F i m) 11 1 - f_sp F) ∧ σ = σ') := by
  have h5 := ok.2.1
  have hsp := ok.2.2.2.2.2.2.2
  have r8 := hC.2.2.2.2.2.2.2
  have hb := f_bnd_le ok hi hm
  have ho := f_out_ge (E := σ 28 (m : Int)) (B := f_bnd F i m) hsp 11 1
  have ho2 := f_out_le (E := σ 28 (m : Int)) (B := f_bnd F i m) hsp hb.2.1 11 1 (by omega)
  refine mkRun (by decide +kernel) (Nat.le_of_ble_eq_true rfl) (fun X hF hR => ?_)
  refine jr_aload_n hF dX2_spanFrom_0 (q := 1) rfl rfl ?_
  refine jr_iload_n hF dX2_spanFrom_1 (q := 2) rfl rfl ?_
  refine jr_iload_n hF dX2_spanFrom_2 (q := 3) rfl rfl ?_
  refine jr_cV2I hF (c_hadGot σ i m (by omega)) dX2_spanFrom_3 (q := 6) rfl lk2_84 vX2_hadGotAnother kX2_hadGotAnother rfl rfl rfl (by decide) (Nat.le_of_ble_eq_true rfl) (fun z σ1 hz => ?_)
  obtain ⟨rfl, rfl⟩ := hz
  refine jr_if_eq hF dX2_spanFrom_6 (q := 9) rfl 11 (by decide) (fun hc => ?_) (fun hc => ?_)
  · have hc2 : ¬ (σ 25 (i : Int) ≠ -4 ∧ σ 25 (i : Int) < (m : Int)) := fun h => by rw [if_pos h] at hc; omega
    refine jr_iconst hF dX2_spanFrom_11 (q := 12) rfl (by decide) ?_
    refine jr_aload_n hF dX2_spanFrom_12 (q := 13) rfl rfl ?_
    refine jr_aload_n hF dX2_spanFrom_13 (q := 14) rfl rfl ?_
    refine jr_iload_n hF dX2_spanFrom_14 (q := 15) rfl rfl ?_
    refine jr_iload_n hF dX2_spanFrom_15 (q := 16) rfl rfl ?_
    refine jr_cV3I hF (c_firstOut σ pl hpl F hC ok i m hi hm) dX2_spanFrom_16 (q := 19) rfl lk2_87 vX2_firstCallOut kX2_firstCallOut rfl rfl rfl (by decide) (Nat.le_of_ble_eq_true rfl) (fun z σ1 hz => ?_)
    obtain ⟨rfl, rfl⟩ := hz
    refine jr_aload_n hF dX2_spanFrom_19 (q := 20) rfl rfl ?_
    refine jr_getR (ci := 4) (j := 5) hF dX2_spanFrom_20 (q := 23) rfl (by first | rfl | exact L_pl hpl | exact L_rm hpl | exact L_kd hpl | exact L_lw hpl | exact L_wo hpl | exact L_wr hpl (by omega)) rfl fl2_43 ?_
    refine jr_bipush hF dX2_spanFrom_23 (q := 25) rfl (by decide) (by decide +kernel) ?_
    refine jr_iald hF dX2_spanFrom_25 (q := 26) rfl (by first | rfl | exact L_pl hpl | exact L_rm hpl | exact L_kd hpl | exact L_lw hpl | exact L_wo hpl | exact L_wr hpl (by omega)) (by omega) ?_
    rw [r8]
    refine jr_isub hF dX2_spanFrom_26 (q := 27) rfl (by omega) ?_
    refine jr_max hF mxW_ok dX2_spanFrom_27 (q := 30) rfl lk2_73 (Nat.le_of_ble_eq_true rfl) (by decide) ?_
    refine jr_retI hF hR dX2_spanFrom_30 rfl ⟨by rw [if_neg hc2]; split <;> split <;> omega, rfl⟩
  · have hc2 : σ 25 (i : Int) ≠ -4 ∧ σ 25 (i : Int) < (m : Int) := Classical.byContradiction fun h => by rw [if_neg h] at hc; omega
    refine jr_iconst hF dX2_spanFrom_9 (q := 10) rfl (by decide) ?_
    refine jr_retI hF hR dX2_spanFrom_10 rfl ⟨by rw [if_pos hc2], rfl⟩
set_option maxRecDepth 100000 in
theorem c_spanTo (σ : Sg) (pl : Nat) (hpl : pl = 4 ∨ pl = 14) (F : FD) (hC : RepC σ pl F) (ok : okF F) (i m : Nat) (hi : i < f_nl F) (hm : m < f_nm F) : RI mX2_spanTo 3 [vR 24, vR pl, vI (i : Int), vI (m : Int)] σ (fun z σ' => z = (if σ 25 (i : Int) ≠ -4 ∧ σ 25 (i : Int) < (m : Int) then 10 else if σ 28 (m : Int) < f_out (f_sp F) (σ 28 (m : Int)) (f_bnd F i m) 11 1 then 10 else f_out (f_sp F) (σ 28 (m : Int)) (f_bnd F i m) 11 1 - 1) ∧ σ = σ') := by
  have h5 := ok.2.1
  have h3 := ok.1
  have hsp := ok.2.2.2.2.2.2.2
  have hb := f_bnd_le ok hi hm
  have ho := f_out_ge (E := σ 28 (m : Int)) (B := f_bnd F i m) hsp 11 1
  have ho2 := f_out_le (E := σ 28 (m : Int)) (B := f_bnd F i m) hsp hb.2.1 11 1 (by omega)
  refine mkRun (by decide +kernel) (Nat.le_of_ble_eq_true rfl) (fun X hF hR => ?_)
  refine jr_aload_n hF dX2_spanTo_0 (q := 1) rfl rfl ?_
  refine jr_iload_n hF dX2_spanTo_1 (q := 2) rfl rfl ?_
  refine jr_iload_n hF dX2_spanTo_2 (q := 3) rfl rfl ?_
  refine jr_cV2I hF (c_hadGot σ i m (by omega)) dX2_spanTo_3 (q := 6) rfl lk2_84 vX2_hadGotAnother kX2_hadGotAnother rfl rfl rfl (by decide) (Nat.le_of_ble_eq_true rfl) (fun z σ1 hz => ?_)
  obtain ⟨rfl, rfl⟩ := hz
  refine jr_if_eq hF dX2_spanTo_6 (q := 9) rfl 12 (by decide) (fun hc => ?_) (fun hc => ?_)
  · have hc2 : ¬ (σ 25 (i : Int) ≠ -4 ∧ σ 25 (i : Int) < (m : Int)) := fun h => by rw [if_pos h] at hc; omega
    refine jr_aload_n hF dX2_spanTo_12 (q := 13) rfl rfl ?_
    refine jr_aload_n hF dX2_spanTo_13 (q := 14) rfl rfl ?_
    refine jr_iload_n hF dX2_spanTo_14 (q := 15) rfl rfl ?_
    refine jr_iload_n hF dX2_spanTo_15 (q := 16) rfl rfl ?_
    refine jr_cV3I hF (c_firstOut σ pl hpl F hC ok i m hi hm) dX2_spanTo_16 (q := 19) rfl lk2_87 vX2_firstCallOut kX2_firstCallOut rfl rfl rfl (by decide) (Nat.le_of_ble_eq_true rfl) (fun z σ1 hz => ?_)
    obtain ⟨rfl, rfl⟩ := hz
    refine jr_istore hF dX2_spanTo_19 (q := 21) rfl (by decide) rfl ?_
    refine jr_iload hF dX2_spanTo_21 (q := 23) rfl rfl ?_
    refine jr_aload_n hF dX2_spanTo_23 (q := 24) rfl rfl ?_
    refine jr_getR (ci := 2) (j := 3) hF dX2_spanTo_24 (q := 27) rfl rfl rfl fl2_21 ?_
    refine jr_iload_n hF dX2_spanTo_27 (q := 28) rfl rfl ?_
    refine jr_iald hF dX2_spanTo_28 (q := 29) rfl rfl (by omega) ?_
    refine jr_icmp_le hF dX2_spanTo_29 (q := 32) rfl 37 (by decide) (fun hd => ?_) (fun hd => ?_)
    · refine jr_iload hF dX2_spanTo_37 (q := 39) rfl rfl ?_
      refine jr_iconst hF dX2_spanTo_39 (q := 40) rfl (by decide) ?_
      refine jr_isub hF dX2_spanTo_40 (q := 41) rfl (by omega) ?_
      refine jr_retI hF hR dX2_spanTo_41 rfl ⟨by rw [if_neg hc2, if_neg (by omega)], rfl⟩
    · refine jr_bipush hF dX2_spanTo_32 (q := 34) rfl (by decide) (by decide +kernel) ?_
      refine jr_goto hF dX2_spanTo_34 41 (by decide) ?_
      refine jr_retI hF hR dX2_spanTo_41 rfl ⟨by rw [if_neg hc2, if_pos hd], rfl⟩
  · have hc2 : σ 25 (i : Int) ≠ -4 ∧ σ 25 (i : Int) < (m : Int) := Classical.byContradiction fun h => by rw [if_neg h] at hc; omega
    refine jr_bipush hF dX2_spanTo_9 (q := 11) rfl (by decide) (by decide +kernel) ?_
    refine jr_retI hF hR dX2_spanTo_11 rfl ⟨by rw [if_pos hc2], rfl⟩
end
section
/-! ===== Plan: cleared, copied, told ===== -/
def FZ (F : FD) : Prop := ∀ i m : Nat, f_nl F ≤ i ∨ f_nm F ≤ m → f_wt F i m = 0
def RdC (σ : Sg) (pl : Nat) (F : FD) : Prop := RepC σ pl F ∧ ∀ i m : Nat, i < f_nl F → f_nm F ≤ m → m < 3 → σ (pl + 4 + i) (m : Int) = 0
def F00 : FD := (0, 0, fun _ => 0, fun _ => 0, fun _ _ => 0, fun _ => 0, 0, 1)
theorem okF_00 : okF F00 := ⟨by decide, by decide, fun m h => absurd h (Nat.not_lt_zero m), fun m h => absurd h (Nat.not_lt_zero m), fun i m h => absurd h (Nat.not_lt_zero i), fun m h => absurd h (Nat.not_lt_zero m), by decide, by decide⟩
theorem FZ_00 : FZ F00 := fun _ _ _ => rfl
/-- a master, a lad, a want, calls, a step told; none if it is not so -/
def t_m (F : FD) (c : Int) : Option FD := if f_nm F < 3 ∧ 1 ≤ c ∧ c ≤ 3 then some (f_nm F + 1, f_nl F, st1 (f_rm F) (f_nm F) c, f_kd F, f_wt F, f_lm F, f_ca F, f_sp F) else none
def t_l (F : FD) (l k : Int) : Option FD := if f_nl F < 5 ∧ 1 ≤ l ∧ l ≤ 10 ∧ 0 ≤ k ∧ k ≤ 3 then some (f_nm F, f_nl F + 1, f_rm F, st1 (f_kd F) (f_nl F) k, f_wt F, st1 (f_lm F) (f_nl F) l, f_ca F, f_sp F) else none
def st2 (f : Nat → Nat → Int) (a b : Nat) (v : Int) : Nat → Nat → Int := fun i j => if i = a ∧ j = b then v else f i j
def t_w (F : FD) (i m w : Int) : Option FD := if 0 ≤ i ∧ i < f_nl F ∧ 0 ≤ m ∧ m < f_nm F ∧ 0 ≤ w ∧ w ≤ 10 then some (f_nm F, f_nl F, f_rm F, f_kd F, st2 (f_wt F) i.toNat m.toNat w, f_lm F, f_ca F, f_sp F) else none
def t_c (F : FD) (k : Int) : Option FD := if 0 ≤ k ∧ k ≤ 2 then some (f_nm F, f_nl F, f_rm F, f_kd F, f_wt F, f_lm F, k, f_sp F) else none
def t_s (F : FD) (s : Int) : Option FD := if 1 ≤ s ∧ s ≤ 3 then some (f_nm F, f_nl F, f_rm F, f_kd F, f_wt F, f_lm F, f_ca F, s) else none
/-- what is told comes to z (0: refused, nothing changed) and to a plan -/
def told (σ : Sg) (pl : Nat) (o : Option FD) (z : Int) (σ' : Sg) : Prop := (∀ k, k < pl ∨ pl + 9 < k → σ' k = σ k) ∧ match o with
  | none => z = 0
  | some F => z = 1 ∧ RdC σ' pl F
set_option maxRecDepth 100000 in
theorem c_clear (σ : Sg) (pl : Nat) (hpl : pl = 4 ∨ pl = 14) : RV mX4_clear 1 [vR pl] σ (fun σ' => RdC σ' pl F00 ∧ ∀ k, k < pl ∨ pl + 9 < k → σ' k = σ k) := by
  refine mkRun (by decide +kernel) (Nat.le_of_ble_eq_true rfl) (fun X hF hR => ?_)
  refine jr_aload_n hF dX4_clear_0 (q := 1) rfl rfl ?_
  refine jr_iconst hF dX4_clear_1 (q := 2) rfl (by decide) ?_
  refine jr_putI (ci := 4) (j := 0) hF 0 rfl dX4_clear_2 (q := 5) rfl (by first | rfl | exact L_pl hpl | exact L_rm hpl | exact L_kd hpl | exact L_lw hpl | exact L_wo hpl | exact L_wr hpl (by omega) | exact L_pl hp2 | exact L_rm hp2 | exact L_kd hp2 | exact L_lw hp2 | exact L_wo hp2 | exact L_wr hp2 (by omega)) rfl fp4_26 ?_
  refine jr_aload_n hF dX4_clear_5 (q := 6) rfl rfl ?_
  refine jr_iconst hF dX4_clear_6 (q := 7) rfl (by decide) ?_
  refine jr_putI (ci := 4) (j := 1) hF 1 rfl dX4_clear_7 (q := 10) rfl (by first | rfl | exact L_pl hpl | exact L_rm hpl | exact L_kd hpl | exact L_lw hpl | exact L_wo hpl | exact L_wr hpl (by omega) | exact L_pl hp2 | exact L_rm hp2 | exact L_kd hp2 | exact L_lw hp2 | exact L_wo hp2 | exact L_wr hp2 (by omega)) rfl fp4_30 ?_
  refine jr_aload_n hF dX4_clear_10 (q := 11) rfl rfl ?_
  refine jr_getR (ci := 4) (j := 5) hF dX4_clear_11 (q := 14) rfl (by first | rfl | exact L_pl hpl | exact L_rm hpl | exact L_kd hpl | exact L_lw hpl | exact L_wo hpl | exact L_wr hpl (by omega) | exact L_pl hp2 | exact L_rm hp2 | exact L_kd hp2 | exact L_lw hp2 | exact L_wo hp2 | exact L_wr hp2 (by omega)) rfl fl4_23 ?_
  refine jr_iconst hF dX4_clear_14 (q := 15) rfl (by decide) ?_
  refine jr_iconst hF dX4_clear_15 (q := 16) rfl (by decide) ?_
  refine jr_iast hF dX4_clear_16 (q := 17) rfl (by first | rfl | exact L_pl hpl | exact L_rm hpl | exact L_kd hpl | exact L_lw hpl | exact L_wo hpl | exact L_wr hpl (by omega) | exact L_pl hp2 | exact L_rm hp2 | exact L_kd hp2 | exact L_lw hp2 | exact L_wo hp2 | exact L_wr hp2 (by omega)) (by omega) ?_
  refine jr_aload_n hF dX4_clear_17 (q := 18) rfl rfl ?_
  refine jr_getR (ci := 4) (j := 5) hF dX4_clear_18 (q := 21) rfl (by first | rfl | exact L_pl hpl | exact L_rm hpl | exact L_kd hpl | exact L_lw hpl | exact L_wo hpl | exact L_wr hpl (by omega) | exact L_pl hp2 | exact L_rm hp2 | exact L_kd hp2 | exact L_lw hp2 | exact L_wo hp2 | exact L_wr hp2 (by omega)) rfl fl4_23 ?_
  refine jr_bipush hF dX4_clear_21 (q := 23) rfl (by decide) (by decide +kernel) ?_
  refine jr_iconst hF dX4_clear_23 (q := 24) rfl (by decide) ?_
  refine jr_iast hF dX4_clear_24 (q := 25) rfl (by first | rfl | exact L_pl hpl | exact L_rm hpl | exact L_kd hpl | exact L_lw hpl | exact L_wo hpl | exact L_wr hpl (by omega) | exact L_pl hp2 | exact L_rm hp2 | exact L_kd hp2 | exact L_lw hp2 | exact L_wo hp2 | exact L_wr hp2 (by omega)) (by omega) ?_
  refine jr_retV hF hR dX4_clear_25 rfl ⟨⟨⟨?_, ?_, ?_, ?_, ?_, ?_, ?_, ?_⟩, ?_⟩, fun k hk => ?_⟩
  · rw [up_ne (by omega), up_ne (by omega)]; simp [up, F00]
  · rw [up_ne (by omega), up_ne (by omega)]; simp [up, F00]
  · exact fun m h => absurd h (Nat.not_lt_zero m)
  · exact fun m h => absurd h (Nat.not_lt_zero m)
  · exact fun i m h => absurd h (Nat.not_lt_zero i)
  · exact fun m h => absurd h (Nat.not_lt_zero m)
  · simp [up, F00]
  · simp [up, F00]
  · exact fun i m h => absurd h (Nat.not_lt_zero i)
  · rw [up_ne (by omega), up_ne (by omega), up_ne (by omega), up_ne (by omega)]
set_option maxRecDepth 100000 in
theorem c_addMaster (σ : Sg) (pl : Nat) (hpl : pl = 4 ∨ pl = 14) (F : FD) (hC : RdC σ pl F) (hz : FZ F) (ok : okF F) (c : Int) : RI mX4_addMaster 2 [vR pl, vI c] σ (fun z σ' => told σ pl (t_m F c) z σ') := by
  have h3 := ok.1
  have h5 := ok.2.1
  have r1 := hC.1.1
  refine mkRun (by decide +kernel) (Nat.le_of_ble_eq_true rfl) (fun X hF hR => ?_)
  refine jr_aload_n hF dX4_addMaster_0 (q := 1) rfl rfl ?_
  refine jr_getI (ci := 4) (j := 0) hF 0 rfl dX4_addMaster_1 (q := 4) rfl (by first | rfl | exact L_pl hpl | exact L_rm hpl | exact L_kd hpl | exact L_lw hpl | exact L_wo hpl | exact L_wr hpl (by omega) | exact L_pl hp2 | exact L_rm hp2 | exact L_kd hp2 | exact L_lw hp2 | exact L_wo hp2 | exact L_wr hp2 (by omega)) rfl fl4_26 ?_
  refine jr_iconst hF dX4_addMaster_4 (q := 5) rfl (by decide) ?_
  refine jr_icmp_ge hF dX4_addMaster_5 (q := 8) rfl 17 (by decide) (fun h1 => ?_) (fun h1 => ?_)
  · refine jr_iconst hF dX4_addMaster_17 (q := 18) rfl (by decide) ?_
    refine jr_retZ hF hR dX4_addMaster_18 rfl (by first | exact Or.inl rfl | exact Or.inr rfl | omega) ⟨fun _ _ => rfl, by unfold t_m; rw [if_neg (by omega)]⟩
  · refine jr_iload_n hF dX4_addMaster_8 (q := 9) rfl rfl ?_
    refine jr_iconst hF dX4_addMaster_9 (q := 10) rfl (by decide) ?_
    refine jr_iconst hF dX4_addMaster_10 (q := 11) rfl (by decide) ?_
    refine jr_cN3I hF (c_isWithin σ c 1 3) dX4_addMaster_11 (q := 14) rfl rfl rfl vX9_isWithin kX9_isWithin (by decide) (Nat.le_of_ble_eq_true rfl) (fun z σ1 hz1 => ?_)
    obtain ⟨rfl, rfl⟩ := hz1
    refine jr_if_ne hF dX4_addMaster_14 (q := 17) rfl 19 (by decide) (fun h2 => ?_) (fun h2 => ?_)
    · have hc : 1 ≤ c ∧ c ≤ 3 := Classical.byContradiction fun h => h2 (by rw [if_neg h])
      refine jr_aload_n hF dX4_addMaster_19 (q := 20) rfl rfl ?_
      refine jr_getR (ci := 4) (j := 2) hF dX4_addMaster_20 (q := 23) rfl (by first | rfl | exact L_pl hpl | exact L_rm hpl | exact L_kd hpl | exact L_lw hpl | exact L_wo hpl | exact L_wr hpl (by omega) | exact L_pl hp2 | exact L_rm hp2 | exact L_kd hp2 | exact L_lw hp2 | exact L_wo hp2 | exact L_wr hp2 (by omega)) rfl fl4_9 ?_
      refine jr_aload_n hF dX4_addMaster_23 (q := 24) rfl rfl ?_
      refine jr_getI (ci := 4) (j := 0) hF 0 rfl dX4_addMaster_24 (q := 27) rfl (by first | rfl | exact L_pl hpl | exact L_rm hpl | exact L_kd hpl | exact L_lw hpl | exact L_wo hpl | exact L_wr hpl (by omega) | exact L_pl hp2 | exact L_rm hp2 | exact L_kd hp2 | exact L_lw hp2 | exact L_wo hp2 | exact L_wr hp2 (by omega)) rfl fl4_26 ?_
      rw [r1]
      refine jr_iload_n hF dX4_addMaster_27 (q := 28) rfl rfl ?_
      refine jr_iast hF dX4_addMaster_28 (q := 29) rfl (by first | rfl | exact L_pl hpl | exact L_rm hpl | exact L_kd hpl | exact L_lw hpl | exact L_wo hpl | exact L_wr hpl (by omega) | exact L_pl hp2 | exact L_rm hp2 | exact L_kd hp2 | exact L_lw hp2 | exact L_wo hp2 | exact L_wr hp2 (by omega)) (by omega) ?_
      refine jr_aload_n hF dX4_addMaster_29 (q := 30) rfl rfl ?_
      refine jr_dup hF dX4_addMaster_30 (q := 31) rfl rfl ?_
      refine jr_getI (ci := 4) (j := 0) hF 0 rfl dX4_addMaster_31 (q := 34) rfl (by first | rfl | exact L_pl hpl | exact L_rm hpl | exact L_kd hpl | exact L_lw hpl | exact L_wo hpl | exact L_wr hpl (by omega) | exact L_pl hp2 | exact L_rm hp2 | exact L_kd hp2 | exact L_lw hp2 | exact L_wo hp2 | exact L_wr hp2 (by omega)) rfl fl4_26 ?_
      rw [up_ne (show pl ≠ pl + 1 by omega), r1]
      refine jr_iconst hF dX4_addMaster_34 (q := 35) rfl (by decide) ?_
      refine jr_iadd hF dX4_addMaster_35 (q := 36) rfl (by omega) ?_
      refine jr_putI (ci := 4) (j := 0) hF 0 rfl dX4_addMaster_36 (q := 39) rfl (by first | rfl | exact L_pl hpl | exact L_rm hpl | exact L_kd hpl | exact L_lw hpl | exact L_wo hpl | exact L_wr hpl (by omega) | exact L_pl hp2 | exact L_rm hp2 | exact L_kd hp2 | exact L_lw hp2 | exact L_wo hp2 | exact L_wr hp2 (by omega)) rfl fp4_26 ?_
      refine jr_iconst hF dX4_addMaster_39 (q := 40) rfl (by decide) ?_
      refine jr_retZ hF hR dX4_addMaster_40 rfl (Or.inr rfl) ⟨fun k hk => by rw [up_ne (by omega), up_ne (by omega)], ?_⟩
      obtain ⟨⟨q1, q2, q3, q4, q5, q6, q7, q8⟩, q9⟩ := hC
      have e : t_m F c = some (f_nm F + 1, f_nl F, st1 (f_rm F) (f_nm F) c, f_kd F, f_wt F, f_lm F, f_ca F, f_sp F) := by unfold t_m; rw [if_pos (by omega)]
      rw [e]
      refine ⟨rfl, ⟨?_, ?_, fun m hm => ?_, fun i hi => ?_, fun i m hi hm => ?_, fun i hi => ?_, ?_, ?_⟩, fun i m hi hm hm3 => ?_⟩
      · first | (simp [up]; done) | (simp [up]; rfl)
      · rw [← q2]; simp [up]
      · rw [up_ne (by omega), up_nat]
        show _ = st1 (f_rm F) (f_nm F) c m
        unfold st1
        split
        · rfl
        · replace hm : m < f_nm F + 1 := hm
          exact q3 m (by omega)
      · rw [up_ne (by omega), up_ne (by omega)]; exact q4 i hi
      · rw [up_ne (by omega), up_ne (by omega)]
        replace hm : m < f_nm F + 1 := hm
        by_cases em : m = f_nm F
        · subst em
          show _ = f_wt F i (f_nm F)
          rw [hz i (f_nm F) (Or.inr (Nat.le_refl _))]
          exact q9 i _ hi (Nat.le_refl _) (by omega)
        · exact q5 i m hi (by omega)
      · rw [up_ne (by omega), up_ne (by omega)]; exact q6 i hi
      · rw [up_ne (by omega), up_ne (by omega)]; exact q7
      · rw [up_ne (by omega), up_ne (by omega)]; exact q8
      · rw [up_ne (by omega), up_ne (by omega)]
        replace hm : f_nm F + 1 ≤ m := hm
        exact q9 i m hi (by omega) hm3
    · refine jr_iconst hF dX4_addMaster_17 (q := 18) rfl (by decide) ?_
      have hc : ¬ (1 ≤ c ∧ c ≤ 3) := fun h => by rw [if_pos h] at h2; omega
      refine jr_retZ hF hR dX4_addMaster_18 rfl (by first | exact Or.inl rfl | exact Or.inr rfl | omega) ⟨fun _ _ => rfl, by unfold t_m; rw [if_neg (by omega)]⟩
set_option maxRecDepth 100000 in
theorem c_addLad (σ : Sg) (pl : Nat) (hpl : pl = 4 ∨ pl = 14) (F : FD) (hC : RdC σ pl F) (hz : FZ F) (ok : okF F) (l k : Int) : RI mX4_addLad 2 [vR pl, vI l, vI k] σ (fun z σ' => told σ pl (t_l F l k) z σ') := by
  have h3 := ok.1
  have h5 := ok.2.1
  have r1 := hC.1.2.1
  refine mkRun (by decide +kernel) (Nat.le_of_ble_eq_true rfl) (fun X hF hR => ?_)
  refine jr_aload_n hF dX4_addLad_0 (q := 1) rfl rfl ?_
  refine jr_getI (ci := 4) (j := 1) hF 1 rfl dX4_addLad_1 (q := 4) rfl (by first | rfl | exact L_pl hpl | exact L_rm hpl | exact L_kd hpl | exact L_lw hpl | exact L_wo hpl | exact L_wr hpl (by omega) | exact L_pl hp2 | exact L_rm hp2 | exact L_kd hp2 | exact L_lw hp2 | exact L_wo hp2 | exact L_wr hp2 (by omega)) rfl fl4_30 ?_
  refine jr_iconst hF dX4_addLad_4 (q := 5) rfl (by decide) ?_
  refine jr_icmp_ge hF dX4_addLad_5 (q := 8) rfl 27 (by decide) (fun h1 => ?_) (fun h1 => ?_)
  · refine jr_iconst hF dX4_addLad_27 (q := 28) rfl (by decide) ?_
    refine jr_retZ hF hR dX4_addLad_28 rfl (by first | exact Or.inl rfl | exact Or.inr rfl | omega) ⟨fun _ _ => rfl, by unfold t_l; rw [if_neg (by omega)]⟩
  · refine jr_iload_n hF dX4_addLad_8 (q := 9) rfl rfl ?_
    refine jr_iconst hF dX4_addLad_9 (q := 10) rfl (by decide) ?_
    refine jr_bipush hF dX4_addLad_10 (q := 12) rfl (by decide) (by decide +kernel) ?_
    refine jr_cN3I hF (c_isWithin σ l 1 10) dX4_addLad_12 (q := 15) rfl rfl rfl vX9_isWithin kX9_isWithin (by decide) (Nat.le_of_ble_eq_true rfl) (fun z σ1 hz1 => ?_)
    obtain ⟨rfl, rfl⟩ := hz1
    refine jr_if_eq hF dX4_addLad_15 (q := 18) rfl 27 (by decide) (fun h2 => ?_) (fun h2 => ?_)
    · have hc : ¬ (1 ≤ l ∧ l ≤ 10) := fun h => by rw [if_pos h] at h2; omega
      refine jr_iconst hF dX4_addLad_27 (q := 28) rfl (by decide) ?_
      refine jr_retZ hF hR dX4_addLad_28 rfl (by first | exact Or.inl rfl | exact Or.inr rfl | omega) ⟨fun _ _ => rfl, by unfold t_l; rw [if_neg (by omega)]⟩
    · have hc : 1 ≤ l ∧ l ≤ 10 := Classical.byContradiction fun h => h2 (by rw [if_neg h])
      refine jr_iload_n hF dX4_addLad_18 (q := 19) rfl rfl ?_
      refine jr_iconst hF dX4_addLad_19 (q := 20) rfl (by decide) ?_
      refine jr_iconst hF dX4_addLad_20 (q := 21) rfl (by decide) ?_
      refine jr_cN3I hF (c_isWithin σ k 0 3) dX4_addLad_21 (q := 24) rfl rfl rfl vX9_isWithin kX9_isWithin (by decide) (Nat.le_of_ble_eq_true rfl) (fun z σ1 hz1 => ?_)
      obtain ⟨rfl, rfl⟩ := hz1
      refine jr_if_ne hF dX4_addLad_24 (q := 27) rfl 29 (by decide) (fun h4 => ?_) (fun h4 => ?_)
      · have hd : 0 ≤ k ∧ k ≤ 3 := Classical.byContradiction fun h => h4 (by rw [if_neg h])
        refine jr_aload_n hF dX4_addLad_29 (q := 30) rfl rfl ?_
        refine jr_getR (ci := 4) (j := 5) hF dX4_addLad_30 (q := 33) rfl (by first | rfl | exact L_pl hpl | exact L_rm hpl | exact L_kd hpl | exact L_lw hpl | exact L_wo hpl | exact L_wr hpl (by omega) | exact L_pl hp2 | exact L_rm hp2 | exact L_kd hp2 | exact L_lw hp2 | exact L_wo hp2 | exact L_wr hp2 (by omega)) rfl fl4_23 ?_
        refine jr_aload_n hF dX4_addLad_33 (q := 34) rfl rfl ?_
        refine jr_getI (ci := 4) (j := 1) hF 1 rfl dX4_addLad_34 (q := 37) rfl (by first | rfl | exact L_pl hpl | exact L_rm hpl | exact L_kd hpl | exact L_lw hpl | exact L_wo hpl | exact L_wr hpl (by omega) | exact L_pl hp2 | exact L_rm hp2 | exact L_kd hp2 | exact L_lw hp2 | exact L_wo hp2 | exact L_wr hp2 (by omega)) rfl fl4_30 ?_
        rw [r1]
        refine jr_iload_n hF dX4_addLad_37 (q := 38) rfl rfl ?_
        refine jr_iast hF dX4_addLad_38 (q := 39) rfl (by first | rfl | exact L_pl hpl | exact L_rm hpl | exact L_kd hpl | exact L_lw hpl | exact L_wo hpl | exact L_wr hpl (by omega) | exact L_pl hp2 | exact L_rm hp2 | exact L_kd hp2 | exact L_lw hp2 | exact L_wo hp2 | exact L_wr hp2 (by omega)) (by omega) ?_
        refine jr_aload_n hF dX4_addLad_39 (q := 40) rfl rfl ?_
        refine jr_getR (ci := 4) (j := 3) hF dX4_addLad_40 (q := 43) rfl (by first | rfl | exact L_pl hpl | exact L_rm hpl | exact L_kd hpl | exact L_lw hpl | exact L_wo hpl | exact L_wr hpl (by omega) | exact L_pl hp2 | exact L_rm hp2 | exact L_kd hp2 | exact L_lw hp2 | exact L_wo hp2 | exact L_wr hp2 (by omega)) rfl fl4_15 ?_
        refine jr_aload_n hF dX4_addLad_43 (q := 44) rfl rfl ?_
        refine jr_getI (ci := 4) (j := 1) hF 1 rfl dX4_addLad_44 (q := 47) rfl (by first | rfl | exact L_pl hpl | exact L_rm hpl | exact L_kd hpl | exact L_lw hpl | exact L_wo hpl | exact L_wr hpl (by omega) | exact L_pl hp2 | exact L_rm hp2 | exact L_kd hp2 | exact L_lw hp2 | exact L_wo hp2 | exact L_wr hp2 (by omega)) rfl fl4_30 ?_
        rw [up_ne (show pl ≠ pl + 9 by omega), r1]
        refine jr_iload_n hF dX4_addLad_47 (q := 48) rfl rfl ?_
        refine jr_iast hF dX4_addLad_48 (q := 49) rfl (by first | rfl | exact L_pl hpl | exact L_rm hpl | exact L_kd hpl | exact L_lw hpl | exact L_wo hpl | exact L_wr hpl (by omega) | exact L_pl hp2 | exact L_rm hp2 | exact L_kd hp2 | exact L_lw hp2 | exact L_wo hp2 | exact L_wr hp2 (by omega)) (by omega) ?_
        refine jr_aload_n hF dX4_addLad_49 (q := 50) rfl rfl ?_
        refine jr_getR (ci := 4) (j := 4) hF dX4_addLad_50 (q := 53) rfl (by first | rfl | exact L_pl hpl | exact L_rm hpl | exact L_kd hpl | exact L_lw hpl | exact L_wo hpl | exact L_wr hpl (by omega) | exact L_pl hp2 | exact L_rm hp2 | exact L_kd hp2 | exact L_lw hp2 | exact L_wo hp2 | exact L_wr hp2 (by omega)) rfl fl4_20 ?_
        refine jr_aload_n hF dX4_addLad_53 (q := 54) rfl rfl ?_
        refine jr_getI (ci := 4) (j := 1) hF 1 rfl dX4_addLad_54 (q := 57) rfl (by first | rfl | exact L_pl hpl | exact L_rm hpl | exact L_kd hpl | exact L_lw hpl | exact L_wo hpl | exact L_wr hpl (by omega) | exact L_pl hp2 | exact L_rm hp2 | exact L_kd hp2 | exact L_lw hp2 | exact L_wo hp2 | exact L_wr hp2 (by omega)) rfl fl4_30 ?_
        rw [up_ne (show pl ≠ pl + 2 by omega), up_ne (show pl ≠ pl + 9 by omega), r1]
        refine jr_aald hF dX4_addLad_57 (q := 58) rfl (by first | rfl | exact L_pl hpl | exact L_rm hpl | exact L_kd hpl | exact L_lw hpl | exact L_wo hpl | exact L_wr hpl (by omega) | exact L_pl hp2 | exact L_rm hp2 | exact L_kd hp2 | exact L_lw hp2 | exact L_wo hp2 | exact L_wr hp2 (by omega)) (by omega) ?_
        rw [tn]
        refine jr_iconst hF dX4_addLad_58 (q := 59) rfl (by decide) ?_
        refine jr_cS2V hF (c_fill _ (pl + 4 + f_nl F) 3 0 [] (L_wr hpl (by omega)) (by decide) 0) dX4_addLad_59 (q := 62) rfl lk4_43 vJ7_fill_53178 kJ7_fill_53178 (by decide) (Nat.le_of_ble_eq_true rfl) (fun σ1 hz1 => ?_)
        have g1 : ∀ c, c ≠ pl + 4 + f_nl F → c ≠ pl + 2 → c ≠ pl + 9 → σ1 c = σ c := fun c a1 a2 a3 => by rw [← hz1, uc_ne a1, up_ne a2, up_ne a3]
        have g2 : ∀ j : Nat, σ1 (pl + 2) (j : Int) = if j = f_nl F then k else σ (pl + 2) (j : Int) := fun j => by rw [← hz1, uc_ne (by omega), up_nat, up_ne (by omega)]
        have g3 : ∀ j : Nat, σ1 (pl + 9) (j : Int) = if j = f_nl F then l else σ (pl + 9) (j : Int) := fun j => by rw [← hz1, uc_ne (by omega), up_ne (by omega), up_nat]
        have g4 : ∀ m : Nat, m < 3 → σ1 (pl + 4 + f_nl F) (m : Int) = 0 := fun m hm => by rw [← hz1, uc_eq, if_pos (by omega)]
        have r1' : σ1 pl 1 = (f_nl F : Int) := by rw [g1 pl (by omega) (by omega) (by omega)]; exact r1
        clear hz1
        refine jr_aload_n hF dX4_addLad_62 (q := 63) rfl rfl ?_
        refine jr_dup hF dX4_addLad_63 (q := 64) rfl rfl ?_
        refine jr_getI (ci := 4) (j := 1) hF 1 rfl dX4_addLad_64 (q := 67) rfl (by first | rfl | exact L_pl hpl | exact L_rm hpl | exact L_kd hpl | exact L_lw hpl | exact L_wo hpl | exact L_wr hpl (by omega) | exact L_pl hp2 | exact L_rm hp2 | exact L_kd hp2 | exact L_lw hp2 | exact L_wo hp2 | exact L_wr hp2 (by omega)) rfl fl4_30 ?_
        rw [r1']
        refine jr_iconst hF dX4_addLad_67 (q := 68) rfl (by decide) ?_
        refine jr_iadd hF dX4_addLad_68 (q := 69) rfl (by omega) ?_
        refine jr_putI (ci := 4) (j := 1) hF 1 rfl dX4_addLad_69 (q := 72) rfl (by first | rfl | exact L_pl hpl | exact L_rm hpl | exact L_kd hpl | exact L_lw hpl | exact L_wo hpl | exact L_wr hpl (by omega) | exact L_pl hp2 | exact L_rm hp2 | exact L_kd hp2 | exact L_lw hp2 | exact L_wo hp2 | exact L_wr hp2 (by omega)) rfl fp4_30 ?_
        refine jr_iconst hF dX4_addLad_72 (q := 73) rfl (by decide) ?_
        refine jr_retZ hF hR dX4_addLad_73 rfl (Or.inr rfl) ⟨fun k hk => by rw [up_ne (by omega)]; exact g1 k (by omega) (by omega) (by omega), ?_⟩
        obtain ⟨⟨q1, q2, q3, q4, q5, q6, q7, q8⟩, q9⟩ := hC
        have e : t_l F l k = some (f_nm F, f_nl F + 1, f_rm F, st1 (f_kd F) (f_nl F) k, f_wt F, st1 (f_lm F) (f_nl F) l, f_ca F, f_sp F) := by unfold t_l; rw [if_pos (by omega)]
        rw [e]
        refine ⟨rfl, ⟨?_, ?_, fun m hm => ?_, fun i hi => ?_, fun i m hi hm => ?_, fun i hi => ?_, ?_, ?_⟩, fun i m hi hm hm3 => ?_⟩
        · rw [← q1, ← g1 pl (by omega) (by omega) (by omega)]; simp [up]
        · first | (simp [up]; done) | (simp [up]; rfl)
        · rw [up_ne (by omega), g1 _ (by omega) (by omega) (by omega)]; exact q3 m hm
        · rw [up_ne (by omega), g2]
          show _ = st1 (f_kd F) (f_nl F) k i
          unfold st1
          split
          · rfl
          · replace hi : i < f_nl F + 1 := hi
            exact q4 i (by omega)
        · rw [up_ne (by omega)]
          replace hi : i < f_nl F + 1 := hi
          replace hm : m < f_nm F := hm
          by_cases ei : i = f_nl F
          · subst ei
            show _ = f_wt F (f_nl F) m
            rw [hz _ m (Or.inl (Nat.le_refl _))]
            exact g4 m (by omega)
          · rw [g1 _ (by omega) (by omega) (by omega)]
            exact q5 i m (by omega) hm
        · rw [up_ne (by omega), g3]
          show _ = st1 (f_lm F) (f_nl F) l i
          unfold st1
          split
          · rfl
          · replace hi : i < f_nl F + 1 := hi
            exact q6 i (by omega)
        · rw [up_ne (by omega)]
          have := g3 5
          rw [if_neg (by omega)] at this
          exact this.trans q7
        · rw [up_ne (by omega)]
          have := g3 6
          rw [if_neg (by omega)] at this
          exact this.trans q8
        · rw [up_ne (by omega)]
          replace hi : i < f_nl F + 1 := hi
          replace hm : f_nm F ≤ m := hm
          by_cases ei : i = f_nl F
          · subst ei
            exact g4 m hm3
          · rw [g1 _ (by omega) (by omega) (by omega)]
            exact q9 i m (by omega) hm hm3
      · have hd : ¬ (0 ≤ k ∧ k ≤ 3) := fun h => by rw [if_pos h] at h4; omega
        refine jr_iconst hF dX4_addLad_27 (q := 28) rfl (by decide) ?_
        refine jr_retZ hF hR dX4_addLad_28 rfl (by first | exact Or.inl rfl | exact Or.inr rfl | omega) ⟨fun _ _ => rfl, by unfold t_l; rw [if_neg (by omega)]⟩
set_option maxRecDepth 100000 in
theorem c_addWant (σ : Sg) (pl : Nat) (hpl : pl = 4 ∨ pl = 14) (F : FD) (hC : RdC σ pl F) (ok : okF F) (i m w : Int) : RI mX4_addWant 2 [vR pl, vI i, vI m, vI w] σ (fun z σ' => told σ pl (t_w F i m w) z σ') := by
  have h3 := ok.1
  have h5 := ok.2.1
  have r1 := hC.1.1
  have r2 := hC.1.2.1
  refine mkRun (by decide +kernel) (Nat.le_of_ble_eq_true rfl) (fun X hF hR => ?_)
  refine jr_aload_n hF dX4_addWant_0 (q := 1) rfl rfl ?_
  refine jr_iload_n hF dX4_addWant_1 (q := 2) rfl rfl ?_
  refine jr_cV1I hF (c_hasLad σ pl hpl i) dX4_addWant_2 (q := 5) rfl lk4_49 vX4_hasLad kX4_hasLad (by first | rfl | exact L_pl hpl | exact L_rm hpl | exact L_kd hpl | exact L_lw hpl | exact L_wo hpl | exact L_wr hpl (by omega) | exact L_pl hp2 | exact L_rm hp2 | exact L_kd hp2 | exact L_lw hp2 | exact L_wo hp2 | exact L_wr hp2 (by omega)) rfl rfl (by decide) (Nat.le_of_ble_eq_true rfl) (fun z σ1 hz => ?_)
  obtain ⟨rfl, rfl⟩ := hz
  refine jr_if_eq hF dX4_addWant_5 (q := 8) rfl 26 (by decide) (fun a1 => ?_) (fun a1 => ?_)
  · have b1 : ¬ (0 ≤ i ∧ i < σ pl 1) := fun h => by rw [if_pos h] at a1; omega
    refine jr_iconst hF dX4_addWant_26 (q := 27) rfl (by decide) ?_
    refine jr_retZ hF hR dX4_addWant_27 rfl (by first | exact Or.inl rfl | exact Or.inr rfl | omega) ⟨fun _ _ => rfl, by unfold t_w; rw [if_neg (by omega)]⟩
  · have b1 : 0 ≤ i ∧ i < σ pl 1 := Classical.byContradiction fun h => a1 (by rw [if_neg h])
    refine jr_aload_n hF dX4_addWant_8 (q := 9) rfl rfl ?_
    refine jr_iload_n hF dX4_addWant_9 (q := 10) rfl rfl ?_
    refine jr_cV1I hF (c_hasMaster σ pl hpl m) dX4_addWant_10 (q := 13) rfl lk4_53 vX4_hasMaster kX4_hasMaster (by first | rfl | exact L_pl hpl | exact L_rm hpl | exact L_kd hpl | exact L_lw hpl | exact L_wo hpl | exact L_wr hpl (by omega) | exact L_pl hp2 | exact L_rm hp2 | exact L_kd hp2 | exact L_lw hp2 | exact L_wo hp2 | exact L_wr hp2 (by omega)) rfl rfl (by decide) (Nat.le_of_ble_eq_true rfl) (fun z σ1 hz => ?_)
    obtain ⟨rfl, rfl⟩ := hz
    refine jr_if_eq hF dX4_addWant_13 (q := 16) rfl 26 (by decide) (fun a2 => ?_) (fun a2 => ?_)
    · have b2 : ¬ (0 ≤ m ∧ m < σ pl 0) := fun h => by rw [if_pos h] at a2; omega
      refine jr_iconst hF dX4_addWant_26 (q := 27) rfl (by decide) ?_
      refine jr_retZ hF hR dX4_addWant_27 rfl (by first | exact Or.inl rfl | exact Or.inr rfl | omega) ⟨fun _ _ => rfl, by unfold t_w; rw [if_neg (by omega)]⟩
    · have b2 : 0 ≤ m ∧ m < σ pl 0 := Classical.byContradiction fun h => a2 (by rw [if_neg h])
      refine jr_iload_n hF dX4_addWant_16 (q := 17) rfl rfl ?_
      refine jr_iconst hF dX4_addWant_17 (q := 18) rfl (by decide) ?_
      refine jr_bipush hF dX4_addWant_18 (q := 20) rfl (by decide) (by decide +kernel) ?_
      refine jr_cN3I hF (c_isWithin σ w 0 10) dX4_addWant_20 (q := 23) rfl rfl rfl vX9_isWithin kX9_isWithin (by decide) (Nat.le_of_ble_eq_true rfl) (fun z σ1 hz => ?_)
      obtain ⟨rfl, rfl⟩ := hz
      refine jr_if_ne hF dX4_addWant_23 (q := 26) rfl 28 (by decide) (fun a3 => ?_) (fun a3 => ?_)
      · have b3 : 0 ≤ w ∧ w ≤ 10 := Classical.byContradiction fun h => a3 (by rw [if_neg h])
        obtain ⟨i', rfl⟩ : ∃ i' : Nat, i = (i' : Int) := ⟨i.toNat, by omega⟩
        obtain ⟨m', rfl⟩ : ∃ m' : Nat, m = (m' : Int) := ⟨m.toNat, by omega⟩
        refine jr_aload_n hF dX4_addWant_28 (q := 29) rfl rfl ?_
        refine jr_getR (ci := 4) (j := 4) hF dX4_addWant_29 (q := 32) rfl (by first | rfl | exact L_pl hpl | exact L_rm hpl | exact L_kd hpl | exact L_lw hpl | exact L_wo hpl | exact L_wr hpl (by omega) | exact L_pl hp2 | exact L_rm hp2 | exact L_kd hp2 | exact L_lw hp2 | exact L_wo hp2 | exact L_wr hp2 (by omega)) rfl fl4_20 ?_
        refine jr_iload_n hF dX4_addWant_32 (q := 33) rfl rfl ?_
        refine jr_aald hF dX4_addWant_33 (q := 34) rfl (by first | rfl | exact L_pl hpl | exact L_rm hpl | exact L_kd hpl | exact L_lw hpl | exact L_wo hpl | exact L_wr hpl (by omega) | exact L_pl hp2 | exact L_rm hp2 | exact L_kd hp2 | exact L_lw hp2 | exact L_wo hp2 | exact L_wr hp2 (by omega)) (by omega) ?_
        rw [tn]
        refine jr_iload_n hF dX4_addWant_34 (q := 35) rfl rfl ?_
        refine jr_iload_n hF dX4_addWant_35 (q := 36) rfl rfl ?_
        refine jr_iast hF dX4_addWant_36 (q := 37) rfl (by first | rfl | exact L_pl hpl | exact L_rm hpl | exact L_kd hpl | exact L_lw hpl | exact L_wo hpl | exact L_wr hpl (by omega) | exact L_pl hp2 | exact L_rm hp2 | exact L_kd hp2 | exact L_lw hp2 | exact L_wo hp2 | exact L_wr hp2 (by omega)) (by omega) ?_
        refine jr_iconst hF dX4_addWant_37 (q := 38) rfl (by decide) ?_
        refine jr_retZ hF hR dX4_addWant_38 rfl (Or.inr rfl) ⟨fun k hk => by rw [up_ne (by omega)], ?_⟩
        obtain ⟨⟨q1, q2, q3, q4, q5, q6, q7, q8⟩, q9⟩ := hC
        have e : t_w F (i' : Int) (m' : Int) w = some (f_nm F, f_nl F, f_rm F, f_kd F, st2 (f_wt F) i' m' w, f_lm F, f_ca F, f_sp F) := by unfold t_w; rw [if_pos (by omega)]; rfl
        rw [e]
        refine ⟨rfl, ⟨?_, ?_, fun m hm => ?_, fun i hi => ?_, fun i m hi hm => ?_, fun i hi => ?_, ?_, ?_⟩, fun i m hi hm hm3 => ?_⟩
        · rw [up_ne (by omega)]; exact q1
        · rw [up_ne (by omega)]; exact q2
        · rw [up_ne (by omega)]; exact q3 m hm
        · rw [up_ne (by omega)]; exact q4 i hi
        · replace hi : i < f_nl F := hi
          replace hm : m < f_nm F := hm
          show _ = st2 (f_wt F) i' m' w i m
          unfold st2
          by_cases ei : i = i'
          · subst ei
            rw [up_nat]
            by_cases em : m = m'
            · rw [if_pos em, if_pos ⟨rfl, em⟩]
            · rw [if_neg em, if_neg (fun h => em h.2)]
              exact q5 i m hi hm
          · rw [up_ne (by omega), if_neg (fun h => ei h.1)]
            exact q5 i m hi hm
        · rw [up_ne (by omega)]; exact q6 i hi
        · rw [up_ne (by omega)]; exact q7
        · rw [up_ne (by omega)]; exact q8
        · replace hi : i < f_nl F := hi
          replace hm : f_nm F ≤ m := hm
          by_cases ei : i = i'
          · subst ei
            rw [up_nat, if_neg (by omega)]
            exact q9 i m hi hm hm3
          · rw [up_ne (by omega)]
            exact q9 i m hi hm hm3
      · have b3 : ¬ (0 ≤ w ∧ w ≤ 10) := fun h => by rw [if_pos h] at a3; omega
        refine jr_iconst hF dX4_addWant_26 (q := 27) rfl (by decide) ?_
        refine jr_retZ hF hR dX4_addWant_27 rfl (by first | exact Or.inl rfl | exact Or.inr rfl | omega) ⟨fun _ _ => rfl, by unfold t_w; rw [if_neg (by omega)]⟩
set_option maxRecDepth 100000 in
theorem c_tellCalls (σ : Sg) (pl : Nat) (hpl : pl = 4 ∨ pl = 14) (F : FD) (hC : RdC σ pl F) (ok : okF F) (k : Int) : RI mX4_tellCalls 2 [vR pl, vI k] σ (fun z σ' => told σ pl (t_c F k) z σ') := by
  have h5 := ok.2.1
  refine mkRun (by decide +kernel) (Nat.le_of_ble_eq_true rfl) (fun X hF hR => ?_)
  refine jr_iload_n hF dX4_tellCalls_0 (q := 1) rfl rfl ?_
  refine jr_iconst hF dX4_tellCalls_1 (q := 2) rfl (by decide) ?_
  refine jr_iconst hF dX4_tellCalls_2 (q := 3) rfl (by decide) ?_
  refine jr_cN3I hF (c_isWithin σ k 0 2) dX4_tellCalls_3 (q := 6) rfl rfl rfl vX9_isWithin kX9_isWithin (by decide) (Nat.le_of_ble_eq_true rfl) (fun z σ1 hz => ?_)
  obtain ⟨rfl, rfl⟩ := hz
  refine jr_if_ne hF dX4_tellCalls_6 (q := 9) rfl 11 (by decide) (fun a1 => ?_) (fun a1 => ?_)
  · have b1 : 0 ≤ k ∧ k ≤ 2 := Classical.byContradiction fun h => a1 (by rw [if_neg h])
    refine jr_aload_n hF dX4_tellCalls_11 (q := 12) rfl rfl ?_
    refine jr_getR (ci := 4) (j := 5) hF dX4_tellCalls_12 (q := 15) rfl (by first | rfl | exact L_pl hpl | exact L_rm hpl | exact L_kd hpl | exact L_lw hpl | exact L_wo hpl | exact L_wr hpl (by omega) | exact L_pl hp2 | exact L_rm hp2 | exact L_kd hp2 | exact L_lw hp2 | exact L_wo hp2 | exact L_wr hp2 (by omega)) rfl fl4_23 ?_
    refine jr_iconst hF dX4_tellCalls_15 (q := 16) rfl (by decide) ?_
    refine jr_iload_n hF dX4_tellCalls_16 (q := 17) rfl rfl ?_
    refine jr_iast hF dX4_tellCalls_17 (q := 18) rfl (by first | rfl | exact L_pl hpl | exact L_rm hpl | exact L_kd hpl | exact L_lw hpl | exact L_wo hpl | exact L_wr hpl (by omega) | exact L_pl hp2 | exact L_rm hp2 | exact L_kd hp2 | exact L_lw hp2 | exact L_wo hp2 | exact L_wr hp2 (by omega)) (by omega) ?_
    refine jr_iconst hF dX4_tellCalls_18 (q := 19) rfl (by decide) ?_
    refine jr_retZ hF hR dX4_tellCalls_19 rfl (Or.inr rfl) ⟨fun k hk => by rw [up_ne (by omega)], ?_⟩
    obtain ⟨⟨q1, q2, q3, q4, q5, q6, q7, q8⟩, q9⟩ := hC
    have e : t_c F k = some (f_nm F, f_nl F, f_rm F, f_kd F, f_wt F, f_lm F, k, f_sp F) := by unfold t_c; rw [if_pos (by omega)]
    rw [e]
    refine ⟨rfl, ⟨?_, ?_, fun m hm => ?_, fun i hi => ?_, fun i m hi hm => ?_, fun i hi => ?_, ?_, ?_⟩, fun i m hi hm hm3 => ?_⟩
    · rw [up_ne (by omega)]; exact q1
    · rw [up_ne (by omega)]; exact q2
    · rw [up_ne (by omega)]; exact q3 m hm
    · rw [up_ne (by omega)]; exact q4 i hi
    · replace hi : i < f_nl F := hi
      rw [up_ne (by omega)]; exact q5 i m hi hm
    · replace hi : i < f_nl F := hi
      rw [show (5 : Int) = ((5 : Nat) : Int) from rfl, up_nat, if_neg (by omega)]; exact q6 i hi
    · simp [up]
    · rw [← q8]; simp [up]
    · replace hi : i < f_nl F := hi
      rw [up_ne (by omega)]; exact q9 i m hi hm hm3
  · have b1 : ¬ (0 ≤ k ∧ k ≤ 2) := fun h => by rw [if_pos h] at a1; omega
    refine jr_iconst hF dX4_tellCalls_9 (q := 10) rfl (by decide) ?_
    refine jr_retZ hF hR dX4_tellCalls_10 rfl (by first | exact Or.inl rfl | exact Or.inr rfl | omega) ⟨fun _ _ => rfl, by unfold t_c; rw [if_neg (by omega)]⟩
set_option maxRecDepth 100000 in
theorem c_tellStep (σ : Sg) (pl : Nat) (hpl : pl = 4 ∨ pl = 14) (F : FD) (hC : RdC σ pl F) (ok : okF F) (k : Int) : RI mX4_tellStep 2 [vR pl, vI k] σ (fun z σ' => told σ pl (t_s F k) z σ') := by
  have h5 := ok.2.1
  refine mkRun (by decide +kernel) (Nat.le_of_ble_eq_true rfl) (fun X hF hR => ?_)
  refine jr_iload_n hF dX4_tellStep_0 (q := 1) rfl rfl ?_
  refine jr_iconst hF dX4_tellStep_1 (q := 2) rfl (by decide) ?_
  refine jr_iconst hF dX4_tellStep_2 (q := 3) rfl (by decide) ?_
  refine jr_cN3I hF (c_isWithin σ k 1 3) dX4_tellStep_3 (q := 6) rfl rfl rfl vX9_isWithin kX9_isWithin (by decide) (Nat.le_of_ble_eq_true rfl) (fun z σ1 hz => ?_)
  obtain ⟨rfl, rfl⟩ := hz
  refine jr_if_ne hF dX4_tellStep_6 (q := 9) rfl 11 (by decide) (fun a1 => ?_) (fun a1 => ?_)
  · have b1 : 1 ≤ k ∧ k ≤ 3 := Classical.byContradiction fun h => a1 (by rw [if_neg h])
    refine jr_aload_n hF dX4_tellStep_11 (q := 12) rfl rfl ?_
    refine jr_getR (ci := 4) (j := 5) hF dX4_tellStep_12 (q := 15) rfl (by first | rfl | exact L_pl hpl | exact L_rm hpl | exact L_kd hpl | exact L_lw hpl | exact L_wo hpl | exact L_wr hpl (by omega) | exact L_pl hp2 | exact L_rm hp2 | exact L_kd hp2 | exact L_lw hp2 | exact L_wo hp2 | exact L_wr hp2 (by omega)) rfl fl4_23 ?_
    refine jr_bipush hF dX4_tellStep_15 (q := 17) rfl (by decide) (by decide +kernel) ?_
    refine jr_iload_n hF dX4_tellStep_17 (q := 18) rfl rfl ?_
    refine jr_iast hF dX4_tellStep_18 (q := 19) rfl (by first | rfl | exact L_pl hpl | exact L_rm hpl | exact L_kd hpl | exact L_lw hpl | exact L_wo hpl | exact L_wr hpl (by omega) | exact L_pl hp2 | exact L_rm hp2 | exact L_kd hp2 | exact L_lw hp2 | exact L_wo hp2 | exact L_wr hp2 (by omega)) (by omega) ?_
    refine jr_iconst hF dX4_tellStep_19 (q := 20) rfl (by decide) ?_
    refine jr_retZ hF hR dX4_tellStep_20 rfl (Or.inr rfl) ⟨fun k hk => by rw [up_ne (by omega)], ?_⟩
    obtain ⟨⟨q1, q2, q3, q4, q5, q6, q7, q8⟩, q9⟩ := hC
    have e : t_s F k = some (f_nm F, f_nl F, f_rm F, f_kd F, f_wt F, f_lm F, f_ca F, k) := by unfold t_s; rw [if_pos (by omega)]
    rw [e]
    refine ⟨rfl, ⟨?_, ?_, fun m hm => ?_, fun i hi => ?_, fun i m hi hm => ?_, fun i hi => ?_, ?_, ?_⟩, fun i m hi hm hm3 => ?_⟩
    · rw [up_ne (by omega)]; exact q1
    · rw [up_ne (by omega)]; exact q2
    · rw [up_ne (by omega)]; exact q3 m hm
    · rw [up_ne (by omega)]; exact q4 i hi
    · replace hi : i < f_nl F := hi
      rw [up_ne (by omega)]; exact q5 i m hi hm
    · replace hi : i < f_nl F := hi
      rw [show (6 : Int) = ((6 : Nat) : Int) from rfl, up_nat, if_neg (by omega)]; exact q6 i hi
    · rw [← q7]; simp [up]
    · simp [up]
    · replace hi : i < f_nl F := hi
      rw [up_ne (by omega)]; exact q9 i m hi hm hm3
  · have b1 : ¬ (1 ≤ k ∧ k ≤ 3) := fun h => by rw [if_pos h] at a1; omega
    refine jr_iconst hF dX4_tellStep_9 (q := 10) rfl (by decide) ?_
    refine jr_retZ hF hR dX4_tellStep_10 rfl (by first | exact Or.inl rfl | exact Or.inr rfl | omega) ⟨fun _ _ => rfl, by unfold t_s; rw [if_neg (by omega)]⟩
theorem jr_copy0 {M : MM} {d : Nat} {X : CT} (hF : Fix M d X) {pc : Nat} {lv : List (Option PV)} {st : List PV} {σ : Sg} {idx a b na nb xa xb : Nat} {n : Int} {fa fb : List (Option Nat)} (hw : cpW) (hdg : decode M.2.1 pc = .ok (.invokestatic idx, 3)) {q : Nat} (hq : pc + 3 = q) (hlk0 : Cond.methodLink M.1.cls idx arraycopyName ∈ wsT) (hLa : Lay[a]? = some (1, na, xa, fa)) (hLb : Lay[b]? = some (1, nb, xb, fb)) (h0 : 0 ≤ n ∧ n ≤ (na : Int) ∧ n ≤ (nb : Int)) (hr : (st.map pcat).sum ≤ 8) (hd : 1 ≤ d) (k : ∀ σ' : Sg, (∀ c, c ≠ b → σ' c = σ c) → (∀ j : Int, σ' b j = if 0 ≤ j ∧ j < n then σ a j else σ b j) → Gs X q lv st σ') : Gs X pc lv (vI n :: vI 0 :: vR b :: vI 0 :: vR a :: st) σ := by
  refine jr_copy hF hw hdg hq hlk0 hLa hLb (by omega) hr hd (k _ (fun c hc => uc_ne hc) (fun j => ?_))
  rw [uc_eq]
  by_cases h : 0 ≤ j ∧ j < n
  · rw [if_pos (by omega), if_pos h, show (0 : Int) + (j - 0) = j by omega]
  · rw [if_neg (by omega), if_neg h]
set_option maxRecDepth 100000 in
theorem c_copyFrom (σ : Sg) (pl p2 : Nat) (hpl : pl = 4 ∨ pl = 14) (hp2 : p2 = 4 ∨ p2 = 14) (hne : pl ≠ p2) (F : FD) (hC : RepC σ p2 F) (ok : okF F) : RV mX4_copyFrom 1 [vR pl, vR p2] σ (fun σ' => RepC σ' pl F ∧ ∀ k, k < pl ∨ pl + 9 < k → σ' k = σ k) := by
  have h3 := ok.1
  have h5 := ok.2.1
  obtain ⟨q1, q2, q3, q4, q5, q6, q7, q8⟩ := hC
  refine mkRun (by decide +kernel) (Nat.le_of_ble_eq_true rfl) (fun X hF hR => ?_)
  refine jr_aload_n hF dX4_copyFrom_0 (q := 1) rfl rfl ?_
  refine jr_aload_n hF dX4_copyFrom_1 (q := 2) rfl rfl ?_
  refine jr_getI (ci := 4) (j := 0) hF 0 rfl dX4_copyFrom_2 (q := 5) rfl (by first | rfl | exact L_pl hpl | exact L_rm hpl | exact L_kd hpl | exact L_lw hpl | exact L_wo hpl | exact L_wr hpl (by omega) | exact L_pl hp2 | exact L_rm hp2 | exact L_kd hp2 | exact L_lw hp2 | exact L_wo hp2 | exact L_wr hp2 (by omega)) rfl fl4_26 ?_
  rw [q1]
  refine jr_putI (ci := 4) (j := 0) hF 0 rfl dX4_copyFrom_5 (q := 8) rfl (by first | rfl | exact L_pl hpl | exact L_rm hpl | exact L_kd hpl | exact L_lw hpl | exact L_wo hpl | exact L_wr hpl (by omega) | exact L_pl hp2 | exact L_rm hp2 | exact L_kd hp2 | exact L_lw hp2 | exact L_wo hp2 | exact L_wr hp2 (by omega)) rfl fp4_26 ?_
  refine jr_aload_n hF dX4_copyFrom_8 (q := 9) rfl rfl ?_
  refine jr_aload_n hF dX4_copyFrom_9 (q := 10) rfl rfl ?_
  refine jr_getI (ci := 4) (j := 1) hF 1 rfl dX4_copyFrom_10 (q := 13) rfl (by first | rfl | exact L_pl hpl | exact L_rm hpl | exact L_kd hpl | exact L_lw hpl | exact L_wo hpl | exact L_wr hpl (by omega) | exact L_pl hp2 | exact L_rm hp2 | exact L_kd hp2 | exact L_lw hp2 | exact L_wo hp2 | exact L_wr hp2 (by omega)) rfl fl4_30 ?_
  rw [up_ne (show p2 ≠ pl by omega), q2]
  refine jr_putI (ci := 4) (j := 1) hF 1 rfl dX4_copyFrom_13 (q := 16) rfl (by first | rfl | exact L_pl hpl | exact L_rm hpl | exact L_kd hpl | exact L_lw hpl | exact L_wo hpl | exact L_wr hpl (by omega) | exact L_pl hp2 | exact L_rm hp2 | exact L_kd hp2 | exact L_lw hp2 | exact L_wo hp2 | exact L_wr hp2 (by omega)) rfl fp4_30 ?_
  refine jr_aload_n hF dX4_copyFrom_16 (q := 17) rfl rfl ?_
  refine jr_getR (ci := 4) (j := 2) hF dX4_copyFrom_17 (q := 20) rfl (by first | rfl | exact L_pl hpl | exact L_rm hpl | exact L_kd hpl | exact L_lw hpl | exact L_wo hpl | exact L_wr hpl (by omega) | exact L_pl hp2 | exact L_rm hp2 | exact L_kd hp2 | exact L_lw hp2 | exact L_wo hp2 | exact L_wr hp2 (by omega)) rfl fl4_9 ?_
  refine jr_iconst hF dX4_copyFrom_20 (q := 21) rfl (by decide) ?_
  refine jr_aload_n hF dX4_copyFrom_21 (q := 22) rfl rfl ?_
  refine jr_getR (ci := 4) (j := 2) hF dX4_copyFrom_22 (q := 25) rfl (by first | rfl | exact L_pl hpl | exact L_rm hpl | exact L_kd hpl | exact L_lw hpl | exact L_wo hpl | exact L_wr hpl (by omega) | exact L_pl hp2 | exact L_rm hp2 | exact L_kd hp2 | exact L_lw hp2 | exact L_wo hp2 | exact L_wr hp2 (by omega)) rfl fl4_9 ?_
  refine jr_iconst hF dX4_copyFrom_25 (q := 26) rfl (by decide) ?_
  refine jr_iconst hF dX4_copyFrom_26 (q := 27) rfl (by decide) ?_
  refine jr_copy0 hF cpW_ok dX4_copyFrom_27 (q := 30) rfl lk4_33 (by first | rfl | exact L_pl hpl | exact L_rm hpl | exact L_kd hpl | exact L_lw hpl | exact L_wo hpl | exact L_wr hpl (by omega) | exact L_pl hp2 | exact L_rm hp2 | exact L_kd hp2 | exact L_lw hp2 | exact L_wo hp2 | exact L_wr hp2 (by omega)) (by first | rfl | exact L_pl hpl | exact L_rm hpl | exact L_kd hpl | exact L_lw hpl | exact L_wo hpl | exact L_wr hpl (by omega) | exact L_pl hp2 | exact L_rm hp2 | exact L_kd hp2 | exact L_lw hp2 | exact L_wo hp2 | exact L_wr hp2 (by omega)) (by omega) (Nat.le_of_ble_eq_true rfl) (by decide) (fun σ1 f1 g1 => ?_)
  refine jr_aload_n hF dX4_copyFrom_30 (q := 31) rfl rfl ?_
  refine jr_getR (ci := 4) (j := 3) hF dX4_copyFrom_31 (q := 34) rfl (by first | rfl | exact L_pl hpl | exact L_rm hpl | exact L_kd hpl | exact L_lw hpl | exact L_wo hpl | exact L_wr hpl (by omega) | exact L_pl hp2 | exact L_rm hp2 | exact L_kd hp2 | exact L_lw hp2 | exact L_wo hp2 | exact L_wr hp2 (by omega)) rfl fl4_15 ?_
  refine jr_iconst hF dX4_copyFrom_34 (q := 35) rfl (by decide) ?_
  refine jr_aload_n hF dX4_copyFrom_35 (q := 36) rfl rfl ?_
  refine jr_getR (ci := 4) (j := 3) hF dX4_copyFrom_36 (q := 39) rfl (by first | rfl | exact L_pl hpl | exact L_rm hpl | exact L_kd hpl | exact L_lw hpl | exact L_wo hpl | exact L_wr hpl (by omega) | exact L_pl hp2 | exact L_rm hp2 | exact L_kd hp2 | exact L_lw hp2 | exact L_wo hp2 | exact L_wr hp2 (by omega)) rfl fl4_15 ?_
  refine jr_iconst hF dX4_copyFrom_39 (q := 40) rfl (by decide) ?_
  refine jr_iconst hF dX4_copyFrom_40 (q := 41) rfl (by decide) ?_
  refine jr_copy0 hF cpW_ok dX4_copyFrom_41 (q := 44) rfl lk4_33 (by first | rfl | exact L_pl hpl | exact L_rm hpl | exact L_kd hpl | exact L_lw hpl | exact L_wo hpl | exact L_wr hpl (by omega) | exact L_pl hp2 | exact L_rm hp2 | exact L_kd hp2 | exact L_lw hp2 | exact L_wo hp2 | exact L_wr hp2 (by omega)) (by first | rfl | exact L_pl hpl | exact L_rm hpl | exact L_kd hpl | exact L_lw hpl | exact L_wo hpl | exact L_wr hpl (by omega) | exact L_pl hp2 | exact L_rm hp2 | exact L_kd hp2 | exact L_lw hp2 | exact L_wo hp2 | exact L_wr hp2 (by omega)) (by omega) (Nat.le_of_ble_eq_true rfl) (by decide) (fun σ2 f2 g2 => ?_)
  refine jr_aload_n hF dX4_copyFrom_44 (q := 45) rfl rfl ?_
  refine jr_getR (ci := 4) (j := 5) hF dX4_copyFrom_45 (q := 48) rfl (by first | rfl | exact L_pl hpl | exact L_rm hpl | exact L_kd hpl | exact L_lw hpl | exact L_wo hpl | exact L_wr hpl (by omega) | exact L_pl hp2 | exact L_rm hp2 | exact L_kd hp2 | exact L_lw hp2 | exact L_wo hp2 | exact L_wr hp2 (by omega)) rfl fl4_23 ?_
  refine jr_iconst hF dX4_copyFrom_48 (q := 49) rfl (by decide) ?_
  refine jr_aload_n hF dX4_copyFrom_49 (q := 50) rfl rfl ?_
  refine jr_getR (ci := 4) (j := 5) hF dX4_copyFrom_50 (q := 53) rfl (by first | rfl | exact L_pl hpl | exact L_rm hpl | exact L_kd hpl | exact L_lw hpl | exact L_wo hpl | exact L_wr hpl (by omega) | exact L_pl hp2 | exact L_rm hp2 | exact L_kd hp2 | exact L_lw hp2 | exact L_wo hp2 | exact L_wr hp2 (by omega)) rfl fl4_23 ?_
  refine jr_iconst hF dX4_copyFrom_53 (q := 54) rfl (by decide) ?_
  refine jr_bipush hF dX4_copyFrom_54 (q := 56) rfl (by decide) (by decide +kernel) ?_
  refine jr_copy0 hF cpW_ok dX4_copyFrom_56 (q := 59) rfl lk4_33 (by first | rfl | exact L_pl hpl | exact L_rm hpl | exact L_kd hpl | exact L_lw hpl | exact L_wo hpl | exact L_wr hpl (by omega) | exact L_pl hp2 | exact L_rm hp2 | exact L_kd hp2 | exact L_lw hp2 | exact L_wo hp2 | exact L_wr hp2 (by omega)) (by first | rfl | exact L_pl hpl | exact L_rm hpl | exact L_kd hpl | exact L_lw hpl | exact L_wo hpl | exact L_wr hpl (by omega) | exact L_pl hp2 | exact L_rm hp2 | exact L_kd hp2 | exact L_lw hp2 | exact L_wo hp2 | exact L_wr hp2 (by omega)) (by omega) (Nat.le_of_ble_eq_true rfl) (by decide) (fun σ3 f3 g3 => ?_)
  have e0 : ∀ k, k ≠ pl → k ≠ pl + 1 → k ≠ pl + 2 → k ≠ pl + 9 → σ3 k = σ k := fun k a1 a2 a3 a4 => by rw [f3 k a4, f2 k a3, f1 k a2, up_ne a1, up_ne a1]
  have e1 : σ3 pl 0 = (f_nm F : Int) := by rw [f3 pl (by omega), f2 pl (by omega), f1 pl (by omega)]; simp [up]
  have e2 : σ3 pl 1 = (f_nl F : Int) := by rw [f3 pl (by omega), f2 pl (by omega), f1 pl (by omega)]; simp [up]
  have e3 : ∀ m : Nat, m < f_nm F → σ3 (pl + 1) (m : Int) = f_rm F m := fun m hm => by
    rw [f3 _ (by omega), f2 _ (by omega), g1, if_pos (by omega), up_ne (by omega), up_ne (by omega)]
    exact q3 m hm
  have e4 : ∀ i : Nat, i < f_nl F → σ3 (pl + 2) (i : Int) = f_kd F i := fun i hi => by
    rw [f3 _ (by omega), g2, if_pos (by omega), f1 _ (by omega), up_ne (by omega), up_ne (by omega)]
    exact q4 i hi
  have e9 : ∀ j : Int, 0 ≤ j ∧ j < 7 → σ3 (pl + 9) j = σ (p2 + 9) j := fun j hj => by
    rw [g3, if_pos hj, f2 _ (by omega), f1 _ (by omega), up_ne (by omega), up_ne (by omega)]
  clear f1 f2 f3 g1 g2 g3
  refine jr_iconst hF dX4_copyFrom_59 (q := 60) rfl (by decide) ?_
  refine jr_istore_n hF dX4_copyFrom_60 (q := 61) rfl (by decide) rfl ?_
  refine gs_loop (α := Sg) (fun k _ => [some (vR pl), some (vR p2), some (vI (k : Int))]) (fun σ' => σ') (fun i σ' => (∀ k, k < pl + 4 ∨ pl + 9 ≤ k → σ' k = σ3 k) ∧ ∀ j m : Nat, j < i → m < 3 → σ' (pl + 4 + j) (m : Int) = σ (p2 + 4 + j) (m : Int)) (f_nl F) (fun σ' h => ?_) (fun i σ' hi h ih => ?_) σ3 ⟨fun _ _ => rfl, fun j m hj => by omega⟩
  · obtain ⟨a1, a2⟩ := h
    have b2 : σ' pl 1 = (f_nl F : Int) := by rw [a1 pl (by omega)]; exact e2
    refine jr_iload_n hF dX4_copyFrom_61 (q := 62) rfl rfl ?_
    refine jr_aload_n hF dX4_copyFrom_62 (q := 63) rfl rfl ?_
    refine jr_getI (ci := 4) (j := 1) hF 1 rfl dX4_copyFrom_63 (q := 66) rfl (by first | rfl | exact L_pl hpl | exact L_rm hpl | exact L_kd hpl | exact L_lw hpl | exact L_wo hpl | exact L_wr hpl (by omega) | exact L_pl hp2 | exact L_rm hp2 | exact L_kd hp2 | exact L_lw hp2 | exact L_wo hp2 | exact L_wr hp2 (by omega)) rfl fl4_30 ?_
    refine jr_icmp_ge hF dX4_copyFrom_66 (q := 69) rfl 93 (by decide) (fun hc => ?_) (fun hc => ?_)
    · refine jr_retV hF hR dX4_copyFrom_93 rfl ⟨⟨?_, b2, fun m hm => ?_, fun i hi => ?_, fun i m hi hm => ?_, fun i hi => ?_, ?_, ?_⟩, fun k hk => ?_⟩
      · rw [a1 pl (by omega)]; exact e1
      · rw [a1 _ (by omega)]; exact e3 m hm
      · rw [a1 _ (by omega)]; exact e4 i hi
      · rw [a2 i m hi (by omega)]; exact q5 i m hi hm
      · rw [a1 _ (by omega), e9 _ (by omega)]; exact q6 i hi
      · rw [a1 _ (by omega), e9 _ (by omega)]; exact q7
      · rw [a1 _ (by omega), e9 _ (by omega)]; exact q8
      · rw [a1 k (by omega), e0 k (by omega) (by omega) (by omega) (by omega)]
    · omega
  · obtain ⟨a1, a2⟩ := h
    have b2 : σ' pl 1 = (f_nl F : Int) := by rw [a1 pl (by omega)]; exact e2
    refine jr_iload_n hF dX4_copyFrom_61 (q := 62) rfl rfl ?_
    refine jr_aload_n hF dX4_copyFrom_62 (q := 63) rfl rfl ?_
    refine jr_getI (ci := 4) (j := 1) hF 1 rfl dX4_copyFrom_63 (q := 66) rfl (by first | rfl | exact L_pl hpl | exact L_rm hpl | exact L_kd hpl | exact L_lw hpl | exact L_wo hpl | exact L_wr hpl (by omega) | exact L_pl hp2 | exact L_rm hp2 | exact L_kd hp2 | exact L_lw hp2 | exact L_wo hp2 | exact L_wr hp2 (by omega)) rfl fl4_30 ?_
    refine jr_icmp_ge hF dX4_copyFrom_66 (q := 69) rfl 93 (by decide) (fun hc => ?_) (fun hc => ?_)
    · omega
    · refine jr_aload_n hF dX4_copyFrom_69 (q := 70) rfl rfl ?_
      refine jr_getR (ci := 4) (j := 4) hF dX4_copyFrom_70 (q := 73) rfl (by first | rfl | exact L_pl hpl | exact L_rm hpl | exact L_kd hpl | exact L_lw hpl | exact L_wo hpl | exact L_wr hpl (by omega) | exact L_pl hp2 | exact L_rm hp2 | exact L_kd hp2 | exact L_lw hp2 | exact L_wo hp2 | exact L_wr hp2 (by omega)) rfl fl4_20 ?_
      refine jr_iload_n hF dX4_copyFrom_73 (q := 74) rfl rfl ?_
      refine jr_aald hF dX4_copyFrom_74 (q := 75) rfl (by first | rfl | exact L_pl hpl | exact L_rm hpl | exact L_kd hpl | exact L_lw hpl | exact L_wo hpl | exact L_wr hpl (by omega) | exact L_pl hp2 | exact L_rm hp2 | exact L_kd hp2 | exact L_lw hp2 | exact L_wo hp2 | exact L_wr hp2 (by omega)) (by omega) ?_
      rw [tn]
      refine jr_iconst hF dX4_copyFrom_75 (q := 76) rfl (by decide) ?_
      refine jr_aload_n hF dX4_copyFrom_76 (q := 77) rfl rfl ?_
      refine jr_getR (ci := 4) (j := 4) hF dX4_copyFrom_77 (q := 80) rfl (by first | rfl | exact L_pl hpl | exact L_rm hpl | exact L_kd hpl | exact L_lw hpl | exact L_wo hpl | exact L_wr hpl (by omega) | exact L_pl hp2 | exact L_rm hp2 | exact L_kd hp2 | exact L_lw hp2 | exact L_wo hp2 | exact L_wr hp2 (by omega)) rfl fl4_20 ?_
      refine jr_iload_n hF dX4_copyFrom_80 (q := 81) rfl rfl ?_
      refine jr_aald hF dX4_copyFrom_81 (q := 82) rfl (by first | rfl | exact L_pl hpl | exact L_rm hpl | exact L_kd hpl | exact L_lw hpl | exact L_wo hpl | exact L_wr hpl (by omega) | exact L_pl hp2 | exact L_rm hp2 | exact L_kd hp2 | exact L_lw hp2 | exact L_wo hp2 | exact L_wr hp2 (by omega)) (by omega) ?_
      rw [tn]
      refine jr_iconst hF dX4_copyFrom_82 (q := 83) rfl (by decide) ?_
      refine jr_iconst hF dX4_copyFrom_83 (q := 84) rfl (by decide) ?_
      refine jr_copy0 hF cpW_ok dX4_copyFrom_84 (q := 87) rfl lk4_33 (by first | rfl | exact L_pl hpl | exact L_rm hpl | exact L_kd hpl | exact L_lw hpl | exact L_wo hpl | exact L_wr hpl (by omega) | exact L_pl hp2 | exact L_rm hp2 | exact L_kd hp2 | exact L_lw hp2 | exact L_wo hp2 | exact L_wr hp2 (by omega)) (by first | rfl | exact L_pl hpl | exact L_rm hpl | exact L_kd hpl | exact L_lw hpl | exact L_wo hpl | exact L_wr hpl (by omega) | exact L_pl hp2 | exact L_rm hp2 | exact L_kd hp2 | exact L_lw hp2 | exact L_wo hp2 | exact L_wr hp2 (by omega)) (by omega) (Nat.le_of_ble_eq_true rfl) (by decide) (fun σ4 f4 g4 => ?_)
      refine jr_iinc hF dX4_copyFrom_87 (q := 90) rfl (by decide) rfl rfl (by omega) ?_
      refine jr_goto hF dX4_copyFrom_90 61 (by decide) ?_
      refine ih σ4 ⟨fun k hk => ?_, fun j m hj hm => ?_⟩
      · rw [f4 k (by omega)]
        exact a1 k hk
      · by_cases ej : j = i
        · subst ej
          rw [g4, if_pos (by omega)]
          rw [a1 (p2 + 4 + j) (by omega), e0 _ (by omega) (by omega) (by omega) (by omega)]
        · rw [f4 _ (by omega)]
          exact a2 j m (by omega) hm
end
section
/-! ===== Plan.drawWants; the text and how it is read ===== -/
def f_x (z : Int) (i m : Nat) : Int := 7919 * z + 6151 * (i : Int) + 3571 * (m : Int) + 1
def f_draw (z : Int) (i m : Nat) : Int := f_x z i m * f_x z i m % 65521 % 11
theorem f_x_le {z : Int} {i m : Nat} (hz : 0 ≤ z ∧ z ≤ 9999) (hi : i < 5) (hm : m < 3) : 0 ≤ f_x z i m ∧ f_x z i m ≤ 80000000 := by
  unfold f_x
  omega
theorem sq_le {x : Int} (h : 0 ≤ x ∧ x ≤ 80000000) : 0 ≤ x * x ∧ x * x ≤ 6400000000000000 := by
  have h1 : x * x ≤ 80000000 * 80000000 := Int.mul_le_mul h.2 h.2 h.1 (by decide)
  have h2 : 0 ≤ x * x := Int.mul_nonneg h.1 h.1
  omega
theorem f_draw_le (z : Int) (i m : Nat) : 0 ≤ f_draw z i m ∧ f_draw z i m ≤ 10 := by
  unfold f_draw
  omega
def f_drawn (F : FD) (z : Int) : FD := (f_nm F, f_nl F, f_rm F, f_kd F, f_draw z, f_lm F, f_ca F, f_sp F)
theorem okF_drawn {F : FD} (ok : okF F) (z : Int) : okF (f_drawn F z) := ⟨ok.1, ok.2.1, ok.2.2.1, ok.2.2.2.1, fun i m _ _ => f_draw_le z i m, ok.2.2.2.2.2⟩
set_option maxRecDepth 100000 in
theorem c_drawWants (σ : Sg) (pl : Nat) (hpl : pl = 4 ∨ pl = 14) (F : FD) (hC : RepC σ pl F) (ok : okF F) (z : Int) (hz : 0 ≤ z ∧ z ≤ 9999) : RV mX4_drawWants 1 [vR pl, vI z] σ (fun σ' => RepC σ' pl (f_drawn F z) ∧ ∀ k, k < pl + 4 ∨ pl + 8 < k → σ' k = σ k) := by
  have h3 := ok.1
  have h5 := ok.2.1
  obtain ⟨q1, q2, q3, q4, q5, q6, q7, q8⟩ := hC
  refine mkRun (by decide +kernel) (Nat.le_of_ble_eq_true rfl) (fun X hF hR => ?_)
  refine jr_iconst hF dX4_drawWants_0 (q := 1) rfl (by decide) ?_
  refine jr_istore_n hF dX4_drawWants_1 (q := 2) rfl (by decide) rfl ?_
  refine gs_loop (α := Sg) (fun k _ => [some (vR pl), some (vI z), some (vI (k : Int)), none, none, none]) (fun σ' => σ') (fun i σ' => (∀ k, k < pl + 4 ∨ pl + 8 < k → σ' k = σ k) ∧ ∀ j m : Nat, j < i → m < f_nm F → σ' (pl + 4 + j) (m : Int) = f_draw z j m) (f_nl F) (fun σ' h => ?_) (fun i σ' hi h ih => ?_) σ ⟨fun _ _ => rfl, fun j m hj => by omega⟩
  · obtain ⟨a1, a2⟩ := h
    have b2 : σ' pl 1 = (f_nl F : Int) := by rw [a1 pl (by omega)]; exact q2
    refine jr_iload_n hF dX4_drawWants_2 (q := 3) rfl rfl ?_
    refine jr_aload_n hF dX4_drawWants_3 (q := 4) rfl rfl ?_
    refine jr_getI (ci := 4) (j := 1) hF 1 rfl dX4_drawWants_4 (q := 7) rfl (by first | rfl | exact L_pl hpl | exact L_rm hpl | exact L_kd hpl | exact L_lw hpl | exact L_wo hpl | exact L_wr hpl (by omega) | exact L_pl hp2 | exact L_rm hp2 | exact L_kd hp2 | exact L_lw hp2 | exact L_wo hp2 | exact L_wr hp2 (by omega)) rfl fl4_30 ?_
    refine jr_icmp_ge hF dX4_drawWants_7 (q := 10) rfl 78 (by decide) (fun hc => ?_) (fun hc => ?_)
    · refine jr_retV hF hR dX4_drawWants_78 rfl ⟨⟨?_, b2, fun m hm => ?_, fun i hi => ?_, fun i m hi hm => ?_, fun i hi => ?_, ?_, ?_⟩, a1⟩
      · rw [a1 pl (by omega)]; exact q1
      · rw [a1 _ (by omega)]; exact q3 m hm
      · rw [a1 _ (by omega)]; exact q4 i hi
      · exact a2 i m hi hm
      · rw [a1 _ (by omega)]; exact q6 i hi
      · rw [a1 _ (by omega)]; exact q7
      · rw [a1 _ (by omega)]; exact q8
    · omega
  · obtain ⟨a1, a2⟩ := h
    have b2 : σ' pl 1 = (f_nl F : Int) := by rw [a1 pl (by omega)]; exact q2
    refine jr_iload_n hF dX4_drawWants_2 (q := 3) rfl rfl ?_
    refine jr_aload_n hF dX4_drawWants_3 (q := 4) rfl rfl ?_
    refine jr_getI (ci := 4) (j := 1) hF 1 rfl dX4_drawWants_4 (q := 7) rfl (by first | rfl | exact L_pl hpl | exact L_rm hpl | exact L_kd hpl | exact L_lw hpl | exact L_wo hpl | exact L_wr hpl (by omega) | exact L_pl hp2 | exact L_rm hp2 | exact L_kd hp2 | exact L_lw hp2 | exact L_wo hp2 | exact L_wr hp2 (by omega)) rfl fl4_30 ?_
    refine jr_icmp_ge hF dX4_drawWants_7 (q := 10) rfl 78 (by decide) (fun hc => ?_) (fun hc => ?_)
    · omega
    · refine jr_iconst hF dX4_drawWants_10 (q := 11) rfl (by decide) ?_
      refine jr_istore_n hF dX4_drawWants_11 (q := 12) rfl (by decide) rfl ?_
      refine gs_loop (α := Sg) (fun k _ => [some (vR pl), some (vI z), some (vI (i : Int)), some (vI (k : Int)), none, none]) (fun σ' => σ') (fun m σ2 => (∀ k, k ≠ pl + 4 + i → σ2 k = σ' k) ∧ ∀ j : Nat, j < m → σ2 (pl + 4 + i) (j : Int) = f_draw z i j) (f_nm F) (fun σ2 h2 => ?_) (fun m σ2 hm h2 ih2 => ?_) σ' ⟨fun _ _ => rfl, fun j hj => by omega⟩
      · obtain ⟨c1, c2⟩ := h2
        have d1 : σ2 pl 0 = (f_nm F : Int) := by rw [c1 pl (by omega), a1 pl (by omega)]; exact q1
        refine jr_iload_n hF dX4_drawWants_12 (q := 13) rfl rfl ?_
        refine jr_aload_n hF dX4_drawWants_13 (q := 14) rfl rfl ?_
        refine jr_getI (ci := 4) (j := 0) hF 0 rfl dX4_drawWants_14 (q := 17) rfl (by first | rfl | exact L_pl hpl | exact L_rm hpl | exact L_kd hpl | exact L_lw hpl | exact L_wo hpl | exact L_wr hpl (by omega) | exact L_pl hp2 | exact L_rm hp2 | exact L_kd hp2 | exact L_lw hp2 | exact L_wo hp2 | exact L_wr hp2 (by omega)) rfl fl4_26 ?_
        refine jr_icmp_ge hF dX4_drawWants_17 (q := 20) rfl 72 (by decide) (fun hd => ?_) (fun hd => ?_)
        · refine jr_fg 3 ?_
          refine jr_iinc hF dX4_drawWants_72 (q := 75) rfl (by decide) rfl rfl (by omega) ?_
          refine jr_goto hF dX4_drawWants_75 2 (by decide) ?_
          refine ih σ2 ⟨fun k hk => by rw [c1 k (by omega)]; exact a1 k hk, fun j m hj hm => ?_⟩
          by_cases ej : j = i
          · subst ej
            exact c2 m hm
          · rw [c1 _ (by omega)]
            exact a2 j m (by omega) hm
        · omega
      · obtain ⟨c1, c2⟩ := h2
        have d1 : σ2 pl 0 = (f_nm F : Int) := by rw [c1 pl (by omega), a1 pl (by omega)]; exact q1
        have hx := f_x_le hz (show i < 5 by omega) (show m < 3 by omega)
        have hs := sq_le hx
        have hdw := f_draw_le z i m
        refine jr_iload_n hF dX4_drawWants_12 (q := 13) rfl rfl ?_
        refine jr_aload_n hF dX4_drawWants_13 (q := 14) rfl rfl ?_
        refine jr_getI (ci := 4) (j := 0) hF 0 rfl dX4_drawWants_14 (q := 17) rfl (by first | rfl | exact L_pl hpl | exact L_rm hpl | exact L_kd hpl | exact L_lw hpl | exact L_wo hpl | exact L_wr hpl (by omega) | exact L_pl hp2 | exact L_rm hp2 | exact L_kd hp2 | exact L_lw hp2 | exact L_wo hp2 | exact L_wr hp2 (by omega)) rfl fl4_26 ?_
        refine jr_icmp_ge hF dX4_drawWants_17 (q := 20) rfl 72 (by decide) (fun hd => ?_) (fun hd => ?_)
        · omega
        · refine jr_ldc2 hF 7919 dX4_drawWants_20 (q := 23) rfl kl4_62 (by decide) (by decide +kernel) ?_
          refine jr_iload_n hF dX4_drawWants_23 (q := 24) rfl rfl ?_
          refine jr_i2l hF dX4_drawWants_24 (q := 25) rfl ?_
          refine jr_lmul hF dX4_drawWants_25 (q := 26) rfl (by omega) ?_
          refine jr_ldc2 hF 6151 dX4_drawWants_26 (q := 29) rfl kl4_64 (by decide) (by decide +kernel) ?_
          refine jr_iload_n hF dX4_drawWants_29 (q := 30) rfl rfl ?_
          refine jr_i2l hF dX4_drawWants_30 (q := 31) rfl ?_
          refine jr_lmul hF dX4_drawWants_31 (q := 32) rfl (by omega) ?_
          refine jr_ladd hF dX4_drawWants_32 (q := 33) rfl (by omega) ?_
          refine jr_ldc2 hF 3571 dX4_drawWants_33 (q := 36) rfl kl4_66 (by decide) (by decide +kernel) ?_
          refine jr_iload_n hF dX4_drawWants_36 (q := 37) rfl rfl ?_
          refine jr_i2l hF dX4_drawWants_37 (q := 38) rfl ?_
          refine jr_lmul hF dX4_drawWants_38 (q := 39) rfl (by omega) ?_
          refine jr_ladd hF dX4_drawWants_39 (q := 40) rfl (by omega) ?_
          refine jr_lconst hF 1 dX4_drawWants_40 (q := 41) rfl (by decide) (by decide +kernel) ?_
          refine jr_ladd hF dX4_drawWants_41 (q := 42) rfl (by omega) ?_
          have ex : 7919 * z + 6151 * (i : Int) + 3571 * (m : Int) + 1 = f_x z i m := rfl
          rw [ex]
          refine jr_lstore hF dX4_drawWants_42 (q := 44) rfl (by decide) rfl ?_
          refine jr_aload_n hF dX4_drawWants_44 (q := 45) rfl rfl ?_
          refine jr_getR (ci := 4) (j := 4) hF dX4_drawWants_45 (q := 48) rfl (by first | rfl | exact L_pl hpl | exact L_rm hpl | exact L_kd hpl | exact L_lw hpl | exact L_wo hpl | exact L_wr hpl (by omega) | exact L_pl hp2 | exact L_rm hp2 | exact L_kd hp2 | exact L_lw hp2 | exact L_wo hp2 | exact L_wr hp2 (by omega)) rfl fl4_20 ?_
          refine jr_iload_n hF dX4_drawWants_48 (q := 49) rfl rfl ?_
          refine jr_aald hF dX4_drawWants_49 (q := 50) rfl (by first | rfl | exact L_pl hpl | exact L_rm hpl | exact L_kd hpl | exact L_lw hpl | exact L_wo hpl | exact L_wr hpl (by omega) | exact L_pl hp2 | exact L_rm hp2 | exact L_kd hp2 | exact L_lw hp2 | exact L_wo hp2 | exact L_wr hp2 (by omega)) (by omega) ?_
          rw [tn]
          refine jr_iload_n hF dX4_drawWants_50 (q := 51) rfl rfl ?_
          refine jr_lload hF dX4_drawWants_51 (q := 53) rfl rfl ?_
          refine jr_lload hF dX4_drawWants_53 (q := 55) rfl rfl ?_
          refine jr_lmul hF dX4_drawWants_55 (q := 56) rfl (by omega) ?_
          refine jr_ldc2 hF 65521 dX4_drawWants_56 (q := 59) rfl kl4_68 (by decide) (by decide +kernel) ?_
          refine jr_lrem hF dX4_drawWants_59 (q := 60) rfl (by omega) (by omega) ?_
          refine jr_ldc2 hF 11 dX4_drawWants_60 (q := 63) rfl kl4_70 (by decide) (by decide +kernel) ?_
          refine jr_lrem hF dX4_drawWants_63 (q := 64) rfl (by omega) (by omega) ?_
          have ed : f_x z i m * f_x z i m % 65521 % 11 = f_draw z i m := rfl
          rw [ed]
          refine jr_l2i hF dX4_drawWants_64 (q := 65) rfl (by omega) ?_
          refine jr_iast hF dX4_drawWants_65 (q := 66) rfl (by first | rfl | exact L_pl hpl | exact L_rm hpl | exact L_kd hpl | exact L_lw hpl | exact L_wo hpl | exact L_wr hpl (by omega) | exact L_pl hp2 | exact L_rm hp2 | exact L_kd hp2 | exact L_lw hp2 | exact L_wo hp2 | exact L_wr hp2 (by omega)) (by omega) ?_
          refine jr_fg 4 ?_
          refine jr_iinc hF dX4_drawWants_66 (q := 69) rfl (by decide) rfl rfl (by omega) ?_
          refine jr_goto hF dX4_drawWants_69 12 (by decide) ?_
          refine ih2 _ ⟨fun k hk => by rw [up_ne hk]; exact c1 k hk, fun j hj => ?_⟩
          rw [up_nat]
          by_cases ej : j = m
          · subst ej
            rw [if_pos rfl]
          · rw [if_neg ej]
            exact c2 j (by omega)
/-- the text: its bytes (-128 to 127), how many -/
def TxC (σ : Sg) (B : Nat → Int) (len : Nat) : Prop := σ 1 0 = (len : Int) ∧ len ≤ 300 ∧ ∀ k : Nat, k < len → σ 2 (k : Int) = B k
def dg (B : Nat → Int) (len k : Nat) : Prop := k < len ∧ 48 ≤ B k ∧ B k ≤ 57
def sg (B : Nat → Int) (len k : Nat) (v : Int) : Prop := k < len ∧ B k = v
def dgb (B : Nat → Int) (len k : Nat) : Bool := decide (k < len ∧ 48 ≤ B k ∧ B k ≤ 57)
def sgb (B : Nat → Int) (len k : Nat) (v : Int) : Bool := decide (k < len ∧ B k = v)
def nfig (B : Nat → Int) (len k : Nat) : Nat := if dgb B len k = true then (if dgb B len (k + 1) = true then 2 else 1) else 0
def nval (B : Nat → Int) (k f : Nat) : Int := if f = 2 then 10 * (B k - 48) + (B (k + 1) - 48) else B k - 48
/-- r numbers more, of many; the place behind them, and what they are -/
def rdN (B : Nat → Int) (len many : Nat) (r : Nat) (pl : Nat) (a : Nat → Int) : Option (Nat × (Nat → Int)) := match r with
  | 0 => some (pl, a)
  | r + 1 => if nfig B len pl = 0 then none else if sgb B len (pl + nfig B len pl) (if r = 0 then 59 else 44) = true then rdN B len many r (pl + nfig B len pl + 1) (st1 a (many - (r + 1)) (nval B pl (nfig B len pl))) else none
def nOf (c : Int) : Nat := if c = 109 then 1 else if c = 108 then 2 else if c = 119 then 3 else if c = 99 then 1 else if c = 115 then 1 else 0
def tellF (F : FD) (c : Int) (a : Nat → Int) : Option FD := if c = 109 then t_m F (a 0) else if c = 108 then t_l F (a 0) (a 1) else if c = 119 then t_w F (a 0) (a 1) (a 2) else if c = 99 then t_c F (a 0) else if c = 115 then t_s F (a 0) else none
def itemF (B : Nat → Int) (len pl : Nat) (F : FD) (a : Nat → Int) : Option (Nat × FD × (Nat → Int)) := match rdN B len (nOf (B pl)) (nOf (B pl)) (pl + 1) a with
  | none => none
  | some (q, b) => match tellF F (B pl) b with
    | none => none
    | some F' => some (q, F', b)
def rdAll (B : Nat → Int) (len : Nat) (n : Nat) (pl : Nat) (F : FD) (a : Nat → Int) : Int × FD := match n with
  | 0 => (-4, F)
  | n + 1 => if len ≤ pl then (-4, F) else match itemF B len pl F a with
    | none => ((pl : Int), F)
    | some (q, F', b) => rdAll B len n q F' b
set_option maxRecDepth 100000 in
theorem c_isFigureAt (σ : Sg) (B : Nat → Int) (len : Nat) (hT : TxC σ B len) (k : Nat) : RI mX8_isFigureAt 1 [vR 1, vI (k : Int)] σ (fun z σ' => z = (if dgb B len k = true then 1 else 0) ∧ σ = σ') := by
  obtain ⟨t1, t2, t3⟩ := hT
  refine mkRun (by decide +kernel) (Nat.le_of_ble_eq_true rfl) (fun X hF hR => ?_)
  refine jr_iload_n hF dX8_isFigureAt_0 (q := 1) rfl rfl ?_
  refine jr_aload_n hF dX8_isFigureAt_1 (q := 2) rfl rfl ?_
  refine jr_getI (ci := 8) (j := 0) hF 0 rfl dX8_isFigureAt_2 (q := 5) rfl rfl rfl fl8_19 ?_
  refine jr_icmp_ge hF dX8_isFigureAt_5 (q := 8) rfl 34 (by decide) (fun h1 => ?_) (fun h1 => ?_)
  · refine jr_iconst hF dX8_isFigureAt_34 (q := 35) rfl (by decide) ?_
    refine jr_retZ hF hR dX8_isFigureAt_35 rfl (by first | exact Or.inl rfl | exact Or.inr rfl | omega) ⟨by rw [if_neg]; unfold dgb; rw [decide_eq_false (by omega)]; decide, rfl⟩
  · have e := t3 k (by omega)
    refine jr_aload_n hF dX8_isFigureAt_8 (q := 9) rfl rfl ?_
    refine jr_getR (ci := 8) (j := 1) hF dX8_isFigureAt_9 (q := 12) rfl rfl rfl fl8_9 ?_
    refine jr_iload_n hF dX8_isFigureAt_12 (q := 13) rfl rfl ?_
    refine jr_bald hF dX8_isFigureAt_13 (q := 14) rfl rfl (by omega) ?_
    rw [e]
    refine jr_bipush hF dX8_isFigureAt_14 (q := 16) rfl (by decide) (by decide +kernel) ?_
    refine jr_icmp_lt hF dX8_isFigureAt_16 (q := 19) rfl 34 (by decide) (fun h2 => ?_) (fun h2 => ?_)
    · refine jr_iconst hF dX8_isFigureAt_34 (q := 35) rfl (by decide) ?_
      refine jr_retZ hF hR dX8_isFigureAt_35 rfl (by first | exact Or.inl rfl | exact Or.inr rfl | omega) ⟨by rw [if_neg]; unfold dgb; rw [decide_eq_false (by omega)]; decide, rfl⟩
    · refine jr_aload_n hF dX8_isFigureAt_19 (q := 20) rfl rfl ?_
      refine jr_getR (ci := 8) (j := 1) hF dX8_isFigureAt_20 (q := 23) rfl rfl rfl fl8_9 ?_
      refine jr_iload_n hF dX8_isFigureAt_23 (q := 24) rfl rfl ?_
      refine jr_bald hF dX8_isFigureAt_24 (q := 25) rfl rfl (by omega) ?_
      rw [e]
      refine jr_bipush hF dX8_isFigureAt_25 (q := 27) rfl (by decide) (by decide +kernel) ?_
      refine jr_icmp_gt hF dX8_isFigureAt_27 (q := 30) rfl 34 (by decide) (fun h3 => ?_) (fun h3 => ?_)
      · refine jr_iconst hF dX8_isFigureAt_34 (q := 35) rfl (by decide) ?_
        refine jr_retZ hF hR dX8_isFigureAt_35 rfl (by first | exact Or.inl rfl | exact Or.inr rfl | omega) ⟨by rw [if_neg]; unfold dgb; rw [decide_eq_false (by omega)]; decide, rfl⟩
      · refine jr_iconst hF dX8_isFigureAt_30 (q := 31) rfl (by decide) ?_
        refine jr_goto hF dX8_isFigureAt_31 35 (by decide) ?_
        refine jr_retZ hF hR dX8_isFigureAt_35 rfl (by first | exact Or.inl rfl | exact Or.inr rfl | omega) ⟨by rw [if_pos]; unfold dgb; exact decide_eq_true (by omega), rfl⟩
set_option maxRecDepth 100000 in
theorem c_isSignAt (σ : Sg) (B : Nat → Int) (len : Nat) (hT : TxC σ B len) (k : Nat) (v : Int) : RI mX8_isSignAt 1 [vR 1, vI (k : Int), vI v] σ (fun z σ' => z = (if sgb B len k v = true then 1 else 0) ∧ σ = σ') := by
  obtain ⟨t1, t2, t3⟩ := hT
  refine mkRun (by decide +kernel) (Nat.le_of_ble_eq_true rfl) (fun X hF hR => ?_)
  refine jr_iload_n hF dX8_isSignAt_0 (q := 1) rfl rfl ?_
  refine jr_aload_n hF dX8_isSignAt_1 (q := 2) rfl rfl ?_
  refine jr_getI (ci := 8) (j := 0) hF 0 rfl dX8_isSignAt_2 (q := 5) rfl rfl rfl fl8_19 ?_
  refine jr_icmp_ge hF dX8_isSignAt_5 (q := 8) rfl 22 (by decide) (fun h1 => ?_) (fun h1 => ?_)
  · refine jr_iconst hF dX8_isSignAt_22 (q := 23) rfl (by decide) ?_
    refine jr_retZ hF hR dX8_isSignAt_23 rfl (by first | exact Or.inl rfl | exact Or.inr rfl | omega) ⟨by rw [if_neg]; unfold sgb; rw [decide_eq_false (by omega)]; decide, rfl⟩
  · have e := t3 k (by omega)
    refine jr_aload_n hF dX8_isSignAt_8 (q := 9) rfl rfl ?_
    refine jr_getR (ci := 8) (j := 1) hF dX8_isSignAt_9 (q := 12) rfl rfl rfl fl8_9 ?_
    refine jr_iload_n hF dX8_isSignAt_12 (q := 13) rfl rfl ?_
    refine jr_bald hF dX8_isSignAt_13 (q := 14) rfl rfl (by omega) ?_
    rw [e]
    refine jr_iload_n hF dX8_isSignAt_14 (q := 15) rfl rfl ?_
    refine jr_icmp_ne hF dX8_isSignAt_15 (q := 18) rfl 22 (by decide) (fun h2 => ?_) (fun h2 => ?_)
    · refine jr_iconst hF dX8_isSignAt_22 (q := 23) rfl (by decide) ?_
      refine jr_retZ hF hR dX8_isSignAt_23 rfl (by first | exact Or.inl rfl | exact Or.inr rfl | omega) ⟨by rw [if_neg]; unfold sgb; rw [decide_eq_false (by omega)]; decide, rfl⟩
    · refine jr_iconst hF dX8_isSignAt_18 (q := 19) rfl (by decide) ?_
      refine jr_goto hF dX8_isSignAt_19 23 (by decide) ?_
      refine jr_retZ hF hR dX8_isSignAt_23 rfl (by first | exact Or.inl rfl | exact Or.inr rfl | omega) ⟨by rw [if_pos]; unfold sgb; exact decide_eq_true (by omega), rfl⟩
theorem bi_1 {b : Bool} (h : (if b = true then (1 : Int) else 0) ≠ 0) : b = true := by
  cases b
  · exact absurd rfl h
  · rfl
theorem bi_0 {b : Bool} (h : (if b = true then (1 : Int) else 0) = 0) : b = false := by
  cases b
  · rfl
  · exact absurd h (by decide)
set_option maxRecDepth 100000 in
theorem c_figuresAt (σ : Sg) (B : Nat → Int) (len : Nat) (hT : TxC σ B len) (k : Nat) (hk : k ≤ 400) : RI mX8_figuresAt 2 [vR 1, vI (k : Int)] σ (fun z σ' => z = (nfig B len k : Int) ∧ σ = σ') := by
  refine mkRun (by decide +kernel) (Nat.le_of_ble_eq_true rfl) (fun X hF hR => ?_)
  refine jr_aload_n hF dX8_figuresAt_0 (q := 1) rfl rfl ?_
  refine jr_iload_n hF dX8_figuresAt_1 (q := 2) rfl rfl ?_
  refine jr_cV1I hF (c_isFigureAt σ B len hT k) dX8_figuresAt_2 (q := 5) rfl lk8_68 vX8_isFigureAt kX8_isFigureAt rfl rfl rfl (by decide) (Nat.le_of_ble_eq_true rfl) (fun z σ1 hz => ?_)
  obtain ⟨rfl, rfl⟩ := hz
  refine jr_if_ne hF dX8_figuresAt_5 (q := 8) rfl 10 (by decide) (fun h1 => ?_) (fun h1 => ?_)
  · have e1 := bi_1 h1
    refine jr_aload_n hF dX8_figuresAt_10 (q := 11) rfl rfl ?_
    refine jr_iload_n hF dX8_figuresAt_11 (q := 12) rfl rfl ?_
    refine jr_iconst hF dX8_figuresAt_12 (q := 13) rfl (by decide) ?_
    refine jr_iadd hF dX8_figuresAt_13 (q := 14) rfl (by omega) ?_
    refine jr_cV1I hF (c_isFigureAt σ B len hT (k + 1)) dX8_figuresAt_14 (q := 17) rfl lk8_68 vX8_isFigureAt kX8_isFigureAt rfl rfl rfl (by decide) (Nat.le_of_ble_eq_true rfl) (fun z σ1 hz => ?_)
    obtain ⟨rfl, rfl⟩ := hz
    refine jr_if_eq hF dX8_figuresAt_17 (q := 20) rfl 24 (by decide) (fun h2 => ?_) (fun h2 => ?_)
    · have e2 := bi_0 h2
      refine jr_iconst hF dX8_figuresAt_24 (q := 25) rfl (by decide) ?_
      refine jr_retI hF hR dX8_figuresAt_25 rfl ⟨by unfold nfig; rw [if_pos e1, e2]; rfl, rfl⟩
    · have e2 := bi_1 h2
      refine jr_iconst hF dX8_figuresAt_20 (q := 21) rfl (by decide) ?_
      refine jr_goto hF dX8_figuresAt_21 25 (by decide) ?_
      refine jr_retI hF hR dX8_figuresAt_25 rfl ⟨by unfold nfig; rw [if_pos e1, if_pos e2]; rfl, rfl⟩
  · have e1 := bi_0 h1
    refine jr_iconst hF dX8_figuresAt_8 (q := 9) rfl (by decide) ?_
    refine jr_retI hF hR dX8_figuresAt_9 rfl ⟨by unfold nfig; rw [e1]; rfl, rfl⟩
theorem nfig_spec {B : Nat → Int} {len k : Nat} : nfig B len k = 0 ∨ (nfig B len k = 1 ∧ k < len ∧ 48 ≤ B k ∧ B k ≤ 57) ∨ (nfig B len k = 2 ∧ k + 1 < len ∧ 48 ≤ B k ∧ B k ≤ 57 ∧ 48 ≤ B (k + 1) ∧ B (k + 1) ≤ 57) := by
  unfold nfig
  by_cases h1 : dgb B len k = true
  · have a1 : k < len ∧ 48 ≤ B k ∧ B k ≤ 57 := of_decide_eq_true h1
    rw [if_pos h1]
    by_cases h2 : dgb B len (k + 1) = true
    · have a2 : k + 1 < len ∧ 48 ≤ B (k + 1) ∧ B (k + 1) ≤ 57 := of_decide_eq_true h2
      rw [if_pos h2]
      omega
    · rw [if_neg h2]
      omega
  · rw [if_neg h1]
    omega
set_option maxRecDepth 100000 in
theorem c_numberAt (σ : Sg) (B : Nat → Int) (len : Nat) (hT : TxC σ B len) (k : Nat) (hf : nfig B len k ≠ 0) : RI mX8_numberAt 1 [vR 1, vI (k : Int), vI (nfig B len k : Int)] σ (fun z σ' => z = nval B k (nfig B len k) ∧ σ = σ') := by
  obtain ⟨t1, t2, t3⟩ := hT
  refine mkRun (by decide +kernel) (Nat.le_of_ble_eq_true rfl) (fun X hF hR => ?_)
  rcases nfig_spec (B := B) (len := len) (k := k) with h | ⟨h, a1, a2, a3⟩ | ⟨h, a1, a2, a3, a4, a5⟩
  · exact absurd h hf
  · rw [h] at hR ⊢
    have e := t3 k a1
    refine jr_iconst hF dX8_numberAt_0 (q := 1) rfl (by decide) ?_
    refine jr_istore_n hF dX8_numberAt_1 (q := 2) rfl (by decide) rfl ?_
    refine jr_iconst hF dX8_numberAt_2 (q := 3) rfl (by decide) ?_
    refine jr_istore hF dX8_numberAt_3 (q := 5) rfl (by decide) rfl ?_
    refine jr_iload hF dX8_numberAt_5 (q := 7) rfl rfl ?_
    refine jr_iload_n hF dX8_numberAt_7 (q := 8) rfl rfl ?_
    refine jr_icmp_ge hF dX8_numberAt_8 (q := 11) rfl 35 (by decide) (fun h1 => ?_) (fun h1 => ?_)
    · exact absurd h1 (by decide)
    · refine jr_bipush hF dX8_numberAt_11 (q := 13) rfl (by decide) (by decide +kernel) ?_
      refine jr_iload_n hF dX8_numberAt_13 (q := 14) rfl rfl ?_
      refine jr_imul hF dX8_numberAt_14 (q := 15) rfl (by omega) ?_
      refine jr_aload_n hF dX8_numberAt_15 (q := 16) rfl rfl ?_
      refine jr_getR (ci := 8) (j := 1) hF dX8_numberAt_16 (q := 19) rfl rfl rfl fl8_9 ?_
      refine jr_iload_n hF dX8_numberAt_19 (q := 20) rfl rfl ?_
      refine jr_iload hF dX8_numberAt_20 (q := 22) rfl rfl ?_
      refine jr_iadd hF dX8_numberAt_22 (q := 23) rfl (by omega) ?_
      refine jr_bald hF dX8_numberAt_23 (q := 24) rfl rfl (by omega) ?_
      rw [show (k : Int) + 0 = (k : Int) by omega, e]
      refine jr_iadd hF dX8_numberAt_24 (q := 25) rfl (by omega) ?_
      refine jr_bipush hF dX8_numberAt_25 (q := 27) rfl (by decide) (by decide +kernel) ?_
      refine jr_isub hF dX8_numberAt_27 (q := 28) rfl (by omega) ?_
      refine jr_istore_n hF dX8_numberAt_28 (q := 29) rfl (by decide) rfl ?_
      refine jr_iinc hF dX8_numberAt_29 (q := 32) rfl (by decide) rfl rfl (by omega) ?_
      refine jr_goto hF dX8_numberAt_32 5 (by decide) ?_
      refine jr_iload hF dX8_numberAt_5 (q := 7) rfl rfl ?_
      refine jr_iload_n hF dX8_numberAt_7 (q := 8) rfl rfl ?_
      refine jr_icmp_ge hF dX8_numberAt_8 (q := 11) rfl 35 (by decide) (fun h2 => ?_) (fun h2 => ?_)
      · refine jr_iload_n hF dX8_numberAt_35 (q := 36) rfl rfl ?_
        refine jr_retI hF hR dX8_numberAt_36 rfl ⟨by unfold nval; rw [if_neg (by decide)]; omega, rfl⟩
      · exact absurd h2 (by decide)
  · rw [h] at hR ⊢
    have e := t3 k (by omega)
    have e' := t3 (k + 1) a1
    refine jr_iconst hF dX8_numberAt_0 (q := 1) rfl (by decide) ?_
    refine jr_istore_n hF dX8_numberAt_1 (q := 2) rfl (by decide) rfl ?_
    refine jr_iconst hF dX8_numberAt_2 (q := 3) rfl (by decide) ?_
    refine jr_istore hF dX8_numberAt_3 (q := 5) rfl (by decide) rfl ?_
    refine jr_iload hF dX8_numberAt_5 (q := 7) rfl rfl ?_
    refine jr_iload_n hF dX8_numberAt_7 (q := 8) rfl rfl ?_
    refine jr_icmp_ge hF dX8_numberAt_8 (q := 11) rfl 35 (by decide) (fun h1 => ?_) (fun h1 => ?_)
    · exact absurd h1 (by decide)
    · refine jr_bipush hF dX8_numberAt_11 (q := 13) rfl (by decide) (by decide +kernel) ?_
      refine jr_iload_n hF dX8_numberAt_13 (q := 14) rfl rfl ?_
      refine jr_imul hF dX8_numberAt_14 (q := 15) rfl (by omega) ?_
      refine jr_aload_n hF dX8_numberAt_15 (q := 16) rfl rfl ?_
      refine jr_getR (ci := 8) (j := 1) hF dX8_numberAt_16 (q := 19) rfl rfl rfl fl8_9 ?_
      refine jr_iload_n hF dX8_numberAt_19 (q := 20) rfl rfl ?_
      refine jr_iload hF dX8_numberAt_20 (q := 22) rfl rfl ?_
      refine jr_iadd hF dX8_numberAt_22 (q := 23) rfl (by omega) ?_
      refine jr_bald hF dX8_numberAt_23 (q := 24) rfl rfl (by omega) ?_
      rw [show (k : Int) + 0 = (k : Int) by omega, e]
      refine jr_iadd hF dX8_numberAt_24 (q := 25) rfl (by omega) ?_
      refine jr_bipush hF dX8_numberAt_25 (q := 27) rfl (by decide) (by decide +kernel) ?_
      refine jr_isub hF dX8_numberAt_27 (q := 28) rfl (by omega) ?_
      refine jr_istore_n hF dX8_numberAt_28 (q := 29) rfl (by decide) rfl ?_
      refine jr_iinc hF dX8_numberAt_29 (q := 32) rfl (by decide) rfl rfl (by omega) ?_
      refine jr_goto hF dX8_numberAt_32 5 (by decide) ?_
      refine jr_iload hF dX8_numberAt_5 (q := 7) rfl rfl ?_
      refine jr_iload_n hF dX8_numberAt_7 (q := 8) rfl rfl ?_
      refine jr_icmp_ge hF dX8_numberAt_8 (q := 11) rfl 35 (by decide) (fun h2 => ?_) (fun h2 => ?_)
      · exact absurd h2 (by decide)
      · refine jr_bipush hF dX8_numberAt_11 (q := 13) rfl (by decide) (by decide +kernel) ?_
        refine jr_iload_n hF dX8_numberAt_13 (q := 14) rfl rfl ?_
        refine jr_imul hF dX8_numberAt_14 (q := 15) rfl (by omega) ?_
        refine jr_aload_n hF dX8_numberAt_15 (q := 16) rfl rfl ?_
        refine jr_getR (ci := 8) (j := 1) hF dX8_numberAt_16 (q := 19) rfl rfl rfl fl8_9 ?_
        refine jr_iload_n hF dX8_numberAt_19 (q := 20) rfl rfl ?_
        refine jr_iload hF dX8_numberAt_20 (q := 22) rfl rfl ?_
        refine jr_iadd hF dX8_numberAt_22 (q := 23) rfl (by omega) ?_
        refine jr_bald hF dX8_numberAt_23 (q := 24) rfl rfl (by omega) ?_
        rw [show (k : Int) + (0 + 1) = ((k + 1 : Nat) : Int) by omega, e']
        refine jr_iadd hF dX8_numberAt_24 (q := 25) rfl (by omega) ?_
        refine jr_bipush hF dX8_numberAt_25 (q := 27) rfl (by decide) (by decide +kernel) ?_
        refine jr_isub hF dX8_numberAt_27 (q := 28) rfl (by omega) ?_
        refine jr_istore_n hF dX8_numberAt_28 (q := 29) rfl (by decide) rfl ?_
        refine jr_iinc hF dX8_numberAt_29 (q := 32) rfl (by decide) rfl rfl (by omega) ?_
        refine jr_goto hF dX8_numberAt_32 5 (by decide) ?_
        refine jr_iload hF dX8_numberAt_5 (q := 7) rfl rfl ?_
        refine jr_iload_n hF dX8_numberAt_7 (q := 8) rfl rfl ?_
        refine jr_icmp_ge hF dX8_numberAt_8 (q := 11) rfl 35 (by decide) (fun h3 => ?_) (fun h3 => ?_)
        · refine jr_iload_n hF dX8_numberAt_35 (q := 36) rfl rfl ?_
          refine jr_retI hF hR dX8_numberAt_36 rfl ⟨by unfold nval; rw [if_pos rfl]; omega, rfl⟩
        · exact absurd h3 (by decide)
end
