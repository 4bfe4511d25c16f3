section
-- ===== PART A: goes FIRST, ahead of the names: the tables' words, and 'selects' of the private methods out of them =====
/-- a private method of a class that the tables say can be made, by its rows of tables_1 -/
def lw_okq (q : MethodName × Nat) : Prop := (q.1.cls ≠ "java/lang/invoke/MethodHandle" ∧ q.1.cls ≠ "java/lang/invoke/VarHandle") ∧ Cond.instantiable q.1.cls q.2 ∈ tables_1 ∧ Cond.privateMethod q.1 ∈ tables_1 ∧ Cond.instanceMethod q.1 ∈ tables_1
theorem lw_p0 : lw_okq (⟨"LotsBid$Text", "readNumbers", "(II)I"⟩, 3) := ⟨⟨by decide +kernel, by decide +kernel⟩, List.mem_of_getElem? (i := 24) (by decide +kernel), List.mem_of_getElem? (i := 323) (by decide +kernel), List.mem_of_getElem? (i := 324) (by decide +kernel)⟩
theorem lw_p1 : lw_okq (⟨"LotsBid$Text", "figuresAt", "(I)I"⟩, 3) := ⟨⟨by decide +kernel, by decide +kernel⟩, List.mem_of_getElem? (i := 24) (by decide +kernel), List.mem_of_getElem? (i := 327) (by decide +kernel), List.mem_of_getElem? (i := 328) (by decide +kernel)⟩
theorem lw_p2 : lw_okq (⟨"LotsBid$Text", "isFigureAt", "(I)Z"⟩, 3) := ⟨⟨by decide +kernel, by decide +kernel⟩, List.mem_of_getElem? (i := 24) (by decide +kernel), List.mem_of_getElem? (i := 331) (by decide +kernel), List.mem_of_getElem? (i := 332) (by decide +kernel)⟩
theorem lw_p3 : lw_okq (⟨"LotsBid$Text", "numberAt", "(II)I"⟩, 3) := ⟨⟨by decide +kernel, by decide +kernel⟩, List.mem_of_getElem? (i := 24) (by decide +kernel), List.mem_of_getElem? (i := 335) (by decide +kernel), List.mem_of_getElem? (i := 336) (by decide +kernel)⟩
theorem lw_p4 : lw_okq (⟨"LotsBid$Text", "isSignAt", "(IC)Z"⟩, 3) := ⟨⟨by decide +kernel, by decide +kernel⟩, List.mem_of_getElem? (i := 24) (by decide +kernel), List.mem_of_getElem? (i := 339) (by decide +kernel), List.mem_of_getElem? (i := 340) (by decide +kernel)⟩
theorem lw_p5 : lw_okq (⟨"LotsBid$Text", "tell", "(LLotsBid$Plan;I)Z"⟩, 3) := ⟨⟨by decide +kernel, by decide +kernel⟩, List.mem_of_getElem? (i := 24) (by decide +kernel), List.mem_of_getElem? (i := 343) (by decide +kernel), List.mem_of_getElem? (i := 344) (by decide +kernel)⟩
theorem lw_p6 : lw_okq (⟨"LotsBid$Hiring", "callFromBelow", "(LLotsBid$Plan;I)V"⟩, 4) := ⟨⟨by decide +kernel, by decide +kernel⟩, List.mem_of_getElem? (i := 92) (by decide +kernel), List.mem_of_getElem? (i := 386) (by decide +kernel), List.mem_of_getElem? (i := 387) (by decide +kernel)⟩
theorem lw_p7 : lw_okq (⟨"LotsBid$Hiring", "howManyIn", "(LLotsBid$Plan;I)I"⟩, 4) := ⟨⟨by decide +kernel, by decide +kernel⟩, List.mem_of_getElem? (i := 92) (by decide +kernel), List.mem_of_getElem? (i := 390) (by decide +kernel), List.mem_of_getElem? (i := 391) (by decide +kernel)⟩
theorem lw_p8 : lw_okq (⟨"LotsBid$Hiring", "isIn", "(II)Z"⟩, 4) := ⟨⟨by decide +kernel, by decide +kernel⟩, List.mem_of_getElem? (i := 92) (by decide +kernel), List.mem_of_getElem? (i := 394) (by decide +kernel), List.mem_of_getElem? (i := 395) (by decide +kernel)⟩
theorem lw_p9 : lw_okq (⟨"LotsBid$Hiring", "hire", "(LLotsBid$Plan;III)I"⟩, 4) := ⟨⟨by decide +kernel, by decide +kernel⟩, List.mem_of_getElem? (i := 92) (by decide +kernel), List.mem_of_getElem? (i := 398) (by decide +kernel), List.mem_of_getElem? (i := 399) (by decide +kernel)⟩
theorem lw_p10 : lw_okq (⟨"LotsBid$Hiring", "callFromAbove", "(LLotsBid$Plan;II)V"⟩, 4) := ⟨⟨by decide +kernel, by decide +kernel⟩, List.mem_of_getElem? (i := 92) (by decide +kernel), List.mem_of_getElem? (i := 402) (by decide +kernel), List.mem_of_getElem? (i := 403) (by decide +kernel)⟩
theorem lw_p11 : lw_okq (⟨"LotsBid", "change", "(II)I"⟩, 10) := ⟨⟨by decide +kernel, by decide +kernel⟩, List.mem_of_getElem? (i := 16) (by decide +kernel), List.mem_of_getElem? (i := 452) (by decide +kernel), List.mem_of_getElem? (i := 453) (by decide +kernel)⟩
theorem lw_p12 : lw_okq (⟨"LotsBid", "gainBySaying", "(II)I"⟩, 10) := ⟨⟨by decide +kernel, by decide +kernel⟩, List.mem_of_getElem? (i := 16) (by decide +kernel), List.mem_of_getElem? (i := 481) (by decide +kernel), List.mem_of_getElem? (i := 482) (by decide +kernel)⟩
theorem lw_p13 : lw_okq (⟨"LotsBid$Game", "isRest", "(II)Z"⟩, 5) := ⟨⟨by decide +kernel, by decide +kernel⟩, List.mem_of_getElem? (i := 113) (by decide +kernel), List.mem_of_getElem? (i := 499) (by decide +kernel), List.mem_of_getElem? (i := 500) (by decide +kernel)⟩
theorem lw_p14 : lw_okq (⟨"LotsBid$Game", "noteRest", "(II)V"⟩, 5) := ⟨⟨by decide +kernel, by decide +kernel⟩, List.mem_of_getElem? (i := 113) (by decide +kernel), List.mem_of_getElem? (i := 503) (by decide +kernel), List.mem_of_getElem? (i := 504) (by decide +kernel)⟩
theorem lw_p15 : lw_okq (⟨"LotsBid$Prices", "countHeld", "(LLotsBid$Plan;[I)V"⟩, 5) := ⟨⟨by decide +kernel, by decide +kernel⟩, List.mem_of_getElem? (i := 163) (by decide +kernel), List.mem_of_getElem? (i := 527) (by decide +kernel), List.mem_of_getElem? (i := 528) (by decide +kernel)⟩
def lw_privs_1 : List (MethodName × Nat) := [(⟨"LotsBid$Text", "readNumbers", "(II)I"⟩, 3), (⟨"LotsBid$Text", "figuresAt", "(I)I"⟩, 3), (⟨"LotsBid$Text", "isFigureAt", "(I)Z"⟩, 3), (⟨"LotsBid$Text", "numberAt", "(II)I"⟩, 3), (⟨"LotsBid$Text", "isSignAt", "(IC)Z"⟩, 3), (⟨"LotsBid$Text", "tell", "(LLotsBid$Plan;I)Z"⟩, 3), (⟨"LotsBid$Hiring", "callFromBelow", "(LLotsBid$Plan;I)V"⟩, 4), (⟨"LotsBid$Hiring", "howManyIn", "(LLotsBid$Plan;I)I"⟩, 4), (⟨"LotsBid$Hiring", "isIn", "(II)Z"⟩, 4), (⟨"LotsBid$Hiring", "hire", "(LLotsBid$Plan;III)I"⟩, 4), (⟨"LotsBid$Hiring", "callFromAbove", "(LLotsBid$Plan;II)V"⟩, 4), (⟨"LotsBid", "change", "(II)I"⟩, 10), (⟨"LotsBid", "gainBySaying", "(II)I"⟩, 10), (⟨"LotsBid$Game", "isRest", "(II)Z"⟩, 5), (⟨"LotsBid$Game", "noteRest", "(II)V"⟩, 5), (⟨"LotsBid$Prices", "countHeld", "(LLotsBid$Plan;[I)V"⟩, 5)]
theorem lw_r1 : ∀ q ∈ lw_privs_1, lw_okq q := List.forall_mem_cons.mpr ⟨lw_p0, List.forall_mem_cons.mpr ⟨lw_p1, List.forall_mem_cons.mpr ⟨lw_p2, List.forall_mem_cons.mpr ⟨lw_p3, List.forall_mem_cons.mpr ⟨lw_p4, List.forall_mem_cons.mpr ⟨lw_p5, List.forall_mem_cons.mpr ⟨lw_p6, List.forall_mem_cons.mpr ⟨lw_p7, List.forall_mem_cons.mpr ⟨lw_p8, List.forall_mem_cons.mpr ⟨lw_p9, List.forall_mem_cons.mpr ⟨lw_p10, List.forall_mem_cons.mpr ⟨lw_p11, List.forall_mem_cons.mpr ⟨lw_p12, List.forall_mem_cons.mpr ⟨lw_p13, List.forall_mem_cons.mpr ⟨lw_p14, List.forall_mem_cons.mpr ⟨lw_p15, fun _ h => absurd h List.not_mem_nil⟩⟩⟩⟩⟩⟩⟩⟩⟩⟩⟩⟩⟩⟩⟩⟩
theorem lw_p16 : lw_okq (⟨"LotsBid$Prices", "isBetter", "(IZ)Z"⟩, 5) := ⟨⟨by decide +kernel, by decide +kernel⟩, List.mem_of_getElem? (i := 163) (by decide +kernel), List.mem_of_getElem? (i := 532) (by decide +kernel), List.mem_of_getElem? (i := 533) (by decide +kernel)⟩
theorem lw_p17 : lw_okq (⟨"LotsBid$Prices", "isAtRest", "(LLotsBid$Plan;[I)Z"⟩, 5) := ⟨⟨by decide +kernel, by decide +kernel⟩, List.mem_of_getElem? (i := 163) (by decide +kernel), List.mem_of_getElem? (i := 536) (by decide +kernel), List.mem_of_getElem? (i := 537) (by decide +kernel)⟩
theorem lw_p18 : lw_okq (⟨"LotsBid$Prices", "isContent", "(LLotsBid$Plan;II)Z"⟩, 5) := ⟨⟨by decide +kernel, by decide +kernel⟩, List.mem_of_getElem? (i := 163) (by decide +kernel), List.mem_of_getElem? (i := 540) (by decide +kernel), List.mem_of_getElem? (i := 541) (by decide +kernel)⟩
theorem lw_p19 : lw_okq (⟨"LotsBid$Prices", "noteAsked", "(I)V"⟩, 5) := ⟨⟨by decide +kernel, by decide +kernel⟩, List.mem_of_getElem? (i := 163) (by decide +kernel), List.mem_of_getElem? (i := 544) (by decide +kernel), List.mem_of_getElem? (i := 545) (by decide +kernel)⟩
theorem lw_p20 : lw_okq (⟨"LotsBid", "isAsSeenWithout", "(I)Z"⟩, 10) := ⟨⟨by decide +kernel, by decide +kernel⟩, List.mem_of_getElem? (i := 16) (by decide +kernel), List.mem_of_getElem? (i := 573) (by decide +kernel), List.mem_of_getElem? (i := 574) (by decide +kernel)⟩
theorem lw_p21 : lw_okq (⟨"LotsBid$Hiring", "hadGotAnother", "(II)Z"⟩, 4) := ⟨⟨by decide +kernel, by decide +kernel⟩, List.mem_of_getElem? (i := 92) (by decide +kernel), List.mem_of_getElem? (i := 590) (by decide +kernel), List.mem_of_getElem? (i := 591) (by decide +kernel)⟩
theorem lw_p22 : lw_okq (⟨"LotsBid$Hiring", "firstCallOut", "(LLotsBid$Plan;II)I"⟩, 4) := ⟨⟨by decide +kernel, by decide +kernel⟩, List.mem_of_getElem? (i := 92) (by decide +kernel), List.mem_of_getElem? (i := 594) (by decide +kernel), List.mem_of_getElem? (i := 595) (by decide +kernel)⟩
theorem lw_p23 : lw_okq (⟨"LotsBidModel", "noFair", "(I)V"⟩, 29) := ⟨⟨by decide +kernel, by decide +kernel⟩, List.mem_of_getElem? (i := 641) (by decide +kernel), List.mem_of_getElem? (i := 647) (by decide +kernel), List.mem_of_getElem? (i := 648) (by decide +kernel)⟩
theorem lw_p24 : lw_okq (⟨"LotsBidModel", "readAll", "()I"⟩, 29) := ⟨⟨by decide +kernel, by decide +kernel⟩, List.mem_of_getElem? (i := 641) (by decide +kernel), List.mem_of_getElem? (i := 756) (by decide +kernel), List.mem_of_getElem? (i := 757) (by decide +kernel)⟩
theorem lw_p25 : lw_okq (⟨"LotsBidModel", "item", "()Z"⟩, 29) := ⟨⟨by decide +kernel, by decide +kernel⟩, List.mem_of_getElem? (i := 641) (by decide +kernel), List.mem_of_getElem? (i := 760) (by decide +kernel), List.mem_of_getElem? (i := 761) (by decide +kernel)⟩
theorem lw_p26 : lw_okq (⟨"LotsBidModel", "byteAt", "(I)I"⟩, 29) := ⟨⟨by decide +kernel, by decide +kernel⟩, List.mem_of_getElem? (i := 641) (by decide +kernel), List.mem_of_getElem? (i := 764) (by decide +kernel), List.mem_of_getElem? (i := 765) (by decide +kernel)⟩
theorem lw_p27 : lw_okq (⟨"LotsBidModel", "figures", "(I)Z"⟩, 29) := ⟨⟨by decide +kernel, by decide +kernel⟩, List.mem_of_getElem? (i := 641) (by decide +kernel), List.mem_of_getElem? (i := 768) (by decide +kernel), List.mem_of_getElem? (i := 769) (by decide +kernel)⟩
theorem lw_p28 : lw_okq (⟨"LotsBidModel", "copy", "(II)V"⟩, 29) := ⟨⟨by decide +kernel, by decide +kernel⟩, List.mem_of_getElem? (i := 641) (by decide +kernel), List.mem_of_getElem? (i := 781) (by decide +kernel), List.mem_of_getElem? (i := 782) (by decide +kernel)⟩
theorem lw_p29 : lw_okq (⟨"LotsBidModel", "isLad", "(I)Z"⟩, 29) := ⟨⟨by decide +kernel, by decide +kernel⟩, List.mem_of_getElem? (i := 641) (by decide +kernel), List.mem_of_getElem? (i := 789) (by decide +kernel), List.mem_of_getElem? (i := 790) (by decide +kernel)⟩
theorem lw_p30 : lw_okq (⟨"LotsBidModel", "goFair", "(I)V"⟩, 29) := ⟨⟨by decide +kernel, by decide +kernel⟩, List.mem_of_getElem? (i := 641) (by decide +kernel), List.mem_of_getElem? (i := 794) (by decide +kernel), List.mem_of_getElem? (i := 795) (by decide +kernel)⟩
theorem lw_p31 : lw_okq (⟨"LotsBidModel", "begin", "(I)V"⟩, 29) := ⟨⟨by decide +kernel, by decide +kernel⟩, List.mem_of_getElem? (i := 641) (by decide +kernel), List.mem_of_getElem? (i := 798) (by decide +kernel), List.mem_of_getElem? (i := 799) (by decide +kernel)⟩
def lw_privs_2 : List (MethodName × Nat) := [(⟨"LotsBid$Prices", "isBetter", "(IZ)Z"⟩, 5), (⟨"LotsBid$Prices", "isAtRest", "(LLotsBid$Plan;[I)Z"⟩, 5), (⟨"LotsBid$Prices", "isContent", "(LLotsBid$Plan;II)Z"⟩, 5), (⟨"LotsBid$Prices", "noteAsked", "(I)V"⟩, 5), (⟨"LotsBid", "isAsSeenWithout", "(I)Z"⟩, 10), (⟨"LotsBid$Hiring", "hadGotAnother", "(II)Z"⟩, 4), (⟨"LotsBid$Hiring", "firstCallOut", "(LLotsBid$Plan;II)I"⟩, 4), (⟨"LotsBidModel", "noFair", "(I)V"⟩, 29), (⟨"LotsBidModel", "readAll", "()I"⟩, 29), (⟨"LotsBidModel", "item", "()Z"⟩, 29), (⟨"LotsBidModel", "byteAt", "(I)I"⟩, 29), (⟨"LotsBidModel", "figures", "(I)Z"⟩, 29), (⟨"LotsBidModel", "copy", "(II)V"⟩, 29), (⟨"LotsBidModel", "isLad", "(I)Z"⟩, 29), (⟨"LotsBidModel", "goFair", "(I)V"⟩, 29), (⟨"LotsBidModel", "begin", "(I)V"⟩, 29)]
theorem lw_r2 : ∀ q ∈ lw_privs_2, lw_okq q := List.forall_mem_cons.mpr ⟨lw_p16, List.forall_mem_cons.mpr ⟨lw_p17, List.forall_mem_cons.mpr ⟨lw_p18, List.forall_mem_cons.mpr ⟨lw_p19, List.forall_mem_cons.mpr ⟨lw_p20, List.forall_mem_cons.mpr ⟨lw_p21, List.forall_mem_cons.mpr ⟨lw_p22, List.forall_mem_cons.mpr ⟨lw_p23, List.forall_mem_cons.mpr ⟨lw_p24, List.forall_mem_cons.mpr ⟨lw_p25, List.forall_mem_cons.mpr ⟨lw_p26, List.forall_mem_cons.mpr ⟨lw_p27, List.forall_mem_cons.mpr ⟨lw_p28, List.forall_mem_cons.mpr ⟨lw_p29, List.forall_mem_cons.mpr ⟨lw_p30, List.forall_mem_cons.mpr ⟨lw_p31, fun _ h => absurd h List.not_mem_nil⟩⟩⟩⟩⟩⟩⟩⟩⟩⟩⟩⟩⟩⟩⟩⟩
theorem lw_p32 : lw_okq (⟨"LotsBidModel", "callOne", "(II)V"⟩, 29) := ⟨⟨by decide +kernel, by decide +kernel⟩, List.mem_of_getElem? (i := 641) (by decide +kernel), List.mem_of_getElem? (i := 802) (by decide +kernel), List.mem_of_getElem? (i := 803) (by decide +kernel)⟩
theorem lw_p33 : lw_okq (⟨"LotsBidModel", "callBelow", "(I)V"⟩, 29) := ⟨⟨by decide +kernel, by decide +kernel⟩, List.mem_of_getElem? (i := 641) (by decide +kernel), List.mem_of_getElem? (i := 806) (by decide +kernel), List.mem_of_getElem? (i := 807) (by decide +kernel)⟩
theorem lw_p34 : lw_okq (⟨"LotsBidModel", "inSet", "(II)I"⟩, 29) := ⟨⟨by decide +kernel, by decide +kernel⟩, List.mem_of_getElem? (i := 641) (by decide +kernel), List.mem_of_getElem? (i := 810) (by decide +kernel), List.mem_of_getElem? (i := 811) (by decide +kernel)⟩
theorem lw_p35 : lw_okq (⟨"LotsBidModel", "isIn", "(III)Z"⟩, 29) := ⟨⟨by decide +kernel, by decide +kernel⟩, List.mem_of_getElem? (i := 641) (by decide +kernel), List.mem_of_getElem? (i := 814) (by decide +kernel), List.mem_of_getElem? (i := 815) (by decide +kernel)⟩
theorem lw_p36 : lw_okq (⟨"LotsBidModel", "boundOf", "(II)I"⟩, 29) := ⟨⟨by decide +kernel, by decide +kernel⟩, List.mem_of_getElem? (i := 641) (by decide +kernel), List.mem_of_getElem? (i := 818) (by decide +kernel), List.mem_of_getElem? (i := 819) (by decide +kernel)⟩
theorem lw_p37 : lw_okq (⟨"LotsBidModel", "give", "(III)V"⟩, 29) := ⟨⟨by decide +kernel, by decide +kernel⟩, List.mem_of_getElem? (i := 641) (by decide +kernel), List.mem_of_getElem? (i := 825) (by decide +kernel), List.mem_of_getElem? (i := 826) (by decide +kernel)⟩
theorem lw_p38 : lw_okq (⟨"LotsBidModel", "callAbove", "(I)V"⟩, 29) := ⟨⟨by decide +kernel, by decide +kernel⟩, List.mem_of_getElem? (i := 641) (by decide +kernel), List.mem_of_getElem? (i := 832) (by decide +kernel), List.mem_of_getElem? (i := 833) (by decide +kernel)⟩
theorem lw_p39 : lw_okq (⟨"LotsBidModel", "callSealed", "(I)V"⟩, 29) := ⟨⟨by decide +kernel, by decide +kernel⟩, List.mem_of_getElem? (i := 641) (by decide +kernel), List.mem_of_getElem? (i := 836) (by decide +kernel), List.mem_of_getElem? (i := 837) (by decide +kernel)⟩
theorem lw_p40 : lw_okq (⟨"LotsBidModel", "gainOf", "(I)I"⟩, 29) := ⟨⟨by decide +kernel, by decide +kernel⟩, List.mem_of_getElem? (i := 641) (by decide +kernel), List.mem_of_getElem? (i := 840) (by decide +kernel), List.mem_of_getElem? (i := 841) (by decide +kernel)⟩
theorem lw_p41 : lw_okq (⟨"LotsBidModel", "isMaster", "(I)Z"⟩, 29) := ⟨⟨by decide +kernel, by decide +kernel⟩, List.mem_of_getElem? (i := 641) (by decide +kernel), List.mem_of_getElem? (i := 848) (by decide +kernel), List.mem_of_getElem? (i := 849) (by decide +kernel)⟩
theorem lw_p42 : lw_okq (⟨"LotsBidModel", "ladsOf", "(I)I"⟩, 29) := ⟨⟨by decide +kernel, by decide +kernel⟩, List.mem_of_getElem? (i := 641) (by decide +kernel), List.mem_of_getElem? (i := 852) (by decide +kernel), List.mem_of_getElem? (i := 853) (by decide +kernel)⟩
theorem lw_p43 : lw_okq (⟨"LotsBidModel", "mostOf", "(I)I"⟩, 29) := ⟨⟨by decide +kernel, by decide +kernel⟩, List.mem_of_getElem? (i := 641) (by decide +kernel), List.mem_of_getElem? (i := 856) (by decide +kernel), List.mem_of_getElem? (i := 857) (by decide +kernel)⟩
theorem lw_p44 : lw_okq (⟨"LotsBidModel", "note", "(II)I"⟩, 29) := ⟨⟨by decide +kernel, by decide +kernel⟩, List.mem_of_getElem? (i := 641) (by decide +kernel), List.mem_of_getElem? (i := 872) (by decide +kernel), List.mem_of_getElem? (i := 873) (by decide +kernel)⟩
theorem lw_p45 : lw_okq (⟨"LotsBidModel", "takePrices", "(I)I"⟩, 29) := ⟨⟨by decide +kernel, by decide +kernel⟩, List.mem_of_getElem? (i := 641) (by decide +kernel), List.mem_of_getElem? (i := 900) (by decide +kernel), List.mem_of_getElem? (i := 901) (by decide +kernel)⟩
theorem lw_p46 : lw_okq (⟨"LotsBidModel", "canRest", "()Z"⟩, 29) := ⟨⟨by decide +kernel, by decide +kernel⟩, List.mem_of_getElem? (i := 641) (by decide +kernel), List.mem_of_getElem? (i := 904) (by decide +kernel), List.mem_of_getElem? (i := 905) (by decide +kernel)⟩
theorem lw_p47 : lw_okq (⟨"LotsBidModel", "codes", "()I"⟩, 29) := ⟨⟨by decide +kernel, by decide +kernel⟩, List.mem_of_getElem? (i := 641) (by decide +kernel), List.mem_of_getElem? (i := 908) (by decide +kernel), List.mem_of_getElem? (i := 909) (by decide +kernel)⟩
def lw_privs_3 : List (MethodName × Nat) := [(⟨"LotsBidModel", "callOne", "(II)V"⟩, 29), (⟨"LotsBidModel", "callBelow", "(I)V"⟩, 29), (⟨"LotsBidModel", "inSet", "(II)I"⟩, 29), (⟨"LotsBidModel", "isIn", "(III)Z"⟩, 29), (⟨"LotsBidModel", "boundOf", "(II)I"⟩, 29), (⟨"LotsBidModel", "give", "(III)V"⟩, 29), (⟨"LotsBidModel", "callAbove", "(I)V"⟩, 29), (⟨"LotsBidModel", "callSealed", "(I)V"⟩, 29), (⟨"LotsBidModel", "gainOf", "(I)I"⟩, 29), (⟨"LotsBidModel", "isMaster", "(I)Z"⟩, 29), (⟨"LotsBidModel", "ladsOf", "(I)I"⟩, 29), (⟨"LotsBidModel", "mostOf", "(I)I"⟩, 29), (⟨"LotsBidModel", "note", "(II)I"⟩, 29), (⟨"LotsBidModel", "takePrices", "(I)I"⟩, 29), (⟨"LotsBidModel", "canRest", "()Z"⟩, 29), (⟨"LotsBidModel", "codes", "()I"⟩, 29)]
theorem lw_r3 : ∀ q ∈ lw_privs_3, lw_okq q := List.forall_mem_cons.mpr ⟨lw_p32, List.forall_mem_cons.mpr ⟨lw_p33, List.forall_mem_cons.mpr ⟨lw_p34, List.forall_mem_cons.mpr ⟨lw_p35, List.forall_mem_cons.mpr ⟨lw_p36, List.forall_mem_cons.mpr ⟨lw_p37, List.forall_mem_cons.mpr ⟨lw_p38, List.forall_mem_cons.mpr ⟨lw_p39, List.forall_mem_cons.mpr ⟨lw_p40, List.forall_mem_cons.mpr ⟨lw_p41, List.forall_mem_cons.mpr ⟨lw_p42, List.forall_mem_cons.mpr ⟨lw_p43, List.forall_mem_cons.mpr ⟨lw_p44, List.forall_mem_cons.mpr ⟨lw_p45, List.forall_mem_cons.mpr ⟨lw_p46, List.forall_mem_cons.mpr ⟨lw_p47, fun _ h => absurd h List.not_mem_nil⟩⟩⟩⟩⟩⟩⟩⟩⟩⟩⟩⟩⟩⟩⟩⟩
theorem lw_p48 : lw_okq (⟨"LotsBidModel", "seatAll", "(I)Z"⟩, 29) := ⟨⟨by decide +kernel, by decide +kernel⟩, List.mem_of_getElem? (i := 641) (by decide +kernel), List.mem_of_getElem? (i := 912) (by decide +kernel), List.mem_of_getElem? (i := 913) (by decide +kernel)⟩
theorem lw_p49 : lw_okq (⟨"LotsBidModel", "isAtRest", "()Z"⟩, 29) := ⟨⟨by decide +kernel, by decide +kernel⟩, List.mem_of_getElem? (i := 641) (by decide +kernel), List.mem_of_getElem? (i := 916) (by decide +kernel), List.mem_of_getElem? (i := 917) (by decide +kernel)⟩
theorem lw_p50 : lw_okq (⟨"LotsBidModel", "bestWay", "(I)I"⟩, 29) := ⟨⟨by decide +kernel, by decide +kernel⟩, List.mem_of_getElem? (i := 641) (by decide +kernel), List.mem_of_getElem? (i := 924) (by decide +kernel), List.mem_of_getElem? (i := 925) (by decide +kernel)⟩
theorem lw_p51 : lw_okq (⟨"LotsBidModel", "sumOf", "(I)I"⟩, 29) := ⟨⟨by decide +kernel, by decide +kernel⟩, List.mem_of_getElem? (i := 641) (by decide +kernel), List.mem_of_getElem? (i := 928) (by decide +kernel), List.mem_of_getElem? (i := 929) (by decide +kernel)⟩
theorem lw_p52 : lw_okq (⟨"LotsBidModel", "isSeenSo", "(I)Z"⟩, 29) := ⟨⟨by decide +kernel, by decide +kernel⟩, List.mem_of_getElem? (i := 641) (by decide +kernel), List.mem_of_getElem? (i := 948) (by decide +kernel), List.mem_of_getElem? (i := 949) (by decide +kernel)⟩
def lw_privs_4 : List (MethodName × Nat) := [(⟨"LotsBidModel", "seatAll", "(I)Z"⟩, 29), (⟨"LotsBidModel", "isAtRest", "()Z"⟩, 29), (⟨"LotsBidModel", "bestWay", "(I)I"⟩, 29), (⟨"LotsBidModel", "sumOf", "(I)I"⟩, 29), (⟨"LotsBidModel", "isSeenSo", "(I)Z"⟩, 29)]
theorem lw_r4 : ∀ q ∈ lw_privs_4, lw_okq q := List.forall_mem_cons.mpr ⟨lw_p48, List.forall_mem_cons.mpr ⟨lw_p49, List.forall_mem_cons.mpr ⟨lw_p50, List.forall_mem_cons.mpr ⟨lw_p51, List.forall_mem_cons.mpr ⟨lw_p52, fun _ h => absurd h List.not_mem_nil⟩⟩⟩⟩⟩
def lw_privs : List (MethodName × Nat) := lw_privs_1 ++ (lw_privs_2 ++ (lw_privs_3 ++ (lw_privs_4)))
def lw_tbl : List Cond := k2_sels lw_privs ++ tables_1
theorem lw_privs_ok : ∀ q ∈ lw_privs, lw_okq q := by
  show ∀ q ∈ lw_privs_1 ++ (lw_privs_2 ++ (lw_privs_3 ++ (lw_privs_4))), lw_okq q
  exact List.forall_mem_append.mpr ⟨lw_r1, List.forall_mem_append.mpr ⟨lw_r2, List.forall_mem_append.mpr ⟨lw_r3, lw_r4⟩⟩⟩
def va_AOA (ty : FieldType) (U : State) : Prop := (Cond.arrayOver (.array ty)).before #[] U = true
theorem va_AOA.use {ty : FieldType} {A : Array Value} {U : State} (h : va_AOA ty U) : (Cond.arrayOver (.array ty)).before A U = true := h
/-! ===== BEGIN new T[n][m]: the outer array a place, the inner ones among the pooled ===== -/
/-- f, but v at every address of l -/
def vr_up {α : Type} (f : Nat → α) (l : List Nat) (v : α) : Nat → α := fun a => if a ∈ l then v else f a
theorem vr_up_in {α : Type} {f : Nat → α} {l : List Nat} {v : α} {a : Nat} (h : a ∈ l) : vr_up f l v a = v := if_pos h
theorem vr_up_ne {α : Type} {f : Nat → α} {l : List Nat} {v : α} {a : Nat} (h : a ∉ l) : vr_up f l v a = f a := if_neg h
theorem vr_rows {L l : List Nat} {f : Nat → va_E} {e : va_E} (h : ∀ a, a ∈ l → a ∉ L) : va_pl L f ++ l.map (fun a => (a, e)) = va_pl (L ++ l) (vr_up f l e) := by
  unfold va_pl
  rw [List.map_append]
  congr 1
  · apply List.map_congr_left
    intro a ha
    rw [vr_up_ne (fun q => h a q ha)]
  · apply List.map_congr_left
    intro a ha
    rw [vr_up_in ha]
theorem vr_lay {X rows : va_W} {x : Nat × va_E} {pl : va_W} {D : va_G} {cl : List vw_C} {H : Heap} (hP : va_P D cl (((X ++ pl) ++ [x]) ++ rows) H) : va_P D cl ((X ++ [x]) ++ (pl ++ rows)) H := by
  rw [List.append_assoc (X ++ pl)] at hP
  have h := va_P.swap hP
  rw [← List.append_assoc X] at h
  have h2 := va_P.swap h
  rw [List.append_assoc (X ++ [x])] at h2
  exact h2
theorem vr_layD {X rows : va_W} {x : Nat × va_E} {pl : va_W} {A : Nat → Prop} (hD : va_D A (((X ++ pl) ++ [x]) ++ rows)) : va_D A ((X ++ [x]) ++ (pl ++ rows)) := by
  rw [List.append_assoc (X ++ pl)] at hD
  have h := va_D.swap hD
  rw [← List.append_assoc X] at h
  have h2 := va_D.swap h
  rw [List.append_assoc (X ++ [x])] at h2
  exact h2
theorem vr_outer (c : ClassId) (N h0 : Nat) : ∀ i : Nat, Jvm.Free.Multi.outerC c N h0 i = arrV c N (fun j => va_rf (if j < i then some (h0 + 1 + j) else none))
  | 0 => by
    show ({ cls := c, slots := Array.replicate N .null, vm := .none } : Cell) = _
    rw [arrV_new]
    refine congrArg (arrV c N) (funext fun j => ?_)
    simp [va_rf]
  | i + 1 => by
    show (Jvm.Free.Multi.outerC c N h0 i).setSlot i (.ref (h0 + 1 + i)) = _
    rw [vr_outer c N h0 i, arrV_store]
    refine congrArg (arrV c N) (funext fun j => ?_)
    by_cases e : j = i
    · subst e
      simp [updV, va_rf]
    · by_cases h : j < i
      · simp [updV, e, h, Nat.lt_succ_of_lt h]
      · simp [updV, e, h, show ¬ j < i + 1 by omega]
section VGM
variable {p : Program} {l : Launch} {e : Env} {R : Room} {s : State} {m : MethodId} {args : Array Value} {below : List Frame} {meth : Method} {c : Code} {H : Heap} {locs : List Loc} {cells slots : Nat} {Q : State → Prop}
variable {cc : ByteArray} {pc : Nat} {ls : Array Slot} {rest : List Value} {D : va_G} {cl : List vw_C} {A : Nat → Prop} {a : Nat} {tys : List (ClassId × FieldType)} {ws : va_W} {H0 : Heap}
theorem va_mna {X : va_W} {L : List Nat} {f : Nat → va_E} {cc : ByteArray} (hexec : p.tables.exec = Jvm.exec) (hb : c.code = cc) {own : String} {index : Nat} {ty : FieldType} {cy : ClassId} (hown : s.vm.findClass own = some m.cls) (hclink : (Cond.classLink own index ("[" ++ (FieldType.array ty).toString)).before args s = true) (hover : va_AOA ty s) (harr : (Cond.arrayClass ty).before args s = true) (hcy : s.vm.findClass (FieldType.array ty).toString = some cy)
    (hK : va_K D cl tys s) (hP : va_P D cl (X ++ va_pl L f) H) (hD : va_D A (X ++ va_pl L f)) (hS : va_S A H0 H locs) (hA : ∀ q, H0.size ≤ q → A q) {n k : Int32} {N' K' : Nat} {z : vp_A} (hn : ¬ n < 0) (hk : ¬ k < 0) (hN : n.toNatClampNeg = N') (hM : k.toNatClampNeg = K')
    (hb1 : N' * 4 ≤ 536870912) (hb2 : K' * componentBytes ty ≤ 536870912) (hb3 : K' ≤ 536870912) (hdf : fits ty (defaultValue ty) = true) (hdd : (defaultValue ty).isDefault = true) (hcells : cells + (1 + N') ≤ R.cells) (hslots : slots + (N' + N' * K') ≤ R.slots) (hz : ∀ c : ClassId, Jvm.Free.Multi.innerC c K' (defaultValue ty) = vp_cell c z) (hdg : decode cc pc = .ok (.multianewarray index 2, 4))
    (kk : ∀ (q : Nat) (r : Nat → Nat) (cA : ClassId) (H1 : Heap), (∀ i j : Nat, i < N' → j < N' → r i = r j → i = j) → (∀ i : Nat, i < N' → r i ∉ L) → va_K D cl (tys ++ [(cA, .array ty)]) s →
      va_P D cl ((X ++ [(q, .inl (cA, N', .inr (.inr (.inr (.inr (fun i => if i < N' then some (r i) else none))))))]) ++ va_pl (L ++ (List.range N').map r) (vr_up f ((List.range N').map r) (.inl (cy, z)))) H1 → va_D A ((X ++ [(q, .inl (cA, N', .inr (.inr (.inr (.inr (fun i => if i < N' then some (r i) else none))))))]) ++ va_pl (L ++ (List.range N').map r) (vr_up f ((List.range N').map r) (.inl (cy, z)))) → va_S A H0 H1 locs →
      W p l e R s m args below meth c H1 locs (cells + 1 + N') (slots + N' + N' * K') Q (F0 m (pc + 4) ls (.ref q :: rest))) : W p l e R s m args below meth c H locs cells slots Q (F0 m pc ls (.int k :: .int n :: rest)) := by
  subst hN
  subst hM
  intro T hT Xs
  obtain ⟨vm₁, cA, comp, -, fA, fC, hO, -, X', step⟩ := Xs.multianewarray2F hexec hown hclink (va_AOA.use hover) harr (g := F0 m pc ls (.int k :: .int n :: rest)) rfl (by rw [hb]; exact hdg) rfl hn hk hb1 hb2 hb3 hdf hdd hcells hslots
  have ec : some cy = some comp := hcy.symm.trans fC
  cases ec
  generalize hF : Jvm.Free.Multi.fill (T.setVm vm₁) cA cy n.toNatClampNeg k.toNatClampNeg (defaultValue ty) n.toNatClampNeg = F at X' step
  have hTh : (T.setVm vm₁).heap = H := hT
  obtain ⟨f1, f2, -, -⟩ := Jvm.Free.Multi.fill_facts (T.setVm vm₁) cA cy n.toNatClampNeg k.toNatClampNeg (defaultValue ty) n.toNatClampNeg
  rw [hF, hTh] at f1 f2
  have hold : ∀ x : Nat, x < H.size → F.heap[x]? = H[x]? := fun x hx => by
    have := Jvm.Free.Multi.fill_old (T.setVm vm₁) cA cy n.toNatClampNeg k.toNatClampNeg (defaultValue ty) (a := x) (by rw [hTh]; exact hx) n.toNatClampNeg
    rw [hF, hTh] at this
    exact this
  have hrow : ∀ j : Nat, j < n.toNatClampNeg → F.heap[H.size + 1 + j]? = some (vp_cell cy z) := fun j hj => by
    have := Jvm.Free.Multi.fill_inner (T.setVm vm₁) cA cy n.toNatClampNeg k.toNatClampNeg (defaultValue ty) n.toNatClampNeg j hj
    rw [hF, hTh, hz] at this
    exact this
  have hout : Jvm.Free.Multi.outerC cA n.toNatClampNeg H.size n.toNatClampNeg = vp_cell cA (n.toNatClampNeg, .inr (.inr (.inr (.inr (fun i => if i < n.toNatClampNeg then some (H.size + 1 + i) else none))))) := by
    rw [vp_cell_q]
    exact vr_outer cA n.toNatClampNeg H.size n.toNatClampNeg
  rw [hout] at f2
  have hlt : ∀ a, a ∈ L → a < H.size := fun a ha => by
    obtain ⟨k9, hk9⟩ := va_pl_get (X := X) (f := f) ha
    exact (hP k9 _ hk9).lt
  have hnl : ∀ i : Nat, i < n.toNatClampNeg → H.size + 1 + i ∉ L := fun i _ h => by
    have := hlt _ h
    omega
  have hnm : ∀ a, a ∈ (List.range n.toNatClampNeg).map (fun i => H.size + 1 + i) → a ∉ L := fun a ha h => by
    obtain ⟨i, -, rfl⟩ := List.mem_map.mp ha
    have := hlt _ h
    omega
  have hP0 : va_P D cl (X ++ va_pl L f) F.heap := hP.kept (fun k9 x hx => hold x.1 ((hP k9 x hx).lt))
  have hP1 : va_P D cl ((X ++ va_pl L f) ++ [(H.size, .inl (cA, n.toNatClampNeg, .inr (.inr (.inr (.inr (fun i => if i < n.toNatClampNeg then some (H.size + 1 + i) else none))))))]) F.heap := hP0.app (fun k9 x hx => by
    have h0 : k9 < 1 := (List.getElem?_eq_some_iff.mp hx).1
    rw [show k9 = 0 by omega] at hx
    cases hx
    exact f2)
  have hP2 : va_P D cl (((X ++ va_pl L f) ++ [(H.size, .inl (cA, n.toNatClampNeg, .inr (.inr (.inr (.inr (fun i => if i < n.toNatClampNeg then some (H.size + 1 + i) else none))))))]) ++ ((List.range n.toNatClampNeg).map (fun i => H.size + 1 + i)).map (fun a => (a, .inl (cy, z)))) F.heap := hP1.app (fun k9 x hx => by
    obtain ⟨a, ha, rfl⟩ := List.mem_map.mp (List.mem_of_getElem? hx)
    obtain ⟨i, hi, rfl⟩ := List.mem_map.mp ha
    exact hrow i (List.mem_range.mp hi))
  have hD2 : va_D A (((X ++ va_pl L f) ++ [(H.size, .inl (cA, n.toNatClampNeg, .inr (.inr (.inr (.inr (fun i => if i < n.toNatClampNeg then some (H.size + 1 + i) else none))))))]) ++ ((List.range n.toNatClampNeg).map (fun i => H.size + 1 + i)).map (fun a => (a, .inl (cy, z)))) := by
    have hD1 := hD.push (e := .inl (cA, n.toNatClampNeg, .inr (.inr (.inr (.inr (fun i => if i < n.toNatClampNeg then some (H.size + 1 + i) else none)))))) hP rfl (hA _ hS.1)
    generalize hW1 : (X ++ va_pl L f) ++ [(H.size, .inl (cA, n.toNatClampNeg, .inr (.inr (.inr (.inr (fun i => if i < n.toNatClampNeg then some (H.size + 1 + i) else none))))))] = W1 at hD1 hP1 ⊢
    have hle : ∀ (k9 : Nat) (x : Nat × va_E), W1[k9]? = some x → x.1 ≤ H.size := fun k9 x hx => by
      rw [← hW1] at hx
      by_cases hl : k9 < (X ++ va_pl L f).length
      · rw [List.getElem?_append_left hl] at hx
        exact Nat.le_of_lt ((hP k9 x hx).lt)
      · rw [List.getElem?_append_right (by omega)] at hx
        have h0 : k9 - (X ++ va_pl L f).length < 1 := (List.getElem?_eq_some_iff.mp hx).1
        rw [show k9 - (X ++ va_pl L f).length = 0 by omega] at hx
        cases hx
        exact Nat.le_refl _
    have hr : ∀ (k9 : Nat) (x : Nat × va_E), (((List.range n.toNatClampNeg).map (fun i => H.size + 1 + i)).map (fun a => ((a, .inl (cy, z)) : Nat × va_E)))[k9]? = some x → x.1 = H.size + 1 + k9 := fun k9 x hx => by
      rw [List.getElem?_map, List.getElem?_map] at hx
      by_cases h9 : k9 < n.toNatClampNeg
      · rw [List.getElem?_range h9] at hx
        cases hx
        rfl
      · have hn0 : (List.range n.toNatClampNeg)[k9]? = none := List.getElem?_eq_none (by rw [List.length_range]; omega)
        rw [hn0] at hx
        cases hx
    refine ⟨fun i j x y hi hj hxy => ?_, fun k9 x hx => ?_⟩
    · by_cases h1 : i < W1.length <;> by_cases h2 : j < W1.length
      · rw [List.getElem?_append_left h1] at hi
        rw [List.getElem?_append_left h2] at hj
        exact hD1.1 i j x y hi hj hxy
      · rw [List.getElem?_append_left h1] at hi
        rw [List.getElem?_append_right (by omega)] at hj
        have := hle _ _ hi
        have := hr _ _ hj
        omega
      · rw [List.getElem?_append_right (by omega)] at hi
        rw [List.getElem?_append_left h2] at hj
        have := hle _ _ hj
        have := hr _ _ hi
        omega
      · rw [List.getElem?_append_right (by omega)] at hi hj
        have := hr _ _ hi
        have := hr _ _ hj
        omega
    · by_cases h1 : k9 < W1.length
      · rw [List.getElem?_append_left h1] at hx
        exact hD1.2 k9 x hx
      · rw [List.getElem?_append_right (by omega)] at hx
        have := hr _ _ hx
        exact hA _ (by have := hS.1; omega)
  have hAr : ArrOfT s cA (.array ty) := fun N9 z9 => by
    obtain ⟨-, k9, hk9, cm9, hkk9⟩ := (hO 0 0 0).1
    exact ⟨(fun q hq => by cases hq), k9, hk9, cm9, hkk9⟩
  have hK2 : va_K D cl (tys ++ [(cA, .array ty)]) s := ⟨hK.1, fun k9 x hx => by
    by_cases hl : k9 < tys.length
    · rw [List.getElem?_append_left hl] at hx
      exact hK.2 k9 x hx
    · rw [List.getElem?_append_right (by omega)] at hx
      have h0 : k9 - tys.length < 1 := (List.getElem?_eq_some_iff.mp hx).1
      rw [show k9 - tys.length = 0 by omega] at hx
      cases hx
      exact ⟨hAr, fA⟩⟩
  obtain ⟨t, a1, b1⟩ := kk H.size (fun i => H.size + 1 + i) cA F.heap (fun i j _ _ h => by have h9 : H.size + 1 + i = H.size + 1 + j := h; omega) hnl hK2 (by rw [← vr_rows hnm]; exact vr_lay hP2) (by rw [← vr_rows hnm]; exact vr_layD hD2) ⟨by rw [f1]; have := hS.1; omega, fun x h1 h2 => (hold x (Nat.lt_of_lt_of_le h1 hS.1)).trans (hS.2.1 x h1 h2), hS.2.2⟩ F rfl X'
  refine ⟨t, step t ?_, b1⟩
  have e : T.heap.size = H.size := by rw [hT]
  rw [e]
  exact a1
end VGM
/-! ===== END ===== -/

def RX0 : String := "LotsBid$Changes"
def TX0 : u_T := fun k => match k with
  | 0 => ("LotsBid$Changes", "many", "I", false)
  | 1 => ("LotsBid$Changes", "which", "[I", true)
  | _ => ("LotsBid$Changes", "was", "[I", true)
def tyX0 : Nat → FieldType := fun k => match k with
  | 0 => .int
  | 1 => .array .int
  | _ => .array .int
abbrev wsX00 : List Cond := u_ws RX0 TX0 3
theorem nmX0 : ∀ a, a < 3 → ∀ b, b < 3 → a ≠ b → (TX0 a).2.1 ≠ (TX0 b).2.1 := by decide +kernel
theorem tyX0_ok : ∀ k, k < 3 → parseFieldDescriptor (TX0 k).2.2.1 = some (tyX0 k) := by decide +kernel
abbrev cX0_init : ByteArray := prog_2_method_1_code
def yX0_init : MethodName := ⟨RX0, "<init>", "()V"⟩
abbrev cX0_note : ByteArray := prog_2_method_2_code
def yX0_note : MethodName := ⟨RX0, "note", "(II)V"⟩
abbrev cX0_takeBack : ByteArray := prog_2_method_3_code
def yX0_takeBack : MethodName := ⟨RX0, "takeBack", "(LLotsBid$Plan;)V"⟩
def RX1 : String := "LotsBid$Game"
def TX1 : u_T := fun k => match k with
  | 0 => ("LotsBid$Game", "rests", "I", false)
  | 1 => ("LotsBid$Game", "limitOfOne", "I", false)
  | 2 => ("LotsBid$Game", "limitOfOther", "I", false)
  | 3 => ("LotsBid$Game", "gainOfOne", "[[I", true)
  | _ => ("LotsBid$Game", "gainOfOther", "[[I", true)
def tyX1 : Nat → FieldType := fun k => match k with
  | 0 => .int
  | 1 => .int
  | 2 => .int
  | 3 => .array (.array .int)
  | _ => .array (.array .int)
abbrev wsX10 : List Cond := u_ws RX1 TX1 5
theorem nmX1 : ∀ a, a < 5 → ∀ b, b < 5 → a ≠ b → (TX1 a).2.1 ≠ (TX1 b).2.1 := by decide +kernel
theorem tyX1_ok : ∀ k, k < 5 → parseFieldDescriptor (TX1 k).2.2.1 = some (tyX1 k) := by decide +kernel
abbrev cX1_init : ByteArray := prog_3_method_1_code
def yX1_init : MethodName := ⟨RX1, "<init>", "()V"⟩
abbrev cX1_play : ByteArray := prog_3_method_2_code
def yX1_play : MethodName := ⟨RX1, "play", "(LLotsBid$Plan;LLotsBid$Hiring;II)V"⟩
abbrev cX1_findRests : ByteArray := prog_3_method_3_code
def yX1_findRests : MethodName := ⟨RX1, "findRests", "()V"⟩
abbrev cX1_noteRest : ByteArray := prog_3_method_4_code
def yX1_noteRest : MethodName := ⟨RX1, "noteRest", "(II)V"⟩
abbrev cX1_isRest : ByteArray := prog_3_method_5_code
def yX1_isRest : MethodName := ⟨RX1, "isRest", "(II)Z"⟩
def RX2 : String := "LotsBid$Hiring"
def TX2 : u_T := fun k => match k with
  | 0 => ("LotsBid$Hiring", "got", "[I", true)
  | 1 => ("LotsBid$Hiring", "years", "[I", true)
  | 2 => ("LotsBid$Hiring", "bound", "[I", true)
  | _ => ("LotsBid$Hiring", "lastCall", "[I", true)
def tyX2 : Nat → FieldType := fun k => match k with
  | 0 => .array .int
  | 1 => .array .int
  | 2 => .array .int
  | _ => .array .int
abbrev wsX20 : List Cond := u_ws RX2 TX2 4
theorem nmX2 : ∀ a, a < 4 → ∀ b, b < 4 → a ≠ b → (TX2 a).2.1 ≠ (TX2 b).2.1 := by decide +kernel
theorem tyX2_ok : ∀ k, k < 4 → parseFieldDescriptor (TX2 k).2.2.1 = some (tyX2 k) := by decide +kernel
abbrev cX2_init : ByteArray := prog_4_method_1_code
def yX2_init : MethodName := ⟨RX2, "<init>", "()V"⟩
abbrev cX2_hold : ByteArray := prog_4_method_2_code
def yX2_hold : MethodName := ⟨RX2, "hold", "(LLotsBid$Plan;I)V"⟩
abbrev cX2_callFromBelow : ByteArray := prog_4_method_3_code
def yX2_callFromBelow : MethodName := ⟨RX2, "callFromBelow", "(LLotsBid$Plan;I)V"⟩
abbrev cX2_callFromAbove : ByteArray := prog_4_method_4_code
def yX2_callFromAbove : MethodName := ⟨RX2, "callFromAbove", "(LLotsBid$Plan;II)V"⟩
abbrev cX2_isIn : ByteArray := prog_4_method_5_code
def yX2_isIn : MethodName := ⟨RX2, "isIn", "(II)Z"⟩
abbrev cX2_howManyIn : ByteArray := prog_4_method_6_code
def yX2_howManyIn : MethodName := ⟨RX2, "howManyIn", "(LLotsBid$Plan;I)I"⟩
abbrev cX2_hire : ByteArray := prog_4_method_7_code
def yX2_hire : MethodName := ⟨RX2, "hire", "(LLotsBid$Plan;III)I"⟩
abbrev cX2_gainOf : ByteArray := prog_4_method_8_code
def yX2_gainOf : MethodName := ⟨RX2, "gainOf", "(LLotsBid$Plan;I)I"⟩
abbrev cX2_ladsOf : ByteArray := prog_4_method_9_code
def yX2_ladsOf : MethodName := ⟨RX2, "ladsOf", "(LLotsBid$Plan;I)I"⟩
abbrev cX2_mostYearsOf : ByteArray := prog_4_method_10_code
def yX2_mostYearsOf : MethodName := ⟨RX2, "mostYearsOf", "(LLotsBid$Plan;I)I"⟩
abbrev cX2_yearsOfAll : ByteArray := prog_4_method_11_code
def yX2_yearsOfAll : MethodName := ⟨RX2, "yearsOfAll", "(LLotsBid$Plan;)I"⟩
abbrev cX2_gainsOfAll : ByteArray := prog_4_method_12_code
def yX2_gainsOfAll : MethodName := ⟨RX2, "gainsOfAll", "(LLotsBid$Plan;)I"⟩
abbrev cX2_ladsHired : ByteArray := prog_4_method_13_code
def yX2_ladsHired : MethodName := ⟨RX2, "ladsHired", "(LLotsBid$Plan;)I"⟩
abbrev cX2_mastersAlone : ByteArray := prog_4_method_14_code
def yX2_mastersAlone : MethodName := ⟨RX2, "mastersAlone", "(LLotsBid$Plan;)I"⟩
abbrev cX2_hadGotAnother : ByteArray := prog_4_method_15_code
def yX2_hadGotAnother : MethodName := ⟨RX2, "hadGotAnother", "(II)Z"⟩
abbrev cX2_firstCallOut : ByteArray := prog_4_method_16_code
def yX2_firstCallOut : MethodName := ⟨RX2, "firstCallOut", "(LLotsBid$Plan;II)I"⟩
abbrev cX2_spanFrom : ByteArray := prog_4_method_17_code
def yX2_spanFrom : MethodName := ⟨RX2, "spanFrom", "(LLotsBid$Plan;II)I"⟩
abbrev cX2_spanTo : ByteArray := prog_4_method_18_code
def yX2_spanTo : MethodName := ⟨RX2, "spanTo", "(LLotsBid$Plan;II)I"⟩
def RX3 : String := "LotsBid$Pairing"
def TX3 : u_T := fun k => match k with
  | 0 => ("LotsBid$Pairing", "most", "I", false)
  | 1 => ("LotsBid$Pairing", "best", "[I", true)
  | 2 => ("LotsBid$Pairing", "way", "[I", true)
  | 3 => ("LotsBid$Pairing", "left", "[I", true)
  | _ => ("LotsBid$Pairing", "hope", "[I", true)
def tyX3 : Nat → FieldType := fun k => match k with
  | 0 => .int
  | 1 => .array .int
  | 2 => .array .int
  | 3 => .array .int
  | _ => .array .int
abbrev wsX30 : List Cond := u_ws RX3 TX3 5
theorem nmX3 : ∀ a, a < 5 → ∀ b, b < 5 → a ≠ b → (TX3 a).2.1 ≠ (TX3 b).2.1 := by decide +kernel
theorem tyX3_ok : ∀ k, k < 5 → parseFieldDescriptor (TX3 k).2.2.1 = some (tyX3 k) := by decide +kernel
abbrev cX3_init : ByteArray := prog_5_method_1_code
def yX3_init : MethodName := ⟨RX3, "<init>", "()V"⟩
abbrev cX3_search : ByteArray := prog_5_method_2_code
def yX3_search : MethodName := ⟨RX3, "search", "(LLotsBid$Plan;I)V"⟩
abbrev cX3_mostWantOf : ByteArray := prog_5_method_3_code
def yX3_mostWantOf : MethodName := ⟨RX3, "mostWantOf", "(LLotsBid$Plan;I)I"⟩
abbrev cX3_place : ByteArray := prog_5_method_4_code
def yX3_place : MethodName := ⟨RX3, "place", "(LLotsBid$Pairing;LLotsBid$Plan;III)V"⟩
def RX4 : String := "LotsBid$Plan"
def TX4 : u_T := fun k => match k with
  | 0 => ("LotsBid$Plan", "masters", "I", false)
  | 1 => ("LotsBid$Plan", "lads", "I", false)
  | 2 => ("LotsBid$Plan", "room", "[I", true)
  | 3 => ("LotsBid$Plan", "kind", "[I", true)
  | 4 => ("LotsBid$Plan", "want", "[[I", true)
  | _ => ("LotsBid$Plan", "law", "[I", true)
def tyX4 : Nat → FieldType := fun k => match k with
  | 0 => .int
  | 1 => .int
  | 2 => .array .int
  | 3 => .array .int
  | 4 => .array (.array .int)
  | _ => .array .int
abbrev wsX40 : List Cond := u_ws RX4 TX4 6
theorem nmX4 : ∀ a, a < 6 → ∀ b, b < 6 → a ≠ b → (TX4 a).2.1 ≠ (TX4 b).2.1 := by decide +kernel
theorem tyX4_ok : ∀ k, k < 6 → parseFieldDescriptor (TX4 k).2.2.1 = some (tyX4 k) := by decide +kernel
abbrev cX4_init : ByteArray := prog_6_method_1_code
def yX4_init : MethodName := ⟨RX4, "<init>", "()V"⟩
abbrev cX4_clear : ByteArray := prog_6_method_2_code
def yX4_clear : MethodName := ⟨RX4, "clear", "()V"⟩
abbrev cX4_copyFrom : ByteArray := prog_6_method_3_code
def yX4_copyFrom : MethodName := ⟨RX4, "copyFrom", "(LLotsBid$Plan;)V"⟩
abbrev cX4_hasMaster : ByteArray := prog_6_method_4_code
def yX4_hasMaster : MethodName := ⟨RX4, "hasMaster", "(I)Z"⟩
abbrev cX4_hasLad : ByteArray := prog_6_method_5_code
def yX4_hasLad : MethodName := ⟨RX4, "hasLad", "(I)Z"⟩
abbrev cX4_addMaster : ByteArray := prog_6_method_6_code
def yX4_addMaster : MethodName := ⟨RX4, "addMaster", "(I)Z"⟩
abbrev cX4_addLad : ByteArray := prog_6_method_7_code
def yX4_addLad : MethodName := ⟨RX4, "addLad", "(II)Z"⟩
abbrev cX4_addWant : ByteArray := prog_6_method_8_code
def yX4_addWant : MethodName := ⟨RX4, "addWant", "(III)Z"⟩
abbrev cX4_tellCalls : ByteArray := prog_6_method_9_code
def yX4_tellCalls : MethodName := ⟨RX4, "tellCalls", "(I)Z"⟩
abbrev cX4_tellStep : ByteArray := prog_6_method_10_code
def yX4_tellStep : MethodName := ⟨RX4, "tellStep", "(I)Z"⟩
abbrev cX4_boundOf : ByteArray := prog_6_method_11_code
def yX4_boundOf : MethodName := ⟨RX4, "boundOf", "(II)I"⟩
abbrev cX4_drawWants : ByteArray := prog_6_method_12_code
def yX4_drawWants : MethodName := ⟨RX4, "drawWants", "(I)V"⟩
def RX5 : String := "LotsBid$Prices"
def TX5 : u_T := fun k => match k with
  | 0 => ("LotsBid$Prices", "found", "Z", false)
  | 1 => ("LotsBid$Prices", "sum", "I", false)
  | 2 => ("LotsBid$Prices", "best", "[I", true)
  | 3 => ("LotsBid$Prices", "asked", "[I", true)
  | _ => ("LotsBid$Prices", "held", "[I", true)
def tyX5 : Nat → FieldType := fun k => match k with
  | 0 => .boolean
  | 1 => .int
  | 2 => .array .int
  | 3 => .array .int
  | _ => .array .int
abbrev wsX50 : List Cond := u_ws RX5 TX5 5
theorem nmX5 : ∀ a, a < 5 → ∀ b, b < 5 → a ≠ b → (TX5 a).2.1 ≠ (TX5 b).2.1 := by decide +kernel
theorem tyX5_ok : ∀ k, k < 5 → parseFieldDescriptor (TX5 k).2.2.1 = some (tyX5 k) := by decide +kernel
abbrev cX5_init : ByteArray := prog_7_method_1_code
def yX5_init : MethodName := ⟨RX5, "<init>", "()V"⟩
abbrev cX5_search : ByteArray := prog_7_method_2_code
def yX5_search : MethodName := ⟨RX5, "search", "(LLotsBid$Plan;[IZ)V"⟩
abbrev cX5_countHeld : ByteArray := prog_7_method_3_code
def yX5_countHeld : MethodName := ⟨RX5, "countHeld", "(LLotsBid$Plan;[I)V"⟩
abbrev cX5_isBetter : ByteArray := prog_7_method_4_code
def yX5_isBetter : MethodName := ⟨RX5, "isBetter", "(IZ)Z"⟩
abbrev cX5_noteAsked : ByteArray := prog_7_method_5_code
def yX5_noteAsked : MethodName := ⟨RX5, "noteAsked", "(I)V"⟩
abbrev cX5_isAtRest : ByteArray := prog_7_method_6_code
def yX5_isAtRest : MethodName := ⟨RX5, "isAtRest", "(LLotsBid$Plan;[I)Z"⟩
abbrev cX5_isContent : ByteArray := prog_7_method_7_code
def yX5_isContent : MethodName := ⟨RX5, "isContent", "(LLotsBid$Plan;II)Z"⟩
def RX6 : String := "LotsBid$Shelf"
def TX6 : u_T := fun k => match k with
  | 0 => ("LotsBid$Shelf", "many", "I", false)
  | _ => ("LotsBid$Shelf", "laws", "[[I", true)
def tyX6 : Nat → FieldType := fun k => match k with
  | 0 => .int
  | _ => .array (.array .int)
abbrev wsX60 : List Cond := u_ws RX6 TX6 2
theorem nmX6 : ∀ a, a < 2 → ∀ b, b < 2 → a ≠ b → (TX6 a).2.1 ≠ (TX6 b).2.1 := by decide +kernel
theorem tyX6_ok : ∀ k, k < 2 → parseFieldDescriptor (TX6 k).2.2.1 = some (tyX6 k) := by decide +kernel
abbrev cX6_init : ByteArray := prog_8_method_1_code
def yX6_init : MethodName := ⟨RX6, "<init>", "()V"⟩
abbrev cX6_put : ByteArray := prog_8_method_2_code
def yX6_put : MethodName := ⟨RX6, "put", "(LLotsBid$Plan;)V"⟩
abbrev cX6_takeInto : ByteArray := prog_8_method_3_code
def yX6_takeInto : MethodName := ⟨RX6, "takeInto", "(LLotsBid$Plan;)V"⟩
def RX7 : String := "LotsBid$Sightings"
def TX7 : u_T := fun k => match k with
  | 0 => ("LotsBid$Sightings", "many", "I", false)
  | 1 => ("LotsBid$Sightings", "master", "[I", true)
  | _ => ("LotsBid$Sightings", "years", "[I", true)
def tyX7 : Nat → FieldType := fun k => match k with
  | 0 => .int
  | 1 => .array .int
  | _ => .array .int
abbrev wsX70 : List Cond := u_ws RX7 TX7 3
theorem nmX7 : ∀ a, a < 3 → ∀ b, b < 3 → a ≠ b → (TX7 a).2.1 ≠ (TX7 b).2.1 := by decide +kernel
theorem tyX7_ok : ∀ k, k < 3 → parseFieldDescriptor (TX7 k).2.2.1 = some (tyX7 k) := by decide +kernel
abbrev cX7_init : ByteArray := prog_9_method_1_code
def yX7_init : MethodName := ⟨RX7, "<init>", "()V"⟩
abbrev cX7_add : ByteArray := prog_9_method_2_code
def yX7_add : MethodName := ⟨RX7, "add", "(II)V"⟩
abbrev cX7_fit : ByteArray := prog_9_method_3_code
def yX7_fit : MethodName := ⟨RX7, "fit", "(LLotsBid$Plan;LLotsBid$Hiring;)Z"⟩
def RX8 : String := "LotsBid$Text"
def TX8 : u_T := fun k => match k with
  | 0 => ("LotsBid$Text", "length", "I", false)
  | 1 => ("LotsBid$Text", "bytes", "[B", true)
  | _ => ("LotsBid$Text", "number", "[I", true)
def tyX8 : Nat → FieldType := fun k => match k with
  | 0 => .int
  | 1 => .array .byte
  | _ => .array .int
abbrev wsX80 : List Cond := u_ws RX8 TX8 3
theorem nmX8 : ∀ a, a < 3 → ∀ b, b < 3 → a ≠ b → (TX8 a).2.1 ≠ (TX8 b).2.1 := by decide +kernel
theorem tyX8_ok : ∀ k, k < 3 → parseFieldDescriptor (TX8 k).2.2.1 = some (tyX8 k) := by decide +kernel
abbrev cX8_init : ByteArray := prog_10_method_1_code
def yX8_init : MethodName := ⟨RX8, "<init>", "()V"⟩
abbrev cX8_append : ByteArray := prog_10_method_2_code
def yX8_append : MethodName := ⟨RX8, "append", "(IJ)V"⟩
abbrev cX8_readInto : ByteArray := prog_10_method_3_code
def yX8_readInto : MethodName := ⟨RX8, "readInto", "(LLotsBid$Plan;)I"⟩
abbrev cX8_numbersOf : ByteArray := prog_10_method_4_code
def yX8_numbersOf : MethodName := ⟨RX8, "numbersOf", "(I)I"⟩
abbrev cX8_tell : ByteArray := prog_10_method_5_code
def yX8_tell : MethodName := ⟨RX8, "tell", "(LLotsBid$Plan;I)Z"⟩
abbrev cX8_readNumbers : ByteArray := prog_10_method_6_code
def yX8_readNumbers : MethodName := ⟨RX8, "readNumbers", "(II)I"⟩
abbrev cX8_figuresAt : ByteArray := prog_10_method_7_code
def yX8_figuresAt : MethodName := ⟨RX8, "figuresAt", "(I)I"⟩
abbrev cX8_numberAt : ByteArray := prog_10_method_8_code
def yX8_numberAt : MethodName := ⟨RX8, "numberAt", "(II)I"⟩
abbrev cX8_isFigureAt : ByteArray := prog_10_method_9_code
def yX8_isFigureAt : MethodName := ⟨RX8, "isFigureAt", "(I)Z"⟩
abbrev cX8_isSignAt : ByteArray := prog_10_method_10_code
def yX8_isSignAt : MethodName := ⟨RX8, "isSignAt", "(IC)Z"⟩
def RX9 : String := "LotsBid"
def TX9 : u_T := fun k => match k with
  | 0 => ("LotsBid", "text", "LLotsBid$Text;", true)
  | 1 => ("LotsBid", "plan", "LLotsBid$Plan;", true)
  | 2 => ("LotsBid", "trial", "LLotsBid$Plan;", true)
  | 3 => ("LotsBid", "hiring", "LLotsBid$Hiring;", true)
  | 4 => ("LotsBid", "game", "LLotsBid$Game;", true)
  | 5 => ("LotsBid", "pairing", "LLotsBid$Pairing;", true)
  | 6 => ("LotsBid", "prices", "LLotsBid$Prices;", true)
  | 7 => ("LotsBid", "sightings", "LLotsBid$Sightings;", true)
  | 8 => ("LotsBid", "changes", "LLotsBid$Changes;", true)
  | _ => ("LotsBid", "shelf", "LLotsBid$Shelf;", true)
def tyX9 : Nat → FieldType := fun k => match k with
  | 0 => .object "LotsBid$Text"
  | 1 => .object "LotsBid$Plan"
  | 2 => .object "LotsBid$Plan"
  | 3 => .object "LotsBid$Hiring"
  | 4 => .object "LotsBid$Game"
  | 5 => .object "LotsBid$Pairing"
  | 6 => .object "LotsBid$Prices"
  | 7 => .object "LotsBid$Sightings"
  | 8 => .object "LotsBid$Changes"
  | _ => .object "LotsBid$Shelf"
abbrev wsX90 : List Cond := u_ws RX9 TX9 10
theorem nmX9 : ∀ a, a < 10 → ∀ b, b < 10 → a ≠ b → (TX9 a).2.1 ≠ (TX9 b).2.1 := by decide +kernel
theorem tyX9_ok : ∀ k, k < 10 → parseFieldDescriptor (TX9 k).2.2.1 = some (tyX9 k) := by decide +kernel
abbrev cX9_init : ByteArray := prog_1_method_1_code
def yX9_init : MethodName := ⟨RX9, "<init>", "()V"⟩
abbrev cX9_write : ByteArray := prog_1_method_2_code
def yX9_write : MethodName := ⟨RX9, "write", "(IJ)I"⟩
abbrev cX9_wipe : ByteArray := prog_1_method_3_code
def yX9_wipe : MethodName := ⟨RX9, "wipe", "()I"⟩
abbrev cX9_fault : ByteArray := prog_1_method_4_code
def yX9_fault : MethodName := ⟨RX9, "fault", "()I"⟩
abbrev cX9_lay : ByteArray := prog_1_method_5_code
def yX9_lay : MethodName := ⟨RX9, "lay", "()I"⟩
abbrev cX9_lad : ByteArray := prog_1_method_6_code
def yX9_lad : MethodName := ⟨RX9, "lad", "(II)I"⟩
abbrev cX9_master : ByteArray := prog_1_method_7_code
def yX9_master : MethodName := ⟨RX9, "master", "(II)I"⟩
abbrev cX9_wants : ByteArray := prog_1_method_8_code
def yX9_wants : MethodName := ⟨RX9, "wants", "(III)I"⟩
abbrev cX9_all : ByteArray := prog_1_method_9_code
def yX9_all : MethodName := ⟨RX9, "all", "(I)I"⟩
abbrev cX9_limit : ByteArray := prog_1_method_10_code
def yX9_limit : MethodName := ⟨RX9, "limit", "(II)I"⟩
abbrev cX9_calls : ByteArray := prog_1_method_11_code
def yX9_calls : MethodName := ⟨RX9, "calls", "(I)I"⟩
abbrev cX9_step : ByteArray := prog_1_method_12_code
def yX9_step : MethodName := ⟨RX9, "step", "(I)I"⟩
abbrev cX9_undo : ByteArray := prog_1_method_13_code
def yX9_undo : MethodName := ⟨RX9, "undo", "()I"⟩
abbrev cX9_lie : ByteArray := prog_1_method_14_code
def yX9_lie : MethodName := ⟨RX9, "lie", "(II)I"⟩
abbrev cX9_game : ByteArray := prog_1_method_15_code
def yX9_game : MethodName := ⟨RX9, "game", "(III)I"⟩
abbrev cX9_rest : ByteArray := prog_1_method_16_code
def yX9_rest : MethodName := ⟨RX9, "rest", "(IZ)I"⟩
abbrev cX9_joint : ByteArray := prog_1_method_17_code
def yX9_joint : MethodName := ⟨RX9, "joint", "(I)I"⟩
abbrev cX9_pay : ByteArray := prog_1_method_18_code
def yX9_pay : MethodName := ⟨RX9, "pay", "(I)I"⟩
abbrev cX9_seen : ByteArray := prog_1_method_19_code
def yX9_seen : MethodName := ⟨RX9, "seen", "(II)I"⟩
abbrev cX9_forget : ByteArray := prog_1_method_20_code
def yX9_forget : MethodName := ⟨RX9, "forget", "()I"⟩
abbrev cX9_cousins : ByteArray := prog_1_method_21_code
def yX9_cousins : MethodName := ⟨RX9, "cousins", "()I"⟩
abbrev cX9_span : ByteArray := prog_1_method_22_code
def yX9_span : MethodName := ⟨RX9, "span", "(III)I"⟩
abbrev cX9_year : ByteArray := prog_1_method_23_code
def yX9_year : MethodName := ⟨RX9, "year", "(II)I"⟩
abbrev cX9_keep : ByteArray := prog_1_method_24_code
def yX9_keep : MethodName := ⟨RX9, "keep", "()I"⟩
abbrev cX9_back : ByteArray := prog_1_method_25_code
def yX9_back : MethodName := ⟨RX9, "back", "()I"⟩
abbrev cX9_count : ByteArray := prog_1_method_26_code
def yX9_count : MethodName := ⟨RX9, "count", "(I)I"⟩
abbrev cX9_isWithin : ByteArray := prog_1_method_27_code
def yX9_isWithin : MethodName := ⟨RX9, "isWithin", "(III)Z"⟩
abbrev cX9_change : ByteArray := prog_1_method_28_code
def yX9_change : MethodName := ⟨RX9, "change", "(II)I"⟩
abbrev cX9_gainBySaying : ByteArray := prog_1_method_29_code
def yX9_gainBySaying : MethodName := ⟨RX9, "gainBySaying", "(II)I"⟩
abbrev cX9_isAsSeenWithout : ByteArray := prog_1_method_30_code
def yX9_isAsSeenWithout : MethodName := ⟨RX9, "isAsSeenWithout", "(I)Z"⟩
def RX10 : String := "LotsBidModel"
def TX10 : u_T := fun k => match k with
  | 0 => ("LotsBidModel", "length", "I", false)
  | 1 => ("LotsBidModel", "text", "[I", true)
  | 2 => ("LotsBidModel", "masters", "[I", true)
  | 3 => ("LotsBidModel", "rooms", "[I", true)
  | 4 => ("LotsBidModel", "lads", "[I", true)
  | 5 => ("LotsBidModel", "kinds", "[I", true)
  | 6 => ("LotsBidModel", "wanted", "[I", true)
  | 7 => ("LotsBidModel", "limits", "[I", true)
  | 8 => ("LotsBidModel", "call", "[I", true)
  | 9 => ("LotsBidModel", "steps", "[I", true)
  | 10 => ("LotsBidModel", "keptMany", "I", false)
  | 11 => ("LotsBidModel", "undoMany", "I", false)
  | 12 => ("LotsBidModel", "undos", "[I", true)
  | 13 => ("LotsBidModel", "seenMany", "I", false)
  | 14 => ("LotsBidModel", "seenOf", "[I", true)
  | 15 => ("LotsBidModel", "seenYears", "[I", true)
  | 16 => ("LotsBidModel", "place", "I", false)
  | 17 => ("LotsBidModel", "told", "[I", true)
  | 18 => ("LotsBidModel", "got", "[I", true)
  | 19 => ("LotsBidModel", "years", "[I", true)
  | 20 => ("LotsBidModel", "out", "I", false)
  | 21 => ("LotsBidModel", "left", "I", false)
  | 22 => ("LotsBidModel", "ends", "I", false)
  | 23 => ("LotsBidModel", "gainOne", "[I", true)
  | 24 => ("LotsBidModel", "gainTwo", "[I", true)
  | 25 => ("LotsBidModel", "price", "[I", true)
  | 26 => ("LotsBidModel", "with", "[I", true)
  | 27 => ("LotsBidModel", "used", "[I", true)
  | _ => ("LotsBidModel", "held", "[I", true)
def tyX10 : Nat → FieldType := fun k => match k with
  | 0 => .int
  | 1 => .array .int
  | 2 => .array .int
  | 3 => .array .int
  | 4 => .array .int
  | 5 => .array .int
  | 6 => .array .int
  | 7 => .array .int
  | 8 => .array .int
  | 9 => .array .int
  | 10 => .int
  | 11 => .int
  | 12 => .array .int
  | 13 => .int
  | 14 => .array .int
  | 15 => .array .int
  | 16 => .int
  | 17 => .array .int
  | 18 => .array .int
  | 19 => .array .int
  | 20 => .int
  | 21 => .int
  | 22 => .int
  | 23 => .array .int
  | 24 => .array .int
  | 25 => .array .int
  | 26 => .array .int
  | 27 => .array .int
  | _ => .array .int
abbrev wsX100 : List Cond := u_ws RX10 TX10 29
theorem nmX10 : ∀ a, a < 29 → ∀ b, b < 29 → a ≠ b → (TX10 a).2.1 ≠ (TX10 b).2.1 := by decide +kernel
theorem tyX10_ok : ∀ k, k < 29 → parseFieldDescriptor (TX10 k).2.2.1 = some (tyX10 k) := by decide +kernel
abbrev cX10_init : ByteArray := prog_12_method_1_code
def yX10_init : MethodName := ⟨RX10, "<init>", "()V"⟩
abbrev cX10_in : ByteArray := prog_12_method_2_code
def yX10_in : MethodName := ⟨RX10, "in", "(JJJ)Z"⟩
abbrev cX10_has : ByteArray := prog_12_method_3_code
def yX10_has : MethodName := ⟨RX10, "has", "(II)Z"⟩
abbrev cX10_noFair : ByteArray := prog_12_method_4_code
def yX10_noFair : MethodName := ⟨RX10, "noFair", "(I)V"⟩
abbrev cX10_write : ByteArray := prog_12_method_5_code
def yX10_write : MethodName := ⟨RX10, "write", "(IJ)I"⟩
abbrev cX10_wipe : ByteArray := prog_12_method_6_code
def yX10_wipe : MethodName := ⟨RX10, "wipe", "()I"⟩
abbrev cX10_byteAt : ByteArray := prog_12_method_7_code
def yX10_byteAt : MethodName := ⟨RX10, "byteAt", "(I)I"⟩
abbrev cX10_figures : ByteArray := prog_12_method_8_code
def yX10_figures : MethodName := ⟨RX10, "figures", "(I)Z"⟩
abbrev cX10_item : ByteArray := prog_12_method_9_code
def yX10_item : MethodName := ⟨RX10, "item", "()Z"⟩
abbrev cX10_readAll : ByteArray := prog_12_method_10_code
def yX10_readAll : MethodName := ⟨RX10, "readAll", "()I"⟩
abbrev cX10_fault : ByteArray := prog_12_method_11_code
def yX10_fault : MethodName := ⟨RX10, "fault", "()I"⟩
abbrev cX10_copy : ByteArray := prog_12_method_12_code
def yX10_copy : MethodName := ⟨RX10, "copy", "(II)V"⟩
abbrev cX10_lay : ByteArray := prog_12_method_13_code
def yX10_lay : MethodName := ⟨RX10, "lay", "()I"⟩
abbrev cX10_isLad : ByteArray := prog_12_method_14_code
def yX10_isLad : MethodName := ⟨RX10, "isLad", "(I)Z"⟩
abbrev cX10_isMaster : ByteArray := prog_12_method_15_code
def yX10_isMaster : MethodName := ⟨RX10, "isMaster", "(I)Z"⟩
abbrev cX10_boundOf : ByteArray := prog_12_method_16_code
def yX10_boundOf : MethodName := ⟨RX10, "boundOf", "(II)I"⟩
abbrev cX10_isIn : ByteArray := prog_12_method_17_code
def yX10_isIn : MethodName := ⟨RX10, "isIn", "(III)Z"⟩
abbrev cX10_inSet : ByteArray := prog_12_method_18_code
def yX10_inSet : MethodName := ⟨RX10, "inSet", "(II)I"⟩
abbrev cX10_bits : ByteArray := prog_12_method_19_code
def yX10_bits : MethodName := ⟨RX10, "bits", "(I)I"⟩
abbrev cX10_give : ByteArray := prog_12_method_20_code
def yX10_give : MethodName := ⟨RX10, "give", "(III)V"⟩
abbrev cX10_callBelow : ByteArray := prog_12_method_21_code
def yX10_callBelow : MethodName := ⟨RX10, "callBelow", "(I)V"⟩
abbrev cX10_callAbove : ByteArray := prog_12_method_22_code
def yX10_callAbove : MethodName := ⟨RX10, "callAbove", "(I)V"⟩
abbrev cX10_callSealed : ByteArray := prog_12_method_23_code
def yX10_callSealed : MethodName := ⟨RX10, "callSealed", "(I)V"⟩
abbrev cX10_callOne : ByteArray := prog_12_method_24_code
def yX10_callOne : MethodName := ⟨RX10, "callOne", "(II)V"⟩
abbrev cX10_begin : ByteArray := prog_12_method_25_code
def yX10_begin : MethodName := ⟨RX10, "begin", "(I)V"⟩
abbrev cX10_goFair : ByteArray := prog_12_method_26_code
def yX10_goFair : MethodName := ⟨RX10, "goFair", "(I)V"⟩
abbrev cX10_gainOf : ByteArray := prog_12_method_27_code
def yX10_gainOf : MethodName := ⟨RX10, "gainOf", "(I)I"⟩
abbrev cX10_lad : ByteArray := prog_12_method_28_code
def yX10_lad : MethodName := ⟨RX10, "lad", "(II)I"⟩
abbrev cX10_mostOf : ByteArray := prog_12_method_29_code
def yX10_mostOf : MethodName := ⟨RX10, "mostOf", "(I)I"⟩
abbrev cX10_ladsOf : ByteArray := prog_12_method_30_code
def yX10_ladsOf : MethodName := ⟨RX10, "ladsOf", "(I)I"⟩
abbrev cX10_master : ByteArray := prog_12_method_31_code
def yX10_master : MethodName := ⟨RX10, "master", "(II)I"⟩
abbrev cX10_wants : ByteArray := prog_12_method_32_code
def yX10_wants : MethodName := ⟨RX10, "wants", "(III)I"⟩
abbrev cX10_all : ByteArray := prog_12_method_33_code
def yX10_all : MethodName := ⟨RX10, "all", "(I)I"⟩
abbrev cX10_note : ByteArray := prog_12_method_34_code
def yX10_note : MethodName := ⟨RX10, "note", "(II)I"⟩
abbrev cX10_limit : ByteArray := prog_12_method_35_code
def yX10_limit : MethodName := ⟨RX10, "limit", "(II)I"⟩
abbrev cX10_calls : ByteArray := prog_12_method_36_code
def yX10_calls : MethodName := ⟨RX10, "calls", "(I)I"⟩
abbrev cX10_step : ByteArray := prog_12_method_37_code
def yX10_step : MethodName := ⟨RX10, "step", "(I)I"⟩
abbrev cX10_undo : ByteArray := prog_12_method_38_code
def yX10_undo : MethodName := ⟨RX10, "undo", "()I"⟩
abbrev cX10_lie : ByteArray := prog_12_method_39_code
def yX10_lie : MethodName := ⟨RX10, "lie", "(II)I"⟩
abbrev cX10_game : ByteArray := prog_12_method_40_code
def yX10_game : MethodName := ⟨RX10, "game", "(III)I"⟩
abbrev cX10_seatAll : ByteArray := prog_12_method_41_code
def yX10_seatAll : MethodName := ⟨RX10, "seatAll", "(I)Z"⟩
abbrev cX10_codes : ByteArray := prog_12_method_42_code
def yX10_codes : MethodName := ⟨RX10, "codes", "()I"⟩
abbrev cX10_isAtRest : ByteArray := prog_12_method_43_code
def yX10_isAtRest : MethodName := ⟨RX10, "isAtRest", "()Z"⟩
abbrev cX10_takePrices : ByteArray := prog_12_method_44_code
def yX10_takePrices : MethodName := ⟨RX10, "takePrices", "(I)I"⟩
abbrev cX10_canRest : ByteArray := prog_12_method_45_code
def yX10_canRest : MethodName := ⟨RX10, "canRest", "()Z"⟩
abbrev cX10_rest : ByteArray := prog_12_method_46_code
def yX10_rest : MethodName := ⟨RX10, "rest", "(IZ)I"⟩
abbrev cX10_sumOf : ByteArray := prog_12_method_47_code
def yX10_sumOf : MethodName := ⟨RX10, "sumOf", "(I)I"⟩
abbrev cX10_bestWay : ByteArray := prog_12_method_48_code
def yX10_bestWay : MethodName := ⟨RX10, "bestWay", "(I)I"⟩
abbrev cX10_joint : ByteArray := prog_12_method_49_code
def yX10_joint : MethodName := ⟨RX10, "joint", "(I)I"⟩
abbrev cX10_pay : ByteArray := prog_12_method_50_code
def yX10_pay : MethodName := ⟨RX10, "pay", "(I)I"⟩
abbrev cX10_seen : ByteArray := prog_12_method_51_code
def yX10_seen : MethodName := ⟨RX10, "seen", "(II)I"⟩
abbrev cX10_forget : ByteArray := prog_12_method_52_code
def yX10_forget : MethodName := ⟨RX10, "forget", "()I"⟩
abbrev cX10_isSeenSo : ByteArray := prog_12_method_53_code
def yX10_isSeenSo : MethodName := ⟨RX10, "isSeenSo", "(I)Z"⟩
abbrev cX10_cousins : ByteArray := prog_12_method_54_code
def yX10_cousins : MethodName := ⟨RX10, "cousins", "()I"⟩
abbrev cX10_span : ByteArray := prog_12_method_55_code
def yX10_span : MethodName := ⟨RX10, "span", "(III)I"⟩
abbrev cX10_year : ByteArray := prog_12_method_56_code
def yX10_year : MethodName := ⟨RX10, "year", "(II)I"⟩
abbrev cX10_keep : ByteArray := prog_12_method_57_code
def yX10_keep : MethodName := ⟨RX10, "keep", "()I"⟩
abbrev cX10_back : ByteArray := prog_12_method_58_code
def yX10_back : MethodName := ⟨RX10, "back", "()I"⟩
abbrev cX10_count : ByteArray := prog_12_method_59_code
def yX10_count : MethodName := ⟨RX10, "count", "(I)I"⟩
def RJ9 : String := "java/lang/Math"
def TJ9 : u_T := fun k => match k with
  | _ => ("", "", "", false)
def tyJ9 : Nat → FieldType := fun k => match k with
  | _ => .int
abbrev wsJ90 : List Cond := u_ws RJ9 TJ9 0
theorem nmJ9 : ∀ a, a < 0 → ∀ b, b < 0 → a ≠ b → (TJ9 a).2.1 ≠ (TJ9 b).2.1 := by decide +kernel
theorem tyJ9_ok : ∀ k, k < 0 → parseFieldDescriptor (TJ9 k).2.2.1 = some (tyJ9 k) := by decide +kernel
abbrev cJ9_max_7cf53 : ByteArray := prog_13_method_65_code
def yJ9_max_7cf53 : MethodName := ⟨RJ9, "max", "(II)I"⟩
abbrev cJ9_min_7cf53 : ByteArray := prog_13_method_69_code
def yJ9_min_7cf53 : MethodName := ⟨RJ9, "min", "(II)I"⟩
def RJ10 : String := "java/lang/System"
def TJ10 : u_T := fun k => match k with
  | _ => ("", "", "", false)
def tyJ10 : Nat → FieldType := fun k => match k with
  | _ => .int
abbrev wsJ100 : List Cond := u_ws RJ10 TJ10 0
theorem nmJ10 : ∀ a, a < 0 → ∀ b, b < 0 → a ≠ b → (TJ10 a).2.1 ≠ (TJ10 b).2.1 := by decide +kernel
theorem tyJ10_ok : ∀ k, k < 0 → parseFieldDescriptor (TJ10 k).2.2.1 = some (tyJ10 k) := by decide +kernel
def RJ7 : String := "java/util/Arrays"
def TJ7 : u_T := fun k => match k with
  | _ => ("", "", "", false)
def tyJ7 : Nat → FieldType := fun k => match k with
  | _ => .int
abbrev wsJ70 : List Cond := u_ws RJ7 TJ7 0
theorem nmJ7 : ∀ a, a < 0 → ∀ b, b < 0 → a ≠ b → (TJ7 a).2.1 ≠ (TJ7 b).2.1 := by decide +kernel
theorem tyJ7_ok : ∀ k, k < 0 → parseFieldDescriptor (TJ7 k).2.2.1 = some (tyJ7 k) := by decide +kernel
abbrev cJ7_fill_53178 : ByteArray := prog_15_method_103_code
def yJ7_fill_53178 : MethodName := ⟨RJ7, "fill", "([II)V"⟩
def RL : String := "LotsBidLaw"
abbrev cL_law : ByteArray := code
def yL_law : MethodName := ⟨RL, "law", "([I)Z"⟩
end
section
def wsT : List Cond := lw_tbl.filter goodWord
theorem mT {w : Cond} (i : Nat) (h : lw_tbl[i]? = some w) (g : goodWord w = true) : w ∈ wsT := List.mem_filter.mpr ⟨List.mem_of_getElem? h, g⟩
theorem wsT_good : ∀ w ∈ wsT, goodWord w = true := fun w h => (List.mem_filter.mp h).2
theorem goodT {w : Cond} (h : w ∈ wsT) : GoodIn wsT (w :: wsT) := fun x hx => (List.mem_cons.mp hx).elim (fun e => ⟨e ▸ h, good_of_word (wsT_good _ (e ▸ h))⟩) (fun h2 => ⟨h2, good_of_word (wsT_good _ h2)⟩)
end
section
/-! ===== the pure layer: ints as Int, the heap as a table of cells, one fixed lay-out ===== -/
abbrev Sg : Type := Nat → Int → Int
abbrev PV : Type := Int ⊕ (Int ⊕ Nat)
abbrev vI (z : Int) : PV := .inl z
abbrev vL (z : Int) : PV := .inr (.inl z)
abbrev vR (k : Nat) : PV := .inr (.inr k)
abbrev inR (z : Int) : Prop := -2147483648 ≤ z ∧ z ≤ 2147483647
abbrev inL (z : Int) : Prop := -9223372036854775808 ≤ z ∧ z ≤ 9223372036854775807
def tV (ad : Nat → Nat) (v : PV) : Value := match v with
  | .inl z => .int (Int32.ofInt z)
  | .inr (.inl z) => .long (Int64.ofInt z)
  | .inr (.inr k) => .ref (ad k)
def okP (v : PV) : Prop := match v with
  | .inl z => inR z
  | .inr (.inl z) => inL z
  | .inr (.inr _) => True
def pcat (v : PV) : Nat := match v with
  | .inl _ => 1
  | .inr (.inl _) => 2
  | .inr (.inr _) => 1
theorem pcat_eq (ad : Nat → Nat) (v : PV) : (tV ad v).category = pcat v := by
  rcases v with z | z | k <;> rfl
/-- a cell of the lay-out: (0, its class, 0, its fields: none a number, some r the cell r), (1, n ints), (2, n bytes), (3, n rows, the first of them) -/
abbrev LC : Type := Nat × Nat × Nat × List (Option Nat)
def ar_ (n : Nat) : LC := (1, n, 0, [])
def Lay : List LC := [
  (0, 9, 0, [some 1, some 4, some 14, some 24, some 29, some 54, some 59, some 63, some 66, some 69]),
  (0, 8, 0, [none, some 2, some 3]), (2, 300, 0, []), (1, 3, 0, []),
  (0, 4, 0, [none, none, some 5, some 6, some 7, some 13]), (1, 3, 0, []), (1, 5, 0, []), (3, 5, 8, []), (1, 3, 0, []), (1, 3, 0, []), (1, 3, 0, []), (1, 3, 0, []), (1, 3, 0, []), (1, 7, 0, []),
  (0, 4, 0, [none, none, some 15, some 16, some 17, some 23]), (1, 3, 0, []), (1, 5, 0, []), (3, 5, 18, []), (1, 3, 0, []), (1, 3, 0, []), (1, 3, 0, []), (1, 3, 0, []), (1, 3, 0, []), (1, 7, 0, []),
  (0, 2, 0, [some 25, some 26, some 27, some 28]), (1, 5, 0, []), (1, 5, 0, []), (1, 5, 0, []), (1, 3, 0, []),
  (0, 1, 0, [none, none, none, some 30, some 42]),
  (3, 11, 31, []), (1, 11, 0, []), (1, 11, 0, []), (1, 11, 0, []), (1, 11, 0, []), (1, 11, 0, []), (1, 11, 0, []), (1, 11, 0, []), (1, 11, 0, []), (1, 11, 0, []), (1, 11, 0, []), (1, 11, 0, []),
  (3, 11, 43, []), (1, 11, 0, []), (1, 11, 0, []), (1, 11, 0, []), (1, 11, 0, []), (1, 11, 0, []), (1, 11, 0, []), (1, 11, 0, []), (1, 11, 0, []), (1, 11, 0, []), (1, 11, 0, []), (1, 11, 0, []),
  (0, 3, 0, [none, some 55, some 56, some 57, some 58]), (1, 5, 0, []), (1, 5, 0, []), (1, 3, 0, []), (1, 6, 0, []),
  (0, 5, 0, [none, none, some 60, some 61, some 62]), (1, 3, 0, []), (1, 3, 0, []), (1, 3, 0, []),
  (0, 7, 0, [none, some 64, some 65]), (1, 6, 0, []), (1, 6, 0, []),
  (0, 0, 0, [none, some 67, some 68]), (1, 8, 0, []), (1, 8, 0, []),
  (0, 6, 0, [none, some 70]), (3, 2, 71, []), (1, 7, 0, []), (1, 7, 0, []),
  (0, 10, 0, [none, some 74, some 75, some 76, some 77, some 78, some 79, some 80, some 81, some 82, none, none, some 83, none, some 84, some 85, none, some 86, some 87, some 88, none, none, none, some 89, some 90, some 91, some 92, some 93, some 94]),
  (1, 300, 0, []), (1, 2, 0, []), (1, 6, 0, []), (1, 2, 0, []), (1, 10, 0, []), (1, 30, 0, []), (1, 20, 0, []), (1, 4, 0, []), (1, 4, 0, []), (1, 16, 0, []), (1, 6, 0, []), (1, 6, 0, []), (1, 3, 0, []), (1, 5, 0, []), (1, 5, 0, []), (1, 100, 0, []), (1, 100, 0, []), (1, 3, 0, []), (1, 5, 0, []), (1, 3, 0, []), (1, 15, 0, [])]
theorem Lay_len : Lay.length = 95 := by decide +kernel
abbrev vwCl : List vw_C := [(RX0, TX0, 3), (RX1, TX1, 5), (RX2, TX2, 4), (RX3, TX3, 5), (RX4, TX4, 6), (RX5, TX5, 5), (RX6, TX6, 2), (RX7, TX7, 3), (RX8, TX8, 3), (RX9, TX9, 10), (RX10, TX10, 29)]
abbrev C3 : Type := ClassId × ClassId × ClassId
def fE (ad : Nat → Nat) (σ : Sg) (k : Nat) (j : Nat) (f : Option Nat) : Value := match f with
  | some r => .ref (ad r)
  | none => .int (Int32.ofInt (σ k (j : Int)))
def cE (ad : Nat → Nat) (cs : C3) (σ : Sg) (k : Nat) (c : LC) : va_E := match c with
  | (0, ci, _, fs) => .inr (ci, fs.mapIdx (fun j f => fE ad σ k j f))
  | (1, n, _, _) => .inl (cs.1, n, .inl (fun j => Int32.ofInt (σ k (j : Int))))
  | (2, n, _, _) => .inl (cs.2.1, n, .inl (fun j => Int32.ofInt (σ k (j : Int))))
  | (_, n, b, _) => .inl (cs.2.2, n, .inr (.inr (.inr (.inr (fun j => if j < n then some (ad (b + j)) else none)))))
def mkW (ad : Nat → Nat) (cs : C3) (σ : Sg) : va_W := Lay.mapIdx (fun k c => (ad k, cE ad cs σ k c))
theorem mkW_at {ad : Nat → Nat} {cs : C3} {σ : Sg} {k : Nat} {c : LC} (h : Lay[k]? = some c) : (mkW ad cs σ)[k]? = some (ad k, cE ad cs σ k c) := by
  unfold mkW
  rw [List.getElem?_mapIdx, h]
  rfl
theorem mkW_inv {ad : Nat → Nat} {cs : C3} {σ : Sg} {k : Nat} {q : Nat × va_E} (h : (mkW ad cs σ)[k]? = some q) : ∃ c, Lay[k]? = some c ∧ q = (ad k, cE ad cs σ k c) := by
  unfold mkW at h
  rw [List.getElem?_mapIdx] at h
  cases hc : Lay[k]? with
  | none => rw [hc] at h; cases h
  | some c => rw [hc] at h; exact ⟨c, rfl, (Option.some.inj h).symm⟩
def adI (ad : Nat → Nat) : Prop := ∀ i j : Nat, i < 95 → j < 95 → ad i = ad j → i = j
theorem Lay_lt {k : Nat} {c : LC} (h : Lay[k]? = some c) : k < 95 := by
  have := (List.getElem?_eq_some_iff.mp h).1
  rw [Lay_len] at this
  exact this
theorem mkW_D {ad : Nat → Nat} {cs : C3} {σ : Sg} {A : Nat → Prop} (hi : adI ad) (hA : ∀ k, k < 95 → A (ad k)) : va_D A (mkW ad cs σ) := by
  refine ⟨fun i j p q hp hq e => ?_, fun k q hq => ?_⟩
  · obtain ⟨c, h1, rfl⟩ := mkW_inv hp
    obtain ⟨c', h2, rfl⟩ := mkW_inv hq
    exact hi i j (Lay_lt h1) (Lay_lt h2) e
  · obtain ⟨c, h1, rfl⟩ := mkW_inv hq
    exact hA k (Lay_lt h1)
/-- one number of the table changed -/
def up (σ : Sg) (a : Nat) (i v : Int) : Sg := fun k j => if k = a ∧ j = i then v else σ k j
/-- one cell of the table changed -/
def uc (σ : Sg) (a : Nat) (f : Int → Int) : Sg := fun k => if k = a then f else σ k
theorem up_ne {σ : Sg} {a k : Nat} {i v : Int} (h : k ≠ a) : up σ a i v k = σ k := by
  funext j
  simp [up, h]
theorem uc_ne {σ : Sg} {a k : Nat} {f : Int → Int} (h : k ≠ a) : uc σ a f k = σ k := by simp [uc, h]
theorem uc_eq {σ : Sg} {a : Nat} {f : Int → Int} : uc σ a f a = f := by simp [uc]
theorem up_uc (σ : Sg) (a : Nat) (i v : Int) : up σ a i v = uc σ a (fun j => if j = i then v else σ a j) := by
  funext k j
  by_cases h : k = a
  · subst h; simp [up, uc]
  · simp [up, uc, h]
/-- the cells as a list, one of them with other contents -/
theorem mkW_uc {ad : Nat → Nat} {cs : C3} {σ : Sg} {a : Nat} {c : LC} {f : Int → Int} {e : va_E} (h : Lay[a]? = some c) (he : cE ad cs (uc σ a f) a c = e) : (mkW ad cs σ).set a (ad a, e) = mkW ad cs (uc σ a f) := by
  apply List.ext_getElem?
  intro k
  have hl : a < (mkW ad cs σ).length := (List.getElem?_eq_some_iff.mp (mkW_at h)).1
  by_cases hk : k = a
  · subst hk
    rw [List.getElem?_set_self hl, mkW_at h, he]
  · rw [List.getElem?_set_ne (Ne.symm hk)]
    cases hc : Lay[k]? with
    | none =>
      unfold mkW
      rw [List.getElem?_mapIdx, List.getElem?_mapIdx, hc]
      rfl
    | some c' =>
      rw [mkW_at hc, mkW_at hc]
      have e1 : cE ad cs (uc σ a f) k c' = cE ad cs σ k c' := by
        obtain ⟨t, n, b, fs⟩ := c'
        unfold cE fE
        rw [uc_ne hk]
      rw [e1]
theorem i32_in {z : Int} (h : inR z) : (Int32.ofInt z).toInt = z := Int32.toInt_ofInt_of_le (by omega) (by omega)
theorem i32_cl {z : Int} (h : inR z) : (Int32.ofInt z).toNatClampNeg = z.toNat := by
  show (Int32.ofInt z).toInt.toNat = z.toNat
  rw [i32_in h]
theorem i32_lt {a b : Int} (ha : inR a) (hb : inR b) : Int32.ofInt a < Int32.ofInt b ↔ a < b := by rw [Int32.lt_iff_toInt_lt, i32_in ha, i32_in hb]
theorem i32_le {a b : Int} (ha : inR a) (hb : inR b) : Int32.ofInt a ≤ Int32.ofInt b ↔ a ≤ b := by rw [Int32.le_iff_toInt_le, i32_in ha, i32_in hb]
theorem i32_eq {a b : Int} (ha : inR a) (hb : inR b) : Int32.ofInt a = Int32.ofInt b ↔ a = b := by rw [← Int32.toInt_inj, i32_in ha, i32_in hb]
theorem i32_0 : (0 : Int32) = Int32.ofInt 0 := by decide +kernel
theorem i64_in {z : Int} (h : inL z) : (Int64.ofInt z).toInt = z := Int64.toInt_ofInt_of_le (by omega) (by omega)
theorem inR_toInt (x : Int32) : inR x.toInt := ⟨by have := x.le_toInt; omega, by have := x.toInt_lt; omega⟩
theorem inL_toInt (x : Int64) : inL x.toInt := ⟨by have := x.le_toInt; omega, by have := x.toInt_lt; omega⟩
theorem i32_vp {i : Int} {n : Nat} (h : inR i) (h0 : 0 ≤ i) (h1 : i < n) : vp_in (Int32.ofInt i) n := by
  rw [vp_in_iff, i32_in h]
  exact ⟨h0, h1⟩
/-! ===== a method's frame: X holds all that stays the same ===== -/
abbrev CT : Type := Program × Launch × Env × Room × State × MethodId × Array Value × List Frame × Method × Code × va_G × C3 × (Nat → Nat) × (Nat → Prop) × Nat × Nat × (State → Prop)
def lvok (ad : Nat → Nat) (lv : List (Option PV)) (n : Nat) (ls : Array Slot) : Prop :=
  ls.size = n ∧ lv_wf ls ∧ ∀ (i : Nat) (v : PV), lv[i]? = some (some v) → ls[i]? = some (.val (tV ad v)) ∧ okP v
def Gs (X : CT) (pc : Nat) (lv : List (Option PV)) (st : List PV) (σ : Sg) : Prop := match X with
  | (p, l, e, R, s, m, args, below, meth, c, D, cs, ad, A, cells, slots, Q) =>
    ∀ (H : Heap) (locs : List Loc) (ls : Array Slot), lvok ad lv c.maxLocals ls → (∀ v ∈ st, okP v) → (∀ (k : Nat) (j : Int), inR (σ k j)) → va_P D vwCl (mkW ad cs σ) H → va_S A s.heap H locs →
      W p l e R s m args below meth c H locs cells slots Q (F0 m pc ls (st.map (tV ad)))
abbrev MM : Type := MethodName × ByteArray × Nat × Option FieldType
def nestW : Cond := .methodLinkNest RX4 39 yX9_isWithin RX9
def Fix (M : MM) (d : Nat) (X : CT) : Prop := match X with
  | (p, l, e, R, s, m, args, below, meth, c, D, cs, ad, A, cells, slots, Q) =>
    p.tables.exec = Jvm.exec ∧ c.code = M.2.1 ∧ c.maxLocals = M.2.2.1 ∧ s.vm.findClass M.1.cls = some m.cls ∧ (∀ w ∈ wsT, w.before args s = true) ∧ meth.sig.returnType = M.2.2.2 ∧ meth.locks = false ∧ va_K D vwCl [(cs.1, .int), (cs.2.1, .byte), (cs.2.2, .array .int)] s ∧ va_Nw nestW s ∧ adI ad ∧ (∀ k, k < 95 → A (ad k)) ∧ d ≤ R.frames ∧ 64 * d ≤ R.locals ∧ cells ≤ R.cells ∧ slots ≤ R.slots
def AD (ad : Nat → Nat) : Nat → Prop := fun q => ∃ k, k < 95 ∧ q = ad k
def PreB (D : va_G) (cs : C3) (ad : Nat → Nat) (σ : Sg) (U : State) : Prop := (∀ (k : Nat) (j : Int), inR (σ k j)) ∧ va_P D vwCl (mkW ad cs σ) U.heap ∧ va_K D vwCl [(cs.1, .int), (cs.2.1, .byte), (cs.2.2, .array .int)] U ∧ va_Nw nestW U
def QcB (D : va_G) (cs : C3) (ad : Nat → Nat) (Q : Option PV → Sg → Prop) : Array Value → State → Outcome → State → Prop := fun _ st o t =>
  ∃ (r : Option PV) (σ : Sg), o = .returned (r.map (tV ad)) ∧ (∀ v, r = some v → okP v) ∧ (∀ (k : Nat) (j : Int), inR (σ k j)) ∧ va_P D vwCl (mkW ad cs σ) t.heap ∧ va_F (AD ad) st t ∧ Q r σ
def rmD (d : Nat) : Room := { frames := d, cells := 0, slots := 0, locals := 64 * d }
/-- method M, called with as in the world σ, returns, and Q holds of answer and world -/
def RunsM (M : MM) (d : Nat) (as : List PV) (σ : Sg) (Q : Option PV → Sg → Prop) : Prop :=
  ∀ (l : Launch) (D : va_G) (cs : C3) (ad : Nat → Nat), adI ad → (∀ v ∈ as, okP v) → Met l M.1 (.code M.1 M.2.1 M.2.2.1 M.2.2.2 :: wsT) (rmD d) (va_Pc (as.map (tV ad)) (PreB D cs ad σ)) (QcB D cs ad Q) 0 0 (AD ad)
def Ret (X : CT) (Q : Option PV → Sg → Prop) : Prop := match X with
  | (p, l, e, R, s, m, args, below, meth, c, D, cs, ad, A, cells, slots, Qs) => Qs = MQ below (QcB D cs ad Q) args s 0 0 (AD ad) ∧ cells = 0 ∧ slots = 0 ∧ A = AD ad
theorem ok_tl {v : PV} {st : List PV} (h : ∀ x ∈ v :: st, okP x) : ∀ x ∈ st, okP x := fun x hx => h x (List.mem_cons_of_mem _ hx)
theorem ok_hd {v : PV} {st : List PV} (h : ∀ x ∈ v :: st, okP x) : okP v := h v List.mem_cons_self
theorem ok_cs {v : PV} {st : List PV} (h1 : okP v) (h : ∀ x ∈ st, okP x) : ∀ x ∈ v :: st, okP x := fun x hx => (List.mem_cons.mp hx).elim (fun e => e ▸ h1) (h x)
end
section
theorem i32_div {a b : Int} (oa : inR a) (ob : inR b) (ha : 0 ≤ a) (hb : 0 < b) : ¬ Int32.ofInt b = 0 ∧ Int32.ofInt a / Int32.ofInt b = Int32.ofInt (a / b) ∧ inR (a / b) ∧ Int32.ofInt a - Int32.ofInt a / Int32.ofInt b * Int32.ofInt b = Int32.ofInt (a % b) ∧ inR (a % b) := by
  have h0 : ¬ Int32.ofInt b = 0 := fun h => by
    have := (i32_eq ob (b := 0) ⟨by decide, by decide⟩).mp (h.trans i32_0)
    omega
  have hle : a / b ≤ a := Int.ediv_le_self _ ha
  have hge : 0 ≤ a / b := Int.ediv_nonneg ha (by omega)
  have h1 : inR (a / b) := ⟨by omega, by omega⟩
  have e1 : Int32.ofInt a / Int32.ofInt b = Int32.ofInt (a / b) := by
    rw [← Int32.toInt_inj, Int32.toInt_div_of_ne_right, i32_in oa, i32_in ob, i32_in h1, Int.tdiv_eq_ediv_of_nonneg ha]
    intro h
    have h2 := congrArg Int32.toInt h
    rw [i32_in ob] at h2
    have h3 : (-1 : Int32).toInt = -1 := by decide +kernel
    omega
  have hm : a % b = a - a / b * b := by rw [Int.emod_def, Int.mul_comm]
  have h5 := Int.emod_nonneg a (show b ≠ 0 by omega)
  have h6 := Int.emod_lt_of_pos a hb
  refine ⟨h0, e1, h1, ?_, ⟨by omega, by omega⟩⟩
  rw [e1, hm, Int32.ofInt_sub, Int32.ofInt_mul]
theorem i64_rem {a b : Int} (oa : inL a) (ob : inL b) (ha : 0 ≤ a) (hb : 0 < b) : ¬ Int64.ofInt b = 0 ∧ Int64.ofInt a - Int64.ofInt a / Int64.ofInt b * Int64.ofInt b = Int64.ofInt (a % b) ∧ inL (a % b) := by
  have h0 : ¬ Int64.ofInt b = 0 := fun h => by
    have h2 := congrArg Int64.toInt h
    rw [i64_in ob] at h2
    have h3 : (0 : Int64).toInt = 0 := by decide +kernel
    omega
  have hle : a / b ≤ a := Int.ediv_le_self _ ha
  have hge : 0 ≤ a / b := Int.ediv_nonneg ha (by omega)
  have h1 : inL (a / b) := ⟨by omega, by omega⟩
  have e1 : Int64.ofInt a / Int64.ofInt b = Int64.ofInt (a / b) := by
    rw [← Int64.toInt_inj, Int64.toInt_div_of_ne_right, i64_in oa, i64_in ob, i64_in h1, Int.tdiv_eq_ediv_of_nonneg ha]
    intro h
    have h2 := congrArg Int64.toInt h
    rw [i64_in ob] at h2
    have h3 : (-1 : Int64).toInt = -1 := by decide +kernel
    omega
  have hm : a % b = a - a / b * b := by rw [Int.emod_def, Int.mul_comm]
  have h5 := Int.emod_nonneg a (show b ≠ 0 by omega)
  have h6 := Int.emod_lt_of_pos a hb
  refine ⟨h0, ?_, ⟨by omega, by omega⟩⟩
  rw [e1, hm, Int64.ofInt_sub, Int64.ofInt_mul]
theorem i32_64 {a : Int} (oa : inR a) : (Int32.ofInt a).toInt64 = Int64.ofInt a := by
  rw [← Int64.toInt_inj, Int32.toInt_toInt64, i32_in oa, i64_in ⟨by omega, by omega⟩]
theorem i64_32 (a : Int) : (Int64.ofInt a).toInt32 = Int32.ofInt a := by simp
theorem i64_cmp {a b : Int} (oa : inL a) (ob : inL b) : lg_cmp (Int64.ofInt a) (Int64.ofInt b) = Int32.ofInt (if b < a then 1 else if a = b then 0 else -1) := by
  unfold lg_cmp
  simp only [gt_iff_lt, Int64.lt_iff_toInt_lt, ← Int64.toInt_inj, i64_in oa, i64_in ob]
  split
  · decide +kernel
  · split <;> decide +kernel
theorem jr_iconst {M : MM} {d : Nat} {X : CT} (hF : Fix M d X) {pc : Nat} {lv : List (Option PV)} {st : List PV} {σ : Sg} {n : Int} (hdg : decode M.2.1 pc = .ok (.iconst n, 1)) {q : Nat} (hq : pc + 1 = q) (hn : inR n) (k : Gs X q lv (vI n :: st) σ) : Gs X pc lv (st) σ := by
  obtain ⟨p, l, e, R, s, m, args, below, meth, c, D, cs, ad, A, cells, slots, Q⟩ := X
  obtain ⟨hx, hb, hml, hown, hts, hret, hlk, hK, hN, hi, hA, hd1, hd2, hd3, hd4⟩ := hF
  intro H locs ls hl hst hσ hP hS
  subst hq
  exact lv_iconst hx hb hdg rfl (k H locs ls hl (ok_cs hn hst) hσ hP hS)
theorem jr_bipush {M : MM} {d : Nat} {X : CT} (hF : Fix M d X) {pc : Nat} {lv : List (Option PV)} {st : List PV} {σ : Sg} {n : Int} (hdg : decode M.2.1 pc = .ok (.bipush n, 2)) {q : Nat} (hq : pc + 2 = q) (hn : inR n) (hv : (Int8.ofInt n).toInt32 = Int32.ofInt n) (k : Gs X q lv (vI n :: st) σ) : Gs X pc lv (st) σ := by
  obtain ⟨p, l, e, R, s, m, args, below, meth, c, D, cs, ad, A, cells, slots, Q⟩ := X
  obtain ⟨hx, hb, hml, hown, hts, hret, hlk, hK, hN, hi, hA, hd1, hd2, hd3, hd4⟩ := hF
  intro H locs ls hl hst hσ hP hS
  subst hq
  exact lv_bipush hx hb hdg hv (k H locs ls hl (ok_cs hn hst) hσ hP hS)
theorem jr_sipush {M : MM} {d : Nat} {X : CT} (hF : Fix M d X) {pc : Nat} {lv : List (Option PV)} {st : List PV} {σ : Sg} {n : Int} (hdg : decode M.2.1 pc = .ok (.sipush n, 3)) {q : Nat} (hq : pc + 3 = q) (hn : inR n) (hv : (Int16.ofInt n).toInt32 = Int32.ofInt n) (k : Gs X q lv (vI n :: st) σ) : Gs X pc lv (st) σ := by
  obtain ⟨p, l, e, R, s, m, args, below, meth, c, D, cs, ad, A, cells, slots, Q⟩ := X
  obtain ⟨hx, hb, hml, hown, hts, hret, hlk, hK, hN, hi, hA, hd1, hd2, hd3, hd4⟩ := hF
  intro H locs ls hl hst hσ hP hS
  subst hq
  exact lv_sipush hx hb hdg hv (k H locs ls hl (ok_cs hn hst) hσ hP hS)
theorem jr_lconst {M : MM} {d : Nat} {X : CT} (hF : Fix M d X) {pc : Nat} {lv : List (Option PV)} {st : List PV} {σ : Sg} {n : Fin 2} (z : Int) (hdg : decode M.2.1 pc = .ok (.lconst n, 1)) {q : Nat} (hq : pc + 1 = q) (hn : inL z) (hv : Int64.ofNat (n : Nat) = Int64.ofInt z) (k : Gs X q lv (vL z :: st) σ) : Gs X pc lv (st) σ := by
  obtain ⟨p, l, e, R, s, m, args, below, meth, c, D, cs, ad, A, cells, slots, Q⟩ := X
  obtain ⟨hx, hb, hml, hown, hts, hret, hlk, hK, hN, hi, hA, hd1, hd2, hd3, hd4⟩ := hF
  intro H locs ls hl hst hσ hP hS
  subst hq
  exact lv_lconst hx hb hdg hv (k H locs ls hl (ok_cs hn hst) hσ hP hS)
theorem jr_ldc2 {M : MM} {d : Nat} {X : CT} (hF : Fix M d X) {pc : Nat} {lv : List (Option PV)} {st : List PV} {σ : Sg} {idx : Nat} {v : Int64} (z : Int) (hdg : decode M.2.1 pc = .ok (.ldc2_w idx, 3)) {q : Nat} (hq : pc + 3 = q) (hw : Cond.constantLong M.1.cls idx v ∈ wsT) (hn : inL z) (hv : v = Int64.ofInt z) (k : Gs X q lv (vL z :: st) σ) : Gs X pc lv (st) σ := by
  obtain ⟨p, l, e, R, s, m, args, below, meth, c, D, cs, ad, A, cells, slots, Q⟩ := X
  obtain ⟨hx, hb, hml, hown, hts, hret, hlk, hK, hN, hi, hA, hd1, hd2, hd3, hd4⟩ := hF
  intro H locs ls hl hst hσ hP hS
  subst hq
  subst hv
  exact lv_ldc2 hx hb hown (hts _ hw) hdg (k H locs ls hl (ok_cs hn hst) hσ hP hS)
theorem jr_iload_n {M : MM} {d : Nat} {X : CT} (hF : Fix M d X) {pc : Nat} {lv : List (Option PV)} {st : List PV} {σ : Sg} {n : Fin 4} {z : Int} (hdg : decode M.2.1 pc = .ok (.iload_n n, 1)) {q : Nat} (hq : pc + 1 = q) (h : lv[(n : Nat)]? = some (some (vI z))) (k : Gs X q lv (vI z :: st) σ) : Gs X pc lv (st) σ := by
  obtain ⟨p, l, e, R, s, m, args, below, meth, c, D, cs, ad, A, cells, slots, Q⟩ := X
  obtain ⟨hx, hb, hml, hown, hts, hret, hlk, hK, hN, hi, hA, hd1, hd2, hd3, hd4⟩ := hF
  intro H locs ls hl hst hσ hP hS
  subst hq
  exact lv_iload_n hx hb hdg rfl (hl.2.2 _ _ h).1 (k H locs ls hl (ok_cs (hl.2.2 _ _ h).2 hst) hσ hP hS)
theorem jr_iload {M : MM} {d : Nat} {X : CT} (hF : Fix M d X) {pc : Nat} {lv : List (Option PV)} {st : List PV} {σ : Sg} {n : Nat} {z : Int} (hdg : decode M.2.1 pc = .ok (.iload n, 2)) {q : Nat} (hq : pc + 2 = q) (h : lv[n]? = some (some (vI z))) (k : Gs X q lv (vI z :: st) σ) : Gs X pc lv (st) σ := by
  obtain ⟨p, l, e, R, s, m, args, below, meth, c, D, cs, ad, A, cells, slots, Q⟩ := X
  obtain ⟨hx, hb, hml, hown, hts, hret, hlk, hK, hN, hi, hA, hd1, hd2, hd3, hd4⟩ := hF
  intro H locs ls hl hst hσ hP hS
  subst hq
  exact lv_iload hx hb hdg (hl.2.2 _ _ h).1 (k H locs ls hl (ok_cs (hl.2.2 _ _ h).2 hst) hσ hP hS)
theorem jr_lload_n {M : MM} {d : Nat} {X : CT} (hF : Fix M d X) {pc : Nat} {lv : List (Option PV)} {st : List PV} {σ : Sg} {n : Fin 4} {z : Int} (hdg : decode M.2.1 pc = .ok (.lload_n n, 1)) {q : Nat} (hq : pc + 1 = q) (h : lv[(n : Nat)]? = some (some (vL z))) (k : Gs X q lv (vL z :: st) σ) : Gs X pc lv (st) σ := by
  obtain ⟨p, l, e, R, s, m, args, below, meth, c, D, cs, ad, A, cells, slots, Q⟩ := X
  obtain ⟨hx, hb, hml, hown, hts, hret, hlk, hK, hN, hi, hA, hd1, hd2, hd3, hd4⟩ := hF
  intro H locs ls hl hst hσ hP hS
  subst hq
  exact lv_lload_n hx hb hdg rfl (hl.2.2 _ _ h).1 (k H locs ls hl (ok_cs (hl.2.2 _ _ h).2 hst) hσ hP hS)
theorem jr_lload {M : MM} {d : Nat} {X : CT} (hF : Fix M d X) {pc : Nat} {lv : List (Option PV)} {st : List PV} {σ : Sg} {n : Nat} {z : Int} (hdg : decode M.2.1 pc = .ok (.lload n, 2)) {q : Nat} (hq : pc + 2 = q) (h : lv[n]? = some (some (vL z))) (k : Gs X q lv (vL z :: st) σ) : Gs X pc lv (st) σ := by
  obtain ⟨p, l, e, R, s, m, args, below, meth, c, D, cs, ad, A, cells, slots, Q⟩ := X
  obtain ⟨hx, hb, hml, hown, hts, hret, hlk, hK, hN, hi, hA, hd1, hd2, hd3, hd4⟩ := hF
  intro H locs ls hl hst hσ hP hS
  subst hq
  exact lv_lload hx hb hdg (hl.2.2 _ _ h).1 (k H locs ls hl (ok_cs (hl.2.2 _ _ h).2 hst) hσ hP hS)
theorem jr_aload_n {M : MM} {d : Nat} {X : CT} (hF : Fix M d X) {pc : Nat} {lv : List (Option PV)} {st : List PV} {σ : Sg} {n : Fin 4} {z : Nat} (hdg : decode M.2.1 pc = .ok (.aload_n n, 1)) {q : Nat} (hq : pc + 1 = q) (h : lv[(n : Nat)]? = some (some (vR z))) (k : Gs X q lv (vR z :: st) σ) : Gs X pc lv (st) σ := by
  obtain ⟨p, l, e, R, s, m, args, below, meth, c, D, cs, ad, A, cells, slots, Q⟩ := X
  obtain ⟨hx, hb, hml, hown, hts, hret, hlk, hK, hN, hi, hA, hd1, hd2, hd3, hd4⟩ := hF
  intro H locs ls hl hst hσ hP hS
  subst hq
  exact lv_aload_n hx hb hdg rfl (hl.2.2 _ _ h).1 (k H locs ls hl (ok_cs (hl.2.2 _ _ h).2 hst) hσ hP hS)
theorem jr_aload {M : MM} {d : Nat} {X : CT} (hF : Fix M d X) {pc : Nat} {lv : List (Option PV)} {st : List PV} {σ : Sg} {n : Nat} {z : Nat} (hdg : decode M.2.1 pc = .ok (.aload n, 2)) {q : Nat} (hq : pc + 2 = q) (h : lv[n]? = some (some (vR z))) (k : Gs X q lv (vR z :: st) σ) : Gs X pc lv (st) σ := by
  obtain ⟨p, l, e, R, s, m, args, below, meth, c, D, cs, ad, A, cells, slots, Q⟩ := X
  obtain ⟨hx, hb, hml, hown, hts, hret, hlk, hK, hN, hi, hA, hd1, hd2, hd3, hd4⟩ := hF
  intro H locs ls hl hst hσ hP hS
  subst hq
  exact lv_aload hx hb hdg (hl.2.2 _ _ h).1 (k H locs ls hl (ok_cs (hl.2.2 _ _ h).2 hst) hσ hP hS)
theorem jr_iadd {M : MM} {d : Nat} {X : CT} (hF : Fix M d X) {pc : Nat} {lv : List (Option PV)} {st : List PV} {σ : Sg} {a b : Int} (hdg : decode M.2.1 pc = .ok (.iadd, 1)) {q : Nat} (hq : pc + 1 = q) (h : inR (a + b)) (k : Gs X q lv (vI (a + b) :: st) σ) : Gs X pc lv (vI b :: vI a :: st) σ := by
  obtain ⟨p, l, e, R, s, m, args, below, meth, c, D, cs, ad, A, cells, slots, Q⟩ := X
  obtain ⟨hx, hb, hml, hown, hts, hret, hlk, hK, hN, hi, hA, hd1, hd2, hd3, hd4⟩ := hF
  intro H locs ls hl hst hσ hP hS
  subst hq
  refine lv_iadd (x := Int32.ofInt a) (y := Int32.ofInt b) hx hb hdg ?_
  rw [← Int32.ofInt_add]
  exact k H locs ls hl (ok_cs h (ok_tl (ok_tl hst))) hσ hP hS
theorem jr_isub {M : MM} {d : Nat} {X : CT} (hF : Fix M d X) {pc : Nat} {lv : List (Option PV)} {st : List PV} {σ : Sg} {a b : Int} (hdg : decode M.2.1 pc = .ok (.isub, 1)) {q : Nat} (hq : pc + 1 = q) (h : inR (a - b)) (k : Gs X q lv (vI (a - b) :: st) σ) : Gs X pc lv (vI b :: vI a :: st) σ := by
  obtain ⟨p, l, e, R, s, m, args, below, meth, c, D, cs, ad, A, cells, slots, Q⟩ := X
  obtain ⟨hx, hb, hml, hown, hts, hret, hlk, hK, hN, hi, hA, hd1, hd2, hd3, hd4⟩ := hF
  intro H locs ls hl hst hσ hP hS
  subst hq
  refine lv_isub (x := Int32.ofInt a) (y := Int32.ofInt b) hx hb hdg ?_
  rw [← Int32.ofInt_sub]
  exact k H locs ls hl (ok_cs h (ok_tl (ok_tl hst))) hσ hP hS
theorem jr_imul {M : MM} {d : Nat} {X : CT} (hF : Fix M d X) {pc : Nat} {lv : List (Option PV)} {st : List PV} {σ : Sg} {a b : Int} (hdg : decode M.2.1 pc = .ok (.imul, 1)) {q : Nat} (hq : pc + 1 = q) (h : inR (a * b)) (k : Gs X q lv (vI (a * b) :: st) σ) : Gs X pc lv (vI b :: vI a :: st) σ := by
  obtain ⟨p, l, e, R, s, m, args, below, meth, c, D, cs, ad, A, cells, slots, Q⟩ := X
  obtain ⟨hx, hb, hml, hown, hts, hret, hlk, hK, hN, hi, hA, hd1, hd2, hd3, hd4⟩ := hF
  intro H locs ls hl hst hσ hP hS
  subst hq
  refine lv_imul (x := Int32.ofInt a) (y := Int32.ofInt b) hx hb hdg ?_
  rw [← Int32.ofInt_mul]
  exact k H locs ls hl (ok_cs h (ok_tl (ok_tl hst))) hσ hP hS
theorem jr_idiv {M : MM} {d : Nat} {X : CT} (hF : Fix M d X) {pc : Nat} {lv : List (Option PV)} {st : List PV} {σ : Sg} {a b : Int} (hdg : decode M.2.1 pc = .ok (.idiv, 1)) {q : Nat} (hq : pc + 1 = q) (ha : 0 ≤ a) (hb0 : 0 < b) (k : Gs X q lv (vI (a / b) :: st) σ) : Gs X pc lv (vI b :: vI a :: st) σ := by
  obtain ⟨p, l, e, R, s, m, args, below, meth, c, D, cs, ad, A, cells, slots, Q⟩ := X
  obtain ⟨hx, hb, hml, hown, hts, hret, hlk, hK, hN, hi, hA, hd1, hd2, hd3, hd4⟩ := hF
  intro H locs ls hl hst hσ hP hS
  subst hq
  have oa : inR a := ok_hd (ok_tl hst)
  have ob : inR b := ok_hd hst
  have e1 := i32_div oa ob ha hb0
  refine lv_idiv (x := Int32.ofInt a) (y := Int32.ofInt b) hx hb hdg e1.1 ?_
  rw [e1.2.1]
  exact k H locs ls hl (ok_cs e1.2.2.1 (ok_tl (ok_tl hst))) hσ hP hS
theorem jr_irem {M : MM} {d : Nat} {X : CT} (hF : Fix M d X) {pc : Nat} {lv : List (Option PV)} {st : List PV} {σ : Sg} {a b : Int} (hdg : decode M.2.1 pc = .ok (.irem, 1)) {q : Nat} (hq : pc + 1 = q) (ha : 0 ≤ a) (hb0 : 0 < b) (k : Gs X q lv (vI (a % b) :: st) σ) : Gs X pc lv (vI b :: vI a :: st) σ := by
  obtain ⟨p, l, e, R, s, m, args, below, meth, c, D, cs, ad, A, cells, slots, Q⟩ := X
  obtain ⟨hx, hb, hml, hown, hts, hret, hlk, hK, hN, hi, hA, hd1, hd2, hd3, hd4⟩ := hF
  intro H locs ls hl hst hσ hP hS
  subst hq
  have oa : inR a := ok_hd (ok_tl hst)
  have ob : inR b := ok_hd hst
  have e1 := i32_div oa ob ha hb0
  refine lv_irem (x := Int32.ofInt a) (y := Int32.ofInt b) hx hb hdg e1.1 ?_
  rw [e1.2.2.2.1]
  exact k H locs ls hl (ok_cs e1.2.2.2.2 (ok_tl (ok_tl hst))) hσ hP hS
theorem jr_iand {M : MM} {d : Nat} {X : CT} (hF : Fix M d X) {pc : Nat} {lv : List (Option PV)} {st : List PV} {σ : Sg} {a b : Int} (hdg : decode M.2.1 pc = .ok (.iand, 1)) {q : Nat} (hq : pc + 1 = q)  (k : Gs X q lv (vI (Int32.ofInt a &&& Int32.ofInt b).toInt :: st) σ) : Gs X pc lv (vI b :: vI a :: st) σ := by
  obtain ⟨p, l, e, R, s, m, args, below, meth, c, D, cs, ad, A, cells, slots, Q⟩ := X
  obtain ⟨hx, hb, hml, hown, hts, hret, hlk, hK, hN, hi, hA, hd1, hd2, hd3, hd4⟩ := hF
  intro H locs ls hl hst hσ hP hS
  subst hq
  refine lv_iand (x := Int32.ofInt a) (y := Int32.ofInt b) hx hb hdg ?_
  have h := k H locs ls hl (ok_cs (inR_toInt _) (ok_tl (ok_tl hst))) hσ hP hS
  rw [List.map_cons, show tV ad (vI (Int32.ofInt a &&& Int32.ofInt b).toInt) = Value.int (Int32.ofInt (Int32.ofInt a &&& Int32.ofInt b).toInt) from rfl, Int32.ofInt_toInt] at h
  exact h
theorem jr_ior {M : MM} {d : Nat} {X : CT} (hF : Fix M d X) {pc : Nat} {lv : List (Option PV)} {st : List PV} {σ : Sg} {a b : Int} (hdg : decode M.2.1 pc = .ok (.ior, 1)) {q : Nat} (hq : pc + 1 = q)  (k : Gs X q lv (vI (Int32.ofInt a ||| Int32.ofInt b).toInt :: st) σ) : Gs X pc lv (vI b :: vI a :: st) σ := by
  obtain ⟨p, l, e, R, s, m, args, below, meth, c, D, cs, ad, A, cells, slots, Q⟩ := X
  obtain ⟨hx, hb, hml, hown, hts, hret, hlk, hK, hN, hi, hA, hd1, hd2, hd3, hd4⟩ := hF
  intro H locs ls hl hst hσ hP hS
  subst hq
  refine lv_ior (x := Int32.ofInt a) (y := Int32.ofInt b) hx hb hdg ?_
  have h := k H locs ls hl (ok_cs (inR_toInt _) (ok_tl (ok_tl hst))) hσ hP hS
  rw [List.map_cons, show tV ad (vI (Int32.ofInt a ||| Int32.ofInt b).toInt) = Value.int (Int32.ofInt (Int32.ofInt a ||| Int32.ofInt b).toInt) from rfl, Int32.ofInt_toInt] at h
  exact h
theorem jr_ixor {M : MM} {d : Nat} {X : CT} (hF : Fix M d X) {pc : Nat} {lv : List (Option PV)} {st : List PV} {σ : Sg} {a b : Int} (hdg : decode M.2.1 pc = .ok (.ixor, 1)) {q : Nat} (hq : pc + 1 = q)  (k : Gs X q lv (vI (Int32.ofInt a ^^^ Int32.ofInt b).toInt :: st) σ) : Gs X pc lv (vI b :: vI a :: st) σ := by
  obtain ⟨p, l, e, R, s, m, args, below, meth, c, D, cs, ad, A, cells, slots, Q⟩ := X
  obtain ⟨hx, hb, hml, hown, hts, hret, hlk, hK, hN, hi, hA, hd1, hd2, hd3, hd4⟩ := hF
  intro H locs ls hl hst hσ hP hS
  subst hq
  refine lv_ixor (x := Int32.ofInt a) (y := Int32.ofInt b) hx hb hdg ?_
  have h := k H locs ls hl (ok_cs (inR_toInt _) (ok_tl (ok_tl hst))) hσ hP hS
  rw [List.map_cons, show tV ad (vI (Int32.ofInt a ^^^ Int32.ofInt b).toInt) = Value.int (Int32.ofInt (Int32.ofInt a ^^^ Int32.ofInt b).toInt) from rfl, Int32.ofInt_toInt] at h
  exact h
theorem jr_ishl {M : MM} {d : Nat} {X : CT} (hF : Fix M d X) {pc : Nat} {lv : List (Option PV)} {st : List PV} {σ : Sg} {a b : Int} (hdg : decode M.2.1 pc = .ok (.ishl, 1)) {q : Nat} (hq : pc + 1 = q)  (k : Gs X q lv (vI (Int32.ofInt a <<< (Int32.ofInt b &&& 31)).toInt :: st) σ) : Gs X pc lv (vI b :: vI a :: st) σ := by
  obtain ⟨p, l, e, R, s, m, args, below, meth, c, D, cs, ad, A, cells, slots, Q⟩ := X
  obtain ⟨hx, hb, hml, hown, hts, hret, hlk, hK, hN, hi, hA, hd1, hd2, hd3, hd4⟩ := hF
  intro H locs ls hl hst hσ hP hS
  subst hq
  refine lv_ishl (x := Int32.ofInt a) (y := Int32.ofInt b) hx hb hdg ?_
  have h := k H locs ls hl (ok_cs (inR_toInt _) (ok_tl (ok_tl hst))) hσ hP hS
  rw [List.map_cons, show tV ad (vI (Int32.ofInt a <<< (Int32.ofInt b &&& 31)).toInt) = Value.int (Int32.ofInt (Int32.ofInt a <<< (Int32.ofInt b &&& 31)).toInt) from rfl, Int32.ofInt_toInt] at h
  exact h
theorem jr_ishr {M : MM} {d : Nat} {X : CT} (hF : Fix M d X) {pc : Nat} {lv : List (Option PV)} {st : List PV} {σ : Sg} {a b : Int} (hdg : decode M.2.1 pc = .ok (.ishr, 1)) {q : Nat} (hq : pc + 1 = q)  (k : Gs X q lv (vI (Int32.ofInt a >>> (Int32.ofInt b &&& 31)).toInt :: st) σ) : Gs X pc lv (vI b :: vI a :: st) σ := by
  obtain ⟨p, l, e, R, s, m, args, below, meth, c, D, cs, ad, A, cells, slots, Q⟩ := X
  obtain ⟨hx, hb, hml, hown, hts, hret, hlk, hK, hN, hi, hA, hd1, hd2, hd3, hd4⟩ := hF
  intro H locs ls hl hst hσ hP hS
  subst hq
  refine lv_ishr (x := Int32.ofInt a) (y := Int32.ofInt b) hx hb hdg ?_
  have h := k H locs ls hl (ok_cs (inR_toInt _) (ok_tl (ok_tl hst))) hσ hP hS
  rw [List.map_cons, show tV ad (vI (Int32.ofInt a >>> (Int32.ofInt b &&& 31)).toInt) = Value.int (Int32.ofInt (Int32.ofInt a >>> (Int32.ofInt b &&& 31)).toInt) from rfl, Int32.ofInt_toInt] at h
  exact h
theorem jr_i2l {M : MM} {d : Nat} {X : CT} (hF : Fix M d X) {pc : Nat} {lv : List (Option PV)} {st : List PV} {σ : Sg} {a : Int} (hdg : decode M.2.1 pc = .ok (.i2l, 1)) {q : Nat} (hq : pc + 1 = q)  (k : Gs X q lv (vL a :: st) σ) : Gs X pc lv (vI a :: st) σ := by
  obtain ⟨p, l, e, R, s, m, args, below, meth, c, D, cs, ad, A, cells, slots, Q⟩ := X
  obtain ⟨hx, hb, hml, hown, hts, hret, hlk, hK, hN, hi, hA, hd1, hd2, hd3, hd4⟩ := hF
  intro H locs ls hl hst hσ hP hS
  subst hq
  have oa : inR a := ok_hd hst
  refine lv_i2l (x := Int32.ofInt a) (v := Int64.ofInt a) hx hb hdg (i32_64 oa) ?_
  exact k H locs ls hl (ok_cs (show inL a from ⟨by omega, by omega⟩) (ok_tl hst)) hσ hP hS
theorem jr_l2i {M : MM} {d : Nat} {X : CT} (hF : Fix M d X) {pc : Nat} {lv : List (Option PV)} {st : List PV} {σ : Sg} {a : Int} (hdg : decode M.2.1 pc = .ok (.l2i, 1)) {q : Nat} (hq : pc + 1 = q) (h : inR a) (k : Gs X q lv (vI a :: st) σ) : Gs X pc lv (vL a :: st) σ := by
  obtain ⟨p, l, e, R, s, m, args, below, meth, c, D, cs, ad, A, cells, slots, Q⟩ := X
  obtain ⟨hx, hb, hml, hown, hts, hret, hlk, hK, hN, hi, hA, hd1, hd2, hd3, hd4⟩ := hF
  intro H locs ls hl hst hσ hP hS
  subst hq
  refine lv_l2i (x := Int64.ofInt a) (v := Int32.ofInt a) hx hb hdg (i64_32 a) ?_
  exact k H locs ls hl (ok_cs h (ok_tl hst)) hσ hP hS
theorem jr_l2iw {M : MM} {d : Nat} {X : CT} (hF : Fix M d X) {pc : Nat} {lv : List (Option PV)} {st : List PV} {σ : Sg} {a : Int} (hdg : decode M.2.1 pc = .ok (.l2i, 1)) {q : Nat} (hq : pc + 1 = q)  (k : Gs X q lv (vI (Int32.ofInt a).toInt :: st) σ) : Gs X pc lv (vL a :: st) σ := by
  obtain ⟨p, l, e, R, s, m, args, below, meth, c, D, cs, ad, A, cells, slots, Q⟩ := X
  obtain ⟨hx, hb, hml, hown, hts, hret, hlk, hK, hN, hi, hA, hd1, hd2, hd3, hd4⟩ := hF
  intro H locs ls hl hst hσ hP hS
  subst hq
  refine lv_l2i (x := Int64.ofInt a) (v := Int32.ofInt a) hx hb hdg (i64_32 a) ?_
  have h := k H locs ls hl (ok_cs (inR_toInt _) (ok_tl hst)) hσ hP hS
  rw [List.map_cons, show tV ad (vI (Int32.ofInt a).toInt) = Value.int (Int32.ofInt (Int32.ofInt a).toInt) from rfl, Int32.ofInt_toInt] at h
  exact h
theorem jr_i2b {M : MM} {d : Nat} {X : CT} (hF : Fix M d X) {pc : Nat} {lv : List (Option PV)} {st : List PV} {σ : Sg} {a : Int} (hdg : decode M.2.1 pc = .ok (.i2b, 1)) {q : Nat} (hq : pc + 1 = q)  (k : Gs X q lv (vI (Int8.ofInt a).toInt :: st) σ) : Gs X pc lv (vI a :: st) σ := by
  obtain ⟨p, l, e, R, s, m, args, below, meth, c, D, cs, ad, A, cells, slots, Q⟩ := X
  obtain ⟨hx, hb, hml, hown, hts, hret, hlk, hK, hN, hi, hA, hd1, hd2, hd3, hd4⟩ := hF
  intro H locs ls hl hst hσ hP hS
  subst hq
  refine lv_i2b (x := Int32.ofInt a) (v := Int32.ofInt (Int8.ofInt a).toInt) hx hb hdg (by rw [Int32.toInt8_ofInt]; rfl) ?_
  exact k H locs ls hl (ok_cs (show inR (Int8.ofInt a).toInt from ⟨by have := (Int8.ofInt a).le_toInt; omega, by have := (Int8.ofInt a).toInt_lt; omega⟩) (ok_tl hst)) hσ hP hS
theorem jr_ladd {M : MM} {d : Nat} {X : CT} (hF : Fix M d X) {pc : Nat} {lv : List (Option PV)} {st : List PV} {σ : Sg} {a b : Int} (hdg : decode M.2.1 pc = .ok (.ladd, 1)) {q : Nat} (hq : pc + 1 = q) (h : inL (a + b)) (k : Gs X q lv (vL (a + b) :: st) σ) : Gs X pc lv (vL b :: vL a :: st) σ := by
  obtain ⟨p, l, e, R, s, m, args, below, meth, c, D, cs, ad, A, cells, slots, Q⟩ := X
  obtain ⟨hx, hb, hml, hown, hts, hret, hlk, hK, hN, hi, hA, hd1, hd2, hd3, hd4⟩ := hF
  intro H locs ls hl hst hσ hP hS
  subst hq
  refine lv_ladd (x := Int64.ofInt a) (y := Int64.ofInt b) hx hb hdg ?_
  rw [← Int64.ofInt_add]
  exact k H locs ls hl (ok_cs h (ok_tl (ok_tl hst))) hσ hP hS
theorem jr_lmul {M : MM} {d : Nat} {X : CT} (hF : Fix M d X) {pc : Nat} {lv : List (Option PV)} {st : List PV} {σ : Sg} {a b : Int} (hdg : decode M.2.1 pc = .ok (.lmul, 1)) {q : Nat} (hq : pc + 1 = q) (h : inL (a * b)) (k : Gs X q lv (vL (a * b) :: st) σ) : Gs X pc lv (vL b :: vL a :: st) σ := by
  obtain ⟨p, l, e, R, s, m, args, below, meth, c, D, cs, ad, A, cells, slots, Q⟩ := X
  obtain ⟨hx, hb, hml, hown, hts, hret, hlk, hK, hN, hi, hA, hd1, hd2, hd3, hd4⟩ := hF
  intro H locs ls hl hst hσ hP hS
  subst hq
  refine lv_lmul (x := Int64.ofInt a) (y := Int64.ofInt b) hx hb hdg ?_
  rw [← Int64.ofInt_mul]
  exact k H locs ls hl (ok_cs h (ok_tl (ok_tl hst))) hσ hP hS
theorem jr_lrem {M : MM} {d : Nat} {X : CT} (hF : Fix M d X) {pc : Nat} {lv : List (Option PV)} {st : List PV} {σ : Sg} {a b : Int} (hdg : decode M.2.1 pc = .ok (.lrem, 1)) {q : Nat} (hq : pc + 1 = q) (ha : 0 ≤ a) (hb0 : 0 < b) (k : Gs X q lv (vL (a % b) :: st) σ) : Gs X pc lv (vL b :: vL a :: st) σ := by
  obtain ⟨p, l, e, R, s, m, args, below, meth, c, D, cs, ad, A, cells, slots, Q⟩ := X
  obtain ⟨hx, hb, hml, hown, hts, hret, hlk, hK, hN, hi, hA, hd1, hd2, hd3, hd4⟩ := hF
  intro H locs ls hl hst hσ hP hS
  subst hq
  have oa : inL a := ok_hd (ok_tl hst)
  have ob : inL b := ok_hd hst
  have e1 := i64_rem oa ob ha hb0
  refine lv_lrem (x := Int64.ofInt a) (y := Int64.ofInt b) hx hb hdg e1.1 ?_
  rw [e1.2.1]
  exact k H locs ls hl (ok_cs e1.2.2 (ok_tl (ok_tl hst))) hσ hP hS
theorem jr_land {M : MM} {d : Nat} {X : CT} (hF : Fix M d X) {pc : Nat} {lv : List (Option PV)} {st : List PV} {σ : Sg} {a b : Int} (hdg : decode M.2.1 pc = .ok (.land, 1)) {q : Nat} (hq : pc + 1 = q)  (k : Gs X q lv (vL (Int64.ofInt a &&& Int64.ofInt b).toInt :: st) σ) : Gs X pc lv (vL b :: vL a :: st) σ := by
  obtain ⟨p, l, e, R, s, m, args, below, meth, c, D, cs, ad, A, cells, slots, Q⟩ := X
  obtain ⟨hx, hb, hml, hown, hts, hret, hlk, hK, hN, hi, hA, hd1, hd2, hd3, hd4⟩ := hF
  intro H locs ls hl hst hσ hP hS
  subst hq
  refine lv_land (x := Int64.ofInt a) (y := Int64.ofInt b) hx hb hdg ?_
  have h := k H locs ls hl (ok_cs (inL_toInt _) (ok_tl (ok_tl hst))) hσ hP hS
  rw [List.map_cons, show tV ad (vL (Int64.ofInt a &&& Int64.ofInt b).toInt) = Value.long (Int64.ofInt (Int64.ofInt a &&& Int64.ofInt b).toInt) from rfl, Int64.ofInt_toInt] at h
  exact h
theorem jr_lor {M : MM} {d : Nat} {X : CT} (hF : Fix M d X) {pc : Nat} {lv : List (Option PV)} {st : List PV} {σ : Sg} {a b : Int} (hdg : decode M.2.1 pc = .ok (.lor, 1)) {q : Nat} (hq : pc + 1 = q)  (k : Gs X q lv (vL (Int64.ofInt a ||| Int64.ofInt b).toInt :: st) σ) : Gs X pc lv (vL b :: vL a :: st) σ := by
  obtain ⟨p, l, e, R, s, m, args, below, meth, c, D, cs, ad, A, cells, slots, Q⟩ := X
  obtain ⟨hx, hb, hml, hown, hts, hret, hlk, hK, hN, hi, hA, hd1, hd2, hd3, hd4⟩ := hF
  intro H locs ls hl hst hσ hP hS
  subst hq
  refine lv_lor (x := Int64.ofInt a) (y := Int64.ofInt b) hx hb hdg ?_
  have h := k H locs ls hl (ok_cs (inL_toInt _) (ok_tl (ok_tl hst))) hσ hP hS
  rw [List.map_cons, show tV ad (vL (Int64.ofInt a ||| Int64.ofInt b).toInt) = Value.long (Int64.ofInt (Int64.ofInt a ||| Int64.ofInt b).toInt) from rfl, Int64.ofInt_toInt] at h
  exact h
theorem jr_lshl {M : MM} {d : Nat} {X : CT} (hF : Fix M d X) {pc : Nat} {lv : List (Option PV)} {st : List PV} {σ : Sg} {a b : Int} (hdg : decode M.2.1 pc = .ok (.lshl, 1)) {q : Nat} (hq : pc + 1 = q)  (k : Gs X q lv (vL (Int64.ofInt a <<< ((Int32.ofInt b).toInt64 &&& 63)).toInt :: st) σ) : Gs X pc lv (vI b :: vL a :: st) σ := by
  obtain ⟨p, l, e, R, s, m, args, below, meth, c, D, cs, ad, A, cells, slots, Q⟩ := X
  obtain ⟨hx, hb, hml, hown, hts, hret, hlk, hK, hN, hi, hA, hd1, hd2, hd3, hd4⟩ := hF
  intro H locs ls hl hst hσ hP hS
  subst hq
  refine lv_lshl (x := Int64.ofInt a) (y := Int32.ofInt b) hx hb hdg rfl ?_
  have h := k H locs ls hl (ok_cs (inL_toInt _) (ok_tl (ok_tl hst))) hσ hP hS
  rw [List.map_cons, show tV ad (vL (Int64.ofInt a <<< ((Int32.ofInt b).toInt64 &&& 63)).toInt) = Value.long (Int64.ofInt (Int64.ofInt a <<< ((Int32.ofInt b).toInt64 &&& 63)).toInt) from rfl, Int64.ofInt_toInt] at h
  exact h
theorem jr_lshr {M : MM} {d : Nat} {X : CT} (hF : Fix M d X) {pc : Nat} {lv : List (Option PV)} {st : List PV} {σ : Sg} {a b : Int} (hdg : decode M.2.1 pc = .ok (.lshr, 1)) {q : Nat} (hq : pc + 1 = q)  (k : Gs X q lv (vL (Int64.ofInt a >>> ((Int32.ofInt b).toInt64 &&& 63)).toInt :: st) σ) : Gs X pc lv (vI b :: vL a :: st) σ := by
  obtain ⟨p, l, e, R, s, m, args, below, meth, c, D, cs, ad, A, cells, slots, Q⟩ := X
  obtain ⟨hx, hb, hml, hown, hts, hret, hlk, hK, hN, hi, hA, hd1, hd2, hd3, hd4⟩ := hF
  intro H locs ls hl hst hσ hP hS
  subst hq
  refine lv_lshr (x := Int64.ofInt a) (y := Int32.ofInt b) hx hb hdg rfl ?_
  have h := k H locs ls hl (ok_cs (inL_toInt _) (ok_tl (ok_tl hst))) hσ hP hS
  rw [List.map_cons, show tV ad (vL (Int64.ofInt a >>> ((Int32.ofInt b).toInt64 &&& 63)).toInt) = Value.long (Int64.ofInt (Int64.ofInt a >>> ((Int32.ofInt b).toInt64 &&& 63)).toInt) from rfl, Int64.ofInt_toInt] at h
  exact h
theorem jr_lcmp {M : MM} {d : Nat} {X : CT} (hF : Fix M d X) {pc : Nat} {lv : List (Option PV)} {st : List PV} {σ : Sg} {a b : Int} (hdg : decode M.2.1 pc = .ok (.lcmp, 1)) {q : Nat} (hq : pc + 1 = q)  (k : Gs X q lv (vI (if b < a then 1 else if a = b then 0 else -1) :: st) σ) : Gs X pc lv (vL b :: vL a :: st) σ := by
  obtain ⟨p, l, e, R, s, m, args, below, meth, c, D, cs, ad, A, cells, slots, Q⟩ := X
  obtain ⟨hx, hb, hml, hown, hts, hret, hlk, hK, hN, hi, hA, hd1, hd2, hd3, hd4⟩ := hF
  intro H locs ls hl hst hσ hP hS
  subst hq
  have oa : inL a := ok_hd (ok_tl hst)
  have ob : inL b := ok_hd hst
  refine W.lcmp (x := Int64.ofInt a) (y := Int64.ofInt b) hx hb hdg ?_
  rw [i64_cmp oa ob]
  exact k H locs ls hl (ok_cs (show inR _ by split; exact ⟨by decide, by decide⟩; split <;> exact ⟨by decide, by decide⟩) (ok_tl (ok_tl hst))) hσ hP hS
theorem jr_dup {M : MM} {d : Nat} {X : CT} (hF : Fix M d X) {pc : Nat} {lv : List (Option PV)} {st : List PV} {σ : Sg} {v : PV} (hdg : decode M.2.1 pc = .ok (.dup, 1)) {q : Nat} (hq : pc + 1 = q) (hv : pcat v = 1) (k : Gs X q lv (v :: v :: st) σ) : Gs X pc lv (v :: st) σ := by
  obtain ⟨p, l, e, R, s, m, args, below, meth, c, D, cs, ad, A, cells, slots, Q⟩ := X
  obtain ⟨hx, hb, hml, hown, hts, hret, hlk, hK, hN, hi, hA, hd1, hd2, hd3, hd4⟩ := hF
  intro H locs ls hl hst hσ hP hS
  subst hq
  exact lv_dup hx hb hdg ((pcat_eq ad v).trans hv) (k H locs ls hl (ok_cs (ok_hd hst) hst) hσ hP hS)
theorem jr_pop {M : MM} {d : Nat} {X : CT} (hF : Fix M d X) {pc : Nat} {lv : List (Option PV)} {st : List PV} {σ : Sg} {v : PV} (hdg : decode M.2.1 pc = .ok (.pop, 1)) {q : Nat} (hq : pc + 1 = q) (hv : pcat v = 1) (k : Gs X q lv (st) σ) : Gs X pc lv (v :: st) σ := by
  obtain ⟨p, l, e, R, s, m, args, below, meth, c, D, cs, ad, A, cells, slots, Q⟩ := X
  obtain ⟨hx, hb, hml, hown, hts, hret, hlk, hK, hN, hi, hA, hd1, hd2, hd3, hd4⟩ := hF
  intro H locs ls hl hst hσ hP hS
  subst hq
  exact lv_pop hx hb hdg ((pcat_eq ad v).trans hv) (k H locs ls hl (ok_tl hst) hσ hP hS)
theorem jr_dup2 {M : MM} {d : Nat} {X : CT} (hF : Fix M d X) {pc : Nat} {lv : List (Option PV)} {st : List PV} {σ : Sg} {v w : PV} (hdg : decode M.2.1 pc = .ok (.dup2, 1)) {q : Nat} (hq : pc + 1 = q) (hv : pcat v = 1) (hw : pcat w = 1) (k : Gs X q lv (v :: w :: v :: w :: st) σ) : Gs X pc lv (v :: w :: st) σ := by
  obtain ⟨p, l, e, R, s, m, args, below, meth, c, D, cs, ad, A, cells, slots, Q⟩ := X
  obtain ⟨hx, hb, hml, hown, hts, hret, hlk, hK, hN, hi, hA, hd1, hd2, hd3, hd4⟩ := hF
  intro H locs ls hl hst hσ hP hS
  subst hq
  exact lv_dup2_11 hx hb hdg ((pcat_eq ad v).trans hv) ((pcat_eq ad w).trans hw) (k H locs ls hl (ok_cs (ok_hd hst) (ok_cs (ok_hd (ok_tl hst)) hst)) hσ hP hS)
theorem jr_icmp_eq {M : MM} {d : Nat} {X : CT} (hF : Fix M d X) {pc : Nat} {lv : List (Option PV)} {st : List PV} {σ : Sg} {a b : Int} {off : Int} (hdg : decode M.2.1 pc = .ok (.if_icmp .eq off, 3)) {q : Nat} (hq : pc + 3 = q) (t : Nat) (ht : (pc : Int) + off = (t : Int)) (kt : a = b → Gs X t lv (st) σ) (kf : a ≠ b → Gs X q lv (st) σ) : Gs X pc lv (vI b :: vI a :: st) σ := by
  obtain ⟨p, l, e, R, s, m, args, below, meth, c, D, cs, ad, A, cells, slots, Q⟩ := X
  obtain ⟨hx, hb, hml, hown, hts, hret, hlk, hK, hN, hi, hA, hd1, hd2, hd3, hd4⟩ := hF
  intro H locs ls hl hst hσ hP hS
  subst hq
  have oa : inR a := ok_hd (ok_tl hst)
  have ob : inR b := ok_hd hst
  refine lv_icmp_eq (x := Int32.ofInt a) (y := Int32.ofInt b) hx hb hdg ht (fun h => ?_) (fun h => ?_)
  · exact kt ((i32_eq oa ob).mp h) H locs ls hl (ok_tl (ok_tl hst)) hσ hP hS
  · exact kf (fun z => h ((i32_eq oa ob).mpr z)) H locs ls hl (ok_tl (ok_tl hst)) hσ hP hS
theorem jr_icmp_ne {M : MM} {d : Nat} {X : CT} (hF : Fix M d X) {pc : Nat} {lv : List (Option PV)} {st : List PV} {σ : Sg} {a b : Int} {off : Int} (hdg : decode M.2.1 pc = .ok (.if_icmp .ne off, 3)) {q : Nat} (hq : pc + 3 = q) (t : Nat) (ht : (pc : Int) + off = (t : Int)) (kt : a ≠ b → Gs X t lv (st) σ) (kf : a = b → Gs X q lv (st) σ) : Gs X pc lv (vI b :: vI a :: st) σ := by
  obtain ⟨p, l, e, R, s, m, args, below, meth, c, D, cs, ad, A, cells, slots, Q⟩ := X
  obtain ⟨hx, hb, hml, hown, hts, hret, hlk, hK, hN, hi, hA, hd1, hd2, hd3, hd4⟩ := hF
  intro H locs ls hl hst hσ hP hS
  subst hq
  have oa : inR a := ok_hd (ok_tl hst)
  have ob : inR b := ok_hd hst
  refine lv_icmp_ne (x := Int32.ofInt a) (y := Int32.ofInt b) hx hb hdg ht (fun h => ?_) (fun h => ?_)
  · exact kt (fun z => h ((i32_eq oa ob).mpr z)) H locs ls hl (ok_tl (ok_tl hst)) hσ hP hS
  · exact kf ((i32_eq oa ob).mp h) H locs ls hl (ok_tl (ok_tl hst)) hσ hP hS
theorem jr_icmp_lt {M : MM} {d : Nat} {X : CT} (hF : Fix M d X) {pc : Nat} {lv : List (Option PV)} {st : List PV} {σ : Sg} {a b : Int} {off : Int} (hdg : decode M.2.1 pc = .ok (.if_icmp .lt off, 3)) {q : Nat} (hq : pc + 3 = q) (t : Nat) (ht : (pc : Int) + off = (t : Int)) (kt : a < b → Gs X t lv (st) σ) (kf : b ≤ a → Gs X q lv (st) σ) : Gs X pc lv (vI b :: vI a :: st) σ := by
  obtain ⟨p, l, e, R, s, m, args, below, meth, c, D, cs, ad, A, cells, slots, Q⟩ := X
  obtain ⟨hx, hb, hml, hown, hts, hret, hlk, hK, hN, hi, hA, hd1, hd2, hd3, hd4⟩ := hF
  intro H locs ls hl hst hσ hP hS
  subst hq
  have oa : inR a := ok_hd (ok_tl hst)
  have ob : inR b := ok_hd hst
  refine lv_icmp_lt (x := Int32.ofInt a) (y := Int32.ofInt b) hx hb hdg ht (fun h => ?_) (fun h => ?_)
  · exact kt ((i32_lt oa ob).mp h) H locs ls hl (ok_tl (ok_tl hst)) hσ hP hS
  · exact kf (Int.not_lt.mp fun z => h ((i32_lt oa ob).mpr z)) H locs ls hl (ok_tl (ok_tl hst)) hσ hP hS
theorem jr_icmp_ge {M : MM} {d : Nat} {X : CT} (hF : Fix M d X) {pc : Nat} {lv : List (Option PV)} {st : List PV} {σ : Sg} {a b : Int} {off : Int} (hdg : decode M.2.1 pc = .ok (.if_icmp .ge off, 3)) {q : Nat} (hq : pc + 3 = q) (t : Nat) (ht : (pc : Int) + off = (t : Int)) (kt : b ≤ a → Gs X t lv (st) σ) (kf : a < b → Gs X q lv (st) σ) : Gs X pc lv (vI b :: vI a :: st) σ := by
  obtain ⟨p, l, e, R, s, m, args, below, meth, c, D, cs, ad, A, cells, slots, Q⟩ := X
  obtain ⟨hx, hb, hml, hown, hts, hret, hlk, hK, hN, hi, hA, hd1, hd2, hd3, hd4⟩ := hF
  intro H locs ls hl hst hσ hP hS
  subst hq
  have oa : inR a := ok_hd (ok_tl hst)
  have ob : inR b := ok_hd hst
  refine lv_icmp_ge (x := Int32.ofInt a) (y := Int32.ofInt b) hx hb hdg ht (fun h => ?_) (fun h => ?_)
  · exact kt ((i32_le ob oa).mp h) H locs ls hl (ok_tl (ok_tl hst)) hσ hP hS
  · exact kf (Int.not_le.mp fun z => h ((i32_le ob oa).mpr z)) H locs ls hl (ok_tl (ok_tl hst)) hσ hP hS
theorem jr_icmp_gt {M : MM} {d : Nat} {X : CT} (hF : Fix M d X) {pc : Nat} {lv : List (Option PV)} {st : List PV} {σ : Sg} {a b : Int} {off : Int} (hdg : decode M.2.1 pc = .ok (.if_icmp .gt off, 3)) {q : Nat} (hq : pc + 3 = q) (t : Nat) (ht : (pc : Int) + off = (t : Int)) (kt : b < a → Gs X t lv (st) σ) (kf : a ≤ b → Gs X q lv (st) σ) : Gs X pc lv (vI b :: vI a :: st) σ := by
  obtain ⟨p, l, e, R, s, m, args, below, meth, c, D, cs, ad, A, cells, slots, Q⟩ := X
  obtain ⟨hx, hb, hml, hown, hts, hret, hlk, hK, hN, hi, hA, hd1, hd2, hd3, hd4⟩ := hF
  intro H locs ls hl hst hσ hP hS
  subst hq
  have oa : inR a := ok_hd (ok_tl hst)
  have ob : inR b := ok_hd hst
  refine lv_icmp_gt (x := Int32.ofInt a) (y := Int32.ofInt b) hx hb hdg ht (fun h => ?_) (fun h => ?_)
  · exact kt ((i32_lt ob oa).mp h) H locs ls hl (ok_tl (ok_tl hst)) hσ hP hS
  · exact kf (Int.not_lt.mp fun z => h ((i32_lt ob oa).mpr z)) H locs ls hl (ok_tl (ok_tl hst)) hσ hP hS
theorem jr_icmp_le {M : MM} {d : Nat} {X : CT} (hF : Fix M d X) {pc : Nat} {lv : List (Option PV)} {st : List PV} {σ : Sg} {a b : Int} {off : Int} (hdg : decode M.2.1 pc = .ok (.if_icmp .le off, 3)) {q : Nat} (hq : pc + 3 = q) (t : Nat) (ht : (pc : Int) + off = (t : Int)) (kt : a ≤ b → Gs X t lv (st) σ) (kf : b < a → Gs X q lv (st) σ) : Gs X pc lv (vI b :: vI a :: st) σ := by
  obtain ⟨p, l, e, R, s, m, args, below, meth, c, D, cs, ad, A, cells, slots, Q⟩ := X
  obtain ⟨hx, hb, hml, hown, hts, hret, hlk, hK, hN, hi, hA, hd1, hd2, hd3, hd4⟩ := hF
  intro H locs ls hl hst hσ hP hS
  subst hq
  have oa : inR a := ok_hd (ok_tl hst)
  have ob : inR b := ok_hd hst
  refine lv_icmp_le (x := Int32.ofInt a) (y := Int32.ofInt b) hx hb hdg ht (fun h => ?_) (fun h => ?_)
  · exact kt ((i32_le oa ob).mp h) H locs ls hl (ok_tl (ok_tl hst)) hσ hP hS
  · exact kf (Int.not_le.mp fun z => h ((i32_le oa ob).mpr z)) H locs ls hl (ok_tl (ok_tl hst)) hσ hP hS
theorem jr_if_eq {M : MM} {d : Nat} {X : CT} (hF : Fix M d X) {pc : Nat} {lv : List (Option PV)} {st : List PV} {σ : Sg} {a : Int} {off : Int} (hdg : decode M.2.1 pc = .ok (.ifCond .eq off, 3)) {q : Nat} (hq : pc + 3 = q) (t : Nat) (ht : (pc : Int) + off = (t : Int)) (kt : a = 0 → Gs X t lv (st) σ) (kf : a ≠ 0 → Gs X q lv (st) σ) : Gs X pc lv (vI a :: st) σ := by
  obtain ⟨p, l, e, R, s, m, args, below, meth, c, D, cs, ad, A, cells, slots, Q⟩ := X
  obtain ⟨hx, hb, hml, hown, hts, hret, hlk, hK, hN, hi, hA, hd1, hd2, hd3, hd4⟩ := hF
  intro H locs ls hl hst hσ hP hS
  subst hq
  have oa : inR a := ok_hd hst
  have oz : inR 0 := ⟨by decide, by decide⟩
  refine lv_if_eq (x := Int32.ofInt a) hx hb hdg ht (fun h => ?_) (fun h => ?_)
  · exact kt ((i32_eq oa oz).mp (h.trans i32_0)) H locs ls hl (ok_tl hst) hσ hP hS
  · exact kf (fun z => h (((i32_eq oa oz).mpr z).trans i32_0.symm)) H locs ls hl (ok_tl hst) hσ hP hS
theorem jr_if_ne {M : MM} {d : Nat} {X : CT} (hF : Fix M d X) {pc : Nat} {lv : List (Option PV)} {st : List PV} {σ : Sg} {a : Int} {off : Int} (hdg : decode M.2.1 pc = .ok (.ifCond .ne off, 3)) {q : Nat} (hq : pc + 3 = q) (t : Nat) (ht : (pc : Int) + off = (t : Int)) (kt : a ≠ 0 → Gs X t lv (st) σ) (kf : a = 0 → Gs X q lv (st) σ) : Gs X pc lv (vI a :: st) σ := by
  obtain ⟨p, l, e, R, s, m, args, below, meth, c, D, cs, ad, A, cells, slots, Q⟩ := X
  obtain ⟨hx, hb, hml, hown, hts, hret, hlk, hK, hN, hi, hA, hd1, hd2, hd3, hd4⟩ := hF
  intro H locs ls hl hst hσ hP hS
  subst hq
  have oa : inR a := ok_hd hst
  have oz : inR 0 := ⟨by decide, by decide⟩
  refine lv_if_ne (x := Int32.ofInt a) hx hb hdg ht (fun h => ?_) (fun h => ?_)
  · exact kt (fun z => h (((i32_eq oa oz).mpr z).trans i32_0.symm)) H locs ls hl (ok_tl hst) hσ hP hS
  · exact kf ((i32_eq oa oz).mp (h.trans i32_0)) H locs ls hl (ok_tl hst) hσ hP hS
theorem jr_if_lt {M : MM} {d : Nat} {X : CT} (hF : Fix M d X) {pc : Nat} {lv : List (Option PV)} {st : List PV} {σ : Sg} {a : Int} {off : Int} (hdg : decode M.2.1 pc = .ok (.ifCond .lt off, 3)) {q : Nat} (hq : pc + 3 = q) (t : Nat) (ht : (pc : Int) + off = (t : Int)) (kt : a < 0 → Gs X t lv (st) σ) (kf : 0 ≤ a → Gs X q lv (st) σ) : Gs X pc lv (vI a :: st) σ := by
  obtain ⟨p, l, e, R, s, m, args, below, meth, c, D, cs, ad, A, cells, slots, Q⟩ := X
  obtain ⟨hx, hb, hml, hown, hts, hret, hlk, hK, hN, hi, hA, hd1, hd2, hd3, hd4⟩ := hF
  intro H locs ls hl hst hσ hP hS
  subst hq
  have oa : inR a := ok_hd hst
  have oz : inR 0 := ⟨by decide, by decide⟩
  refine lv_if_lt (x := Int32.ofInt a) hx hb hdg ht (fun h => ?_) (fun h => ?_)
  · exact kt ((i32_lt oa oz).mp (i32_0 ▸ h)) H locs ls hl (ok_tl hst) hσ hP hS
  · exact kf (Int.not_lt.mp fun z => h (i32_0 ▸ (i32_lt oa oz).mpr z)) H locs ls hl (ok_tl hst) hσ hP hS
theorem jr_if_ge {M : MM} {d : Nat} {X : CT} (hF : Fix M d X) {pc : Nat} {lv : List (Option PV)} {st : List PV} {σ : Sg} {a : Int} {off : Int} (hdg : decode M.2.1 pc = .ok (.ifCond .ge off, 3)) {q : Nat} (hq : pc + 3 = q) (t : Nat) (ht : (pc : Int) + off = (t : Int)) (kt : 0 ≤ a → Gs X t lv (st) σ) (kf : a < 0 → Gs X q lv (st) σ) : Gs X pc lv (vI a :: st) σ := by
  obtain ⟨p, l, e, R, s, m, args, below, meth, c, D, cs, ad, A, cells, slots, Q⟩ := X
  obtain ⟨hx, hb, hml, hown, hts, hret, hlk, hK, hN, hi, hA, hd1, hd2, hd3, hd4⟩ := hF
  intro H locs ls hl hst hσ hP hS
  subst hq
  have oa : inR a := ok_hd hst
  have oz : inR 0 := ⟨by decide, by decide⟩
  refine lv_if_ge (x := Int32.ofInt a) hx hb hdg ht (fun h => ?_) (fun h => ?_)
  · exact kt ((i32_le oz oa).mp (i32_0 ▸ h)) H locs ls hl (ok_tl hst) hσ hP hS
  · exact kf (Int.not_le.mp fun z => h (i32_0 ▸ (i32_le oz oa).mpr z)) H locs ls hl (ok_tl hst) hσ hP hS
theorem jr_if_gt {M : MM} {d : Nat} {X : CT} (hF : Fix M d X) {pc : Nat} {lv : List (Option PV)} {st : List PV} {σ : Sg} {a : Int} {off : Int} (hdg : decode M.2.1 pc = .ok (.ifCond .gt off, 3)) {q : Nat} (hq : pc + 3 = q) (t : Nat) (ht : (pc : Int) + off = (t : Int)) (kt : 0 < a → Gs X t lv (st) σ) (kf : a ≤ 0 → Gs X q lv (st) σ) : Gs X pc lv (vI a :: st) σ := by
  obtain ⟨p, l, e, R, s, m, args, below, meth, c, D, cs, ad, A, cells, slots, Q⟩ := X
  obtain ⟨hx, hb, hml, hown, hts, hret, hlk, hK, hN, hi, hA, hd1, hd2, hd3, hd4⟩ := hF
  intro H locs ls hl hst hσ hP hS
  subst hq
  have oa : inR a := ok_hd hst
  have oz : inR 0 := ⟨by decide, by decide⟩
  refine lv_if_gt (x := Int32.ofInt a) hx hb hdg ht (fun h => ?_) (fun h => ?_)
  · exact kt ((i32_lt oz oa).mp (i32_0 ▸ h)) H locs ls hl (ok_tl hst) hσ hP hS
  · exact kf (Int.not_lt.mp fun z => h (i32_0 ▸ (i32_lt oz oa).mpr z)) H locs ls hl (ok_tl hst) hσ hP hS
theorem jr_if_le {M : MM} {d : Nat} {X : CT} (hF : Fix M d X) {pc : Nat} {lv : List (Option PV)} {st : List PV} {σ : Sg} {a : Int} {off : Int} (hdg : decode M.2.1 pc = .ok (.ifCond .le off, 3)) {q : Nat} (hq : pc + 3 = q) (t : Nat) (ht : (pc : Int) + off = (t : Int)) (kt : a ≤ 0 → Gs X t lv (st) σ) (kf : 0 < a → Gs X q lv (st) σ) : Gs X pc lv (vI a :: st) σ := by
  obtain ⟨p, l, e, R, s, m, args, below, meth, c, D, cs, ad, A, cells, slots, Q⟩ := X
  obtain ⟨hx, hb, hml, hown, hts, hret, hlk, hK, hN, hi, hA, hd1, hd2, hd3, hd4⟩ := hF
  intro H locs ls hl hst hσ hP hS
  subst hq
  have oa : inR a := ok_hd hst
  have oz : inR 0 := ⟨by decide, by decide⟩
  refine lv_if_le (x := Int32.ofInt a) hx hb hdg ht (fun h => ?_) (fun h => ?_)
  · exact kt ((i32_le oa oz).mp (i32_0 ▸ h)) H locs ls hl (ok_tl hst) hσ hP hS
  · exact kf (Int.not_le.mp fun z => h (i32_0 ▸ (i32_le oa oz).mpr z)) H locs ls hl (ok_tl hst) hσ hP hS
theorem jr_goto {M : MM} {d : Nat} {X : CT} (hF : Fix M d X) {pc : Nat} {lv : List (Option PV)} {st : List PV} {σ : Sg} {off : Int} (hdg : decode M.2.1 pc = .ok (.goto off, 3)) (t : Nat) (ht : (pc : Int) + off = (t : Int)) (k : Gs X t lv st σ) : Gs X pc lv st σ := by
  obtain ⟨p, l, e, R, s, m, args, below, meth, c, D, cs, ad, A, cells, slots, Q⟩ := X
  obtain ⟨hx, hb, hml, hown, hts, hret, hlk, hK, hN, hi, hA, hd1, hd2, hd3, hd4⟩ := hF
  intro H locs ls hl hst hσ hP hS
  exact lv_goto hx hb hdg ht (k H locs ls hl hst hσ hP hS)
theorem jr_tin {M : MM} {d : Nat} {X : CT} (hF : Fix M d X) {pc : Nat} {lv : List (Option PV)} {st : List PV} {σ : Sg} {a dflt lo hi off : Int} {offs : Array Int} {len : Nat} (hdg : decode M.2.1 pc = .ok (.tableswitch dflt lo hi offs, len)) (t : Nat) (h1 : lo ≤ a) (h2 : a ≤ hi) (ho : offs[(a - lo).toNat]? = some off) (ht : (pc : Int) + off = (t : Int)) (k : Gs X t lv st σ) : Gs X pc lv (vI a :: st) σ := by
  obtain ⟨p, l, e, R, s, m, args, below, meth, c, D, cs, ad, A, cells, slots, Q⟩ := X
  obtain ⟨hx, hb, hml, hown, hts, hret, hlk, hK, hN, hi, hA, hd1, hd2, hd3, hd4⟩ := hF
  intro H locs ls hl hst hσ hP hS
  have oa : inR a := ok_hd hst
  refine lv_tableIn (x := Int32.ofInt a) hx hb hdg (by rw [i32_in oa]; omega) (by rw [i32_in oa]; omega) (by rw [i32_in oa]; exact ho) ht ?_
  exact k H locs ls hl (ok_tl hst) hσ hP hS
theorem jr_tout {M : MM} {d : Nat} {X : CT} (hF : Fix M d X) {pc : Nat} {lv : List (Option PV)} {st : List PV} {σ : Sg} {a dflt lo hi : Int} {offs : Array Int} {len : Nat} (hdg : decode M.2.1 pc = .ok (.tableswitch dflt lo hi offs, len)) (t : Nat) (h : a < lo ∨ hi < a) (ht : (pc : Int) + dflt = (t : Int)) (k : Gs X t lv st σ) : Gs X pc lv (vI a :: st) σ := by
  obtain ⟨p, l, e, R, s, m, args, below, meth, c, D, cs, ad, A, cells, slots, Q⟩ := X
  obtain ⟨hx, hb, hml, hown, hts, hret, hlk, hK, hN, hi, hA, hd1, hd2, hd3, hd4⟩ := hF
  intro H locs ls hl hst hσ hP hS
  have oa : inR a := ok_hd hst
  refine lv_tableOut (x := Int32.ofInt a) hx hb hdg (by rw [i32_in oa]; exact h) ht ?_
  exact k H locs ls hl (ok_tl hst) hσ hP hS
theorem jr_lsw {M : MM} {d : Nat} {X : CT} (hF : Fix M d X) {pc : Nat} {lv : List (Option PV)} {st : List PV} {σ : Sg} {a dflt off : Int} {ps : Array (Int × Int)} {len : Nat} (hdg : decode M.2.1 pc = .ok (.lookupswitch dflt ps, len)) (hp : (ps.toList.zip (ps.toList.drop 1)).all (fun (a, next) => a.1 < next.1) = true) (t : Nat) (ho : Op.lookupswitch.offset ps.toList dflt a = off) (ht : (pc : Int) + off = (t : Int)) (k : Gs X t lv st σ) : Gs X pc lv (vI a :: st) σ := by
  obtain ⟨p, l, e, R, s, m, args, below, meth, c, D, cs, ad, A, cells, slots, Q⟩ := X
  obtain ⟨hx, hb, hml, hown, hts, hret, hlk, hK, hN, hi, hA, hd1, hd2, hd3, hd4⟩ := hF
  intro H locs ls hl hst hσ hP hS
  have oa : inR a := ok_hd hst
  refine lv_lookup (x := Int32.ofInt a) hx hb hdg hp (by rw [i32_in oa]; exact ho) ht ?_
  exact k H locs ls hl (ok_tl hst) hσ hP hS
def lvp (ad : Nat → Nat) (lv : List (Option PV)) : List (Nat × Value) := (List.range lv.length).filterMap (fun i => match lv[i]? with
  | some (some v) => some (i, tV ad v)
  | _ => none)
theorem lvp_mem {ad : Nat → Nat} {lv : List (Option PV)} {i : Nat} {v : PV} (h : lv[i]? = some (some v)) : (i, tV ad v) ∈ lvp ad lv := by
  refine List.mem_filterMap.mpr ⟨i, List.mem_range.mpr (List.getElem?_eq_some_iff.mp h).1, ?_⟩
  rw [h]
theorem lvp_has {ad : Nat → Nat} {lv : List (Option PV)} {n : Nat} {ls : Array Slot} (h : lvok ad lv n ls) : lv_has ls n (lvp ad lv) := by
  refine ⟨h.1, h.2.1, fun q hq => ?_⟩
  obtain ⟨i, -, hi⟩ := List.mem_filterMap.mp hq
  split at hi
  · rename_i v hv
    cases hi
    exact (h.2.2 _ _ hv).1
  · cases hi
def prevL (lv : List (Option PV)) (i : Nat) : Bool := match i with
  | 0 => false
  | j + 1 => match lv[j]? with
    | some (some (.inr (.inl _))) => true
    | _ => false
theorem lvok_set1 {ad : Nat → Nat} {lv : List (Option PV)} {n i : Nat} {ls ls' : Array Slot} {v : PV} (h : lvok ad lv n ls) (hp : prevL lv i = false) (hv : okP v)
    (h' : lv_has ls' n ((i, tV ad v) :: (lvp ad lv).filter (fun q => !(q.1 == i) && !(q.1 + 1 == i && q.2.category == 2)))) : lvok ad (lv.set i (some v)) n ls' := by
  refine ⟨h'.1, h'.2.1, fun j w hj => ?_⟩
  by_cases e : j = i
  · subst e
    by_cases hl : j < lv.length
    · rw [List.getElem?_set_self hl] at hj
      cases hj
      exact ⟨h'.2.2 _ List.mem_cons_self, hv⟩
    · rw [List.getElem?_eq_none (by rw [List.length_set]; omega)] at hj
      cases hj
  · rw [List.getElem?_set_ne (Ne.symm e)] at hj
    refine ⟨h'.2.2 (j, tV ad w) (List.mem_cons_of_mem _ (List.mem_filter.mpr ⟨lvp_mem hj, ?_⟩)), (h.2.2 _ _ hj).2⟩
    have e1 : (j == i) = false := by simp [e]
    simp only [e1, Bool.not_false, Bool.true_and, Bool.not_eq_true', Bool.and_eq_false_iff]
    by_cases e2 : j + 1 = i
    · right
      subst e2
      rw [pcat_eq]
      rcases w with z | z | z
      · rfl
      · exact absurd hp (by show ¬ (match lv[j]? with | some (some (.inr (.inl _))) => true | _ => false) = false; rw [hj]; exact fun h => by cases h)
      · rfl
    · left
      simp [e2]
theorem lvok_set2 {ad : Nat → Nat} {lv : List (Option PV)} {n i : Nat} {ls ls' : Array Slot} {v : PV} (h : lvok ad lv n ls) (hp : prevL lv i = false) (hv : okP v)
    (h' : lv_has ls' n ((i, tV ad v) :: (lvp ad lv).filter (fun q => !(q.1 == i) && (!(q.1 == i + 1) && !(q.1 + 1 == i && q.2.category == 2))))) : lvok ad ((lv.set i (some v)).set (i + 1) none) n ls' := by
  refine ⟨h'.1, h'.2.1, fun j w hj => ?_⟩
  by_cases e0 : j = i + 1
  · subst e0
    by_cases hl : i + 1 < (lv.set i (some v)).length
    · rw [List.getElem?_set_self hl] at hj
      cases hj
    · rw [List.getElem?_eq_none (by rw [List.length_set]; omega)] at hj
      cases hj
  · rw [List.getElem?_set_ne (Ne.symm e0)] at hj
    by_cases e : j = i
    · subst e
      by_cases hl : j < lv.length
      · rw [List.getElem?_set_self hl] at hj
        cases hj
        exact ⟨h'.2.2 _ List.mem_cons_self, hv⟩
      · rw [List.getElem?_eq_none (by rw [List.length_set]; omega)] at hj
        cases hj
    · rw [List.getElem?_set_ne (Ne.symm e)] at hj
      refine ⟨h'.2.2 (j, tV ad w) (List.mem_cons_of_mem _ (List.mem_filter.mpr ⟨lvp_mem hj, ?_⟩)), (h.2.2 _ _ hj).2⟩
      have e1 : (j == i) = false := by simp [e]
      have e3 : (j == i + 1) = false := by simp [e0]
      simp only [e1, e3, Bool.not_false, Bool.true_and, Bool.not_eq_true', Bool.and_eq_false_iff]
      by_cases e2 : j + 1 = i
      · right
        subst e2
        rw [pcat_eq]
        rcases w with z | z | z
        · rfl
        · exact absurd hp (by show ¬ (match lv[j]? with | some (some (.inr (.inl _))) => true | _ => false) = false; rw [hj]; exact fun h => by cases h)
        · rfl
      · left
        simp [e2]
theorem jr_istore_n {M : MM} {d : Nat} {X : CT} (hF : Fix M d X) {pc : Nat} {lv : List (Option PV)} {st : List PV} {σ : Sg} {n : Fin 4} {z : Int} (hdg : decode M.2.1 pc = .ok (.istore_n n, 1)) {q : Nat} (hq : pc + 1 = q) (hn : (n : Nat) < M.2.2.1) (hp : prevL lv (n : Nat) = false) (k : Gs X q (lv.set (n : Nat) (some (vI z))) st σ) : Gs X pc lv (vI z :: st) σ := by
  obtain ⟨p, l, e, R, s, m, args, below, meth, c, D, cs, ad, A, cells, slots, Q⟩ := X
  obtain ⟨hx, hb, hml, hown, hts, hret, hlk, hK, hN, hi, hA, hd1, hd2, hd3, hd4⟩ := hF
  intro H locs ls hl hst hσ hP hS
  subst hq
  refine lv_istore_n (x := Int32.ofInt z) (nL := c.maxLocals) hx hb hdg rfl (lvp_has hl) (by rw [hml]; exact hn) rfl (fun ls' hl' => ?_)
  exact k H locs ls' (lvok_set1 hl hp (ok_hd hst) hl') (ok_tl hst) hσ hP hS
theorem jr_istore {M : MM} {d : Nat} {X : CT} (hF : Fix M d X) {pc : Nat} {lv : List (Option PV)} {st : List PV} {σ : Sg} {n : Nat} {z : Int} (hdg : decode M.2.1 pc = .ok (.istore n, 2)) {q : Nat} (hq : pc + 2 = q) (hn : n < M.2.2.1) (hp : prevL lv n = false) (k : Gs X q (lv.set n (some (vI z))) st σ) : Gs X pc lv (vI z :: st) σ := by
  obtain ⟨p, l, e, R, s, m, args, below, meth, c, D, cs, ad, A, cells, slots, Q⟩ := X
  obtain ⟨hx, hb, hml, hown, hts, hret, hlk, hK, hN, hi, hA, hd1, hd2, hd3, hd4⟩ := hF
  intro H locs ls hl hst hσ hP hS
  subst hq
  refine lv_istore (x := Int32.ofInt z) (nL := c.maxLocals) hx hb hdg (lvp_has hl) (by rw [hml]; exact hn) rfl (fun ls' hl' => ?_)
  exact k H locs ls' (lvok_set1 hl hp (ok_hd hst) hl') (ok_tl hst) hσ hP hS
theorem jr_astore_n {M : MM} {d : Nat} {X : CT} (hF : Fix M d X) {pc : Nat} {lv : List (Option PV)} {st : List PV} {σ : Sg} {n : Fin 4} {z : Nat} (hdg : decode M.2.1 pc = .ok (.astore_n n, 1)) {q : Nat} (hq : pc + 1 = q) (hn : (n : Nat) < M.2.2.1) (hp : prevL lv (n : Nat) = false) (k : Gs X q (lv.set (n : Nat) (some (vR z))) st σ) : Gs X pc lv (vR z :: st) σ := by
  obtain ⟨p, l, e, R, s, m, args, below, meth, c, D, cs, ad, A, cells, slots, Q⟩ := X
  obtain ⟨hx, hb, hml, hown, hts, hret, hlk, hK, hN, hi, hA, hd1, hd2, hd3, hd4⟩ := hF
  intro H locs ls hl hst hσ hP hS
  subst hq
  refine lv_astore_n (x := ad z) (nL := c.maxLocals) hx hb hdg rfl (lvp_has hl) (by rw [hml]; exact hn) rfl (fun ls' hl' => ?_)
  exact k H locs ls' (lvok_set1 hl hp (ok_hd hst) hl') (ok_tl hst) hσ hP hS
theorem jr_lstore {M : MM} {d : Nat} {X : CT} (hF : Fix M d X) {pc : Nat} {lv : List (Option PV)} {st : List PV} {σ : Sg} {n : Nat} {z : Int} (hdg : decode M.2.1 pc = .ok (.lstore n, 2)) {q : Nat} (hq : pc + 2 = q) (hn : n + 1 < M.2.2.1) (hp : prevL lv n = false) (k : Gs X q ((lv.set n (some (vL z))).set (n + 1) none) st σ) : Gs X pc lv (vL z :: st) σ := by
  obtain ⟨p, l, e, R, s, m, args, below, meth, c, D, cs, ad, A, cells, slots, Q⟩ := X
  obtain ⟨hx, hb, hml, hown, hts, hret, hlk, hK, hN, hi, hA, hd1, hd2, hd3, hd4⟩ := hF
  intro H locs ls hl hst hσ hP hS
  subst hq
  refine lv_lstore (x := Int64.ofInt z) (nL := c.maxLocals) hx hb hdg (lvp_has hl) (by rw [hml]; exact hn) rfl (fun ls' hl' => ?_)
  exact k H locs ls' (lvok_set2 hl hp (ok_hd hst) hl') (ok_tl hst) hσ hP hS
theorem jr_iinc {M : MM} {d : Nat} {X : CT} (hF : Fix M d X) {pc : Nat} {lv : List (Option PV)} {st : List PV} {σ : Sg} {n : Nat} {z w : Int} (hdg : decode M.2.1 pc = .ok (.iinc n w, 3)) {q : Nat} (hq : pc + 3 = q) (hn : n < M.2.2.1) (hp : prevL lv n = false) (h : lv[n]? = some (some (vI z))) (hr : inR (z + w)) (k : Gs X q (lv.set n (some (vI (z + w)))) st σ) : Gs X pc lv st σ := by
  obtain ⟨p, l, e, R, s, m, args, below, meth, c, D, cs, ad, A, cells, slots, Q⟩ := X
  obtain ⟨hx, hb, hml, hown, hts, hret, hlk, hK, hN, hi, hA, hd1, hd2, hd3, hd4⟩ := hF
  intro H locs ls hl hst hσ hP hS
  subst hq
  obtain ⟨i9, hi9⟩ := List.getElem?_of_mem (lvp_mem (ad := ad) h)
  refine lv_iinc (x := Int32.ofInt z) (v := Int32.ofInt (z + w)) (nL := c.maxLocals) hx hb hdg (lvp_has hl) (k := i9) hi9 (by rw [Int32.ofInt_add]) (by rw [hml]; exact hn) rfl (fun ls' hl' => ?_)
  exact k H locs ls' (lvok_set1 (v := vI (z + w)) hl hp hr hl') hst hσ hP hS
end
section
/-- a field that the class own reaches by its pool's entry idx: field j of class ci -/
def FL (own : String) (idx ci j : Nat) : Prop := ∃ (C : String) (T : u_T) (N : Nat), vwCl[ci]? = some (C, T, N) ∧ j < N ∧ Cond.fieldLink own idx (T j).1 (T j).2.1 (T j).2.2.1 ∈ wsT ∧ ∀ w ∈ u_ws C T N, w ∈ wsT
/-- the same, and it may be written: its type -/
def FP (own : String) (idx ci j : Nat) (ty : FieldType) : Prop := ∃ (C : String) (T : u_T) (N : Nat) (ty0 : Nat → FieldType), vwCl[ci]? = some (C, T, N) ∧ j < N ∧ Cond.fieldLink own idx (T j).1 (T j).2.1 (T j).2.2.1 ∈ wsT ∧ (∀ w ∈ u_ws C T N, w ∈ wsT) ∧ (∀ k, k < N → parseFieldDescriptor (T k).2.2.1 = some (ty0 k)) ∧ (∀ a, a < N → ∀ b, b < N → a ≠ b → (T a).2.1 ≠ (T b).2.1) ∧ (T j).2.2.2 = false ∧ parseFieldDescriptor (T j).2.2.1 = some ty
theorem fE_at {ad : Nat → Nat} {σ : Sg} {k j : Nat} {fs : List (Option Nat)} {f : Option Nat} (h : fs[j]? = some f) : (fs.mapIdx (fun j f => fE ad σ k j f))[j]? = some (fE ad σ k j f) := by
  rw [List.getElem?_mapIdx, h]
  rfl
theorem jr_getI {M : MM} {d : Nat} {X : CT} (hF : Fix M d X) {pc : Nat} {lv : List (Option PV)} {st : List PV} {σ : Sg} {idx a ci j : Nat} {fs : List (Option Nat)} (hdg : decode M.2.1 pc = .ok (.getfield idx, 3)) {q : Nat} (hq : pc + 3 = q) (hL : Lay[a]? = some (0, ci, 0, fs)) (hj : fs[j]? = some none) (hf : FL M.1.cls idx ci j) (k : Gs X q lv (vI (σ a (j : Int)) :: st) σ) : Gs X pc lv (vR a :: st) σ := by
  obtain ⟨p, l, e, R, s, m, args, below, meth, c, D, cs, ad, A, cells, slots, Q⟩ := X
  obtain ⟨hx, hb, hml, hown, hts, hret, hlk, hK, hN, hi, hA, hd1, hd2, hd3, hd4⟩ := hF
  intro H locs ls hl hst hσ hP hS
  subst hq
  obtain ⟨C, T, N, h1, h2, h3, h4⟩ := hf
  exact va_get hx hb hts h4 hown hK hP a (mkW_at hL) h1 j h2 (hts _ h3) (fun _ h9 => h9) (fE_at hj) hdg (k H locs ls hl (ok_cs (hσ a j) (ok_tl hst)) hσ hP hS)
theorem jr_getR {M : MM} {d : Nat} {X : CT} (hF : Fix M d X) {pc : Nat} {lv : List (Option PV)} {st : List PV} {σ : Sg} {idx a ci j r : Nat} {fs : List (Option Nat)} (hdg : decode M.2.1 pc = .ok (.getfield idx, 3)) {q : Nat} (hq : pc + 3 = q) (hL : Lay[a]? = some (0, ci, 0, fs)) (hj : fs[j]? = some (some r)) (hf : FL M.1.cls idx ci j) (k : Gs X q lv (vR r :: st) σ) : Gs X pc lv (vR a :: st) σ := by
  obtain ⟨p, l, e, R, s, m, args, below, meth, c, D, cs, ad, A, cells, slots, Q⟩ := X
  obtain ⟨hx, hb, hml, hown, hts, hret, hlk, hK, hN, hi, hA, hd1, hd2, hd3, hd4⟩ := hF
  intro H locs ls hl hst hσ hP hS
  subst hq
  obtain ⟨C, T, N, h1, h2, h3, h4⟩ := hf
  exact va_get hx hb hts h4 hown hK hP a (mkW_at hL) h1 j h2 (hts _ h3) (fun _ h9 => h9) (fE_at hj) hdg (k H locs ls hl (ok_cs (v := vR r) trivial (ok_tl hst)) hσ hP hS)
theorem cE_put {ad : Nat → Nat} {cs : C3} {σ : Sg} {a ci j : Nat} {fs : List (Option Nat)} {z : Int} (hj : fs[j]? = some none) : cE ad cs (uc σ a (fun i => if i = (j : Int) then z else σ a i)) a (0, ci, 0, fs) = .inr (ci, (fs.mapIdx (fun j f => fE ad σ a j f)).set j (.int (Int32.ofInt z))) := by
  show (Sum.inr (ci, _) : va_E) = _
  refine congrArg (fun x => (Sum.inr (ci, x) : va_E)) ?_
  apply List.ext_getElem?
  intro k
  have hl : j < fs.length := (List.getElem?_eq_some_iff.mp hj).1
  by_cases e : k = j
  · subst e
    rw [List.getElem?_set_self (by rw [List.length_mapIdx]; exact hl), fE_at hj]
    simp [fE, uc]
  · rw [List.getElem?_set_ne (Ne.symm e), List.getElem?_mapIdx, List.getElem?_mapIdx]
    cases hk : fs[k]? with
    | none => rfl
    | some f =>
      cases f with
      | some r => rfl
      | none =>
        have e2 : ¬ (k : Int) = (j : Int) := by omega
        simp [fE, uc, e2]
theorem inR_up {σ : Sg} {a : Nat} {i z : Int} (hσ : ∀ (k : Nat) (j : Int), inR (σ k j)) (hz : inR z) : ∀ (k : Nat) (j : Int), inR (up σ a i z k j) := by
  intro k j
  unfold up
  split
  · exact hz
  · exact hσ k j
theorem jr_putI {M : MM} {d : Nat} {X : CT} (hF : Fix M d X) {pc : Nat} {lv : List (Option PV)} {st : List PV} {σ : Sg} {idx a ci j : Nat} {z : Int} {fs : List (Option Nat)} (hdg : decode M.2.1 pc = .ok (.putfield idx, 3)) {q : Nat} (hq : pc + 3 = q) (hL : Lay[a]? = some (0, ci, 0, fs)) (hj : fs[j]? = some none) (hf : FP M.1.cls idx ci j .int) (k : Gs X q lv st (up σ a (j : Int) z)) : Gs X pc lv (vI z :: vR a :: st) σ := by
  obtain ⟨p, l, e, R, s, m, args, below, meth, c, D, cs, ad, A, cells, slots, Q⟩ := X
  obtain ⟨hx, hb, hml, hown, hts, hret, hlk, hK, hN, hi, hA, hd1, hd2, hd3, hd4⟩ := hF
  intro H locs ls hl hst hσ hP hS
  subst hq
  obtain ⟨C, T, N, ty0, h1, h2, h3, h4, h5, h6, h7, h8⟩ := hf
  refine va_put (v := .int (Int32.ofInt z)) hx hb hts h4 ty0 h5 h6 hown hK hP (mkW_D hi hA) hS a (mkW_at hL) h1 j h2 (hts _ h3) (fun _ h9 => h9) h7 h8 rfl rfl (by rw [List.length_mapIdx]; exact (List.getElem?_eq_some_iff.mp hj).1) hdg (fun H1 locs1 hP1 hD1 hS1 => ?_)
  rw [mkW_uc hL (cE_put hj), ← up_uc] at hP1
  exact k H1 locs1 ls hl (ok_tl (ok_tl hst)) (inR_up hσ (ok_hd hst)) hP1 hS1
theorem jr_putZ {M : MM} {d : Nat} {X : CT} (hF : Fix M d X) {pc : Nat} {lv : List (Option PV)} {st : List PV} {σ : Sg} {idx a ci j : Nat} {z : Int} {fs : List (Option Nat)} (hdg : decode M.2.1 pc = .ok (.putfield idx, 3)) {q : Nat} (hq : pc + 3 = q) (hL : Lay[a]? = some (0, ci, 0, fs)) (hj : fs[j]? = some none) (hf : FP M.1.cls idx ci j .boolean) (hz : z = 0 ∨ z = 1) (k : Gs X q lv st (up σ a (j : Int) z)) : Gs X pc lv (vI z :: vR a :: st) σ := by
  obtain ⟨p, l, e, R, s, m, args, below, meth, c, D, cs, ad, A, cells, slots, Q⟩ := X
  obtain ⟨hx, hb, hml, hown, hts, hret, hlk, hK, hN, hi, hA, hd1, hd2, hd3, hd4⟩ := hF
  intro H locs ls hl hst hσ hP hS
  subst hq
  obtain ⟨C, T, N, ty0, h1, h2, h3, h4, h5, h6, h7, h8⟩ := hf
  refine va_put (v := .int (Int32.ofInt z)) hx hb hts h4 ty0 h5 h6 hown hK hP (mkW_D hi hA) hS a (mkW_at hL) h1 j h2 (hts _ h3) (fun _ h9 => h9) h7 h8 (by rcases hz with rfl | rfl <;> decide +kernel) (by rcases hz with rfl | rfl <;> decide +kernel) (by rw [List.length_mapIdx]; exact (List.getElem?_eq_some_iff.mp hj).1) hdg (fun H1 locs1 hP1 hD1 hS1 => ?_)
  rw [mkW_uc hL (cE_put hj), ← up_uc] at hP1
  exact k H1 locs1 ls hl (ok_tl (ok_tl hst)) (inR_up hσ (ok_hd hst)) hP1 hS1
theorem jr_iald {M : MM} {d : Nat} {X : CT} (hF : Fix M d X) {pc : Nat} {lv : List (Option PV)} {st : List PV} {σ : Sg} {a n b : Nat} {i : Int} {fs : List (Option Nat)} (hdg : decode M.2.1 pc = .ok (.iaload, 1)) {q : Nat} (hq : pc + 1 = q) (hL : Lay[a]? = some (1, n, b, fs)) (h0 : 0 ≤ i ∧ i < (n : Int)) (k : Gs X q lv (vI (σ a i) :: st) σ) : Gs X pc lv (vI i :: vR a :: st) σ := by
  obtain ⟨p, l, e, R, s, m, args, below, meth, c, D, cs, ad, A, cells, slots, Q⟩ := X
  obtain ⟨hx, hb, hml, hown, hts, hret, hlk, hK, hN, hi, hA, hd1, hd2, hd3, hd4⟩ := hF
  intro H locs ls hl hst hσ hP hS
  subst hq
  have oi : inR i := ok_hd hst
  refine va_iald (i := Int32.ofInt i) hx hb hK hP a 0 (mkW_at hL) rfl (i32_vp oi h0.1 h0.2) hdg ?_
  rw [i32_cl oi, show ((i.toNat : Nat) : Int) = i by omega]
  exact k H locs ls hl (ok_cs (hσ a i) (ok_tl (ok_tl hst))) hσ hP hS
theorem jr_bald {M : MM} {d : Nat} {X : CT} (hF : Fix M d X) {pc : Nat} {lv : List (Option PV)} {st : List PV} {σ : Sg} {a n b : Nat} {i : Int} {fs : List (Option Nat)} (hdg : decode M.2.1 pc = .ok (.baload, 1)) {q : Nat} (hq : pc + 1 = q) (hL : Lay[a]? = some (2, n, b, fs)) (h0 : 0 ≤ i ∧ i < (n : Int)) (k : Gs X q lv (vI (σ a i) :: st) σ) : Gs X pc lv (vI i :: vR a :: st) σ := by
  obtain ⟨p, l, e, R, s, m, args, below, meth, c, D, cs, ad, A, cells, slots, Q⟩ := X
  obtain ⟨hx, hb, hml, hown, hts, hret, hlk, hK, hN, hi, hA, hd1, hd2, hd3, hd4⟩ := hF
  intro H locs ls hl hst hσ hP hS
  subst hq
  have oi : inR i := ok_hd hst
  refine va_bald (i := Int32.ofInt i) hx hb hK hP a 1 (mkW_at hL) rfl (i32_vp oi h0.1 h0.2) hdg ?_
  rw [i32_cl oi, show ((i.toNat : Nat) : Int) = i by omega]
  exact k H locs ls hl (ok_cs (hσ a i) (ok_tl (ok_tl hst))) hσ hP hS
theorem upd_up {σ : Sg} {a : Nat} {i v : Int} (h0 : 0 ≤ i) : (fun j : Nat => Int32.ofInt ((uc σ a (fun j => if j = i then v else σ a j)) a (j : Int))) = upd (fun j => Int32.ofInt (σ a (j : Int))) i.toNat (Int32.ofInt v) := by
  funext j
  unfold upd
  rw [uc_eq]
  by_cases h : (j : Int) = i
  · have h2 : j = i.toNat := by omega
    rw [if_pos h, if_pos h2]
  · have h2 : ¬ j = i.toNat := by omega
    rw [if_neg h, if_neg h2]
theorem jr_iast {M : MM} {d : Nat} {X : CT} (hF : Fix M d X) {pc : Nat} {lv : List (Option PV)} {st : List PV} {σ : Sg} {a n b : Nat} {i v : Int} {fs : List (Option Nat)} (hdg : decode M.2.1 pc = .ok (.iastore, 1)) {q : Nat} (hq : pc + 1 = q) (hL : Lay[a]? = some (1, n, b, fs)) (h0 : 0 ≤ i ∧ i < (n : Int)) (k : Gs X q lv st (up σ a i v)) : Gs X pc lv (vI v :: vI i :: vR a :: st) σ := by
  obtain ⟨p, l, e, R, s, m, args, below, meth, c, D, cs, ad, A, cells, slots, Q⟩ := X
  obtain ⟨hx, hb, hml, hown, hts, hret, hlk, hK, hN, hi, hA, hd1, hd2, hd3, hd4⟩ := hF
  intro H locs ls hl hst hσ hP hS
  subst hq
  have oi : inR i := ok_hd (ok_tl hst)
  refine va_iast (i := Int32.ofInt i) (x := Int32.ofInt v) hx hb hK hP (mkW_D hi hA) hS a 0 (mkW_at hL) rfl (i32_vp oi h0.1 h0.2) hdg (fun H1 locs1 hP1 hD1 hS1 => ?_)
  rw [i32_cl oi, ← upd_up h0.1, mkW_uc (f := fun j => if j = i then v else σ a j) (e := .inl (cs.1, n, .inl (fun j : Nat => Int32.ofInt (uc σ a (fun j => if j = i then v else σ a j) a (j : Int))))) hL rfl, ← up_uc] at hP1
  exact k H1 locs1 ls hl (ok_tl (ok_tl (ok_tl hst))) (inR_up hσ (ok_hd hst)) hP1 hS1
theorem byte_nar {v : Int} (h : -128 ≤ v ∧ v ≤ 127) : vp_nar .byte (Int32.ofInt v) = Int32.ofInt v := by
  rw [vp_nar_byte, Int32.toInt8_ofInt, ← Int32.toInt_inj, Int8.toInt_toInt32, Int8.toInt_ofInt_of_le (by omega) (by omega), i32_in ⟨by omega, by omega⟩]
theorem jr_bast {M : MM} {d : Nat} {X : CT} (hF : Fix M d X) {pc : Nat} {lv : List (Option PV)} {st : List PV} {σ : Sg} {a n b : Nat} {i v : Int} {fs : List (Option Nat)} (hdg : decode M.2.1 pc = .ok (.bastore, 1)) {q : Nat} (hq : pc + 1 = q) (hL : Lay[a]? = some (2, n, b, fs)) (h0 : 0 ≤ i ∧ i < (n : Int)) (hv : -128 ≤ v ∧ v ≤ 127) (k : Gs X q lv st (up σ a i v)) : Gs X pc lv (vI v :: vI i :: vR a :: st) σ := by
  obtain ⟨p, l, e, R, s, m, args, below, meth, c, D, cs, ad, A, cells, slots, Q⟩ := X
  obtain ⟨hx, hb, hml, hown, hts, hret, hlk, hK, hN, hi, hA, hd1, hd2, hd3, hd4⟩ := hF
  intro H locs ls hl hst hσ hP hS
  subst hq
  have oi : inR i := ok_hd (ok_tl hst)
  refine va_bast (i := Int32.ofInt i) (x := Int32.ofInt v) hx hb hK hP (mkW_D hi hA) hS a 1 (mkW_at hL) rfl (i32_vp oi h0.1 h0.2) hdg (fun H1 locs1 hP1 hD1 hS1 => ?_)
  rw [i32_cl oi, byte_nar hv, ← upd_up h0.1, mkW_uc (f := fun j => if j = i then v else σ a j) (e := .inl (cs.2.1, n, .inl (fun j : Nat => Int32.ofInt (uc σ a (fun j => if j = i then v else σ a j) a (j : Int))))) hL rfl, ← up_uc] at hP1
  exact k H1 locs1 ls hl (ok_tl (ok_tl (ok_tl hst))) (inR_up hσ (ok_hd hst)) hP1 hS1
theorem jr_aald {M : MM} {d : Nat} {X : CT} (hF : Fix M d X) {pc : Nat} {lv : List (Option PV)} {st : List PV} {σ : Sg} {a n b : Nat} {i : Int} {fs : List (Option Nat)} (hdg : decode M.2.1 pc = .ok (.aaload, 1)) {q : Nat} (hq : pc + 1 = q) (hL : Lay[a]? = some (3, n, b, fs)) (h0 : 0 ≤ i ∧ i < (n : Int)) (k : Gs X q lv (vR (b + i.toNat) :: st) σ) : Gs X pc lv (vI i :: vR a :: st) σ := by
  obtain ⟨p, l, e, R, s, m, args, below, meth, c, D, cs, ad, A, cells, slots, Q⟩ := X
  obtain ⟨hx, hb, hml, hown, hts, hret, hlk, hK, hN, hi, hA, hd1, hd2, hd3, hd4⟩ := hF
  intro H locs ls hl hst hσ hP hS
  subst hq
  have oi : inR i := ok_hd hst
  have hin : vp_in (Int32.ofInt i) n := i32_vp oi h0.1 h0.2
  have hlt : (Int32.ofInt i).toNatClampNeg < n := Nat.not_le.mp fun q => hin (Or.inr q)
  have ha := mkW_at (ad := ad) (cs := cs) (σ := σ) hL
  refine W.aald (v := .ref (ad (b + i.toNat))) (ty := .array .int) hx hb (hP a _ ha) ((hK.2 2 _ rfl).1 n (fun j => va_rf (if j < n then some (ad (b + j)) else none))) rfl (fun q => by cases q) (by show ¬ (_ ∨ (arrV _ _ _).slots.size ≤ _); rw [arrV_size]; exact hin) (by show (arrV _ _ _).slots[_]? = _; rw [arrV_read _ _ hlt]; show some (va_rf (if (Int32.ofInt i).toNatClampNeg < n then _ else _)) = _; rw [if_pos hlt, i32_cl oi]; rfl) rfl rfl hdg ?_
  exact k H locs ls hl (ok_cs (v := vR _) trivial (ok_tl (ok_tl hst))) hσ hP hS
theorem jr_alen {M : MM} {d : Nat} {X : CT} (hF : Fix M d X) {pc : Nat} {lv : List (Option PV)} {st : List PV} {σ : Sg} {a n b : Nat} {fs : List (Option Nat)} (hdg : decode M.2.1 pc = .ok (.arraylength, 1)) {q : Nat} (hq : pc + 1 = q) (hL : Lay[a]? = some (1, n, b, fs)) (hn : n < 1000) (k : Gs X q lv (vI (n : Int) :: st) σ) : Gs X pc lv (vR a :: st) σ := by
  obtain ⟨p, l, e, R, s, m, args, below, meth, c, D, cs, ad, A, cells, slots, Q⟩ := X
  obtain ⟨hx, hb, hml, hown, hts, hret, hlk, hK, hN, hi, hA, hd1, hd2, hd3, hd4⟩ := hF
  intro H locs ls hl hst hσ hP hS
  subst hq
  refine va_alen hx hb hK hP a 0 (mkW_at hL) rfl (v := Int32.ofInt (n : Int)) Int32.ofInt_eq_ofNat.symm hdg ?_
  exact k H locs ls hl (ok_cs (v := vI n) (show inR (n : Int) from ⟨by omega, by omega⟩) (ok_tl hst)) hσ hP hS
theorem cat_sum (ad : Nat → Nat) (st : List PV) : ((st.map (tV ad)).map fun v => v.category).sum = (st.map pcat).sum := by
  induction st with
  | nil => rfl
  | cons v st ih =>
    rw [List.map_cons, List.map_cons, List.map_cons, List.sum_cons, List.sum_cons, ih, pcat_eq]
theorem cpy_uc {σ : Sg} {a b : Nat} {sp dp n : Int} (h1 : 0 ≤ sp) (h2 : 0 ≤ dp) (h3 : 0 ≤ n) : (fun j : Nat => Int32.ofInt ((uc σ b (fun j => if dp ≤ j ∧ j < dp + n then σ a (sp + (j - dp)) else σ b j)) b (j : Int))) = va_cpy (fun j => Int32.ofInt (σ a (j : Int))) (fun j => Int32.ofInt (σ b (j : Int))) sp.toNat dp.toNat n.toNat := by
  funext j
  unfold va_cpy
  rw [uc_eq]
  by_cases h : dp ≤ (j : Int) ∧ (j : Int) < dp + n
  · rw [if_pos h, if_pos (show dp.toNat ≤ j ∧ j < dp.toNat + n.toNat by omega)]
    show _ = Int32.ofInt (σ a ((sp.toNat + (j - dp.toNat) : Nat) : Int))
    rw [show ((sp.toNat + (j - dp.toNat) : Nat) : Int) = sp + ((j : Int) - dp) by omega]
  · rw [if_neg h, if_neg (show ¬ (dp.toNat ≤ j ∧ j < dp.toNat + n.toNat) by omega)]
def cpW : Prop := Cond.native arraycopyName ∈ wsT ∧ Cond.static arraycopyName ∈ wsT ∧ Cond.initialized "java/lang/System" ∈ wsT
theorem jr_copy {M : MM} {d : Nat} {X : CT} (hF : Fix M d X) {pc : Nat} {lv : List (Option PV)} {st : List PV} {σ : Sg} {idx a b na nb xa xb : Nat} {sp dp n : Int} {fa fb : List (Option Nat)} (hw : cpW) (hdg : decode M.2.1 pc = .ok (.invokestatic idx, 3)) {q : Nat} (hq : pc + 3 = q) (hlk0 : Cond.methodLink M.1.cls idx arraycopyName ∈ wsT) (hLa : Lay[a]? = some (1, na, xa, fa)) (hLb : Lay[b]? = some (1, nb, xb, fb)) (h0 : 0 ≤ sp ∧ 0 ≤ dp ∧ 0 ≤ n ∧ sp + n ≤ (na : Int) ∧ dp + n ≤ (nb : Int)) (hr : (st.map pcat).sum ≤ 8) (hd : 1 ≤ d) (k : Gs X q lv st (uc σ b (fun j => if dp ≤ j ∧ j < dp + n then σ a (sp + (j - dp)) else σ b j))) : Gs X pc lv (vI n :: vI dp :: vR b :: vI sp :: vR a :: st) σ := by
  obtain ⟨p, l, e, R, s, m, args, below, meth, c, D, cs, ad, A, cells, slots, Q⟩ := X
  obtain ⟨hx, hb, hml, hown, hts, hret, hlk, hK, hN, hi, hA, hd1, hd2, hd3, hd4⟩ := hF
  intro H locs ls hl hst hσ hP hS
  subst hq
  have on : inR n := ok_hd hst
  have od : inR dp := ok_hd (ok_tl hst)
  have os : inR sp := ok_hd (ok_tl (ok_tl (ok_tl hst)))
  obtain ⟨h1, h2, h3, h4, h5⟩ := h0
  have nn : ∀ z : Int, inR z → 0 ≤ z → ¬ Int32.ofInt z < 0 := fun z hz hz0 h => by
    have := (i32_lt hz (b := 0) ⟨by decide, by decide⟩).mp (i32_0 ▸ h)
    omega
  refine va_copyi (sp := Int32.ofInt sp) (dp := Int32.ofInt dp) (n := Int32.ofInt n) (ty := .int) hx hb (hl.1.symm) hown (hts _ hlk0) (hts _ hw.1) (hts _ hw.2.1) (hts _ hw.2.2) hK hP (mkW_D hi hA) hS a b 0 0 (mkW_at hLa) (mkW_at hLb) rfl rfl rfl (nn sp os h1) (nn dp od h2) (nn n on h3) (by rw [i32_cl os, i32_cl on]; omega) (by rw [i32_cl od, i32_cl on]; omega) (fun _ _ => rfl) (by omega) (by rw [cat_sum, show nativeFrameWords "java/lang/System" "arraycopy" 5 = 7 by decide +kernel]; omega) hdg (fun H1 locs1 hP1 hD1 hS1 => ?_)
  rw [i32_cl os, i32_cl od, i32_cl on, ← cpy_uc h1 h2 h3, mkW_uc (f := fun j => if dp ≤ j ∧ j < dp + n then σ a (sp + (j - dp)) else σ b j) (e := .inl (cs.1, nb, .inl (fun j : Nat => Int32.ofInt (uc σ b (fun j => if dp ≤ j ∧ j < dp + n then σ a (sp + (j - dp)) else σ b j) b (j : Int))))) hLb rfl] at hP1
  refine k H1 locs1 ls hl (ok_tl (ok_tl (ok_tl (ok_tl (ok_tl hst))))) (fun k9 j9 => ?_) hP1 hS1
  by_cases e9 : k9 = b
  · subst e9
    rw [uc_eq]
    split <;> exact hσ _ _
  · rw [uc_ne e9]
    exact hσ _ _
def mxW : Prop := Cond.static Lib.Math.max.name ∈ wsT ∧ Cond.initialized "java/lang/Math" ∈ wsT ∧ Cond.code Lib.Math.max.name Lib.Math.max.code 2 (some .int) ∈ wsT
def mnW : Prop := Cond.static Lib.Math.min.name ∈ wsT ∧ Cond.initialized "java/lang/Math" ∈ wsT ∧ Cond.code Lib.Math.min.name Lib.Math.min.code 2 (some .int) ∈ wsT
theorem jr_max {M : MM} {d : Nat} {X : CT} (hF : Fix M d X) {pc : Nat} {lv : List (Option PV)} {st : List PV} {σ : Sg} {idx : Nat} {a b : Int} (hw : mxW) (hdg : decode M.2.1 pc = .ok (.invokestatic idx, 3)) {q : Nat} (hq : pc + 3 = q) (hlk0 : Cond.methodLink M.1.cls idx Lib.Math.max.name ∈ wsT) (hr : (st.map pcat).sum ≤ 8) (hd : 1 ≤ d) (k : Gs X q lv (vI (if a < b then b else a) :: st) σ) : Gs X pc lv (vI b :: vI a :: st) σ := by
  obtain ⟨p, l, e, R, s, m, args, below, meth, c, D, cs, ad, A, cells, slots, Q⟩ := X
  obtain ⟨hx, hb, hml, hown, hts, hret, hlk, hK, hN, hi, hA, hd1, hd2, hd3, hd4⟩ := hF
  intro H locs ls hl hst hσ hP hS
  subst hq
  have oa : inR a := ok_hd (ok_tl hst)
  have ob : inR b := ok_hd hst
  refine va_mmax (x := Int32.ofInt a) (y := Int32.ofInt b) hx hb (hl.1.symm) hown (hts _ hlk0) (hts _ hw.1) (hts _ hw.2.1) (hts _ hw.2.2) (by omega) (by rw [cat_sum]; omega) hd3 hd4 hdg ?_
  have e1 : (if Int32.ofInt a < Int32.ofInt b then Int32.ofInt b else Int32.ofInt a) = Int32.ofInt (if a < b then b else a) := by
    by_cases h : a < b
    · rw [if_pos h, if_pos ((i32_lt oa ob).mpr h)]
    · rw [if_neg h, if_neg (fun z => h ((i32_lt oa ob).mp z))]
  rw [e1]
  refine k H locs ls hl (ok_cs (v := vI _) ?_ (ok_tl (ok_tl hst))) hσ hP hS
  show inR (if a < b then b else a)
  split <;> assumption
theorem jr_min {M : MM} {d : Nat} {X : CT} (hF : Fix M d X) {pc : Nat} {lv : List (Option PV)} {st : List PV} {σ : Sg} {idx : Nat} {a b : Int} (hw : mnW) (hdg : decode M.2.1 pc = .ok (.invokestatic idx, 3)) {q : Nat} (hq : pc + 3 = q) (hlk0 : Cond.methodLink M.1.cls idx Lib.Math.min.name ∈ wsT) (hr : (st.map pcat).sum ≤ 8) (hd : 1 ≤ d) (k : Gs X q lv (vI (if b < a then b else a) :: st) σ) : Gs X pc lv (vI b :: vI a :: st) σ := by
  obtain ⟨p, l, e, R, s, m, args, below, meth, c, D, cs, ad, A, cells, slots, Q⟩ := X
  obtain ⟨hx, hb, hml, hown, hts, hret, hlk, hK, hN, hi, hA, hd1, hd2, hd3, hd4⟩ := hF
  intro H locs ls hl hst hσ hP hS
  subst hq
  have oa : inR a := ok_hd (ok_tl hst)
  have ob : inR b := ok_hd hst
  refine va_mmin (x := Int32.ofInt a) (y := Int32.ofInt b) hx hb (hl.1.symm) hown (hts _ hlk0) (hts _ hw.1) (hts _ hw.2.1) (hts _ hw.2.2) (by omega) (by rw [cat_sum]; omega) hd3 hd4 hdg ?_
  have e1 : (if Int32.ofInt b < Int32.ofInt a then Int32.ofInt b else Int32.ofInt a) = Int32.ofInt (if b < a then b else a) := by
    by_cases h : b < a
    · rw [if_pos h, if_pos ((i32_lt ob oa).mpr h)]
    · rw [if_neg h, if_neg (fun z => h ((i32_lt ob oa).mp z))]
  rw [e1]
  refine k H locs ls hl (ok_cs (v := vI _) ?_ (ok_tl (ok_tl hst))) hσ hP hS
  show inR (if b < a then b else a)
  split <;> assumption
theorem jr_ireturn {M : MM} {d : Nat} {X : CT} (hF : Fix M d X) {pc : Nat} {lv : List (Option PV)} {st : List PV} {σ : Sg} {Q : Option PV → Sg → Prop} (hR : Ret X Q) (hr : M.2.2.2 = some .int) {z : Int} (hdg : decode M.2.1 pc = .ok (.ireturn, 1)) (h : Q (some (vI z)) σ) : Gs X pc lv [vI z] σ := by
  obtain ⟨p, l, e, R, s, m, args, below, meth, c, D, cs, ad, A, cells, slots, Qs⟩ := X
  obtain ⟨hx, hb, hml, hown, hts, hret, hlk, hK, hN, hi, hA, hd1, hd2, hd3, hd4⟩ := hF
  obtain ⟨rfl, rfl, rfl, rfl⟩ := hR
  intro H locs ls hl hst hσ hP hS
  exact W.iret (v := Int32.ofInt z) hx hb (hret.trans hr) (fun t ht _ => ⟨some (vI z), σ, rfl, fun v hv => by cases hv; exact ok_hd hst, hσ, by rw [ht]; exact hP, hS.F ht, h⟩) hS.2.2 hdg hlk
theorem jr_zreturn {M : MM} {d : Nat} {X : CT} (hF : Fix M d X) {pc : Nat} {lv : List (Option PV)} {st : List PV} {σ : Sg} {Q : Option PV → Sg → Prop} (hR : Ret X Q) (hr : M.2.2.2 = some .boolean) {z : Int} (hdg : decode M.2.1 pc = .ok (.ireturn, 1)) (hz : z = 0 ∨ z = 1) (h : Q (some (vI z)) σ) : Gs X pc lv [vI z] σ := by
  obtain ⟨p, l, e, R, s, m, args, below, meth, c, D, cs, ad, A, cells, slots, Qs⟩ := X
  obtain ⟨hx, hb, hml, hown, hts, hret, hlk, hK, hN, hi, hA, hd1, hd2, hd3, hd4⟩ := hF
  obtain ⟨rfl, rfl, rfl, rfl⟩ := hR
  intro H locs ls hl hst hσ hP hS
  exact W.zret (v := Int32.ofInt z) hx hb (hret.trans hr) (by rcases hz with rfl | rfl <;> decide +kernel) (fun t ht _ => ⟨some (vI z), σ, rfl, fun v hv => by cases hv; exact ok_hd hst, hσ, by rw [ht]; exact hP, hS.F ht, h⟩) hS.2.2 hdg hlk
theorem jr_return {M : MM} {d : Nat} {X : CT} (hF : Fix M d X) {pc : Nat} {lv : List (Option PV)} {st : List PV} {σ : Sg} {Q : Option PV → Sg → Prop} (hR : Ret X Q) (hr : M.2.2.2 = none) (hdg : decode M.2.1 pc = .ok (.return_, 1)) (h : Q none σ) : Gs X pc lv [] σ := by
  obtain ⟨p, l, e, R, s, m, args, below, meth, c, D, cs, ad, A, cells, slots, Qs⟩ := X
  obtain ⟨hx, hb, hml, hown, hts, hret, hlk, hK, hN, hi, hA, hd1, hd2, hd3, hd4⟩ := hF
  obtain ⟨rfl, rfl, rfl, rfl⟩ := hR
  intro H locs ls hl hst hσ hP hS
  exact W.vret hx hb (hret.trans hr) (fun t ht _ => ⟨none, σ, rfl, fun v hv => (by cases hv), hσ, by rw [ht]; exact hP, hS.F ht, h⟩) hS.2.2 hdg hlk
/-- what the frame knows of the world, the locals -/
theorem jr_wf {X : CT} {pc : Nat} {lv : List (Option PV)} {st : List PV} {σ : Sg} (k : (∀ (k : Nat) (j : Int), inR (σ k j)) → Gs X pc lv st σ) : Gs X pc lv st σ := by
  obtain ⟨p, l, e, R, s, m, args, below, meth, c, D, cs, ad, A, cells, slots, Qs⟩ := X
  intro H locs ls hl hst hσ hP hS
  exact k hσ H locs ls hl hst hσ hP hS
theorem jr_lok {X : CT} {pc : Nat} {lv : List (Option PV)} {st : List PV} {σ : Sg} (i : Nat) {v : PV} (h : lv[i]? = some (some v)) (k : okP v → Gs X pc lv st σ) : Gs X pc lv st σ := by
  obtain ⟨p, l, e, R, s, m, args, below, meth, c, D, cs, ad, A, cells, slots, Qs⟩ := X
  intro H locs ls hl hst hσ hP hS
  exact k (hl.2.2 _ _ h).2 H locs ls hl hst hσ hP hS
theorem jr_drop {X : CT} {pc : Nat} {lv : List (Option PV)} {st : List PV} {σ : Sg} (lv' : List (Option PV)) (h : ∀ (i : Nat) (v : PV), lv'[i]? = some (some v) → lv[i]? = some (some v)) (k : Gs X pc lv' st σ) : Gs X pc lv st σ := by
  obtain ⟨p, l, e, R, s, m, args, below, meth, c, D, cs, ad, A, cells, slots, Qs⟩ := X
  intro H locs ls hl hst hσ hP hS
  exact k H locs ls ⟨hl.1, hl.2.1, fun i v hv => hl.2.2 i v (h i v hv)⟩ hst hσ hP hS
theorem preB_blind (as : List Value) (D : va_G) (cs : C3) (ad : Nat → Nat) (σ : Sg) : FrameBlind (va_Pc as (PreB D cs ad σ)) := by
  intro a U g mk h
  obtain ⟨h1, h2, h3, h4, h5⟩ := h
  exact ⟨h1, h2, h3, va_K.moved (u := U) (U := U.calling g mk a) (Vm.Alike.refl U.vm) h4, va_Nw.same rfl (rfl : U.vm = (U.calling g mk a).vm) h5⟩
/-- what a call of M needs of the tables, apart from the link -/
def CV (M : MM) (n : Nat) : Prop := Cond.code M.1 M.2.1 M.2.2.1 M.2.2.2 ∈ wsT ∧ Cond.initialized M.1.cls ∈ wsT ∧ (M.1.cls ≠ "java/lang/invoke/MethodHandle" ∧ M.1.cls ≠ "java/lang/invoke/VarHandle" ∧ (parseMethodDescriptor M.1.desc).map (fun d => d.parameters.length) = some n) ∧ M.2.2.1 ≤ 40
def CI (M : MM) : Prop := Cond.instanceMethod M.1 ∈ wsT ∧ Cond.selects M.1.cls M.1 M.1 ∈ wsT
theorem jr_callV {M : MM} {d : Nat} {X : CT} (hF : Fix M d X) {pc : Nat} {lv : List (Option PV)} {st : List PV} {σ : Sg} {Mc : MM} {dc idx b ci : Nat} {fs : List (Option Nat)} {C : String} {T : u_T} {N : Nat} {Q' : Option PV → Sg → Prop} (as : List PV) (hM : RunsM Mc dc (vR b :: as) σ Q') (hdg : decode M.2.1 pc = .ok (.invokevirtual idx, 3)) {q : Nat} (hq : pc + 3 = q) (hlk0 : Cond.methodLink M.1.cls idx Mc.1 ∈ wsT) (hc : CV Mc as.length) (hci : CI Mc) (hL : Lay[b]? = some (0, ci, 0, fs)) (hC : vwCl[ci]? = some (C, T, N)) (hCC : C = Mc.1.cls) (hdd : dc < d) (hrs : (st.map pcat).sum ≤ 8) (k : ∀ (r : Option PV) (σ' : Sg), Q' r σ' → Gs X q lv (r.toList ++ st) σ') : Gs X pc lv (as.reverse ++ vR b :: st) σ := by
  obtain ⟨p, l, e, R, s, m, args, below, meth, c, D, cs, ad, A, cells, slots, Q⟩ := X
  obtain ⟨hx, hb, hml, hown, hts, hret, hlk, hK, hN, hi, hA, hd1, hd2, hd3, hd4⟩ := hF
  intro H locs ls hl hst hσ hP hS
  subst hq
  subst hCC
  have hrest : ∀ x ∈ st, okP x := fun x h => hst x (List.mem_append_right _ (List.mem_cons_of_mem _ h))
  have has : ∀ x ∈ vR b :: as, okP x := ok_cs (v := vR b) trivial (fun x h => hst x (List.mem_append_left _ (List.mem_reverse.mpr h)))
  have cw : CallW R s args M.1.cls Mc.1.cls idx Mc.1 Mc.2.1 Mc.2.2.1 Mc.2.2.2 (.code Mc.1 Mc.2.1 Mc.2.2.1 Mc.2.2.2 :: wsT) (rmD dc) 0 0 as.length :=
    ⟨callB_of as.length hts (goodT hc.1) rfl rfl rfl (hts _ hc.2.1) (hts _ hlk0) hc.2.2.1 ⟨by show dc + 1 ≤ R.frames; omega, by show 8 + (Mc.2.2.1 + 11) + 64 * dc ≤ R.locals; have := hc.2.2.2; omega⟩, hts _ hci.1, hts _ hci.2⟩
  have hr := va_runV (g := F0 m pc ls ((as.reverse ++ vR b :: st).map (tV ad))) (cells := cells) (slots := slots) (locs := locs) (below := below) (meth := meth) (As := as.map (tV ad)) (rest := st.map (tV ad)) (b := ad b) (e := e) ⟨hx, hb, hml, hown, hts⟩ (hM l D cs ad hi has) cw ⟨preB_blind _ D cs ad σ, va_recv hK hP hC (mkW_at hL), fun U hU hW => ⟨rfl, hσ, by rw [hU]; exact hP, va_K.moved hW.alike hK, va_Nw.warmM hW hN⟩⟩ rfl (by rw [List.length_map]) (hl.1.trans hml) (by show List.map _ _ = _; rw [List.map_append, List.map_reverse]; rfl) (by show 2 * 0 + _ ≤ 8; rw [cat_sum]; omega) hdg ⟨by omega, by omega⟩
  intro T hT Xs
  obtain ⟨v, st₀, t, T', L, h0, X', hL, e1, e2, ⟨r, σ', hv, hor, hσ', hP', hF', hq'⟩, stp⟩ := hr T hT Xs
  obtain ⟨hz, hk⟩ := hF'
  rw [h0] at hz hk
  have hv2 : v = r.map (tV ad) := by cases hv; rfl
  subst hv2
  have hAD : ∀ q, AD ad q → A q := fun q hq => by obtain ⟨k9, h9, rfl⟩ := hq; exact hA k9 h9
  have hS' : va_S A s.heap T'.heap (locs ++ L) := ⟨Nat.le_trans hS.1 (by rw [e1]; exact hz), fun q h1 h2 => by rw [e1, hk q (Nat.lt_of_lt_of_le h1 hS.1) (fun z => h2 (hAD q z))]; exact hS.2.1 q h1 h2, fun q hq => by
    rcases List.mem_append.mp hq with h | h
    · exact hS.2.2 q h
    · exact hAD _ (hL q h)⟩
  have hst' : ∀ x ∈ r.toList ++ st, okP x := fun x hx9 => by
    rcases List.mem_append.mp hx9 with h | h
    · exact hor x (by simpa using h)
    · exact hrest x h
  obtain ⟨t2, a1, b1⟩ := k r σ' hq' T'.heap (locs ++ L) ls hl hst' hσ' (by rw [e1]; exact hP') hS' T' rfl (by simpa using X')
  refine ⟨t2, stp t2 ?_, b1⟩
  have e9 : (r.map (tV ad)).toList ++ st.map (tV ad) = (r.toList ++ st).map (tV ad) := by
    cases r <;> simp
  rw [e9]
  exact a1
theorem jr_callS {M : MM} {d : Nat} {X : CT} (hF : Fix M d X) {pc : Nat} {lv : List (Option PV)} {st : List PV} {σ : Sg} {Mc : MM} {dc idx : Nat} {Q' : Option PV → Sg → Prop} (as : List PV) (hM : RunsM Mc dc as σ Q') (hdg : decode M.2.1 pc = .ok (.invokestatic idx, 3)) {q : Nat} (hq : pc + 3 = q) (hlk0 : Cond.methodLink M.1.cls idx Mc.1 ∈ wsT) (hc : CV Mc as.length) (hci : Cond.static Mc.1 ∈ wsT) (hdd : dc < d) (hrs : (st.map pcat).sum ≤ 8) (k : ∀ (r : Option PV) (σ' : Sg), Q' r σ' → Gs X q lv (r.toList ++ st) σ') : Gs X pc lv (as.reverse ++ st) σ := by
  obtain ⟨p, l, e, R, s, m, args, below, meth, c, D, cs, ad, A, cells, slots, Q⟩ := X
  obtain ⟨hx, hb, hml, hown, hts, hret, hlk, hK, hN, hi, hA, hd1, hd2, hd3, hd4⟩ := hF
  intro H locs ls hl hst hσ hP hS
  subst hq
  have hrest : ∀ x ∈ st, okP x := fun x h => hst x (List.mem_append_right _ h)
  have has : ∀ x ∈ as, okP x := fun x h => hst x (List.mem_append_left _ (List.mem_reverse.mpr h))
  have cw : CallB R s args M.1.cls idx Mc.1 Mc.2.1 Mc.2.2.1 Mc.2.2.2 (.code Mc.1 Mc.2.1 Mc.2.2.1 Mc.2.2.2 :: wsT) (rmD dc) 0 0 as.length ∧ (Cond.static Mc.1).before args s = true :=
    ⟨callB_of as.length hts (goodT hc.1) rfl rfl rfl (hts _ hc.2.1) (hts _ hlk0) hc.2.2.1 ⟨by show dc + 1 ≤ R.frames; omega, by show 8 + (Mc.2.2.1 + 11) + 64 * dc ≤ R.locals; have := hc.2.2.2; omega⟩, hts _ hci⟩
  have hr := va_runS (g := F0 m pc ls ((as.reverse ++ st).map (tV ad))) (cells := cells) (slots := slots) (locs := locs) (below := below) (meth := meth) (As := as.map (tV ad)) (rest := st.map (tV ad)) (e := e) ⟨hx, hb, hml, hown, hts⟩ (hM l D cs ad hi has) cw ⟨preB_blind _ D cs ad σ, fun U hU hW => ⟨rfl, hσ, by rw [hU]; exact hP, va_K.moved hW.alike hK, va_Nw.warmM hW hN⟩⟩ rfl (by rw [List.length_map]) (hl.1.trans hml) (by show List.map _ _ = _; rw [List.map_append, List.map_reverse]) (by show 2 * 0 + _ ≤ 8; rw [cat_sum]; omega) hdg ⟨by omega, by omega⟩
  intro T hT Xs
  obtain ⟨v, st₀, t, T', L, h0, X', hL, e1, e2, ⟨r, σ', hv, hor, hσ', hP', hF', hq'⟩, stp⟩ := hr T hT Xs
  obtain ⟨hz, hk⟩ := hF'
  rw [h0] at hz hk
  have hv2 : v = r.map (tV ad) := by cases hv; rfl
  subst hv2
  have hAD : ∀ q, AD ad q → A q := fun q hq => by obtain ⟨k9, h9, rfl⟩ := hq; exact hA k9 h9
  have hS' : va_S A s.heap T'.heap (locs ++ L) := ⟨Nat.le_trans hS.1 (by rw [e1]; exact hz), fun q h1 h2 => by rw [e1, hk q (Nat.lt_of_lt_of_le h1 hS.1) (fun z => h2 (hAD q z))]; exact hS.2.1 q h1 h2, fun q hq => by
    rcases List.mem_append.mp hq with h | h
    · exact hS.2.2 q h
    · exact hAD _ (hL q h)⟩
  have hst' : ∀ x ∈ r.toList ++ st, okP x := fun x hx9 => by
    rcases List.mem_append.mp hx9 with h | h
    · exact hor x (by simpa using h)
    · exact hrest x h
  obtain ⟨t2, a1, b1⟩ := k r σ' hq' T'.heap (locs ++ L) ls hl hst' hσ' (by rw [e1]; exact hP') hS' T' rfl (by simpa using X')
  refine ⟨t2, stp t2 ?_, b1⟩
  have e9 : (r.map (tV ad)).toList ++ st.map (tV ad) = (r.toList ++ st).map (tV ad) := by
    cases r <;> simp
  rw [e9]
  exact a1
theorem jr_callN {M : MM} {d : Nat} {X : CT} (hF : Fix M d X) {pc : Nat} {lv : List (Option PV)} {st : List PV} {σ : Sg} {Mc : MM} {dc : Nat} {Q' : Option PV → Sg → Prop} (as : List PV) (hM : RunsM Mc dc as σ Q') (hdg : decode M.2.1 pc = .ok (.invokestatic 39, 3)) {q : Nat} (hq : pc + 3 = q) (hown4 : M.1.cls = RX4) (hMc : Mc.1 = yX9_isWithin) (hc : CV Mc as.length) (hci : Cond.static Mc.1 ∈ wsT) (hdd : dc < d) (hrs : (st.map pcat).sum ≤ 8) (k : ∀ (r : Option PV) (σ' : Sg), Q' r σ' → Gs X q lv (r.toList ++ st) σ') : Gs X pc lv (as.reverse ++ st) σ := by
  obtain ⟨p, l, e, R, s, m, args, below, meth, c, D, cs, ad, A, cells, slots, Q⟩ := X
  obtain ⟨hx, hb, hml, hown, hts, hret, hlk, hK, hN, hi, hA, hd1, hd2, hd3, hd4⟩ := hF
  intro H locs ls hl hst hσ hP hS
  subst hq
  have hrest : ∀ x ∈ st, okP x := fun x h => hst x (List.mem_append_right _ h)
  have has : ∀ x ∈ as, okP x := fun x h => hst x (List.mem_append_left _ (List.mem_reverse.mpr h))
  have hN2 : va_Nw (.methodLinkNest M.1.cls 39 Mc.1 RX9) s := by rw [hown4, hMc]; exact hN
  have cw : va_CN R s args M.1.cls 39 Mc.1 RX9 Mc.2.1 Mc.2.2.1 Mc.2.2.2 (.code Mc.1 Mc.2.1 Mc.2.2.1 Mc.2.2.2 :: wsT) (rmD dc) 0 0 as.length ∧ (Cond.static Mc.1).before args s = true ∧ True :=
    ⟨va_cnB as.length hts (goodT hc.1) rfl rfl rfl hN2 (hts _ hc.2.1) hc.2.2.1 ⟨by show dc + 1 ≤ R.frames; omega, by show 8 + (Mc.2.2.1 + 11) + 64 * dc ≤ R.locals; have := hc.2.2.2; omega⟩, hts _ hci, trivial⟩
  have hr := va_runSN (g := F0 m pc ls ((as.reverse ++ st).map (tV ad))) (cells := cells) (slots := slots) (locs := locs) (below := below) (meth := meth) (As := as.map (tV ad)) (rest := st.map (tV ad)) (e := e) ⟨hx, hb, hml, hown, hts⟩ (hM l D cs ad hi has) cw ⟨preB_blind _ D cs ad σ, fun U hU hW => ⟨rfl, hσ, by rw [hU]; exact hP, va_K.moved hW.alike hK, va_Nw.warmM hW hN⟩⟩ rfl (by rw [List.length_map]) (hl.1.trans hml) (by show List.map _ _ = _; rw [List.map_append, List.map_reverse]) (by show 2 * 0 + _ ≤ 8; rw [cat_sum]; omega) hdg ⟨by omega, by omega⟩
  intro T hT Xs
  obtain ⟨v, st₀, t, T', L, h0, X', hL, e1, e2, ⟨r, σ', hv, hor, hσ', hP', hF', hq'⟩, stp⟩ := hr T hT Xs
  obtain ⟨hz, hk⟩ := hF'
  rw [h0] at hz hk
  have hv2 : v = r.map (tV ad) := by cases hv; rfl
  subst hv2
  have hAD : ∀ q, AD ad q → A q := fun q hq => by obtain ⟨k9, h9, rfl⟩ := hq; exact hA k9 h9
  have hS' : va_S A s.heap T'.heap (locs ++ L) := ⟨Nat.le_trans hS.1 (by rw [e1]; exact hz), fun q h1 h2 => by rw [e1, hk q (Nat.lt_of_lt_of_le h1 hS.1) (fun z => h2 (hAD q z))]; exact hS.2.1 q h1 h2, fun q hq => by
    rcases List.mem_append.mp hq with h | h
    · exact hS.2.2 q h
    · exact hAD _ (hL q h)⟩
  have hst' : ∀ x ∈ r.toList ++ st, okP x := fun x hx9 => by
    rcases List.mem_append.mp hx9 with h | h
    · exact hor x (by simpa using h)
    · exact hrest x h
  obtain ⟨t2, a1, b1⟩ := k r σ' hq' T'.heap (locs ++ L) ls hl hst' hσ' (by rw [e1]; exact hP') hS' T' rfl (by simpa using X')
  refine ⟨t2, stp t2 ?_, b1⟩
  have e9 : (r.map (tV ad)).toList ++ st.map (tV ad) = (r.toList ++ st).map (tV ad) := by
    cases r <;> simp
  rw [e9]
  exact a1
def eL (as : List PV) : List (Option PV) := match as with
  | [] => []
  | .inl z :: r => some (.inl z) :: eL r
  | .inr (.inl z) :: r => some (.inr (.inl z)) :: none :: eL r
  | .inr (.inr z) :: r => some (.inr (.inr z)) :: eL r
def entryL (as : List PV) (n : Nat) : List (Option PV) := eL as ++ List.replicate (n - (eL as).length) none
theorem eL_args (ad : Nat → Nat) : ∀ (as : List PV) (o i : Nat) (v : PV), (eL as)[i]? = some (some v) → (o + i, tV ad v) ∈ lv_args o (as.map (tV ad)) ∧ v ∈ as := by
  intro as
  induction as with
  | nil => intro o i v h; simp [eL] at h
  | cons a r ih =>
    intro o i v h
    rcases a with z | z | z
    · cases i with
      | zero =>
        simp only [eL, List.getElem?_cons_zero] at h
        cases h
        exact ⟨List.mem_cons_self, List.mem_cons_self⟩
      | succ i =>
        simp only [eL, List.getElem?_cons_succ] at h
        have h2 := ih (o + 1) i v h
        refine ⟨List.mem_cons_of_mem _ ?_, List.mem_cons_of_mem _ h2.2⟩
        rw [show o + (i + 1) = o + 1 + i by omega]
        exact h2.1
    · cases i with
      | zero =>
        simp only [eL, List.getElem?_cons_zero] at h
        cases h
        exact ⟨List.mem_cons_self, List.mem_cons_self⟩
      | succ i =>
        cases i with
        | zero =>
          simp only [eL, List.getElem?_cons_succ, List.getElem?_cons_zero] at h
          cases h
        | succ i =>
          simp only [eL, List.getElem?_cons_succ] at h
          have h2 := ih (o + 2) i v h
          refine ⟨List.mem_cons_of_mem _ ?_, List.mem_cons_of_mem _ h2.2⟩
          rw [show o + (i + 1 + 1) = o + 2 + i by omega]
          exact h2.1
    · cases i with
      | zero =>
        simp only [eL, List.getElem?_cons_zero] at h
        cases h
        exact ⟨List.mem_cons_self, List.mem_cons_self⟩
      | succ i =>
        simp only [eL, List.getElem?_cons_succ] at h
        have h2 := ih (o + 1) i v h
        refine ⟨List.mem_cons_of_mem _ ?_, List.mem_cons_of_mem _ h2.2⟩
        rw [show o + (i + 1) = o + 1 + i by omega]
        exact h2.1
theorem eL_len (ad : Nat → Nat) : ∀ (as : List PV), (lg_sl (as.map (tV ad))).length = (eL as).length := by
  intro as
  induction as with
  | nil => rfl
  | cons a r ih =>
    rcases a with z | z | z
    · show ((if (tV ad (.inl z)).category = 2 then _ else _) ++ lg_sl (r.map (tV ad)) : List Slot).length = _
      rw [List.length_append, ih]
      simp [eL, tV, Value.category]; omega
    · show ((if (tV ad (.inr (.inl z))).category = 2 then _ else _) ++ lg_sl (r.map (tV ad)) : List Slot).length = _
      rw [List.length_append, ih]
      simp [eL, tV, Value.category]; omega
    · show ((if (tV ad (.inr (.inr z))).category = 2 then _ else _) ++ lg_sl (r.map (tV ad)) : List Slot).length = _
      rw [List.length_append, ih]
      simp [eL, tV, Value.category]; omega
/-- a method's contract out of the walk of its body -/
theorem mkRun {M : MM} {d : Nat} {as : List PV} {σ : Sg} {Q : Option PV → Sg → Prop} (hy : plainName M.1.cls = true) (hn : (eL as).length ≤ M.2.2.1) (body : ∀ X : CT, Fix M d X → Ret X Q → Gs X 0 (entryL as M.2.2.1) [] σ) : RunsM M d as σ Q := by
  intro l D cs ad hi has
  refine Met.ofW (cc := M.2.1) (maxL := M.2.2.1) (ret := M.2.2.2) hy rfl ?_
  intro p e s m args below meth c s₁ B hml hv
  obtain ⟨rfl, hσ, hP, hK, hN⟩ := hv
  have hts := atoms_spec B.pre
  have hown : s.vm.findClass M.1.cls = some m.cls := findClass_of_methodNamed B.named
  have hb := body (p, l, e, (headSpec (.code M.1 M.2.1 M.2.2.1 M.2.2.2 :: wsT) (rmD d)).room, s, m, (as.map (tV ad)).toArray, below, meth, c, D, cs, ad, AD ad, 0, 0, MQ below (QcB D cs ad Q) (as.map (tV ad)).toArray s 0 0 (AD ad))
    ⟨B.exec, B.bytes, hml, hown, fun w hw => hts w (List.mem_cons_of_mem _ hw), B.returns, B.notSynchronized, hK, hN, hi, fun k hk => ⟨k, hk, rfl⟩, Nat.le_refl _, Nat.le_refl _, Nat.zero_le _, Nat.zero_le _⟩ ⟨rfl, rfl, rfl, rfl⟩
  have hl := lv_entry (as.map (tV ad)) (n := M.2.2.1) (by rw [eL_len]; exact hn)
  rw [lg_entry_eq]
  generalize (lg_sl (as.map (tV ad)) ++ List.replicate (M.2.2.1 - (lg_sl (as.map (tV ad))).length) Slot.unset).toArray = ls at hl ⊢
  refine hb s.heap [] ls ⟨hl.1.trans hml.symm, hl.2.1, fun i v hv => ?_⟩ (fun _ h => by cases h) hσ hP va_S.rf
  unfold entryL at hv
  by_cases h : i < (eL as).length
  · rw [List.getElem?_append_left h] at hv
    have h2 := eL_args ad as 0 i v hv
    rw [Nat.zero_add] at h2
    exact ⟨hl.2.2 _ h2.1, has v h2.2⟩
  · rw [List.getElem?_append_right (by omega)] at hv
    have := List.eq_of_mem_replicate (List.mem_of_getElem? hv)
    cases this
theorem RunsM.mono {M : MM} {d : Nat} {as : List PV} {σ : Sg} {Q Q' : Option PV → Sg → Prop} (h : RunsM M d as σ Q) (hq : ∀ r σ', Q r σ' → Q' r σ') : RunsM M d as σ Q' := by
  intro l D cs ad hi has
  have h1 := h l D cs ad hi has
  intro p e ha hc hk s m args below hf hap hP hK
  obtain ⟨t, o, a1, b1, b2, ⟨⟨r, σ', c1, c2, c3, c4, c5, c6⟩, b4⟩⟩ := h1 p e ha hc hk s m args below hf hap hP hK
  exact ⟨t, o, a1, b1, b2, ⟨⟨r, σ', c1, c2, c3, c4, c5, hq r σ' c6⟩, b4⟩⟩
end
