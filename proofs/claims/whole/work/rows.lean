section
-- ===== PART A: goes FIRST, ahead of the names: the tables' words, and 'selects' of the private methods out of them =====
/-- a private method of a class that the tables say can be made, by its rows of tables_1 -/
def lw_okq (q : MethodName × Nat) : Prop := (q.1.cls ≠ "java/lang/invoke/MethodHandle" ∧ q.1.cls ≠ "java/lang/invoke/VarHandle") ∧ Cond.instantiable q.1.cls q.2 ∈ tables_1 ∧ Cond.privateMethod q.1 ∈ tables_1 ∧ Cond.instanceMethod q.1 ∈ tables_1
theorem lw_p0 : lw_okq (⟨"LimbRows", "rowAt", "(I)LLimbRows$Row;"⟩, 1) := ⟨⟨by decide +kernel, by decide +kernel⟩, List.mem_of_getElem? (i := 15) (by decide +kernel), List.mem_of_getElem? (i := 53) (by decide +kernel), List.mem_of_getElem? (i := 54) (by decide +kernel)⟩
theorem lw_p1 : lw_okq (⟨"java/lang/Throwable", "fillInStackTrace", "(I)Ljava/lang/Throwable;"⟩, 6) := ⟨⟨by decide +kernel, by decide +kernel⟩, List.mem_of_getElem? (i := 94) (by decide +kernel), List.mem_of_getElem? (i := 92) (by decide +kernel), List.mem_of_getElem? (i := 93) (by decide +kernel)⟩
theorem lw_p2 : lw_okq (⟨"LimbRows$Row", "changeWidth", "(I)Z"⟩, 2) := ⟨⟨by decide +kernel, by decide +kernel⟩, List.mem_of_getElem? (i := 24) (by decide +kernel), List.mem_of_getElem? (i := 140) (by decide +kernel), List.mem_of_getElem? (i := 141) (by decide +kernel)⟩
theorem lw_p3 : lw_okq (⟨"LimbRows$Row", "fitsIn", "(I)Z"⟩, 2) := ⟨⟨by decide +kernel, by decide +kernel⟩, List.mem_of_getElem? (i := 24) (by decide +kernel), List.mem_of_getElem? (i := 144) (by decide +kernel), List.mem_of_getElem? (i := 145) (by decide +kernel)⟩
theorem lw_p4 : lw_okq (⟨"LimbRows$Row", "limbAt", "(I)I"⟩, 2) := ⟨⟨by decide +kernel, by decide +kernel⟩, List.mem_of_getElem? (i := 24) (by decide +kernel), List.mem_of_getElem? (i := 148) (by decide +kernel), List.mem_of_getElem? (i := 149) (by decide +kernel)⟩
theorem lw_p5 : lw_okq (⟨"LimbRows$Row", "keepLong", "(J)Z"⟩, 2) := ⟨⟨by decide +kernel, by decide +kernel⟩, List.mem_of_getElem? (i := 24) (by decide +kernel), List.mem_of_getElem? (i := 182) (by decide +kernel), List.mem_of_getElem? (i := 183) (by decide +kernel)⟩
theorem lw_p6 : lw_okq (⟨"LimbRows$Row", "keepRow", "(LLimbRows$Row;)Z"⟩, 2) := ⟨⟨by decide +kernel, by decide +kernel⟩, List.mem_of_getElem? (i := 24) (by decide +kernel), List.mem_of_getElem? (i := 209) (by decide +kernel), List.mem_of_getElem? (i := 210) (by decide +kernel)⟩
theorem lw_p7 : lw_okq (⟨"LimbRows$Row", "addFrom", "(ILLimbRows$Row;)V"⟩, 2) := ⟨⟨by decide +kernel, by decide +kernel⟩, List.mem_of_getElem? (i := 24) (by decide +kernel), List.mem_of_getElem? (i := 220) (by decide +kernel), List.mem_of_getElem? (i := 221) (by decide +kernel)⟩
theorem lw_p8 : lw_okq (⟨"LimbRows$Row", "addLimbs", "(ILLimbRows$Row;I)V"⟩, 2) := ⟨⟨by decide +kernel, by decide +kernel⟩, List.mem_of_getElem? (i := 24) (by decide +kernel), List.mem_of_getElem? (i := 224) (by decide +kernel), List.mem_of_getElem? (i := 225) (by decide +kernel)⟩
theorem lw_p9 : lw_okq (⟨"LimbRows$Row", "signum", "()I"⟩, 2) := ⟨⟨by decide +kernel, by decide +kernel⟩, List.mem_of_getElem? (i := 24) (by decide +kernel), List.mem_of_getElem? (i := 232) (by decide +kernel), List.mem_of_getElem? (i := 233) (by decide +kernel)⟩
theorem lw_p10 : lw_okq (⟨"LimbRows$Row", "isNegative", "()Z"⟩, 2) := ⟨⟨by decide +kernel, by decide +kernel⟩, List.mem_of_getElem? (i := 24) (by decide +kernel), List.mem_of_getElem? (i := 236) (by decide +kernel), List.mem_of_getElem? (i := 237) (by decide +kernel)⟩
theorem lw_p11 : lw_okq (⟨"LimbRows$Row", "subtractFrom", "(ILLimbRows$Row;)V"⟩, 2) := ⟨⟨by decide +kernel, by decide +kernel⟩, List.mem_of_getElem? (i := 24) (by decide +kernel), List.mem_of_getElem? (i := 247) (by decide +kernel), List.mem_of_getElem? (i := 248) (by decide +kernel)⟩
theorem lw_p12 : lw_okq (⟨"LimbRows$Row", "addProductOf", "(LLimbRows$Row;LLimbRows$Row;)V"⟩, 2) := ⟨⟨by decide +kernel, by decide +kernel⟩, List.mem_of_getElem? (i := 24) (by decide +kernel), List.mem_of_getElem? (i := 262) (by decide +kernel), List.mem_of_getElem? (i := 263) (by decide +kernel)⟩
theorem lw_p13 : lw_okq (⟨"LimbRows$Row", "bitLength", "()I"⟩, 2) := ⟨⟨by decide +kernel, by decide +kernel⟩, List.mem_of_getElem? (i := 24) (by decide +kernel), List.mem_of_getElem? (i := 266) (by decide +kernel), List.mem_of_getElem? (i := 267) (by decide +kernel)⟩
theorem lw_p14 : lw_okq (⟨"LimbRows$Row", "addMultiple", "(IJLLimbRows$Row;)V"⟩, 2) := ⟨⟨by decide +kernel, by decide +kernel⟩, List.mem_of_getElem? (i := 24) (by decide +kernel), List.mem_of_getElem? (i := 275) (by decide +kernel), List.mem_of_getElem? (i := 276) (by decide +kernel)⟩
theorem lw_p15 : lw_okq (⟨"LimbRows$Row", "subtractProductOf", "(LLimbRows$Row;LLimbRows$Row;)V"⟩, 2) := ⟨⟨by decide +kernel, by decide +kernel⟩, List.mem_of_getElem? (i := 24) (by decide +kernel), List.mem_of_getElem? (i := 287) (by decide +kernel), List.mem_of_getElem? (i := 288) (by decide +kernel)⟩
def lw_privs_1 : List (MethodName × Nat) := [(⟨"LimbRows", "rowAt", "(I)LLimbRows$Row;"⟩, 1), (⟨"java/lang/Throwable", "fillInStackTrace", "(I)Ljava/lang/Throwable;"⟩, 6), (⟨"LimbRows$Row", "changeWidth", "(I)Z"⟩, 2), (⟨"LimbRows$Row", "fitsIn", "(I)Z"⟩, 2), (⟨"LimbRows$Row", "limbAt", "(I)I"⟩, 2), (⟨"LimbRows$Row", "keepLong", "(J)Z"⟩, 2), (⟨"LimbRows$Row", "keepRow", "(LLimbRows$Row;)Z"⟩, 2), (⟨"LimbRows$Row", "addFrom", "(ILLimbRows$Row;)V"⟩, 2), (⟨"LimbRows$Row", "addLimbs", "(ILLimbRows$Row;I)V"⟩, 2), (⟨"LimbRows$Row", "signum", "()I"⟩, 2), (⟨"LimbRows$Row", "isNegative", "()Z"⟩, 2), (⟨"LimbRows$Row", "subtractFrom", "(ILLimbRows$Row;)V"⟩, 2), (⟨"LimbRows$Row", "addProductOf", "(LLimbRows$Row;LLimbRows$Row;)V"⟩, 2), (⟨"LimbRows$Row", "bitLength", "()I"⟩, 2), (⟨"LimbRows$Row", "addMultiple", "(IJLLimbRows$Row;)V"⟩, 2), (⟨"LimbRows$Row", "subtractProductOf", "(LLimbRows$Row;LLimbRows$Row;)V"⟩, 2)]
theorem lw_r1 : ∀ q ∈ lw_privs_1, lw_okq q := List.forall_mem_cons.mpr ⟨lw_p0, List.forall_mem_cons.mpr ⟨lw_p1, List.forall_mem_cons.mpr ⟨lw_p2, List.forall_mem_cons.mpr ⟨lw_p3, List.forall_mem_cons.mpr ⟨lw_p4, List.forall_mem_cons.mpr ⟨lw_p5, List.forall_mem_cons.mpr ⟨lw_p6, List.forall_mem_cons.mpr ⟨lw_p7, List.forall_mem_cons.mpr ⟨lw_p8, List.forall_mem_cons.mpr ⟨lw_p9, List.forall_mem_cons.mpr ⟨lw_p10, List.forall_mem_cons.mpr ⟨lw_p11, List.forall_mem_cons.mpr ⟨lw_p12, List.forall_mem_cons.mpr ⟨lw_p13, List.forall_mem_cons.mpr ⟨lw_p14, List.forall_mem_cons.mpr ⟨lw_p15, fun _ h => absurd h List.not_mem_nil⟩⟩⟩⟩⟩⟩⟩⟩⟩⟩⟩⟩⟩⟩⟩⟩
theorem lw_p16 : lw_okq (⟨"LimbRows$Row", "complement", "()V"⟩, 2) := ⟨⟨by decide +kernel, by decide +kernel⟩, List.mem_of_getElem? (i := 24) (by decide +kernel), List.mem_of_getElem? (i := 291) (by decide +kernel), List.mem_of_getElem? (i := 292) (by decide +kernel)⟩
theorem lw_p17 : lw_okq (⟨"LimbRows$Row", "multiplyBy", "(J)V"⟩, 2) := ⟨⟨by decide +kernel, by decide +kernel⟩, List.mem_of_getElem? (i := 24) (by decide +kernel), List.mem_of_getElem? (i := 303) (by decide +kernel), List.mem_of_getElem? (i := 304) (by decide +kernel)⟩
theorem lw_p18 : lw_okq (⟨"LimbRows$Row", "turnRound", "()Z"⟩, 2) := ⟨⟨by decide +kernel, by decide +kernel⟩, List.mem_of_getElem? (i := 24) (by decide +kernel), List.mem_of_getElem? (i := 314) (by decide +kernel), List.mem_of_getElem? (i := 315) (by decide +kernel)⟩
theorem lw_p19 : lw_okq (⟨"LimbRows$Row", "increment", "()V"⟩, 2) := ⟨⟨by decide +kernel, by decide +kernel⟩, List.mem_of_getElem? (i := 24) (by decide +kernel), List.mem_of_getElem? (i := 318) (by decide +kernel), List.mem_of_getElem? (i := 319) (by decide +kernel)⟩
theorem lw_p20 : lw_okq (⟨"LimbRows$Row", "shiftUp", "(I)V"⟩, 2) := ⟨⟨by decide +kernel, by decide +kernel⟩, List.mem_of_getElem? (i := 24) (by decide +kernel), List.mem_of_getElem? (i := 333) (by decide +kernel), List.mem_of_getElem? (i := 334) (by decide +kernel)⟩
theorem lw_p21 : lw_okq (⟨"LimbRows$Row", "pairAt", "(I)J"⟩, 2) := ⟨⟨by decide +kernel, by decide +kernel⟩, List.mem_of_getElem? (i := 24) (by decide +kernel), List.mem_of_getElem? (i := 337) (by decide +kernel), List.mem_of_getElem? (i := 338) (by decide +kernel)⟩
theorem lw_p22 : lw_okq (⟨"LimbRows$Row", "shiftDown", "(I)V"⟩, 2) := ⟨⟨by decide +kernel, by decide +kernel⟩, List.mem_of_getElem? (i := 24) (by decide +kernel), List.mem_of_getElem? (i := 348) (by decide +kernel), List.mem_of_getElem? (i := 349) (by decide +kernel)⟩
theorem lw_p23 : lw_okq (⟨"LimbRows$Row", "roundsUp", "(I)Z"⟩, 2) := ⟨⟨by decide +kernel, by decide +kernel⟩, List.mem_of_getElem? (i := 24) (by decide +kernel), List.mem_of_getElem? (i := 359) (by decide +kernel), List.mem_of_getElem? (i := 360) (by decide +kernel)⟩
theorem lw_p24 : lw_okq (⟨"LimbRows$Row", "bitAt", "(I)I"⟩, 2) := ⟨⟨by decide +kernel, by decide +kernel⟩, List.mem_of_getElem? (i := 24) (by decide +kernel), List.mem_of_getElem? (i := 363) (by decide +kernel), List.mem_of_getElem? (i := 364) (by decide +kernel)⟩
theorem lw_p25 : lw_okq (⟨"LimbRows$Row", "trailingZeros", "()I"⟩, 2) := ⟨⟨by decide +kernel, by decide +kernel⟩, List.mem_of_getElem? (i := 24) (by decide +kernel), List.mem_of_getElem? (i := 367) (by decide +kernel), List.mem_of_getElem? (i := 368) (by decide +kernel)⟩
theorem lw_p26 : lw_okq (⟨"LimbRows$Row", "divideBy", "(J)J"⟩, 2) := ⟨⟨by decide +kernel, by decide +kernel⟩, List.mem_of_getElem? (i := 24) (by decide +kernel), List.mem_of_getElem? (i := 384) (by decide +kernel), List.mem_of_getElem? (i := 385) (by decide +kernel)⟩
theorem lw_p27 : lw_okq (⟨"LimbRows$Row", "divideLimbs", "(J)J"⟩, 2) := ⟨⟨by decide +kernel, by decide +kernel⟩, List.mem_of_getElem? (i := 24) (by decide +kernel), List.mem_of_getElem? (i := 388) (by decide +kernel), List.mem_of_getElem? (i := 389) (by decide +kernel)⟩
theorem lw_p28 : lw_okq (⟨"LimbRows$Row", "divideLimb", "(IJJ)J"⟩, 2) := ⟨⟨by decide +kernel, by decide +kernel⟩, List.mem_of_getElem? (i := 24) (by decide +kernel), List.mem_of_getElem? (i := 392) (by decide +kernel), List.mem_of_getElem? (i := 393) (by decide +kernel)⟩
theorem lw_p29 : lw_okq (⟨"LimbRows$Row", "order", "(LLimbRows$Row;)I"⟩, 2) := ⟨⟨by decide +kernel, by decide +kernel⟩, List.mem_of_getElem? (i := 24) (by decide +kernel), List.mem_of_getElem? (i := 426) (by decide +kernel), List.mem_of_getElem? (i := 427) (by decide +kernel)⟩
theorem lw_p30 : lw_okq (⟨"LimbRowsModel", "refuses", "(I)Z"⟩, 5) := ⟨⟨by decide +kernel, by decide +kernel⟩, List.mem_of_getElem? (i := 436) (by decide +kernel), List.mem_of_getElem? (i := 470) (by decide +kernel), List.mem_of_getElem? (i := 471) (by decide +kernel)⟩
theorem lw_p31 : lw_okq (⟨"LimbRowsModel", "load", "(II)V"⟩, 5) := ⟨⟨by decide +kernel, by decide +kernel⟩, List.mem_of_getElem? (i := 436) (by decide +kernel), List.mem_of_getElem? (i := 474) (by decide +kernel), List.mem_of_getElem? (i := 475) (by decide +kernel)⟩
def lw_privs_2 : List (MethodName × Nat) := [(⟨"LimbRows$Row", "complement", "()V"⟩, 2), (⟨"LimbRows$Row", "multiplyBy", "(J)V"⟩, 2), (⟨"LimbRows$Row", "turnRound", "()Z"⟩, 2), (⟨"LimbRows$Row", "increment", "()V"⟩, 2), (⟨"LimbRows$Row", "shiftUp", "(I)V"⟩, 2), (⟨"LimbRows$Row", "pairAt", "(I)J"⟩, 2), (⟨"LimbRows$Row", "shiftDown", "(I)V"⟩, 2), (⟨"LimbRows$Row", "roundsUp", "(I)Z"⟩, 2), (⟨"LimbRows$Row", "bitAt", "(I)I"⟩, 2), (⟨"LimbRows$Row", "trailingZeros", "()I"⟩, 2), (⟨"LimbRows$Row", "divideBy", "(J)J"⟩, 2), (⟨"LimbRows$Row", "divideLimbs", "(J)J"⟩, 2), (⟨"LimbRows$Row", "divideLimb", "(IJJ)J"⟩, 2), (⟨"LimbRows$Row", "order", "(LLimbRows$Row;)I"⟩, 2), (⟨"LimbRowsModel", "refuses", "(I)Z"⟩, 5), (⟨"LimbRowsModel", "load", "(II)V"⟩, 5)]
theorem lw_r2 : ∀ q ∈ lw_privs_2, lw_okq q := List.forall_mem_cons.mpr ⟨lw_p16, List.forall_mem_cons.mpr ⟨lw_p17, List.forall_mem_cons.mpr ⟨lw_p18, List.forall_mem_cons.mpr ⟨lw_p19, List.forall_mem_cons.mpr ⟨lw_p20, List.forall_mem_cons.mpr ⟨lw_p21, List.forall_mem_cons.mpr ⟨lw_p22, List.forall_mem_cons.mpr ⟨lw_p23, List.forall_mem_cons.mpr ⟨lw_p24, List.forall_mem_cons.mpr ⟨lw_p25, List.forall_mem_cons.mpr ⟨lw_p26, List.forall_mem_cons.mpr ⟨lw_p27, List.forall_mem_cons.mpr ⟨lw_p28, List.forall_mem_cons.mpr ⟨lw_p29, List.forall_mem_cons.mpr ⟨lw_p30, List.forall_mem_cons.mpr ⟨lw_p31, fun _ h => absurd h List.not_mem_nil⟩⟩⟩⟩⟩⟩⟩⟩⟩⟩⟩⟩⟩⟩⟩⟩
theorem lw_p32 : lw_okq (⟨"LimbRowsModel", "clear", "(I)V"⟩, 5) := ⟨⟨by decide +kernel, by decide +kernel⟩, List.mem_of_getElem? (i := 436) (by decide +kernel), List.mem_of_getElem? (i := 478) (by decide +kernel), List.mem_of_getElem? (i := 479) (by decide +kernel)⟩
theorem lw_p33 : lw_okq (⟨"LimbRowsModel", "isZero", "(I)Z"⟩, 5) := ⟨⟨by decide +kernel, by decide +kernel⟩, List.mem_of_getElem? (i := 436) (by decide +kernel), List.mem_of_getElem? (i := 484) (by decide +kernel), List.mem_of_getElem? (i := 485) (by decide +kernel)⟩
theorem lw_p34 : lw_okq (⟨"LimbRowsModel", "store", "(II)Z"⟩, 5) := ⟨⟨by decide +kernel, by decide +kernel⟩, List.mem_of_getElem? (i := 436) (by decide +kernel), List.mem_of_getElem? (i := 488) (by decide +kernel), List.mem_of_getElem? (i := 489) (by decide +kernel)⟩
theorem lw_p35 : lw_okq (⟨"LimbRowsModel", "lengthOf", "(I)I"⟩, 5) := ⟨⟨by decide +kernel, by decide +kernel⟩, List.mem_of_getElem? (i := 436) (by decide +kernel), List.mem_of_getElem? (i := 492) (by decide +kernel), List.mem_of_getElem? (i := 493) (by decide +kernel)⟩
theorem lw_p36 : lw_okq (⟨"LimbRowsModel", "bits", "(I)I"⟩, 5) := ⟨⟨by decide +kernel, by decide +kernel⟩, List.mem_of_getElem? (i := 436) (by decide +kernel), List.mem_of_getElem? (i := 496) (by decide +kernel), List.mem_of_getElem? (i := 497) (by decide +kernel)⟩
theorem lw_p37 : lw_okq (⟨"LimbRowsModel", "zerosOf", "(I)I"⟩, 5) := ⟨⟨by decide +kernel, by decide +kernel⟩, List.mem_of_getElem? (i := 436) (by decide +kernel), List.mem_of_getElem? (i := 500) (by decide +kernel), List.mem_of_getElem? (i := 501) (by decide +kernel)⟩
theorem lw_p38 : lw_okq (⟨"LimbRowsModel", "bit", "(II)I"⟩, 5) := ⟨⟨by decide +kernel, by decide +kernel⟩, List.mem_of_getElem? (i := 436) (by decide +kernel), List.mem_of_getElem? (i := 504) (by decide +kernel), List.mem_of_getElem? (i := 505) (by decide +kernel)⟩
theorem lw_p39 : lw_okq (⟨"LimbRowsModel", "loadLong", "(IJ)V"⟩, 5) := ⟨⟨by decide +kernel, by decide +kernel⟩, List.mem_of_getElem? (i := 436) (by decide +kernel), List.mem_of_getElem? (i := 516) (by decide +kernel), List.mem_of_getElem? (i := 517) (by decide +kernel)⟩
theorem lw_p40 : lw_okq (⟨"LimbRowsModel", "limbOf", "(II)I"⟩, 5) := ⟨⟨by decide +kernel, by decide +kernel⟩, List.mem_of_getElem? (i := 436) (by decide +kernel), List.mem_of_getElem? (i := 525) (by decide +kernel), List.mem_of_getElem? (i := 526) (by decide +kernel)⟩
theorem lw_p41 : lw_okq (⟨"LimbRowsModel", "signOf", "(I)I"⟩, 5) := ⟨⟨by decide +kernel, by decide +kernel⟩, List.mem_of_getElem? (i := 436) (by decide +kernel), List.mem_of_getElem? (i := 533) (by decide +kernel), List.mem_of_getElem? (i := 534) (by decide +kernel)⟩
theorem lw_p42 : lw_okq (⟨"LimbRowsModel", "together", "(IIZ)I"⟩, 5) := ⟨⟨by decide +kernel, by decide +kernel⟩, List.mem_of_getElem? (i := 436) (by decide +kernel), List.mem_of_getElem? (i := 545) (by decide +kernel), List.mem_of_getElem? (i := 546) (by decide +kernel)⟩
theorem lw_p43 : lw_okq (⟨"LimbRowsModel", "combine", "(IIZ)V"⟩, 5) := ⟨⟨by decide +kernel, by decide +kernel⟩, List.mem_of_getElem? (i := 436) (by decide +kernel), List.mem_of_getElem? (i := 549) (by decide +kernel), List.mem_of_getElem? (i := 550) (by decide +kernel)⟩
theorem lw_p44 : lw_okq (⟨"LimbRowsModel", "compareSizes", "(II)I"⟩, 5) := ⟨⟨by decide +kernel, by decide +kernel⟩, List.mem_of_getElem? (i := 436) (by decide +kernel), List.mem_of_getElem? (i := 553) (by decide +kernel), List.mem_of_getElem? (i := 554) (by decide +kernel)⟩
theorem lw_p45 : lw_okq (⟨"LimbRowsModel", "kept", "(II)I"⟩, 5) := ⟨⟨by decide +kernel, by decide +kernel⟩, List.mem_of_getElem? (i := 436) (by decide +kernel), List.mem_of_getElem? (i := 557) (by decide +kernel), List.mem_of_getElem? (i := 558) (by decide +kernel)⟩
theorem lw_p46 : lw_okq (⟨"LimbRowsModel", "product", "(IIIZ)I"⟩, 5) := ⟨⟨by decide +kernel, by decide +kernel⟩, List.mem_of_getElem? (i := 436) (by decide +kernel), List.mem_of_getElem? (i := 569) (by decide +kernel), List.mem_of_getElem? (i := 570) (by decide +kernel)⟩
theorem lw_p47 : lw_okq (⟨"LimbRowsModel", "multiply", "()V"⟩, 5) := ⟨⟨by decide +kernel, by decide +kernel⟩, List.mem_of_getElem? (i := 436) (by decide +kernel), List.mem_of_getElem? (i := 573) (by decide +kernel), List.mem_of_getElem? (i := 574) (by decide +kernel)⟩
def lw_privs_3 : List (MethodName × Nat) := [(⟨"LimbRowsModel", "clear", "(I)V"⟩, 5), (⟨"LimbRowsModel", "isZero", "(I)Z"⟩, 5), (⟨"LimbRowsModel", "store", "(II)Z"⟩, 5), (⟨"LimbRowsModel", "lengthOf", "(I)I"⟩, 5), (⟨"LimbRowsModel", "bits", "(I)I"⟩, 5), (⟨"LimbRowsModel", "zerosOf", "(I)I"⟩, 5), (⟨"LimbRowsModel", "bit", "(II)I"⟩, 5), (⟨"LimbRowsModel", "loadLong", "(IJ)V"⟩, 5), (⟨"LimbRowsModel", "limbOf", "(II)I"⟩, 5), (⟨"LimbRowsModel", "signOf", "(I)I"⟩, 5), (⟨"LimbRowsModel", "together", "(IIZ)I"⟩, 5), (⟨"LimbRowsModel", "combine", "(IIZ)V"⟩, 5), (⟨"LimbRowsModel", "compareSizes", "(II)I"⟩, 5), (⟨"LimbRowsModel", "kept", "(II)I"⟩, 5), (⟨"LimbRowsModel", "product", "(IIIZ)I"⟩, 5), (⟨"LimbRowsModel", "multiply", "()V"⟩, 5)]
theorem lw_r3 : ∀ q ∈ lw_privs_3, lw_okq q := List.forall_mem_cons.mpr ⟨lw_p32, List.forall_mem_cons.mpr ⟨lw_p33, List.forall_mem_cons.mpr ⟨lw_p34, List.forall_mem_cons.mpr ⟨lw_p35, List.forall_mem_cons.mpr ⟨lw_p36, List.forall_mem_cons.mpr ⟨lw_p37, List.forall_mem_cons.mpr ⟨lw_p38, List.forall_mem_cons.mpr ⟨lw_p39, List.forall_mem_cons.mpr ⟨lw_p40, List.forall_mem_cons.mpr ⟨lw_p41, List.forall_mem_cons.mpr ⟨lw_p42, List.forall_mem_cons.mpr ⟨lw_p43, List.forall_mem_cons.mpr ⟨lw_p44, List.forall_mem_cons.mpr ⟨lw_p45, List.forall_mem_cons.mpr ⟨lw_p46, List.forall_mem_cons.mpr ⟨lw_p47, fun _ h => absurd h List.not_mem_nil⟩⟩⟩⟩⟩⟩⟩⟩⟩⟩⟩⟩⟩⟩⟩⟩
theorem lw_p48 : lw_okq (⟨"LimbRowsModel", "halve", "(IZ)V"⟩, 5) := ⟨⟨by decide +kernel, by decide +kernel⟩, List.mem_of_getElem? (i := 436) (by decide +kernel), List.mem_of_getElem? (i := 598) (by decide +kernel), List.mem_of_getElem? (i := 599) (by decide +kernel)⟩
def lw_privs_4 : List (MethodName × Nat) := [(⟨"LimbRowsModel", "halve", "(IZ)V"⟩, 5)]
theorem lw_r4 : ∀ q ∈ lw_privs_4, lw_okq q := List.forall_mem_cons.mpr ⟨lw_p48, fun _ h => absurd h List.not_mem_nil⟩
def lw_privs : List (MethodName × Nat) := lw_privs_1 ++ (lw_privs_2 ++ (lw_privs_3 ++ (lw_privs_4)))
def lw_tbl : List Cond := k2_sels lw_privs ++ tables_1
theorem lw_privs_ok : ∀ q ∈ lw_privs, lw_okq q := by
  show ∀ q ∈ lw_privs_1 ++ (lw_privs_2 ++ (lw_privs_3 ++ (lw_privs_4))), lw_okq q
  exact List.forall_mem_append.mpr ⟨lw_r1, List.forall_mem_append.mpr ⟨lw_r2, List.forall_mem_append.mpr ⟨lw_r3, lw_r4⟩⟩⟩

/-! names of methods -/
abbrev b_X1_init : ByteArray := prog_1_method_1_code
def y_X1_init : MethodName := ⟨"LimbRows", "<init>", "()V"⟩
abbrev b_X0_init : ByteArray := prog_2_method_1_code
def y_X0_init : MethodName := ⟨"LimbRows$Row", "<init>", "()V"⟩
abbrev b_L_widen : ByteArray := method_3_code
def y_L_widen : MethodName := ⟨"LimbRowsLaw", "widen", "(LLimbRows;II[J)I"⟩
abbrev b_X1_widen : ByteArray := prog_1_method_2_code
def y_X1_widen : MethodName := ⟨"LimbRows", "widen", "(II)Z"⟩
abbrev b_X1_rowAt : ByteArray := prog_1_method_22_code
def y_X1_rowAt : MethodName := ⟨"LimbRows", "rowAt", "(I)LLimbRows$Row;"⟩
abbrev b_X0_changeWidth : ByteArray := prog_2_method_7_code
def y_X0_changeWidth : MethodName := ⟨"LimbRows$Row", "changeWidth", "(I)Z"⟩
abbrev b_X0_fitsIn : ByteArray := prog_2_method_6_code
def y_X0_fitsIn : MethodName := ⟨"LimbRows$Row", "fitsIn", "(I)Z"⟩
abbrev b_X0_limbAt : ByteArray := prog_2_method_4_code
def y_X0_limbAt : MethodName := ⟨"LimbRows$Row", "limbAt", "(I)I"⟩
abbrev b_JA_copyOf : ByteArray := prog_16_method_123_code
def y_JA_copyOf : MethodName := ⟨"java/util/Arrays", "copyOf", "([II)[I"⟩
abbrev b_JM_min : ByteArray := prog_11_method_69_code
def y_JM_min : MethodName := ⟨"java/lang/Math", "min", "(II)I"⟩
abbrev b_L_width : ByteArray := method_4_code
def y_L_width : MethodName := ⟨"LimbRowsLaw", "width", "(LLimbRows;I[J)I"⟩
abbrev b_X1_width : ByteArray := prog_1_method_3_code
def y_X1_width : MethodName := ⟨"LimbRows", "width", "(I)I"⟩
abbrev b_L_set : ByteArray := method_5_code
def y_L_set : MethodName := ⟨"LimbRowsLaw", "set", "(LLimbRows;IJ[J)I"⟩
abbrev b_X1_set : ByteArray := prog_1_method_4_code
def y_X1_set : MethodName := ⟨"LimbRows", "set", "(IJ)Z"⟩
abbrev b_X0_keepLong : ByteArray := prog_2_method_8_code
def y_X0_keepLong : MethodName := ⟨"LimbRows$Row", "keepLong", "(J)Z"⟩
abbrev b_L_put : ByteArray := method_6_code
def y_L_put : MethodName := ⟨"LimbRowsLaw", "put", "(LLimbRows;III[J)I"⟩
abbrev b_X1_put : ByteArray := prog_1_method_5_code
def y_X1_put : MethodName := ⟨"LimbRows", "put", "(III)I"⟩
abbrev b_L_limb : ByteArray := method_7_code
def y_L_limb : MethodName := ⟨"LimbRowsLaw", "limb", "(LLimbRows;II[J)I"⟩
abbrev b_X1_limb : ByteArray := prog_1_method_6_code
def y_X1_limb : MethodName := ⟨"LimbRows", "limb", "(II)I"⟩
abbrev b_L_copy : ByteArray := method_8_code
def y_L_copy : MethodName := ⟨"LimbRowsLaw", "copy", "(LLimbRows;II[J)I"⟩
abbrev b_X1_copy : ByteArray := prog_1_method_7_code
def y_X1_copy : MethodName := ⟨"LimbRows", "copy", "(II)Z"⟩
abbrev b_X0_keepRow : ByteArray := prog_2_method_9_code
def y_X0_keepRow : MethodName := ⟨"LimbRows$Row", "keepRow", "(LLimbRows$Row;)Z"⟩
abbrev b_L_add : ByteArray := method_9_code
def y_L_add : MethodName := ⟨"LimbRowsLaw", "add", "(LLimbRows;II[J)I"⟩
abbrev b_X1_add : ByteArray := prog_1_method_8_code
def y_X1_add : MethodName := ⟨"LimbRows", "add", "(II)I"⟩
abbrev b_X0_addFrom : ByteArray := prog_2_method_10_code
def y_X0_addFrom : MethodName := ⟨"LimbRows$Row", "addFrom", "(ILLimbRows$Row;)V"⟩
abbrev b_X0_addLimbs : ByteArray := prog_2_method_12_code
def y_X0_addLimbs : MethodName := ⟨"LimbRows$Row", "addLimbs", "(ILLimbRows$Row;I)V"⟩
abbrev b_X0_unsigned : ByteArray := prog_2_method_2_code
def y_X0_unsigned : MethodName := ⟨"LimbRows$Row", "unsigned", "(I)J"⟩
abbrev b_X0_signum : ByteArray := prog_2_method_29_code
def y_X0_signum : MethodName := ⟨"LimbRows$Row", "signum", "()I"⟩
abbrev b_X0_isNegative : ByteArray := prog_2_method_3_code
def y_X0_isNegative : MethodName := ⟨"LimbRows$Row", "isNegative", "()Z"⟩
abbrev b_L_subtract : ByteArray := method_10_code
def y_L_subtract : MethodName := ⟨"LimbRowsLaw", "subtract", "(LLimbRows;II[J)I"⟩
abbrev b_X1_subtract : ByteArray := prog_1_method_9_code
def y_X1_subtract : MethodName := ⟨"LimbRows", "subtract", "(II)I"⟩
abbrev b_X0_subtractFrom : ByteArray := prog_2_method_11_code
def y_X0_subtractFrom : MethodName := ⟨"LimbRows$Row", "subtractFrom", "(ILLimbRows$Row;)V"⟩
abbrev b_L_addProduct : ByteArray := method_11_code
def y_L_addProduct : MethodName := ⟨"LimbRowsLaw", "addProduct", "(LLimbRows;III[J)I"⟩
abbrev b_X1_addProduct : ByteArray := prog_1_method_10_code
def y_X1_addProduct : MethodName := ⟨"LimbRows", "addProduct", "(III)I"⟩
abbrev b_X1_refuseOwnFactor : ByteArray := prog_1_method_23_code
def y_X1_refuseOwnFactor : MethodName := ⟨"LimbRows", "refuseOwnFactor", "(III)V"⟩
abbrev b_X0_addProductOf : ByteArray := prog_2_method_13_code
def y_X0_addProductOf : MethodName := ⟨"LimbRows$Row", "addProductOf", "(LLimbRows$Row;LLimbRows$Row;)V"⟩
abbrev b_X0_bitLength : ByteArray := prog_2_method_28_code
def y_X0_bitLength : MethodName := ⟨"LimbRows$Row", "bitLength", "()I"⟩
abbrev b_JI_numberOfLeadingZeros : ByteArray := prog_9_method_47_code
def y_JI_numberOfLeadingZeros : MethodName := ⟨"java/lang/Integer", "numberOfLeadingZeros", "(I)I"⟩
abbrev b_X0_addMultiple : ByteArray := prog_2_method_14_code
def y_X0_addMultiple : MethodName := ⟨"LimbRows$Row", "addMultiple", "(IJLLimbRows$Row;)V"⟩
abbrev b_L_subtractProduct : ByteArray := method_12_code
def y_L_subtractProduct : MethodName := ⟨"LimbRowsLaw", "subtractProduct", "(LLimbRows;III[J)I"⟩
abbrev b_X1_subtractProduct : ByteArray := prog_1_method_11_code
def y_X1_subtractProduct : MethodName := ⟨"LimbRows", "subtractProduct", "(III)I"⟩
abbrev b_X0_subtractProductOf : ByteArray := prog_2_method_15_code
def y_X0_subtractProductOf : MethodName := ⟨"LimbRows$Row", "subtractProductOf", "(LLimbRows$Row;LLimbRows$Row;)V"⟩
abbrev b_X0_complement : ByteArray := prog_2_method_16_code
def y_X0_complement : MethodName := ⟨"LimbRows$Row", "complement", "()V"⟩
abbrev b_L_times : ByteArray := method_13_code
def y_L_times : MethodName := ⟨"LimbRowsLaw", "times", "(LLimbRows;IJ[J)I"⟩
abbrev b_X1_times : ByteArray := prog_1_method_12_code
def y_X1_times : MethodName := ⟨"LimbRows", "times", "(IJ)I"⟩
abbrev b_X0_multiplyBy : ByteArray := prog_2_method_18_code
def y_X0_multiplyBy : MethodName := ⟨"LimbRows$Row", "multiplyBy", "(J)V"⟩
abbrev b_L_negate : ByteArray := method_14_code
def y_L_negate : MethodName := ⟨"LimbRowsLaw", "negate", "(LLimbRows;I[J)I"⟩
abbrev b_X1_negate : ByteArray := prog_1_method_13_code
def y_X1_negate : MethodName := ⟨"LimbRows", "negate", "(I)Z"⟩
abbrev b_X0_turnRound : ByteArray := prog_2_method_19_code
def y_X0_turnRound : MethodName := ⟨"LimbRows$Row", "turnRound", "()Z"⟩
abbrev b_X0_increment : ByteArray := prog_2_method_17_code
def y_X0_increment : MethodName := ⟨"LimbRows$Row", "increment", "()V"⟩
abbrev b_L_left : ByteArray := method_15_code
def y_L_left : MethodName := ⟨"LimbRowsLaw", "left", "(LLimbRows;II[J)I"⟩
abbrev b_X1_left : ByteArray := prog_1_method_14_code
def y_X1_left : MethodName := ⟨"LimbRows", "left", "(II)I"⟩
abbrev b_X1_refuseShift : ByteArray := prog_1_method_24_code
def y_X1_refuseShift : MethodName := ⟨"LimbRows", "refuseShift", "(I)V"⟩
abbrev b_X0_shiftUp : ByteArray := prog_2_method_21_code
def y_X0_shiftUp : MethodName := ⟨"LimbRows$Row", "shiftUp", "(I)V"⟩
abbrev b_X0_pairAt : ByteArray := prog_2_method_20_code
def y_X0_pairAt : MethodName := ⟨"LimbRows$Row", "pairAt", "(I)J"⟩
abbrev b_L_right : ByteArray := method_16_code
def y_L_right : MethodName := ⟨"LimbRowsLaw", "right", "(LLimbRows;II[J)I"⟩
abbrev b_X1_right : ByteArray := prog_1_method_15_code
def y_X1_right : MethodName := ⟨"LimbRows", "right", "(II)I"⟩
abbrev b_X0_shiftDown : ByteArray := prog_2_method_22_code
def y_X0_shiftDown : MethodName := ⟨"LimbRows$Row", "shiftDown", "(I)V"⟩
abbrev b_L_nearest : ByteArray := method_17_code
def y_L_nearest : MethodName := ⟨"LimbRowsLaw", "nearest", "(LLimbRows;II[J)I"⟩
abbrev b_X1_nearest : ByteArray := prog_1_method_16_code
def y_X1_nearest : MethodName := ⟨"LimbRows", "nearest", "(II)I"⟩
abbrev b_X0_roundsUp : ByteArray := prog_2_method_23_code
def y_X0_roundsUp : MethodName := ⟨"LimbRows$Row", "roundsUp", "(I)Z"⟩
abbrev b_X0_bitAt : ByteArray := prog_2_method_5_code
def y_X0_bitAt : MethodName := ⟨"LimbRows$Row", "bitAt", "(I)I"⟩
abbrev b_X0_trailingZeros : ByteArray := prog_2_method_27_code
def y_X0_trailingZeros : MethodName := ⟨"LimbRows$Row", "trailingZeros", "()I"⟩
abbrev b_JI_numberOfTrailingZeros : ByteArray := prog_9_method_48_code
def y_JI_numberOfTrailingZeros : MethodName := ⟨"java/lang/Integer", "numberOfTrailingZeros", "(I)I"⟩
abbrev b_L_divide : ByteArray := method_18_code
def y_L_divide : MethodName := ⟨"LimbRowsLaw", "divide", "(LLimbRows;IJ[J)I"⟩
abbrev b_X1_divide : ByteArray := prog_1_method_17_code
def y_X1_divide : MethodName := ⟨"LimbRows", "divide", "(IJ)J"⟩
abbrev b_X0_divideBy : ByteArray := prog_2_method_24_code
def y_X0_divideBy : MethodName := ⟨"LimbRows$Row", "divideBy", "(J)J"⟩
abbrev b_X0_divideLimbs : ByteArray := prog_2_method_25_code
def y_X0_divideLimbs : MethodName := ⟨"LimbRows$Row", "divideLimbs", "(J)J"⟩
abbrev b_X0_divideLimb : ByteArray := prog_2_method_26_code
def y_X0_divideLimb : MethodName := ⟨"LimbRows$Row", "divideLimb", "(IJJ)J"⟩
abbrev b_L_zeros : ByteArray := method_19_code
def y_L_zeros : MethodName := ⟨"LimbRowsLaw", "zeros", "(LLimbRows;I[J)I"⟩
abbrev b_X1_zeros : ByteArray := prog_1_method_18_code
def y_X1_zeros : MethodName := ⟨"LimbRows", "zeros", "(I)I"⟩
abbrev b_L_length : ByteArray := method_20_code
def y_L_length : MethodName := ⟨"LimbRowsLaw", "length", "(LLimbRows;I[J)I"⟩
abbrev b_X1_length : ByteArray := prog_1_method_19_code
def y_X1_length : MethodName := ⟨"LimbRows", "length", "(I)I"⟩
abbrev b_L_sign : ByteArray := method_21_code
def y_L_sign : MethodName := ⟨"LimbRowsLaw", "sign", "(LLimbRows;I[J)I"⟩
abbrev b_X1_sign : ByteArray := prog_1_method_20_code
def y_X1_sign : MethodName := ⟨"LimbRows", "sign", "(I)I"⟩
abbrev b_L_compare : ByteArray := method_22_code
def y_L_compare : MethodName := ⟨"LimbRowsLaw", "compare", "(LLimbRows;II[J)I"⟩
abbrev b_X1_compare : ByteArray := prog_1_method_21_code
def y_X1_compare : MethodName := ⟨"LimbRows", "compare", "(II)I"⟩
abbrev b_X0_order : ByteArray := prog_2_method_30_code
def y_X0_order : MethodName := ⟨"LimbRows$Row", "order", "(LLimbRows$Row;)I"⟩
abbrev b_JM_max : ByteArray := prog_11_method_65_code
def y_JM_max : MethodName := ⟨"java/lang/Math", "max", "(II)I"⟩
abbrev b_JL_compare : ByteArray := prog_10_method_42_code
def y_JL_compare : MethodName := ⟨"java/lang/Long", "compare", "(JJ)I"⟩
abbrev b_X2_init : ByteArray := prog_4_method_1_code
def y_X2_init : MethodName := ⟨"LimbRowsModel", "<init>", "()V"⟩
abbrev b_X2_thrown : ByteArray := prog_4_method_2_code
def y_X2_thrown : MethodName := ⟨"LimbRowsModel", "thrown", "()I"⟩
abbrev b_X2_widen : ByteArray := prog_4_method_18_code
def y_X2_widen : MethodName := ⟨"LimbRowsModel", "widen", "(II)Z"⟩
abbrev b_X2_isRow : ByteArray := prog_4_method_4_code
def y_X2_isRow : MethodName := ⟨"LimbRowsModel", "isRow", "(I)Z"⟩
abbrev b_X2_refuses : ByteArray := prog_4_method_3_code
def y_X2_refuses : MethodName := ⟨"LimbRowsModel", "refuses", "(I)Z"⟩
abbrev b_X2_load : ByteArray := prog_4_method_7_code
def y_X2_load : MethodName := ⟨"LimbRowsModel", "load", "(II)V"⟩
abbrev b_X2_clear : ByteArray := prog_4_method_5_code
def y_X2_clear : MethodName := ⟨"LimbRowsModel", "clear", "(I)V"⟩
abbrev b_X2_isZero : ByteArray := prog_4_method_6_code
def y_X2_isZero : MethodName := ⟨"LimbRowsModel", "isZero", "(I)Z"⟩
abbrev b_X2_store : ByteArray := prog_4_method_13_code
def y_X2_store : MethodName := ⟨"LimbRowsModel", "store", "(II)Z"⟩
abbrev b_X2_lengthOf : ByteArray := prog_4_method_12_code
def y_X2_lengthOf : MethodName := ⟨"LimbRowsModel", "lengthOf", "(I)I"⟩
abbrev b_X2_bits : ByteArray := prog_4_method_9_code
def y_X2_bits : MethodName := ⟨"LimbRowsModel", "bits", "(I)I"⟩
abbrev b_X2_zerosOf : ByteArray := prog_4_method_11_code
def y_X2_zerosOf : MethodName := ⟨"LimbRowsModel", "zerosOf", "(I)I"⟩
abbrev b_X2_bit : ByteArray := prog_4_method_10_code
def y_X2_bit : MethodName := ⟨"LimbRowsModel", "bit", "(II)I"⟩
abbrev b_X2_width : ByteArray := prog_4_method_19_code
def y_X2_width : MethodName := ⟨"LimbRowsModel", "width", "(I)I"⟩
abbrev b_X2_set : ByteArray := prog_4_method_20_code
def y_X2_set : MethodName := ⟨"LimbRowsModel", "set", "(IJ)Z"⟩
abbrev b_X2_loadLong : ByteArray := prog_4_method_8_code
def y_X2_loadLong : MethodName := ⟨"LimbRowsModel", "loadLong", "(IJ)V"⟩
abbrev b_X2_put : ByteArray := prog_4_method_22_code
def y_X2_put : MethodName := ⟨"LimbRowsModel", "put", "(III)I"⟩
abbrev b_X2_limbOf : ByteArray := prog_4_method_21_code
def y_X2_limbOf : MethodName := ⟨"LimbRowsModel", "limbOf", "(II)I"⟩
abbrev b_X2_limb : ByteArray := prog_4_method_23_code
def y_X2_limb : MethodName := ⟨"LimbRowsModel", "limb", "(II)I"⟩
abbrev b_X2_signOf : ByteArray := prog_4_method_14_code
def y_X2_signOf : MethodName := ⟨"LimbRowsModel", "signOf", "(I)I"⟩
abbrev b_X2_copy : ByteArray := prog_4_method_24_code
def y_X2_copy : MethodName := ⟨"LimbRowsModel", "copy", "(II)Z"⟩
abbrev b_X2_add : ByteArray := prog_4_method_27_code
def y_X2_add : MethodName := ⟨"LimbRowsModel", "add", "(II)I"⟩
abbrev b_X2_together : ByteArray := prog_4_method_26_code
def y_X2_together : MethodName := ⟨"LimbRowsModel", "together", "(IIZ)I"⟩
abbrev b_X2_combine : ByteArray := prog_4_method_16_code
def y_X2_combine : MethodName := ⟨"LimbRowsModel", "combine", "(IIZ)V"⟩
abbrev b_X2_compareSizes : ByteArray := prog_4_method_15_code
def y_X2_compareSizes : MethodName := ⟨"LimbRowsModel", "compareSizes", "(II)I"⟩
abbrev b_X2_kept : ByteArray := prog_4_method_25_code
def y_X2_kept : MethodName := ⟨"LimbRowsModel", "kept", "(II)I"⟩
abbrev b_X2_subtract : ByteArray := prog_4_method_28_code
def y_X2_subtract : MethodName := ⟨"LimbRowsModel", "subtract", "(II)I"⟩
abbrev b_X2_addProduct : ByteArray := prog_4_method_30_code
def y_X2_addProduct : MethodName := ⟨"LimbRowsModel", "addProduct", "(III)I"⟩
abbrev b_X2_product : ByteArray := prog_4_method_29_code
def y_X2_product : MethodName := ⟨"LimbRowsModel", "product", "(IIIZ)I"⟩
abbrev b_X2_multiply : ByteArray := prog_4_method_17_code
def y_X2_multiply : MethodName := ⟨"LimbRowsModel", "multiply", "()V"⟩
abbrev b_X2_subtractProduct : ByteArray := prog_4_method_31_code
def y_X2_subtractProduct : MethodName := ⟨"LimbRowsModel", "subtractProduct", "(III)I"⟩
abbrev b_X2_times : ByteArray := prog_4_method_32_code
def y_X2_times : MethodName := ⟨"LimbRowsModel", "times", "(IJ)I"⟩
abbrev b_X2_negate : ByteArray := prog_4_method_33_code
def y_X2_negate : MethodName := ⟨"LimbRowsModel", "negate", "(I)Z"⟩
abbrev b_X2_left : ByteArray := prog_4_method_34_code
def y_X2_left : MethodName := ⟨"LimbRowsModel", "left", "(II)I"⟩
abbrev b_X2_right : ByteArray := prog_4_method_36_code
def y_X2_right : MethodName := ⟨"LimbRowsModel", "right", "(II)I"⟩
abbrev b_X2_halve : ByteArray := prog_4_method_35_code
def y_X2_halve : MethodName := ⟨"LimbRowsModel", "halve", "(IZ)V"⟩
abbrev b_X2_nearest : ByteArray := prog_4_method_37_code
def y_X2_nearest : MethodName := ⟨"LimbRowsModel", "nearest", "(II)I"⟩
abbrev b_X2_divide : ByteArray := prog_4_method_38_code
def y_X2_divide : MethodName := ⟨"LimbRowsModel", "divide", "(IJ)J"⟩
abbrev b_X2_zeros : ByteArray := prog_4_method_39_code
def y_X2_zeros : MethodName := ⟨"LimbRowsModel", "zeros", "(I)I"⟩
abbrev b_X2_length : ByteArray := prog_4_method_40_code
def y_X2_length : MethodName := ⟨"LimbRowsModel", "length", "(I)I"⟩
abbrev b_X2_sign : ByteArray := prog_4_method_41_code
def y_X2_sign : MethodName := ⟨"LimbRowsModel", "sign", "(I)I"⟩
abbrev b_X2_compare : ByteArray := prog_4_method_42_code
def y_X2_compare : MethodName := ⟨"LimbRowsModel", "compare", "(II)I"⟩
end
section
/-! the words that a warmer table keeps, each by its place in lw_tbl -/
def gw : List Cond := lw_tbl.filter goodWord
theorem gw_mem {w : Cond} (k : Nat) (h : lw_tbl[k]? = some w) (hg : goodWord w = true) : w ∈ gw := List.mem_filter.mpr ⟨List.mem_of_getElem? h, hg⟩
theorem gw_tbl {w : Cond} (h : w ∈ gw) : w ∈ lw_tbl := (List.mem_filter.mp h).1
theorem gw_good : GoodIn gw gw := fun w h => ⟨h, good_of_word (List.mem_filter.mp h).2⟩
theorem gw_call {c : Cond} (h : c ∈ gw) : GoodIn gw (c :: gw) := fun w hw => (List.mem_cons.mp hw).elim (fun e => by rw [e]; exact gw_good _ h) (gw_good w)
theorem k_0 : (.selects "LimbRows" y_X1_rowAt y_X1_rowAt : Cond) ∈ gw := gw_mem 0 (by decide +kernel) (by decide +kernel)
theorem k_1 : (.selects "java/lang/Throwable" ⟨"java/lang/Throwable", "fillInStackTrace", "(I)Ljava/lang/Throwable;"⟩ ⟨"java/lang/Throwable", "fillInStackTrace", "(I)Ljava/lang/Throwable;"⟩ : Cond) ∈ gw := gw_mem 1 (by decide +kernel) (by decide +kernel)
theorem k_2 : (.selects "LimbRows$Row" y_X0_changeWidth y_X0_changeWidth : Cond) ∈ gw := gw_mem 2 (by decide +kernel) (by decide +kernel)
theorem k_3 : (.selects "LimbRows$Row" y_X0_fitsIn y_X0_fitsIn : Cond) ∈ gw := gw_mem 3 (by decide +kernel) (by decide +kernel)
theorem k_4 : (.selects "LimbRows$Row" y_X0_limbAt y_X0_limbAt : Cond) ∈ gw := gw_mem 4 (by decide +kernel) (by decide +kernel)
theorem k_5 : (.selects "LimbRows$Row" y_X0_keepLong y_X0_keepLong : Cond) ∈ gw := gw_mem 5 (by decide +kernel) (by decide +kernel)
theorem k_6 : (.selects "LimbRows$Row" y_X0_keepRow y_X0_keepRow : Cond) ∈ gw := gw_mem 6 (by decide +kernel) (by decide +kernel)
theorem k_7 : (.selects "LimbRows$Row" y_X0_addFrom y_X0_addFrom : Cond) ∈ gw := gw_mem 7 (by decide +kernel) (by decide +kernel)
theorem k_8 : (.selects "LimbRows$Row" y_X0_addLimbs y_X0_addLimbs : Cond) ∈ gw := gw_mem 8 (by decide +kernel) (by decide +kernel)
theorem k_9 : (.selects "LimbRows$Row" y_X0_signum y_X0_signum : Cond) ∈ gw := gw_mem 9 (by decide +kernel) (by decide +kernel)
theorem k_10 : (.selects "LimbRows$Row" y_X0_isNegative y_X0_isNegative : Cond) ∈ gw := gw_mem 10 (by decide +kernel) (by decide +kernel)
theorem k_11 : (.selects "LimbRows$Row" y_X0_subtractFrom y_X0_subtractFrom : Cond) ∈ gw := gw_mem 11 (by decide +kernel) (by decide +kernel)
theorem k_12 : (.selects "LimbRows$Row" y_X0_addProductOf y_X0_addProductOf : Cond) ∈ gw := gw_mem 12 (by decide +kernel) (by decide +kernel)
theorem k_13 : (.selects "LimbRows$Row" y_X0_bitLength y_X0_bitLength : Cond) ∈ gw := gw_mem 13 (by decide +kernel) (by decide +kernel)
theorem k_14 : (.selects "LimbRows$Row" y_X0_addMultiple y_X0_addMultiple : Cond) ∈ gw := gw_mem 14 (by decide +kernel) (by decide +kernel)
theorem k_15 : (.selects "LimbRows$Row" y_X0_subtractProductOf y_X0_subtractProductOf : Cond) ∈ gw := gw_mem 15 (by decide +kernel) (by decide +kernel)
theorem k_16 : (.selects "LimbRows$Row" y_X0_complement y_X0_complement : Cond) ∈ gw := gw_mem 16 (by decide +kernel) (by decide +kernel)
theorem k_17 : (.selects "LimbRows$Row" y_X0_multiplyBy y_X0_multiplyBy : Cond) ∈ gw := gw_mem 17 (by decide +kernel) (by decide +kernel)
theorem k_18 : (.selects "LimbRows$Row" y_X0_turnRound y_X0_turnRound : Cond) ∈ gw := gw_mem 18 (by decide +kernel) (by decide +kernel)
theorem k_19 : (.selects "LimbRows$Row" y_X0_increment y_X0_increment : Cond) ∈ gw := gw_mem 19 (by decide +kernel) (by decide +kernel)
theorem k_20 : (.selects "LimbRows$Row" y_X0_shiftUp y_X0_shiftUp : Cond) ∈ gw := gw_mem 20 (by decide +kernel) (by decide +kernel)
theorem k_21 : (.selects "LimbRows$Row" y_X0_pairAt y_X0_pairAt : Cond) ∈ gw := gw_mem 21 (by decide +kernel) (by decide +kernel)
theorem k_22 : (.selects "LimbRows$Row" y_X0_shiftDown y_X0_shiftDown : Cond) ∈ gw := gw_mem 22 (by decide +kernel) (by decide +kernel)
theorem k_23 : (.selects "LimbRows$Row" y_X0_roundsUp y_X0_roundsUp : Cond) ∈ gw := gw_mem 23 (by decide +kernel) (by decide +kernel)
theorem k_24 : (.selects "LimbRows$Row" y_X0_bitAt y_X0_bitAt : Cond) ∈ gw := gw_mem 24 (by decide +kernel) (by decide +kernel)
theorem k_25 : (.selects "LimbRows$Row" y_X0_trailingZeros y_X0_trailingZeros : Cond) ∈ gw := gw_mem 25 (by decide +kernel) (by decide +kernel)
theorem k_26 : (.selects "LimbRows$Row" y_X0_divideBy y_X0_divideBy : Cond) ∈ gw := gw_mem 26 (by decide +kernel) (by decide +kernel)
theorem k_27 : (.selects "LimbRows$Row" y_X0_divideLimbs y_X0_divideLimbs : Cond) ∈ gw := gw_mem 27 (by decide +kernel) (by decide +kernel)
theorem k_28 : (.selects "LimbRows$Row" y_X0_divideLimb y_X0_divideLimb : Cond) ∈ gw := gw_mem 28 (by decide +kernel) (by decide +kernel)
theorem k_29 : (.selects "LimbRows$Row" y_X0_order y_X0_order : Cond) ∈ gw := gw_mem 29 (by decide +kernel) (by decide +kernel)
theorem k_30 : (.selects "LimbRowsModel" y_X2_refuses y_X2_refuses : Cond) ∈ gw := gw_mem 30 (by decide +kernel) (by decide +kernel)
theorem k_31 : (.selects "LimbRowsModel" y_X2_load y_X2_load : Cond) ∈ gw := gw_mem 31 (by decide +kernel) (by decide +kernel)
theorem k_32 : (.selects "LimbRowsModel" y_X2_clear y_X2_clear : Cond) ∈ gw := gw_mem 32 (by decide +kernel) (by decide +kernel)
theorem k_33 : (.selects "LimbRowsModel" y_X2_isZero y_X2_isZero : Cond) ∈ gw := gw_mem 33 (by decide +kernel) (by decide +kernel)
theorem k_34 : (.selects "LimbRowsModel" y_X2_store y_X2_store : Cond) ∈ gw := gw_mem 34 (by decide +kernel) (by decide +kernel)
theorem k_35 : (.selects "LimbRowsModel" y_X2_lengthOf y_X2_lengthOf : Cond) ∈ gw := gw_mem 35 (by decide +kernel) (by decide +kernel)
theorem k_36 : (.selects "LimbRowsModel" y_X2_bits y_X2_bits : Cond) ∈ gw := gw_mem 36 (by decide +kernel) (by decide +kernel)
theorem k_37 : (.selects "LimbRowsModel" y_X2_zerosOf y_X2_zerosOf : Cond) ∈ gw := gw_mem 37 (by decide +kernel) (by decide +kernel)
theorem k_38 : (.selects "LimbRowsModel" y_X2_bit y_X2_bit : Cond) ∈ gw := gw_mem 38 (by decide +kernel) (by decide +kernel)
theorem k_39 : (.selects "LimbRowsModel" y_X2_loadLong y_X2_loadLong : Cond) ∈ gw := gw_mem 39 (by decide +kernel) (by decide +kernel)
theorem k_40 : (.selects "LimbRowsModel" y_X2_limbOf y_X2_limbOf : Cond) ∈ gw := gw_mem 40 (by decide +kernel) (by decide +kernel)
theorem k_41 : (.selects "LimbRowsModel" y_X2_signOf y_X2_signOf : Cond) ∈ gw := gw_mem 41 (by decide +kernel) (by decide +kernel)
theorem k_42 : (.selects "LimbRowsModel" y_X2_together y_X2_together : Cond) ∈ gw := gw_mem 42 (by decide +kernel) (by decide +kernel)
theorem k_43 : (.selects "LimbRowsModel" y_X2_combine y_X2_combine : Cond) ∈ gw := gw_mem 43 (by decide +kernel) (by decide +kernel)
theorem k_44 : (.selects "LimbRowsModel" y_X2_compareSizes y_X2_compareSizes : Cond) ∈ gw := gw_mem 44 (by decide +kernel) (by decide +kernel)
theorem k_45 : (.selects "LimbRowsModel" y_X2_kept y_X2_kept : Cond) ∈ gw := gw_mem 45 (by decide +kernel) (by decide +kernel)
theorem k_46 : (.selects "LimbRowsModel" y_X2_product y_X2_product : Cond) ∈ gw := gw_mem 46 (by decide +kernel) (by decide +kernel)
theorem k_47 : (.selects "LimbRowsModel" y_X2_multiply y_X2_multiply : Cond) ∈ gw := gw_mem 47 (by decide +kernel) (by decide +kernel)
theorem k_48 : (.selects "LimbRowsModel" y_X2_halve y_X2_halve : Cond) ∈ gw := gw_mem 48 (by decide +kernel) (by decide +kernel)
theorem k_49 : (.initialized "LimbRowsLaw" : Cond) ∈ gw := gw_mem 49 (by decide +kernel) (by decide +kernel)
theorem k_50 : (.initialized "LimbRows" : Cond) ∈ gw := gw_mem 50 (by decide +kernel) (by decide +kernel)
theorem k_51 : (.initialized "LimbRows$Row" : Cond) ∈ gw := gw_mem 51 (by decide +kernel) (by decide +kernel)
theorem k_52 : (.initialized "LimbRowsModel" : Cond) ∈ gw := gw_mem 52 (by decide +kernel) (by decide +kernel)
theorem k_53 : (.initialized "java/lang/Throwable" : Cond) ∈ gw := gw_mem 53 (by decide +kernel) (by decide +kernel)
theorem k_54 : (.initialized "java/lang/Exception" : Cond) ∈ gw := gw_mem 54 (by decide +kernel) (by decide +kernel)
theorem k_55 : (.initialized "java/lang/RuntimeException" : Cond) ∈ gw := gw_mem 55 (by decide +kernel) (by decide +kernel)
theorem k_56 : (.initialized "java/lang/IndexOutOfBoundsException" : Cond) ∈ gw := gw_mem 56 (by decide +kernel) (by decide +kernel)
theorem k_57 : (.initialized "java/lang/IllegalArgumentException" : Cond) ∈ gw := gw_mem 57 (by decide +kernel) (by decide +kernel)
theorem k_58 : (.initialized "java/util/Arrays" : Cond) ∈ gw := gw_mem 58 (by decide +kernel) (by decide +kernel)
theorem k_59 : (.initialized "java/lang/Math" : Cond) ∈ gw := gw_mem 59 (by decide +kernel) (by decide +kernel)
theorem k_60 : (.initialized "java/lang/System" : Cond) ∈ gw := gw_mem 60 (by decide +kernel) (by decide +kernel)
theorem k_61 : (.initialized "java/lang/Integer" : Cond) ∈ gw := gw_mem 61 (by decide +kernel) (by decide +kernel)
theorem k_62 : (.initialized "java/lang/Long" : Cond) ∈ gw := gw_mem 62 (by decide +kernel) (by decide +kernel)
theorem k_63 : (.classLink "LimbRowsLaw" (8) "LimbRows" : Cond) ∈ gw := gw_mem 63 (by decide +kernel) (by decide +kernel)
theorem k_64 : (.instantiable "LimbRows" (1) : Cond) ∈ gw := gw_mem 64 (by decide +kernel) (by decide +kernel)
theorem k_65 : (.methodLink "LimbRowsLaw" (81) y_X1_init : Cond) ∈ gw := gw_mem 65 (by decide +kernel) (by decide +kernel)
theorem k_66 : (.instanceMethod y_X1_init : Cond) ∈ gw := gw_mem 66 (by decide +kernel) (by decide +kernel)
theorem k_67 : (.code y_X1_init prog_1_method_1_code (2) none : Cond) ∈ gw := gw_mem 67 (by decide +kernel) (by decide +kernel)
theorem k_68 : (.methodLink "LimbRows" (1) ⟨"java/lang/Object", "<init>", "()V"⟩ : Cond) ∈ gw := gw_mem 68 (by decide +kernel) (by decide +kernel)
theorem k_69 : (.instanceMethod ⟨"java/lang/Object", "<init>", "()V"⟩ : Cond) ∈ gw := gw_mem 69 (by decide +kernel) (by decide +kernel)
theorem k_70 : (.code ⟨"java/lang/Object", "<init>", "()V"⟩ object_method_1_code (1) none : Cond) ∈ gw := gw_mem 70 (by decide +kernel) (by decide +kernel)
theorem k_71 : (.classLink "LimbRows" (9) "LimbRows$Row" : Cond) ∈ gw := gw_mem 71 (by decide +kernel) (by decide +kernel)
theorem kt_72 : lw_tbl[72]? = some (.arrayOver (.object "LimbRows$Row")) := by decide +kernel
theorem k_73 : (.instantiable "LimbRows$Row" (2) : Cond) ∈ gw := gw_mem 73 (by decide +kernel) (by decide +kernel)
theorem kt_74 : lw_tbl[74]? = some (.methodLinkNest "LimbRows" (15) y_X0_init "LimbRows") := by decide +kernel
theorem k_75 : (.instanceMethod y_X0_init : Cond) ∈ gw := gw_mem 75 (by decide +kernel) (by decide +kernel)
theorem k_76 : (.code y_X0_init prog_2_method_1_code (1) none : Cond) ∈ gw := gw_mem 76 (by decide +kernel) (by decide +kernel)
theorem k_77 : (.methodLink "LimbRows$Row" (3) ⟨"java/lang/Object", "<init>", "()V"⟩ : Cond) ∈ gw := gw_mem 77 (by decide +kernel) (by decide +kernel)
theorem k_78 : (.fieldLink "LimbRows$Row" (9) "LimbRows$Row" "limbs" "[I" : Cond) ∈ gw := gw_mem 78 (by decide +kernel) (by decide +kernel)
theorem kt_79 : lw_tbl[79]? = some (.fieldLinkNest "LimbRows" (44) "LimbRows$Row" "limbs" "[I" "LimbRows") := by decide +kernel
theorem k_80 : (.fieldLink "LimbRows$Row" (15) "LimbRows$Row" "width" "I" : Cond) ∈ gw := gw_mem 80 (by decide +kernel) (by decide +kernel)
theorem kt_81 : lw_tbl[81]? = some (.fieldLinkNest "LimbRows" (31) "LimbRows$Row" "width" "I" "LimbRows") := by decide +kernel
theorem k_82 : (.lays "LimbRows$Row" "LimbRows$Row" "limbs" "[I" : Cond) ∈ gw := gw_mem 82 (by decide +kernel) (by decide +kernel)
theorem k_83 : (.soleField "LimbRows$Row" "limbs" : Cond) ∈ gw := gw_mem 83 (by decide +kernel) (by decide +kernel)
theorem k_84 : (.lays "LimbRows$Row" "LimbRows$Row" "width" "I" : Cond) ∈ gw := gw_mem 84 (by decide +kernel) (by decide +kernel)
theorem k_85 : (.soleField "LimbRows$Row" "width" : Cond) ∈ gw := gw_mem 85 (by decide +kernel) (by decide +kernel)
theorem k_86 : (.superclass "LimbRows$Row" "java/lang/Object" : Cond) ∈ gw := gw_mem 86 (by decide +kernel) (by decide +kernel)
theorem k_87 : (.arrayClass .int : Cond) ∈ gw := gw_mem 87 (by decide +kernel) (by decide +kernel)
theorem k_88 : (.fieldLink "LimbRows" (11) "LimbRows" "rows" "[LLimbRows$Row;" : Cond) ∈ gw := gw_mem 88 (by decide +kernel) (by decide +kernel)
theorem k_89 : (.laysFinal "LimbRows" "LimbRows" "rows" "[LLimbRows$Row;" : Cond) ∈ gw := gw_mem 89 (by decide +kernel) (by decide +kernel)
theorem k_90 : (.soleField "LimbRows" "rows" : Cond) ∈ gw := gw_mem 90 (by decide +kernel) (by decide +kernel)
theorem k_91 : (.superclass "LimbRows" "java/lang/Object" : Cond) ∈ gw := gw_mem 91 (by decide +kernel) (by decide +kernel)
theorem k_92 : (.methodLink "LimbRowsLaw" (85) y_L_widen : Cond) ∈ gw := gw_mem 92 (by decide +kernel) (by decide +kernel)
theorem k_93 : (.static y_L_widen : Cond) ∈ gw := gw_mem 93 (by decide +kernel) (by decide +kernel)
theorem k_94 : (.codeWith y_L_widen method_3_code (5) (some .int) [((0), (17), (20), (13)), ((0), (17), (24), (15))] : Cond) ∈ gw := gw_mem 94 (by decide +kernel) (by decide +kernel)
theorem k_95 : (.classLink "LimbRowsLaw" (13) "java/lang/IndexOutOfBoundsException" : Cond) ∈ gw := gw_mem 95 (by decide +kernel) (by decide +kernel)
theorem k_96 : (.classLink "LimbRowsLaw" (15) "java/lang/IllegalArgumentException" : Cond) ∈ gw := gw_mem 96 (by decide +kernel) (by decide +kernel)
theorem k_97 : (.methodLink "LimbRowsLaw" (7) y_X1_widen : Cond) ∈ gw := gw_mem 97 (by decide +kernel) (by decide +kernel)
theorem k_98 : (.instanceMethod y_X1_widen : Cond) ∈ gw := gw_mem 98 (by decide +kernel) (by decide +kernel)
theorem k_99 : (.selects "LimbRows" y_X1_widen y_X1_widen : Cond) ∈ gw := gw_mem 99 (by decide +kernel) (by decide +kernel)
theorem k_100 : (.code y_X1_widen prog_1_method_2_code (4) (some .boolean) : Cond) ∈ gw := gw_mem 100 (by decide +kernel) (by decide +kernel)
theorem k_101 : (.methodLink "LimbRows" (16) y_X1_rowAt : Cond) ∈ gw := gw_mem 101 (by decide +kernel) (by decide +kernel)
theorem kt_102 : lw_tbl[102]? = some (.privateMethod y_X1_rowAt) := by decide +kernel
theorem k_103 : (.instanceMethod y_X1_rowAt : Cond) ∈ gw := gw_mem 103 (by decide +kernel) (by decide +kernel)
theorem k_104 : (.code y_X1_rowAt prog_1_method_22_code (2) (some (.object "LimbRows$Row")) : Cond) ∈ gw := gw_mem 104 (by decide +kernel) (by decide +kernel)
theorem k_105 : (.classLink "LimbRows" (39) "java/lang/IndexOutOfBoundsException" : Cond) ∈ gw := gw_mem 105 (by decide +kernel) (by decide +kernel)
theorem k_106 : (.instantiable "java/lang/IndexOutOfBoundsException" (6) : Cond) ∈ gw := gw_mem 106 (by decide +kernel) (by decide +kernel)
theorem kt_107 : lw_tbl[107]? = some (.castable "java/lang/IndexOutOfBoundsException" "java/lang/IndexOutOfBoundsException") := by decide +kernel
theorem kt_108 : lw_tbl[108]? = some (.declares ⟨"java/lang/RuntimeException", "<init>", "()V"⟩) := by decide +kernel
theorem kt_109 : lw_tbl[109]? = some (.declares ⟨"java/lang/RuntimeException", "<init>", "(Ljava/lang/String;)V"⟩) := by decide +kernel
theorem kt_110 : lw_tbl[110]? = some (.declares ⟨"java/lang/Exception", "<init>", "()V"⟩) := by decide +kernel
theorem kt_111 : lw_tbl[111]? = some (.declares ⟨"java/lang/Exception", "<init>", "(Ljava/lang/String;)V"⟩) := by decide +kernel
theorem kt_112 : lw_tbl[112]? = some (.declares ⟨"java/lang/Throwable", "<init>", "()V"⟩) := by decide +kernel
theorem kt_113 : lw_tbl[113]? = some (.declares ⟨"java/lang/Throwable", "<init>", "(Ljava/lang/String;)V"⟩) := by decide +kernel
theorem k_114 : (.selects "java/lang/IndexOutOfBoundsException" ⟨"java/lang/Throwable", "fillInStackTrace", "(I)Ljava/lang/Throwable;"⟩ ⟨"java/lang/Throwable", "fillInStackTrace", "(I)Ljava/lang/Throwable;"⟩ : Cond) ∈ gw := gw_mem 114 (by decide +kernel) (by decide +kernel)
theorem k_115 : (.selects "java/lang/IndexOutOfBoundsException" ⟨"java/lang/Throwable", "fillInStackTrace", "()Ljava/lang/Throwable;"⟩ ⟨"java/lang/Throwable", "fillInStackTrace", "()Ljava/lang/Throwable;"⟩ : Cond) ∈ gw := gw_mem 115 (by decide +kernel) (by decide +kernel)
theorem k_116 : (.lays "java/lang/IndexOutOfBoundsException" "java/lang/Throwable" "cause" "Ljava/lang/Throwable;" : Cond) ∈ gw := gw_mem 116 (by decide +kernel) (by decide +kernel)
theorem k_117 : (.lays "java/lang/Throwable" "java/lang/Throwable" "cause" "Ljava/lang/Throwable;" : Cond) ∈ gw := gw_mem 117 (by decide +kernel) (by decide +kernel)
theorem k_118 : (.lays "java/lang/IndexOutOfBoundsException" "java/lang/Throwable" "stackTrace" "[Ljava/lang/StackTraceElement;" : Cond) ∈ gw := gw_mem 118 (by decide +kernel) (by decide +kernel)
theorem k_119 : (.lays "java/lang/Throwable" "java/lang/Throwable" "stackTrace" "[Ljava/lang/StackTraceElement;" : Cond) ∈ gw := gw_mem 119 (by decide +kernel) (by decide +kernel)
theorem k_120 : (.lays "java/lang/IndexOutOfBoundsException" "java/lang/Throwable" "suppressedExceptions" "Ljava/util/List;" : Cond) ∈ gw := gw_mem 120 (by decide +kernel) (by decide +kernel)
theorem k_121 : (.lays "java/lang/Throwable" "java/lang/Throwable" "suppressedExceptions" "Ljava/util/List;" : Cond) ∈ gw := gw_mem 121 (by decide +kernel) (by decide +kernel)
theorem k_122 : (.lays "java/lang/IndexOutOfBoundsException" "java/lang/Throwable" "detailMessage" "Ljava/lang/String;" : Cond) ∈ gw := gw_mem 122 (by decide +kernel) (by decide +kernel)
theorem k_123 : (.lays "java/lang/Throwable" "java/lang/Throwable" "detailMessage" "Ljava/lang/String;" : Cond) ∈ gw := gw_mem 123 (by decide +kernel) (by decide +kernel)
theorem k_124 : (.lays "java/lang/IndexOutOfBoundsException" "java/lang/Throwable" "backtrace" "Ljava/lang/Object;" : Cond) ∈ gw := gw_mem 124 (by decide +kernel) (by decide +kernel)
theorem k_125 : (.lays "java/lang/Throwable" "java/lang/Throwable" "backtrace" "Ljava/lang/Object;" : Cond) ∈ gw := gw_mem 125 (by decide +kernel) (by decide +kernel)
theorem k_126 : (.fieldLink "java/lang/Throwable" (198) "java/lang/Throwable" "backtrace" "Ljava/lang/Object;" : Cond) ∈ gw := gw_mem 126 (by decide +kernel) (by decide +kernel)
theorem k_127 : (.superclass "java/lang/Throwable" "java/lang/Object" : Cond) ∈ gw := gw_mem 127 (by decide +kernel) (by decide +kernel)
theorem k_128 : (.instanceMethod ⟨"java/lang/Throwable", "<init>", "()V"⟩ : Cond) ∈ gw := gw_mem 128 (by decide +kernel) (by decide +kernel)
theorem k_129 : (.code ⟨"java/lang/Throwable", "<init>", "()V"⟩ prog_15_method_1_code (1) none : Cond) ∈ gw := gw_mem 129 (by decide +kernel) (by decide +kernel)
theorem k_130 : (.methodLink "java/lang/Throwable" (1) ⟨"java/lang/Object", "<init>", "()V"⟩ : Cond) ∈ gw := gw_mem 130 (by decide +kernel) (by decide +kernel)
theorem k_131 : (.fieldLink "java/lang/Throwable" (13) "java/lang/Throwable" "UNASSIGNED_STACK" "[Ljava/lang/StackTraceElement;" : Cond) ∈ gw := gw_mem 131 (by decide +kernel) (by decide +kernel)
theorem kt_132 : lw_tbl[132]? = some (.laysStatic "java/lang/Throwable" "UNASSIGNED_STACK" "[Ljava/lang/StackTraceElement;") := by decide +kernel
theorem k_133 : (.fieldLink "java/lang/Throwable" (20) "java/lang/Throwable" "SUPPRESSED_SENTINEL" "Ljava/util/List;" : Cond) ∈ gw := gw_mem 133 (by decide +kernel) (by decide +kernel)
theorem kt_134 : lw_tbl[134]? = some (.laysStatic "java/lang/Throwable" "SUPPRESSED_SENTINEL" "Ljava/util/List;") := by decide +kernel
theorem k_135 : (.methodLink "java/lang/Throwable" (27) ⟨"java/lang/Throwable", "fillInStackTrace", "()Ljava/lang/Throwable;"⟩ : Cond) ∈ gw := gw_mem 135 (by decide +kernel) (by decide +kernel)
theorem k_136 : (.instanceMethod ⟨"java/lang/Throwable", "fillInStackTrace", "()Ljava/lang/Throwable;"⟩ : Cond) ∈ gw := gw_mem 136 (by decide +kernel) (by decide +kernel)
theorem k_137 : (.sameMethod "java/lang/Throwable" "java/lang/Throwable" "fillInStackTrace" "()Ljava/lang/Throwable;" : Cond) ∈ gw := gw_mem 137 (by decide +kernel) (by decide +kernel)
theorem k_138 : (.selects "java/lang/IllegalArgumentException" ⟨"java/lang/Throwable", "fillInStackTrace", "()Ljava/lang/Throwable;"⟩ ⟨"java/lang/Throwable", "fillInStackTrace", "()Ljava/lang/Throwable;"⟩ : Cond) ∈ gw := gw_mem 138 (by decide +kernel) (by decide +kernel)
theorem k_139 : (.codeSync ⟨"java/lang/Throwable", "fillInStackTrace", "()Ljava/lang/Throwable;"⟩ prog_15_method_18_code (1) (some (.object "java/lang/Throwable")) : Cond) ∈ gw := gw_mem 139 (by decide +kernel) (by decide +kernel)
theorem k_140 : (.methodLink "java/lang/Throwable" (202) ⟨"java/lang/Throwable", "fillInStackTrace", "(I)Ljava/lang/Throwable;"⟩ : Cond) ∈ gw := gw_mem 140 (by decide +kernel) (by decide +kernel)
theorem kt_141 : lw_tbl[141]? = some (.privateMethod ⟨"java/lang/Throwable", "fillInStackTrace", "(I)Ljava/lang/Throwable;"⟩) := by decide +kernel
theorem k_142 : (.instanceMethod ⟨"java/lang/Throwable", "fillInStackTrace", "(I)Ljava/lang/Throwable;"⟩ : Cond) ∈ gw := gw_mem 142 (by decide +kernel) (by decide +kernel)
theorem k_143 : (.instantiable "java/lang/Throwable" (6) : Cond) ∈ gw := gw_mem 143 (by decide +kernel) (by decide +kernel)
theorem k_144 : (.native ⟨"java/lang/Throwable", "fillInStackTrace", "(I)Ljava/lang/Throwable;"⟩ : Cond) ∈ gw := gw_mem 144 (by decide +kernel) (by decide +kernel)
theorem kt_145 : lw_tbl[145]? = some (.stringRef "LimbRows" (120) "no such row") := by decide +kernel
theorem k_146 : (.methodLink "LimbRows" (43) ⟨"java/lang/IndexOutOfBoundsException", "<init>", "(Ljava/lang/String;)V"⟩ : Cond) ∈ gw := gw_mem 146 (by decide +kernel) (by decide +kernel)
theorem k_147 : (.instanceMethod ⟨"java/lang/IndexOutOfBoundsException", "<init>", "(Ljava/lang/String;)V"⟩ : Cond) ∈ gw := gw_mem 147 (by decide +kernel) (by decide +kernel)
theorem k_148 : (.code ⟨"java/lang/IndexOutOfBoundsException", "<init>", "(Ljava/lang/String;)V"⟩ prog_8_method_2_code (2) none : Cond) ∈ gw := gw_mem 148 (by decide +kernel) (by decide +kernel)
theorem k_149 : (.methodLink "java/lang/IndexOutOfBoundsException" (7) ⟨"java/lang/RuntimeException", "<init>", "(Ljava/lang/String;)V"⟩ : Cond) ∈ gw := gw_mem 149 (by decide +kernel) (by decide +kernel)
theorem k_150 : (.instanceMethod ⟨"java/lang/RuntimeException", "<init>", "(Ljava/lang/String;)V"⟩ : Cond) ∈ gw := gw_mem 150 (by decide +kernel) (by decide +kernel)
theorem k_151 : (.code ⟨"java/lang/RuntimeException", "<init>", "(Ljava/lang/String;)V"⟩ prog_12_method_2_code (2) none : Cond) ∈ gw := gw_mem 151 (by decide +kernel) (by decide +kernel)
theorem k_152 : (.methodLink "java/lang/RuntimeException" (7) ⟨"java/lang/Exception", "<init>", "(Ljava/lang/String;)V"⟩ : Cond) ∈ gw := gw_mem 152 (by decide +kernel) (by decide +kernel)
theorem k_153 : (.instanceMethod ⟨"java/lang/Exception", "<init>", "(Ljava/lang/String;)V"⟩ : Cond) ∈ gw := gw_mem 153 (by decide +kernel) (by decide +kernel)
theorem k_154 : (.code ⟨"java/lang/Exception", "<init>", "(Ljava/lang/String;)V"⟩ prog_6_method_2_code (2) none : Cond) ∈ gw := gw_mem 154 (by decide +kernel) (by decide +kernel)
theorem k_155 : (.methodLink "java/lang/Exception" (7) ⟨"java/lang/Throwable", "<init>", "(Ljava/lang/String;)V"⟩ : Cond) ∈ gw := gw_mem 155 (by decide +kernel) (by decide +kernel)
theorem k_156 : (.instanceMethod ⟨"java/lang/Throwable", "<init>", "(Ljava/lang/String;)V"⟩ : Cond) ∈ gw := gw_mem 156 (by decide +kernel) (by decide +kernel)
theorem k_157 : (.code ⟨"java/lang/Throwable", "<init>", "(Ljava/lang/String;)V"⟩ prog_15_method_2_code (2) none : Cond) ∈ gw := gw_mem 157 (by decide +kernel) (by decide +kernel)
theorem k_158 : (.fieldLink "java/lang/Throwable" (198) "java/lang/Throwable" "backtrace" "Ljava/lang/Object;" : Cond) ∈ gw := gw_mem 158 (by decide +kernel) (by decide +kernel)
theorem k_159 : (.fieldLink "java/lang/Throwable" (31) "java/lang/Throwable" "detailMessage" "Ljava/lang/String;" : Cond) ∈ gw := gw_mem 159 (by decide +kernel) (by decide +kernel)
theorem k_160 : (.fieldLink "java/lang/Throwable" (7) "java/lang/Throwable" "cause" "Ljava/lang/Throwable;" : Cond) ∈ gw := gw_mem 160 (by decide +kernel) (by decide +kernel)
theorem k_161 : (.fieldLink "java/lang/Throwable" (17) "java/lang/Throwable" "stackTrace" "[Ljava/lang/StackTraceElement;" : Cond) ∈ gw := gw_mem 161 (by decide +kernel) (by decide +kernel)
theorem k_162 : (.fieldLink "java/lang/Throwable" (24) "java/lang/Throwable" "suppressedExceptions" "Ljava/util/List;" : Cond) ∈ gw := gw_mem 162 (by decide +kernel) (by decide +kernel)
theorem k_163 : (.soleField "java/lang/Throwable" "backtrace" : Cond) ∈ gw := gw_mem 163 (by decide +kernel) (by decide +kernel)
theorem k_164 : (.soleField "java/lang/Throwable" "detailMessage" : Cond) ∈ gw := gw_mem 164 (by decide +kernel) (by decide +kernel)
theorem k_165 : (.soleField "java/lang/Throwable" "cause" : Cond) ∈ gw := gw_mem 165 (by decide +kernel) (by decide +kernel)
theorem k_166 : (.soleField "java/lang/Throwable" "stackTrace" : Cond) ∈ gw := gw_mem 166 (by decide +kernel) (by decide +kernel)
theorem k_167 : (.lays "java/lang/IndexOutOfBoundsException" "java/lang/Throwable" "depth" "I" : Cond) ∈ gw := gw_mem 167 (by decide +kernel) (by decide +kernel)
theorem k_168 : (.soleField "java/lang/Throwable" "depth" : Cond) ∈ gw := gw_mem 168 (by decide +kernel) (by decide +kernel)
theorem k_169 : (.soleField "java/lang/Throwable" "suppressedExceptions" : Cond) ∈ gw := gw_mem 169 (by decide +kernel) (by decide +kernel)
theorem k_170 : (.superclass "java/lang/IndexOutOfBoundsException" "java/lang/RuntimeException" : Cond) ∈ gw := gw_mem 170 (by decide +kernel) (by decide +kernel)
theorem k_171 : (.arrayClass .byte : Cond) ∈ gw := gw_mem 171 (by decide +kernel) (by decide +kernel)
theorem k_172 : (.classLink "LimbRows" (20) "java/lang/IllegalArgumentException" : Cond) ∈ gw := gw_mem 172 (by decide +kernel) (by decide +kernel)
theorem k_173 : (.instantiable "java/lang/IllegalArgumentException" (6) : Cond) ∈ gw := gw_mem 173 (by decide +kernel) (by decide +kernel)
theorem kt_174 : lw_tbl[174]? = some (.castable "java/lang/IllegalArgumentException" "java/lang/IllegalArgumentException") := by decide +kernel
theorem k_175 : (.selects "java/lang/IllegalArgumentException" ⟨"java/lang/Throwable", "fillInStackTrace", "(I)Ljava/lang/Throwable;"⟩ ⟨"java/lang/Throwable", "fillInStackTrace", "(I)Ljava/lang/Throwable;"⟩ : Cond) ∈ gw := gw_mem 175 (by decide +kernel) (by decide +kernel)
theorem k_176 : (.lays "java/lang/IllegalArgumentException" "java/lang/Throwable" "cause" "Ljava/lang/Throwable;" : Cond) ∈ gw := gw_mem 176 (by decide +kernel) (by decide +kernel)
theorem k_177 : (.lays "java/lang/IllegalArgumentException" "java/lang/Throwable" "stackTrace" "[Ljava/lang/StackTraceElement;" : Cond) ∈ gw := gw_mem 177 (by decide +kernel) (by decide +kernel)
theorem k_178 : (.lays "java/lang/IllegalArgumentException" "java/lang/Throwable" "suppressedExceptions" "Ljava/util/List;" : Cond) ∈ gw := gw_mem 178 (by decide +kernel) (by decide +kernel)
theorem k_179 : (.lays "java/lang/IllegalArgumentException" "java/lang/Throwable" "detailMessage" "Ljava/lang/String;" : Cond) ∈ gw := gw_mem 179 (by decide +kernel) (by decide +kernel)
theorem k_180 : (.lays "java/lang/IllegalArgumentException" "java/lang/Throwable" "backtrace" "Ljava/lang/Object;" : Cond) ∈ gw := gw_mem 180 (by decide +kernel) (by decide +kernel)
theorem kt_181 : lw_tbl[181]? = some (.stringRef "LimbRows" (22) "a width is 1 to 256 limbs") := by decide +kernel
theorem k_182 : (.methodLink "LimbRows" (24) ⟨"java/lang/IllegalArgumentException", "<init>", "(Ljava/lang/String;)V"⟩ : Cond) ∈ gw := gw_mem 182 (by decide +kernel) (by decide +kernel)
theorem k_183 : (.instanceMethod ⟨"java/lang/IllegalArgumentException", "<init>", "(Ljava/lang/String;)V"⟩ : Cond) ∈ gw := gw_mem 183 (by decide +kernel) (by decide +kernel)
theorem k_184 : (.code ⟨"java/lang/IllegalArgumentException", "<init>", "(Ljava/lang/String;)V"⟩ prog_7_method_2_code (2) none : Cond) ∈ gw := gw_mem 184 (by decide +kernel) (by decide +kernel)
theorem k_185 : (.methodLink "java/lang/IllegalArgumentException" (7) ⟨"java/lang/RuntimeException", "<init>", "(Ljava/lang/String;)V"⟩ : Cond) ∈ gw := gw_mem 185 (by decide +kernel) (by decide +kernel)
theorem k_186 : (.lays "java/lang/IllegalArgumentException" "java/lang/Throwable" "depth" "I" : Cond) ∈ gw := gw_mem 186 (by decide +kernel) (by decide +kernel)
theorem k_187 : (.superclass "java/lang/IllegalArgumentException" "java/lang/RuntimeException" : Cond) ∈ gw := gw_mem 187 (by decide +kernel) (by decide +kernel)
theorem kt_188 : lw_tbl[188]? = some (.methodLinkNest "LimbRows" (27) y_X0_changeWidth "LimbRows") := by decide +kernel
theorem kt_189 : lw_tbl[189]? = some (.privateMethod y_X0_changeWidth) := by decide +kernel
theorem k_190 : (.instanceMethod y_X0_changeWidth : Cond) ∈ gw := gw_mem 190 (by decide +kernel) (by decide +kernel)
theorem k_191 : (.code y_X0_changeWidth prog_2_method_7_code (5) (some .boolean) : Cond) ∈ gw := gw_mem 191 (by decide +kernel) (by decide +kernel)
theorem k_192 : (.methodLink "LimbRows$Row" (25) y_X0_fitsIn : Cond) ∈ gw := gw_mem 192 (by decide +kernel) (by decide +kernel)
theorem kt_193 : lw_tbl[193]? = some (.privateMethod y_X0_fitsIn) := by decide +kernel
theorem k_194 : (.instanceMethod y_X0_fitsIn : Cond) ∈ gw := gw_mem 194 (by decide +kernel) (by decide +kernel)
theorem k_195 : (.code y_X0_fitsIn prog_2_method_6_code (4) (some .boolean) : Cond) ∈ gw := gw_mem 195 (by decide +kernel) (by decide +kernel)
theorem k_196 : (.methodLink "LimbRows$Row" (21) y_X0_limbAt : Cond) ∈ gw := gw_mem 196 (by decide +kernel) (by decide +kernel)
theorem kt_197 : lw_tbl[197]? = some (.privateMethod y_X0_limbAt) := by decide +kernel
theorem k_198 : (.instanceMethod y_X0_limbAt : Cond) ∈ gw := gw_mem 198 (by decide +kernel) (by decide +kernel)
theorem k_199 : (.code y_X0_limbAt prog_2_method_4_code (2) (some .int) : Cond) ∈ gw := gw_mem 199 (by decide +kernel) (by decide +kernel)
theorem k_200 : (.methodLink "LimbRows$Row" (29) y_JA_copyOf : Cond) ∈ gw := gw_mem 200 (by decide +kernel) (by decide +kernel)
theorem k_201 : (.static y_JA_copyOf : Cond) ∈ gw := gw_mem 201 (by decide +kernel) (by decide +kernel)
theorem k_202 : (.code y_JA_copyOf prog_16_method_123_code (3) (some (.array .int)) : Cond) ∈ gw := gw_mem 202 (by decide +kernel) (by decide +kernel)
theorem k_203 : (.methodLink "java/util/Arrays" (316) ⟨"[I", "clone", "()Ljava/lang/Object;"⟩ : Cond) ∈ gw := gw_mem 203 (by decide +kernel) (by decide +kernel)
theorem k_204 : (.sameMethod "[I" "java/lang/Object" "clone" "()Ljava/lang/Object;" : Cond) ∈ gw := gw_mem 204 (by decide +kernel) (by decide +kernel)
theorem k_205 : (.native ⟨"java/lang/Object", "clone", "()Ljava/lang/Object;"⟩ : Cond) ∈ gw := gw_mem 205 (by decide +kernel) (by decide +kernel)
theorem k_206 : (.instanceMethod ⟨"java/lang/Object", "clone", "()Ljava/lang/Object;"⟩ : Cond) ∈ gw := gw_mem 206 (by decide +kernel) (by decide +kernel)
theorem k_207 : (.selects "[I" ⟨"[I", "clone", "()Ljava/lang/Object;"⟩ ⟨"java/lang/Object", "clone", "()Ljava/lang/Object;"⟩ : Cond) ∈ gw := gw_mem 207 (by decide +kernel) (by decide +kernel)
theorem kt_208 : lw_tbl[208]? = some (.castable "[I" "java/lang/Cloneable") := by decide +kernel
theorem k_209 : (.classLink "java/util/Arrays" (317) "[I" : Cond) ∈ gw := gw_mem 209 (by decide +kernel) (by decide +kernel)
theorem k_210 : (.methodLink "java/util/Arrays" (304) y_JM_min : Cond) ∈ gw := gw_mem 210 (by decide +kernel) (by decide +kernel)
theorem k_211 : (.static y_JM_min : Cond) ∈ gw := gw_mem 211 (by decide +kernel) (by decide +kernel)
theorem k_212 : (.code y_JM_min prog_11_method_69_code (2) (some .int) : Cond) ∈ gw := gw_mem 212 (by decide +kernel) (by decide +kernel)
theorem k_213 : (.methodLink "java/util/Arrays" (150) ⟨"java/lang/System", "arraycopy", "(Ljava/lang/Object;ILjava/lang/Object;II)V"⟩ : Cond) ∈ gw := gw_mem 213 (by decide +kernel) (by decide +kernel)
theorem k_214 : (.static ⟨"java/lang/System", "arraycopy", "(Ljava/lang/Object;ILjava/lang/Object;II)V"⟩ : Cond) ∈ gw := gw_mem 214 (by decide +kernel) (by decide +kernel)
theorem k_215 : (.native ⟨"java/lang/System", "arraycopy", "(Ljava/lang/Object;ILjava/lang/Object;II)V"⟩ : Cond) ∈ gw := gw_mem 215 (by decide +kernel) (by decide +kernel)
theorem k_216 : (.methodLink "LimbRowsLaw" (95) y_L_width : Cond) ∈ gw := gw_mem 216 (by decide +kernel) (by decide +kernel)
theorem k_217 : (.static y_L_width : Cond) ∈ gw := gw_mem 217 (by decide +kernel) (by decide +kernel)
theorem k_218 : (.codeWith y_L_width method_4_code (4) (some .int) [((0), (9), (12), (13))] : Cond) ∈ gw := gw_mem 218 (by decide +kernel) (by decide +kernel)
theorem k_219 : (.methodLink "LimbRowsLaw" (17) y_X1_width : Cond) ∈ gw := gw_mem 219 (by decide +kernel) (by decide +kernel)
theorem k_220 : (.instanceMethod y_X1_width : Cond) ∈ gw := gw_mem 220 (by decide +kernel) (by decide +kernel)
theorem k_221 : (.selects "LimbRows" y_X1_width y_X1_width : Cond) ∈ gw := gw_mem 221 (by decide +kernel) (by decide +kernel)
theorem k_222 : (.code y_X1_width prog_1_method_3_code (2) (some .int) : Cond) ∈ gw := gw_mem 222 (by decide +kernel) (by decide +kernel)
theorem k_223 : (.methodLink "LimbRowsLaw" (101) y_L_set : Cond) ∈ gw := gw_mem 223 (by decide +kernel) (by decide +kernel)
theorem k_224 : (.static y_L_set : Cond) ∈ gw := gw_mem 224 (by decide +kernel) (by decide +kernel)
theorem k_225 : (.codeWith y_L_set method_5_code (6) (some .int) [((0), (18), (21), (13))] : Cond) ∈ gw := gw_mem 225 (by decide +kernel) (by decide +kernel)
theorem k_226 : (.methodLink "LimbRowsLaw" (21) y_X1_set : Cond) ∈ gw := gw_mem 226 (by decide +kernel) (by decide +kernel)
theorem k_227 : (.instanceMethod y_X1_set : Cond) ∈ gw := gw_mem 227 (by decide +kernel) (by decide +kernel)
theorem k_228 : (.selects "LimbRows" y_X1_set y_X1_set : Cond) ∈ gw := gw_mem 228 (by decide +kernel) (by decide +kernel)
theorem k_229 : (.code y_X1_set prog_1_method_4_code (4) (some .boolean) : Cond) ∈ gw := gw_mem 229 (by decide +kernel) (by decide +kernel)
theorem kt_230 : lw_tbl[230]? = some (.methodLinkNest "LimbRows" (35) y_X0_keepLong "LimbRows") := by decide +kernel
theorem kt_231 : lw_tbl[231]? = some (.privateMethod y_X0_keepLong) := by decide +kernel
theorem k_232 : (.instanceMethod y_X0_keepLong : Cond) ∈ gw := gw_mem 232 (by decide +kernel) (by decide +kernel)
theorem k_233 : (.code y_X0_keepLong prog_2_method_8_code (6) (some .boolean) : Cond) ∈ gw := gw_mem 233 (by decide +kernel) (by decide +kernel)
theorem k_234 : (.methodLink "LimbRowsLaw" (105) y_L_put : Cond) ∈ gw := gw_mem 234 (by decide +kernel) (by decide +kernel)
theorem k_235 : (.static y_L_put : Cond) ∈ gw := gw_mem 235 (by decide +kernel) (by decide +kernel)
theorem k_236 : (.codeWith y_L_put method_6_code (6) (some .int) [((0), (12), (15), (13))] : Cond) ∈ gw := gw_mem 236 (by decide +kernel) (by decide +kernel)
theorem k_237 : (.methodLink "LimbRowsLaw" (25) y_X1_put : Cond) ∈ gw := gw_mem 237 (by decide +kernel) (by decide +kernel)
theorem k_238 : (.instanceMethod y_X1_put : Cond) ∈ gw := gw_mem 238 (by decide +kernel) (by decide +kernel)
theorem k_239 : (.selects "LimbRows" y_X1_put y_X1_put : Cond) ∈ gw := gw_mem 239 (by decide +kernel) (by decide +kernel)
theorem k_240 : (.code y_X1_put prog_1_method_5_code (6) (some .int) : Cond) ∈ gw := gw_mem 240 (by decide +kernel) (by decide +kernel)
theorem kt_241 : lw_tbl[241]? = some (.stringRef "LimbRows" (41) "no such limb") := by decide +kernel
theorem k_242 : (.methodLink "LimbRowsLaw" (109) y_L_limb : Cond) ∈ gw := gw_mem 242 (by decide +kernel) (by decide +kernel)
theorem k_243 : (.static y_L_limb : Cond) ∈ gw := gw_mem 243 (by decide +kernel) (by decide +kernel)
theorem k_244 : (.codeWith y_L_limb method_7_code (5) (some .int) [((0), (10), (13), (13))] : Cond) ∈ gw := gw_mem 244 (by decide +kernel) (by decide +kernel)
theorem k_245 : (.methodLink "LimbRowsLaw" (29) y_X1_limb : Cond) ∈ gw := gw_mem 245 (by decide +kernel) (by decide +kernel)
theorem k_246 : (.instanceMethod y_X1_limb : Cond) ∈ gw := gw_mem 246 (by decide +kernel) (by decide +kernel)
theorem k_247 : (.selects "LimbRows" y_X1_limb y_X1_limb : Cond) ∈ gw := gw_mem 247 (by decide +kernel) (by decide +kernel)
theorem k_248 : (.code y_X1_limb prog_1_method_6_code (4) (some .int) : Cond) ∈ gw := gw_mem 248 (by decide +kernel) (by decide +kernel)
theorem kt_249 : lw_tbl[249]? = some (.methodLinkNest "LimbRows" (48) y_X0_limbAt "LimbRows") := by decide +kernel
theorem k_250 : (.methodLink "LimbRowsLaw" (112) y_L_copy : Cond) ∈ gw := gw_mem 250 (by decide +kernel) (by decide +kernel)
theorem k_251 : (.static y_L_copy : Cond) ∈ gw := gw_mem 251 (by decide +kernel) (by decide +kernel)
theorem k_252 : (.codeWith y_L_copy method_8_code (5) (some .int) [((0), (17), (20), (13))] : Cond) ∈ gw := gw_mem 252 (by decide +kernel) (by decide +kernel)
theorem k_253 : (.methodLink "LimbRowsLaw" (33) y_X1_copy : Cond) ∈ gw := gw_mem 253 (by decide +kernel) (by decide +kernel)
theorem k_254 : (.instanceMethod y_X1_copy : Cond) ∈ gw := gw_mem 254 (by decide +kernel) (by decide +kernel)
theorem k_255 : (.selects "LimbRows" y_X1_copy y_X1_copy : Cond) ∈ gw := gw_mem 255 (by decide +kernel) (by decide +kernel)
theorem k_256 : (.code y_X1_copy prog_1_method_7_code (5) (some .boolean) : Cond) ∈ gw := gw_mem 256 (by decide +kernel) (by decide +kernel)
theorem kt_257 : lw_tbl[257]? = some (.methodLinkNest "LimbRows" (52) y_X0_keepRow "LimbRows") := by decide +kernel
theorem kt_258 : lw_tbl[258]? = some (.privateMethod y_X0_keepRow) := by decide +kernel
theorem k_259 : (.instanceMethod y_X0_keepRow : Cond) ∈ gw := gw_mem 259 (by decide +kernel) (by decide +kernel)
theorem k_260 : (.code y_X0_keepRow prog_2_method_9_code (4) (some .boolean) : Cond) ∈ gw := gw_mem 260 (by decide +kernel) (by decide +kernel)
theorem k_261 : (.methodLink "LimbRowsLaw" (115) y_L_add : Cond) ∈ gw := gw_mem 261 (by decide +kernel) (by decide +kernel)
theorem k_262 : (.static y_L_add : Cond) ∈ gw := gw_mem 262 (by decide +kernel) (by decide +kernel)
theorem k_263 : (.codeWith y_L_add method_9_code (5) (some .int) [((0), (10), (13), (13))] : Cond) ∈ gw := gw_mem 263 (by decide +kernel) (by decide +kernel)
theorem k_264 : (.methodLink "LimbRowsLaw" (36) y_X1_add : Cond) ∈ gw := gw_mem 264 (by decide +kernel) (by decide +kernel)
theorem k_265 : (.instanceMethod y_X1_add : Cond) ∈ gw := gw_mem 265 (by decide +kernel) (by decide +kernel)
theorem k_266 : (.selects "LimbRows" y_X1_add y_X1_add : Cond) ∈ gw := gw_mem 266 (by decide +kernel) (by decide +kernel)
theorem k_267 : (.code y_X1_add prog_1_method_8_code (5) (some .int) : Cond) ∈ gw := gw_mem 267 (by decide +kernel) (by decide +kernel)
theorem kt_268 : lw_tbl[268]? = some (.methodLinkNest "LimbRows" (56) y_X0_addFrom "LimbRows") := by decide +kernel
theorem kt_269 : lw_tbl[269]? = some (.privateMethod y_X0_addFrom) := by decide +kernel
theorem k_270 : (.instanceMethod y_X0_addFrom : Cond) ∈ gw := gw_mem 270 (by decide +kernel) (by decide +kernel)
theorem k_271 : (.code y_X0_addFrom prog_2_method_10_code (3) none : Cond) ∈ gw := gw_mem 271 (by decide +kernel) (by decide +kernel)
theorem k_272 : (.methodLink "LimbRows$Row" (35) y_X0_addLimbs : Cond) ∈ gw := gw_mem 272 (by decide +kernel) (by decide +kernel)
theorem kt_273 : lw_tbl[273]? = some (.privateMethod y_X0_addLimbs) := by decide +kernel
theorem k_274 : (.instanceMethod y_X0_addLimbs : Cond) ∈ gw := gw_mem 274 (by decide +kernel) (by decide +kernel)
theorem k_275 : (.code y_X0_addLimbs prog_2_method_12_code (9) none : Cond) ∈ gw := gw_mem 275 (by decide +kernel) (by decide +kernel)
theorem k_276 : (.methodLink "LimbRows$Row" (39) y_X0_unsigned : Cond) ∈ gw := gw_mem 276 (by decide +kernel) (by decide +kernel)
theorem k_277 : (.static y_X0_unsigned : Cond) ∈ gw := gw_mem 277 (by decide +kernel) (by decide +kernel)
theorem k_278 : (.code y_X0_unsigned prog_2_method_2_code (1) (some .long) : Cond) ∈ gw := gw_mem 278 (by decide +kernel) (by decide +kernel)
theorem k_279 : (.constantLong "LimbRows$Row" (19) (4294967295) : Cond) ∈ gw := gw_mem 279 (by decide +kernel) (by decide +kernel)
theorem kt_280 : lw_tbl[280]? = some (.methodLinkNest "LimbRows" (60) y_X0_signum "LimbRows") := by decide +kernel
theorem kt_281 : lw_tbl[281]? = some (.privateMethod y_X0_signum) := by decide +kernel
theorem k_282 : (.instanceMethod y_X0_signum : Cond) ∈ gw := gw_mem 282 (by decide +kernel) (by decide +kernel)
theorem k_283 : (.code y_X0_signum prog_2_method_29_code (2) (some .int) : Cond) ∈ gw := gw_mem 283 (by decide +kernel) (by decide +kernel)
theorem k_284 : (.methodLink "LimbRows$Row" (57) y_X0_isNegative : Cond) ∈ gw := gw_mem 284 (by decide +kernel) (by decide +kernel)
theorem kt_285 : lw_tbl[285]? = some (.privateMethod y_X0_isNegative) := by decide +kernel
theorem k_286 : (.instanceMethod y_X0_isNegative : Cond) ∈ gw := gw_mem 286 (by decide +kernel) (by decide +kernel)
theorem k_287 : (.code y_X0_isNegative prog_2_method_3_code (1) (some .boolean) : Cond) ∈ gw := gw_mem 287 (by decide +kernel) (by decide +kernel)
theorem k_288 : (.methodLink "LimbRowsLaw" (118) y_L_subtract : Cond) ∈ gw := gw_mem 288 (by decide +kernel) (by decide +kernel)
theorem k_289 : (.static y_L_subtract : Cond) ∈ gw := gw_mem 289 (by decide +kernel) (by decide +kernel)
theorem k_290 : (.codeWith y_L_subtract method_10_code (5) (some .int) [((0), (10), (13), (13))] : Cond) ∈ gw := gw_mem 290 (by decide +kernel) (by decide +kernel)
theorem k_291 : (.methodLink "LimbRowsLaw" (39) y_X1_subtract : Cond) ∈ gw := gw_mem 291 (by decide +kernel) (by decide +kernel)
theorem k_292 : (.instanceMethod y_X1_subtract : Cond) ∈ gw := gw_mem 292 (by decide +kernel) (by decide +kernel)
theorem k_293 : (.selects "LimbRows" y_X1_subtract y_X1_subtract : Cond) ∈ gw := gw_mem 293 (by decide +kernel) (by decide +kernel)
theorem k_294 : (.code y_X1_subtract prog_1_method_9_code (5) (some .int) : Cond) ∈ gw := gw_mem 294 (by decide +kernel) (by decide +kernel)
theorem kt_295 : lw_tbl[295]? = some (.methodLinkNest "LimbRows" (64) y_X0_subtractFrom "LimbRows") := by decide +kernel
theorem kt_296 : lw_tbl[296]? = some (.privateMethod y_X0_subtractFrom) := by decide +kernel
theorem k_297 : (.instanceMethod y_X0_subtractFrom : Cond) ∈ gw := gw_mem 297 (by decide +kernel) (by decide +kernel)
theorem k_298 : (.code y_X0_subtractFrom prog_2_method_11_code (3) none : Cond) ∈ gw := gw_mem 298 (by decide +kernel) (by decide +kernel)
theorem k_299 : (.methodLink "LimbRowsLaw" (121) y_L_addProduct : Cond) ∈ gw := gw_mem 299 (by decide +kernel) (by decide +kernel)
theorem k_300 : (.static y_L_addProduct : Cond) ∈ gw := gw_mem 300 (by decide +kernel) (by decide +kernel)
theorem k_301 : (.codeWith y_L_addProduct method_11_code (6) (some .int) [((0), (12), (15), (13)), ((0), (12), (19), (15))] : Cond) ∈ gw := gw_mem 301 (by decide +kernel) (by decide +kernel)
theorem k_302 : (.methodLink "LimbRowsLaw" (42) y_X1_addProduct : Cond) ∈ gw := gw_mem 302 (by decide +kernel) (by decide +kernel)
theorem k_303 : (.instanceMethod y_X1_addProduct : Cond) ∈ gw := gw_mem 303 (by decide +kernel) (by decide +kernel)
theorem k_304 : (.selects "LimbRows" y_X1_addProduct y_X1_addProduct : Cond) ∈ gw := gw_mem 304 (by decide +kernel) (by decide +kernel)
theorem k_305 : (.code y_X1_addProduct prog_1_method_10_code (7) (some .int) : Cond) ∈ gw := gw_mem 305 (by decide +kernel) (by decide +kernel)
theorem k_306 : (.methodLink "LimbRows" (67) y_X1_refuseOwnFactor : Cond) ∈ gw := gw_mem 306 (by decide +kernel) (by decide +kernel)
theorem k_307 : (.static y_X1_refuseOwnFactor : Cond) ∈ gw := gw_mem 307 (by decide +kernel) (by decide +kernel)
theorem k_308 : (.code y_X1_refuseOwnFactor prog_1_method_23_code (3) none : Cond) ∈ gw := gw_mem 308 (by decide +kernel) (by decide +kernel)
theorem kt_309 : lw_tbl[309]? = some (.stringRef "LimbRows" (122) "a row can't take a product of itself") := by decide +kernel
theorem kt_310 : lw_tbl[310]? = some (.methodLinkNest "LimbRows" (71) y_X0_addProductOf "LimbRows") := by decide +kernel
theorem kt_311 : lw_tbl[311]? = some (.privateMethod y_X0_addProductOf) := by decide +kernel
theorem k_312 : (.instanceMethod y_X0_addProductOf : Cond) ∈ gw := gw_mem 312 (by decide +kernel) (by decide +kernel)
theorem k_313 : (.code y_X0_addProductOf prog_2_method_13_code (6) none : Cond) ∈ gw := gw_mem 313 (by decide +kernel) (by decide +kernel)
theorem k_314 : (.methodLink "LimbRows$Row" (43) y_X0_bitLength : Cond) ∈ gw := gw_mem 314 (by decide +kernel) (by decide +kernel)
theorem kt_315 : lw_tbl[315]? = some (.privateMethod y_X0_bitLength) := by decide +kernel
theorem k_316 : (.instanceMethod y_X0_bitLength : Cond) ∈ gw := gw_mem 316 (by decide +kernel) (by decide +kernel)
theorem k_317 : (.code y_X0_bitLength prog_2_method_28_code (3) (some .int) : Cond) ∈ gw := gw_mem 317 (by decide +kernel) (by decide +kernel)
theorem k_318 : (.methodLink "LimbRows$Row" (97) y_JI_numberOfLeadingZeros : Cond) ∈ gw := gw_mem 318 (by decide +kernel) (by decide +kernel)
theorem k_319 : (.static y_JI_numberOfLeadingZeros : Cond) ∈ gw := gw_mem 319 (by decide +kernel) (by decide +kernel)
theorem k_320 : (.code y_JI_numberOfLeadingZeros prog_9_method_47_code (2) (some .int) : Cond) ∈ gw := gw_mem 320 (by decide +kernel) (by decide +kernel)
theorem k_321 : (.constant "java/lang/Integer" (264) (65536) : Cond) ∈ gw := gw_mem 321 (by decide +kernel) (by decide +kernel)
theorem k_322 : (.methodLink "LimbRows$Row" (47) y_JM_min : Cond) ∈ gw := gw_mem 322 (by decide +kernel) (by decide +kernel)
theorem k_323 : (.methodLink "LimbRows$Row" (53) y_X0_addMultiple : Cond) ∈ gw := gw_mem 323 (by decide +kernel) (by decide +kernel)
theorem kt_324 : lw_tbl[324]? = some (.privateMethod y_X0_addMultiple) := by decide +kernel
theorem k_325 : (.instanceMethod y_X0_addMultiple : Cond) ∈ gw := gw_mem 325 (by decide +kernel) (by decide +kernel)
theorem k_326 : (.code y_X0_addMultiple prog_2_method_14_code (10) none : Cond) ∈ gw := gw_mem 326 (by decide +kernel) (by decide +kernel)
theorem k_327 : (.methodLink "LimbRows$Row" (61) y_X0_subtractFrom : Cond) ∈ gw := gw_mem 327 (by decide +kernel) (by decide +kernel)
theorem k_328 : (.methodLink "LimbRowsLaw" (124) y_L_subtractProduct : Cond) ∈ gw := gw_mem 328 (by decide +kernel) (by decide +kernel)
theorem k_329 : (.static y_L_subtractProduct : Cond) ∈ gw := gw_mem 329 (by decide +kernel) (by decide +kernel)
theorem k_330 : (.codeWith y_L_subtractProduct method_12_code (6) (some .int) [((0), (12), (15), (13)), ((0), (12), (19), (15))] : Cond) ∈ gw := gw_mem 330 (by decide +kernel) (by decide +kernel)
theorem k_331 : (.methodLink "LimbRowsLaw" (45) y_X1_subtractProduct : Cond) ∈ gw := gw_mem 331 (by decide +kernel) (by decide +kernel)
theorem k_332 : (.instanceMethod y_X1_subtractProduct : Cond) ∈ gw := gw_mem 332 (by decide +kernel) (by decide +kernel)
theorem k_333 : (.selects "LimbRows" y_X1_subtractProduct y_X1_subtractProduct : Cond) ∈ gw := gw_mem 333 (by decide +kernel) (by decide +kernel)
theorem k_334 : (.code y_X1_subtractProduct prog_1_method_11_code (7) (some .int) : Cond) ∈ gw := gw_mem 334 (by decide +kernel) (by decide +kernel)
theorem kt_335 : lw_tbl[335]? = some (.methodLinkNest "LimbRows" (75) y_X0_subtractProductOf "LimbRows") := by decide +kernel
theorem kt_336 : lw_tbl[336]? = some (.privateMethod y_X0_subtractProductOf) := by decide +kernel
theorem k_337 : (.instanceMethod y_X0_subtractProductOf : Cond) ∈ gw := gw_mem 337 (by decide +kernel) (by decide +kernel)
theorem k_338 : (.code y_X0_subtractProductOf prog_2_method_15_code (3) none : Cond) ∈ gw := gw_mem 338 (by decide +kernel) (by decide +kernel)
theorem k_339 : (.methodLink "LimbRows$Row" (65) y_X0_complement : Cond) ∈ gw := gw_mem 339 (by decide +kernel) (by decide +kernel)
theorem kt_340 : lw_tbl[340]? = some (.privateMethod y_X0_complement) := by decide +kernel
theorem k_341 : (.instanceMethod y_X0_complement : Cond) ∈ gw := gw_mem 341 (by decide +kernel) (by decide +kernel)
theorem k_342 : (.code y_X0_complement prog_2_method_16_code (2) none : Cond) ∈ gw := gw_mem 342 (by decide +kernel) (by decide +kernel)
theorem k_343 : (.methodLink "LimbRows$Row" (68) y_X0_addProductOf : Cond) ∈ gw := gw_mem 343 (by decide +kernel) (by decide +kernel)
theorem k_344 : (.methodLink "LimbRowsLaw" (127) y_L_times : Cond) ∈ gw := gw_mem 344 (by decide +kernel) (by decide +kernel)
theorem k_345 : (.static y_L_times : Cond) ∈ gw := gw_mem 345 (by decide +kernel) (by decide +kernel)
theorem k_346 : (.codeWith y_L_times method_13_code (6) (some .int) [((0), (11), (14), (13))] : Cond) ∈ gw := gw_mem 346 (by decide +kernel) (by decide +kernel)
theorem k_347 : (.methodLink "LimbRowsLaw" (48) y_X1_times : Cond) ∈ gw := gw_mem 347 (by decide +kernel) (by decide +kernel)
theorem k_348 : (.instanceMethod y_X1_times : Cond) ∈ gw := gw_mem 348 (by decide +kernel) (by decide +kernel)
theorem k_349 : (.selects "LimbRows" y_X1_times y_X1_times : Cond) ∈ gw := gw_mem 349 (by decide +kernel) (by decide +kernel)
theorem k_350 : (.code y_X1_times prog_1_method_12_code (5) (some .int) : Cond) ∈ gw := gw_mem 350 (by decide +kernel) (by decide +kernel)
theorem kt_351 : lw_tbl[351]? = some (.methodLinkNest "LimbRows" (78) y_X0_multiplyBy "LimbRows") := by decide +kernel
theorem kt_352 : lw_tbl[352]? = some (.privateMethod y_X0_multiplyBy) := by decide +kernel
theorem k_353 : (.instanceMethod y_X0_multiplyBy : Cond) ∈ gw := gw_mem 353 (by decide +kernel) (by decide +kernel)
theorem k_354 : (.code y_X0_multiplyBy prog_2_method_18_code (14) none : Cond) ∈ gw := gw_mem 354 (by decide +kernel) (by decide +kernel)
theorem k_355 : (.methodLink "LimbRowsLaw" (130) y_L_negate : Cond) ∈ gw := gw_mem 355 (by decide +kernel) (by decide +kernel)
theorem k_356 : (.static y_L_negate : Cond) ∈ gw := gw_mem 356 (by decide +kernel) (by decide +kernel)
theorem k_357 : (.codeWith y_L_negate method_14_code (4) (some .int) [((0), (16), (19), (13))] : Cond) ∈ gw := gw_mem 357 (by decide +kernel) (by decide +kernel)
theorem k_358 : (.methodLink "LimbRowsLaw" (52) y_X1_negate : Cond) ∈ gw := gw_mem 358 (by decide +kernel) (by decide +kernel)
theorem k_359 : (.instanceMethod y_X1_negate : Cond) ∈ gw := gw_mem 359 (by decide +kernel) (by decide +kernel)
theorem k_360 : (.selects "LimbRows" y_X1_negate y_X1_negate : Cond) ∈ gw := gw_mem 360 (by decide +kernel) (by decide +kernel)
theorem k_361 : (.code y_X1_negate prog_1_method_13_code (2) (some .boolean) : Cond) ∈ gw := gw_mem 361 (by decide +kernel) (by decide +kernel)
theorem kt_362 : lw_tbl[362]? = some (.methodLinkNest "LimbRows" (82) y_X0_turnRound "LimbRows") := by decide +kernel
theorem kt_363 : lw_tbl[363]? = some (.privateMethod y_X0_turnRound) := by decide +kernel
theorem k_364 : (.instanceMethod y_X0_turnRound : Cond) ∈ gw := gw_mem 364 (by decide +kernel) (by decide +kernel)
theorem k_365 : (.code y_X0_turnRound prog_2_method_19_code (2) (some .boolean) : Cond) ∈ gw := gw_mem 365 (by decide +kernel) (by decide +kernel)
theorem k_366 : (.methodLink "LimbRows$Row" (72) y_X0_increment : Cond) ∈ gw := gw_mem 366 (by decide +kernel) (by decide +kernel)
theorem kt_367 : lw_tbl[367]? = some (.privateMethod y_X0_increment) := by decide +kernel
theorem k_368 : (.instanceMethod y_X0_increment : Cond) ∈ gw := gw_mem 368 (by decide +kernel) (by decide +kernel)
theorem k_369 : (.code y_X0_increment prog_2_method_17_code (2) none : Cond) ∈ gw := gw_mem 369 (by decide +kernel) (by decide +kernel)
theorem k_370 : (.methodLink "LimbRowsLaw" (133) y_L_left : Cond) ∈ gw := gw_mem 370 (by decide +kernel) (by decide +kernel)
theorem k_371 : (.static y_L_left : Cond) ∈ gw := gw_mem 371 (by decide +kernel) (by decide +kernel)
theorem k_372 : (.codeWith y_L_left method_15_code (5) (some .int) [((0), (10), (13), (13)), ((0), (10), (17), (15))] : Cond) ∈ gw := gw_mem 372 (by decide +kernel) (by decide +kernel)
theorem k_373 : (.methodLink "LimbRowsLaw" (56) y_X1_left : Cond) ∈ gw := gw_mem 373 (by decide +kernel) (by decide +kernel)
theorem k_374 : (.instanceMethod y_X1_left : Cond) ∈ gw := gw_mem 374 (by decide +kernel) (by decide +kernel)
theorem k_375 : (.selects "LimbRows" y_X1_left y_X1_left : Cond) ∈ gw := gw_mem 375 (by decide +kernel) (by decide +kernel)
theorem k_376 : (.code y_X1_left prog_1_method_14_code (4) (some .int) : Cond) ∈ gw := gw_mem 376 (by decide +kernel) (by decide +kernel)
theorem k_377 : (.methodLink "LimbRows" (86) y_X1_refuseShift : Cond) ∈ gw := gw_mem 377 (by decide +kernel) (by decide +kernel)
theorem k_378 : (.static y_X1_refuseShift : Cond) ∈ gw := gw_mem 378 (by decide +kernel) (by decide +kernel)
theorem k_379 : (.code y_X1_refuseShift prog_1_method_24_code (1) none : Cond) ∈ gw := gw_mem 379 (by decide +kernel) (by decide +kernel)
theorem kt_380 : lw_tbl[380]? = some (.stringRef "LimbRows" (124) "a shift is 0 to 8192 bits") := by decide +kernel
theorem kt_381 : lw_tbl[381]? = some (.methodLinkNest "LimbRows" (90) y_X0_shiftUp "LimbRows") := by decide +kernel
theorem kt_382 : lw_tbl[382]? = some (.privateMethod y_X0_shiftUp) := by decide +kernel
theorem k_383 : (.instanceMethod y_X0_shiftUp : Cond) ∈ gw := gw_mem 383 (by decide +kernel) (by decide +kernel)
theorem k_384 : (.code y_X0_shiftUp prog_2_method_21_code (5) none : Cond) ∈ gw := gw_mem 384 (by decide +kernel) (by decide +kernel)
theorem k_385 : (.methodLink "LimbRows$Row" (75) y_X0_pairAt : Cond) ∈ gw := gw_mem 385 (by decide +kernel) (by decide +kernel)
theorem kt_386 : lw_tbl[386]? = some (.privateMethod y_X0_pairAt) := by decide +kernel
theorem k_387 : (.instanceMethod y_X0_pairAt : Cond) ∈ gw := gw_mem 387 (by decide +kernel) (by decide +kernel)
theorem k_388 : (.code y_X0_pairAt prog_2_method_20_code (2) (some .long) : Cond) ∈ gw := gw_mem 388 (by decide +kernel) (by decide +kernel)
theorem k_389 : (.methodLink "LimbRowsLaw" (136) y_L_right : Cond) ∈ gw := gw_mem 389 (by decide +kernel) (by decide +kernel)
theorem k_390 : (.static y_L_right : Cond) ∈ gw := gw_mem 390 (by decide +kernel) (by decide +kernel)
theorem k_391 : (.codeWith y_L_right method_16_code (5) (some .int) [((0), (10), (13), (13)), ((0), (10), (17), (15))] : Cond) ∈ gw := gw_mem 391 (by decide +kernel) (by decide +kernel)
theorem k_392 : (.methodLink "LimbRowsLaw" (59) y_X1_right : Cond) ∈ gw := gw_mem 392 (by decide +kernel) (by decide +kernel)
theorem k_393 : (.instanceMethod y_X1_right : Cond) ∈ gw := gw_mem 393 (by decide +kernel) (by decide +kernel)
theorem k_394 : (.selects "LimbRows" y_X1_right y_X1_right : Cond) ∈ gw := gw_mem 394 (by decide +kernel) (by decide +kernel)
theorem k_395 : (.code y_X1_right prog_1_method_15_code (4) (some .int) : Cond) ∈ gw := gw_mem 395 (by decide +kernel) (by decide +kernel)
theorem kt_396 : lw_tbl[396]? = some (.methodLinkNest "LimbRows" (93) y_X0_shiftDown "LimbRows") := by decide +kernel
theorem kt_397 : lw_tbl[397]? = some (.privateMethod y_X0_shiftDown) := by decide +kernel
theorem k_398 : (.instanceMethod y_X0_shiftDown : Cond) ∈ gw := gw_mem 398 (by decide +kernel) (by decide +kernel)
theorem k_399 : (.code y_X0_shiftDown prog_2_method_22_code (5) none : Cond) ∈ gw := gw_mem 399 (by decide +kernel) (by decide +kernel)
theorem k_400 : (.methodLink "LimbRowsLaw" (139) y_L_nearest : Cond) ∈ gw := gw_mem 400 (by decide +kernel) (by decide +kernel)
theorem k_401 : (.static y_L_nearest : Cond) ∈ gw := gw_mem 401 (by decide +kernel) (by decide +kernel)
theorem k_402 : (.codeWith y_L_nearest method_17_code (5) (some .int) [((0), (10), (13), (13)), ((0), (10), (17), (15))] : Cond) ∈ gw := gw_mem 402 (by decide +kernel) (by decide +kernel)
theorem k_403 : (.methodLink "LimbRowsLaw" (62) y_X1_nearest : Cond) ∈ gw := gw_mem 403 (by decide +kernel) (by decide +kernel)
theorem k_404 : (.instanceMethod y_X1_nearest : Cond) ∈ gw := gw_mem 404 (by decide +kernel) (by decide +kernel)
theorem k_405 : (.selects "LimbRows" y_X1_nearest y_X1_nearest : Cond) ∈ gw := gw_mem 405 (by decide +kernel) (by decide +kernel)
theorem k_406 : (.code y_X1_nearest prog_1_method_16_code (5) (some .int) : Cond) ∈ gw := gw_mem 406 (by decide +kernel) (by decide +kernel)
theorem kt_407 : lw_tbl[407]? = some (.methodLinkNest "LimbRows" (96) y_X0_roundsUp "LimbRows") := by decide +kernel
theorem kt_408 : lw_tbl[408]? = some (.privateMethod y_X0_roundsUp) := by decide +kernel
theorem k_409 : (.instanceMethod y_X0_roundsUp : Cond) ∈ gw := gw_mem 409 (by decide +kernel) (by decide +kernel)
theorem k_410 : (.code y_X0_roundsUp prog_2_method_23_code (3) (some .boolean) : Cond) ∈ gw := gw_mem 410 (by decide +kernel) (by decide +kernel)
theorem k_411 : (.methodLink "LimbRows$Row" (78) y_X0_bitAt : Cond) ∈ gw := gw_mem 411 (by decide +kernel) (by decide +kernel)
theorem kt_412 : lw_tbl[412]? = some (.privateMethod y_X0_bitAt) := by decide +kernel
theorem k_413 : (.instanceMethod y_X0_bitAt : Cond) ∈ gw := gw_mem 413 (by decide +kernel) (by decide +kernel)
theorem k_414 : (.code y_X0_bitAt prog_2_method_5_code (2) (some .int) : Cond) ∈ gw := gw_mem 414 (by decide +kernel) (by decide +kernel)
theorem k_415 : (.methodLink "LimbRows$Row" (81) y_X0_trailingZeros : Cond) ∈ gw := gw_mem 415 (by decide +kernel) (by decide +kernel)
theorem kt_416 : lw_tbl[416]? = some (.privateMethod y_X0_trailingZeros) := by decide +kernel
theorem k_417 : (.instanceMethod y_X0_trailingZeros : Cond) ∈ gw := gw_mem 417 (by decide +kernel) (by decide +kernel)
theorem k_418 : (.code y_X0_trailingZeros prog_2_method_27_code (2) (some .int) : Cond) ∈ gw := gw_mem 418 (by decide +kernel) (by decide +kernel)
theorem k_419 : (.methodLink "LimbRows$Row" (92) y_JI_numberOfTrailingZeros : Cond) ∈ gw := gw_mem 419 (by decide +kernel) (by decide +kernel)
theorem k_420 : (.static y_JI_numberOfTrailingZeros : Cond) ∈ gw := gw_mem 420 (by decide +kernel) (by decide +kernel)
theorem k_421 : (.code y_JI_numberOfTrailingZeros prog_9_method_48_code (2) (some .int) : Cond) ∈ gw := gw_mem 421 (by decide +kernel) (by decide +kernel)
theorem kt_422 : lw_tbl[422]? = some (.methodLinkNest "LimbRows" (99) y_X0_increment "LimbRows") := by decide +kernel
theorem k_423 : (.methodLink "LimbRowsLaw" (142) y_L_divide : Cond) ∈ gw := gw_mem 423 (by decide +kernel) (by decide +kernel)
theorem k_424 : (.static y_L_divide : Cond) ∈ gw := gw_mem 424 (by decide +kernel) (by decide +kernel)
theorem k_425 : (.codeWith y_L_divide method_18_code (6) (some .int) [((0), (10), (13), (13)), ((0), (10), (17), (15))] : Cond) ∈ gw := gw_mem 425 (by decide +kernel) (by decide +kernel)
theorem k_426 : (.methodLink "LimbRowsLaw" (65) y_X1_divide : Cond) ∈ gw := gw_mem 426 (by decide +kernel) (by decide +kernel)
theorem k_427 : (.instanceMethod y_X1_divide : Cond) ∈ gw := gw_mem 427 (by decide +kernel) (by decide +kernel)
theorem k_428 : (.selects "LimbRows" y_X1_divide y_X1_divide : Cond) ∈ gw := gw_mem 428 (by decide +kernel) (by decide +kernel)
theorem k_429 : (.code y_X1_divide prog_1_method_17_code (5) (some .long) : Cond) ∈ gw := gw_mem 429 (by decide +kernel) (by decide +kernel)
theorem k_430 : (.constantLong "LimbRows" (102) (4611686018427387903) : Cond) ∈ gw := gw_mem 430 (by decide +kernel) (by decide +kernel)
theorem kt_431 : lw_tbl[431]? = some (.stringRef "LimbRows" (104) "a divisor is 1 to 2^62 - 1") := by decide +kernel
theorem kt_432 : lw_tbl[432]? = some (.methodLinkNest "LimbRows" (106) y_X0_divideBy "LimbRows") := by decide +kernel
theorem kt_433 : lw_tbl[433]? = some (.privateMethod y_X0_divideBy) := by decide +kernel
theorem k_434 : (.instanceMethod y_X0_divideBy : Cond) ∈ gw := gw_mem 434 (by decide +kernel) (by decide +kernel)
theorem k_435 : (.code y_X0_divideBy prog_2_method_24_code (5) (some .long) : Cond) ∈ gw := gw_mem 435 (by decide +kernel) (by decide +kernel)
theorem k_436 : (.methodLink "LimbRows$Row" (84) y_X0_divideLimbs : Cond) ∈ gw := gw_mem 436 (by decide +kernel) (by decide +kernel)
theorem kt_437 : lw_tbl[437]? = some (.privateMethod y_X0_divideLimbs) := by decide +kernel
theorem k_438 : (.instanceMethod y_X0_divideLimbs : Cond) ∈ gw := gw_mem 438 (by decide +kernel) (by decide +kernel)
theorem k_439 : (.code y_X0_divideLimbs prog_2_method_25_code (6) (some .long) : Cond) ∈ gw := gw_mem 439 (by decide +kernel) (by decide +kernel)
theorem k_440 : (.methodLink "LimbRows$Row" (88) y_X0_divideLimb : Cond) ∈ gw := gw_mem 440 (by decide +kernel) (by decide +kernel)
theorem kt_441 : lw_tbl[441]? = some (.privateMethod y_X0_divideLimb) := by decide +kernel
theorem k_442 : (.instanceMethod y_X0_divideLimb : Cond) ∈ gw := gw_mem 442 (by decide +kernel) (by decide +kernel)
theorem k_443 : (.code y_X0_divideLimb prog_2_method_26_code (10) (some .long) : Cond) ∈ gw := gw_mem 443 (by decide +kernel) (by decide +kernel)
theorem k_444 : (.methodLink "LimbRowsLaw" (145) y_L_zeros : Cond) ∈ gw := gw_mem 444 (by decide +kernel) (by decide +kernel)
theorem k_445 : (.static y_L_zeros : Cond) ∈ gw := gw_mem 445 (by decide +kernel) (by decide +kernel)
theorem k_446 : (.codeWith y_L_zeros method_19_code (4) (some .int) [((0), (9), (12), (13))] : Cond) ∈ gw := gw_mem 446 (by decide +kernel) (by decide +kernel)
theorem k_447 : (.methodLink "LimbRowsLaw" (69) y_X1_zeros : Cond) ∈ gw := gw_mem 447 (by decide +kernel) (by decide +kernel)
theorem k_448 : (.instanceMethod y_X1_zeros : Cond) ∈ gw := gw_mem 448 (by decide +kernel) (by decide +kernel)
theorem k_449 : (.selects "LimbRows" y_X1_zeros y_X1_zeros : Cond) ∈ gw := gw_mem 449 (by decide +kernel) (by decide +kernel)
theorem k_450 : (.code y_X1_zeros prog_1_method_18_code (2) (some .int) : Cond) ∈ gw := gw_mem 450 (by decide +kernel) (by decide +kernel)
theorem kt_451 : lw_tbl[451]? = some (.methodLinkNest "LimbRows" (110) y_X0_trailingZeros "LimbRows") := by decide +kernel
theorem k_452 : (.methodLink "LimbRowsLaw" (148) y_L_length : Cond) ∈ gw := gw_mem 452 (by decide +kernel) (by decide +kernel)
theorem k_453 : (.static y_L_length : Cond) ∈ gw := gw_mem 453 (by decide +kernel) (by decide +kernel)
theorem k_454 : (.codeWith y_L_length method_20_code (4) (some .int) [((0), (9), (12), (13))] : Cond) ∈ gw := gw_mem 454 (by decide +kernel) (by decide +kernel)
theorem k_455 : (.methodLink "LimbRowsLaw" (72) y_X1_length : Cond) ∈ gw := gw_mem 455 (by decide +kernel) (by decide +kernel)
theorem k_456 : (.instanceMethod y_X1_length : Cond) ∈ gw := gw_mem 456 (by decide +kernel) (by decide +kernel)
theorem k_457 : (.selects "LimbRows" y_X1_length y_X1_length : Cond) ∈ gw := gw_mem 457 (by decide +kernel) (by decide +kernel)
theorem k_458 : (.code y_X1_length prog_1_method_19_code (2) (some .int) : Cond) ∈ gw := gw_mem 458 (by decide +kernel) (by decide +kernel)
theorem kt_459 : lw_tbl[459]? = some (.methodLinkNest "LimbRows" (113) y_X0_bitLength "LimbRows") := by decide +kernel
theorem k_460 : (.methodLink "LimbRowsLaw" (151) y_L_sign : Cond) ∈ gw := gw_mem 460 (by decide +kernel) (by decide +kernel)
theorem k_461 : (.static y_L_sign : Cond) ∈ gw := gw_mem 461 (by decide +kernel) (by decide +kernel)
theorem k_462 : (.codeWith y_L_sign method_21_code (4) (some .int) [((0), (9), (12), (13))] : Cond) ∈ gw := gw_mem 462 (by decide +kernel) (by decide +kernel)
theorem k_463 : (.methodLink "LimbRowsLaw" (75) y_X1_sign : Cond) ∈ gw := gw_mem 463 (by decide +kernel) (by decide +kernel)
theorem k_464 : (.instanceMethod y_X1_sign : Cond) ∈ gw := gw_mem 464 (by decide +kernel) (by decide +kernel)
theorem k_465 : (.selects "LimbRows" y_X1_sign y_X1_sign : Cond) ∈ gw := gw_mem 465 (by decide +kernel) (by decide +kernel)
theorem k_466 : (.code y_X1_sign prog_1_method_20_code (2) (some .int) : Cond) ∈ gw := gw_mem 466 (by decide +kernel) (by decide +kernel)
theorem k_467 : (.methodLink "LimbRowsLaw" (154) y_L_compare : Cond) ∈ gw := gw_mem 467 (by decide +kernel) (by decide +kernel)
theorem k_468 : (.static y_L_compare : Cond) ∈ gw := gw_mem 468 (by decide +kernel) (by decide +kernel)
theorem k_469 : (.codeWith y_L_compare method_22_code (5) (some .int) [((0), (10), (13), (13))] : Cond) ∈ gw := gw_mem 469 (by decide +kernel) (by decide +kernel)
theorem k_470 : (.methodLink "LimbRowsLaw" (78) y_X1_compare : Cond) ∈ gw := gw_mem 470 (by decide +kernel) (by decide +kernel)
theorem k_471 : (.instanceMethod y_X1_compare : Cond) ∈ gw := gw_mem 471 (by decide +kernel) (by decide +kernel)
theorem k_472 : (.selects "LimbRows" y_X1_compare y_X1_compare : Cond) ∈ gw := gw_mem 472 (by decide +kernel) (by decide +kernel)
theorem k_473 : (.code y_X1_compare prog_1_method_21_code (5) (some .int) : Cond) ∈ gw := gw_mem 473 (by decide +kernel) (by decide +kernel)
theorem kt_474 : lw_tbl[474]? = some (.methodLinkNest "LimbRows" (116) y_X0_order "LimbRows") := by decide +kernel
theorem kt_475 : lw_tbl[475]? = some (.privateMethod y_X0_order) := by decide +kernel
theorem k_476 : (.instanceMethod y_X0_order : Cond) ∈ gw := gw_mem 476 (by decide +kernel) (by decide +kernel)
theorem k_477 : (.code y_X0_order prog_2_method_30_code (4) (some .int) : Cond) ∈ gw := gw_mem 477 (by decide +kernel) (by decide +kernel)
theorem k_478 : (.methodLink "LimbRows$Row" (100) y_JM_max : Cond) ∈ gw := gw_mem 478 (by decide +kernel) (by decide +kernel)
theorem k_479 : (.static y_JM_max : Cond) ∈ gw := gw_mem 479 (by decide +kernel) (by decide +kernel)
theorem k_480 : (.code y_JM_max prog_11_method_65_code (2) (some .int) : Cond) ∈ gw := gw_mem 480 (by decide +kernel) (by decide +kernel)
theorem k_481 : (.methodLink "LimbRows$Row" (103) y_JL_compare : Cond) ∈ gw := gw_mem 481 (by decide +kernel) (by decide +kernel)
theorem k_482 : (.static y_JL_compare : Cond) ∈ gw := gw_mem 482 (by decide +kernel) (by decide +kernel)
theorem k_483 : (.code y_JL_compare prog_10_method_42_code (4) (some .int) : Cond) ∈ gw := gw_mem 483 (by decide +kernel) (by decide +kernel)
theorem k_484 : (.classLink "LimbRowsLaw" (82) "LimbRowsModel" : Cond) ∈ gw := gw_mem 484 (by decide +kernel) (by decide +kernel)
theorem k_485 : (.instantiable "LimbRowsModel" (5) : Cond) ∈ gw := gw_mem 485 (by decide +kernel) (by decide +kernel)
theorem k_486 : (.methodLink "LimbRowsLaw" (84) y_X2_init : Cond) ∈ gw := gw_mem 486 (by decide +kernel) (by decide +kernel)
theorem k_487 : (.instanceMethod y_X2_init : Cond) ∈ gw := gw_mem 487 (by decide +kernel) (by decide +kernel)
theorem k_488 : (.code y_X2_init prog_4_method_1_code (2) none : Cond) ∈ gw := gw_mem 488 (by decide +kernel) (by decide +kernel)
theorem k_489 : (.methodLink "LimbRowsModel" (1) ⟨"java/lang/Object", "<init>", "()V"⟩ : Cond) ∈ gw := gw_mem 489 (by decide +kernel) (by decide +kernel)
theorem k_490 : (.constant "LimbRowsModel" (13) (32768) : Cond) ∈ gw := gw_mem 490 (by decide +kernel) (by decide +kernel)
theorem k_491 : (.fieldLink "LimbRowsModel" (23) "LimbRowsModel" "code" "I" : Cond) ∈ gw := gw_mem 491 (by decide +kernel) (by decide +kernel)
theorem k_492 : (.fieldLink "LimbRowsModel" (7) "LimbRowsModel" "widths" "[I" : Cond) ∈ gw := gw_mem 492 (by decide +kernel) (by decide +kernel)
theorem k_493 : (.fieldLink "LimbRowsModel" (14) "LimbRowsModel" "rows" "[I" : Cond) ∈ gw := gw_mem 493 (by decide +kernel) (by decide +kernel)
theorem k_494 : (.fieldLink "LimbRowsModel" (17) "LimbRowsModel" "signs" "[I" : Cond) ∈ gw := gw_mem 494 (by decide +kernel) (by decide +kernel)
theorem k_495 : (.fieldLink "LimbRowsModel" (20) "LimbRowsModel" "sizes" "[I" : Cond) ∈ gw := gw_mem 495 (by decide +kernel) (by decide +kernel)
theorem k_496 : (.lays "LimbRowsModel" "LimbRowsModel" "code" "I" : Cond) ∈ gw := gw_mem 496 (by decide +kernel) (by decide +kernel)
theorem k_497 : (.soleField "LimbRowsModel" "code" : Cond) ∈ gw := gw_mem 497 (by decide +kernel) (by decide +kernel)
theorem k_498 : (.laysFinal "LimbRowsModel" "LimbRowsModel" "widths" "[I" : Cond) ∈ gw := gw_mem 498 (by decide +kernel) (by decide +kernel)
theorem k_499 : (.soleField "LimbRowsModel" "widths" : Cond) ∈ gw := gw_mem 499 (by decide +kernel) (by decide +kernel)
theorem k_500 : (.laysFinal "LimbRowsModel" "LimbRowsModel" "rows" "[I" : Cond) ∈ gw := gw_mem 500 (by decide +kernel) (by decide +kernel)
theorem k_501 : (.soleField "LimbRowsModel" "rows" : Cond) ∈ gw := gw_mem 501 (by decide +kernel) (by decide +kernel)
theorem k_502 : (.laysFinal "LimbRowsModel" "LimbRowsModel" "signs" "[I" : Cond) ∈ gw := gw_mem 502 (by decide +kernel) (by decide +kernel)
theorem k_503 : (.soleField "LimbRowsModel" "signs" : Cond) ∈ gw := gw_mem 503 (by decide +kernel) (by decide +kernel)
theorem k_504 : (.laysFinal "LimbRowsModel" "LimbRowsModel" "sizes" "[I" : Cond) ∈ gw := gw_mem 504 (by decide +kernel) (by decide +kernel)
theorem k_505 : (.soleField "LimbRowsModel" "sizes" : Cond) ∈ gw := gw_mem 505 (by decide +kernel) (by decide +kernel)
theorem k_506 : (.superclass "LimbRowsModel" "java/lang/Object" : Cond) ∈ gw := gw_mem 506 (by decide +kernel) (by decide +kernel)
theorem k_507 : (.methodLink "LimbRowsLaw" (91) y_X2_thrown : Cond) ∈ gw := gw_mem 507 (by decide +kernel) (by decide +kernel)
theorem k_508 : (.instanceMethod y_X2_thrown : Cond) ∈ gw := gw_mem 508 (by decide +kernel) (by decide +kernel)
theorem k_509 : (.selects "LimbRowsModel" y_X2_thrown y_X2_thrown : Cond) ∈ gw := gw_mem 509 (by decide +kernel) (by decide +kernel)
theorem k_510 : (.code y_X2_thrown prog_4_method_2_code (1) (some .int) : Cond) ∈ gw := gw_mem 510 (by decide +kernel) (by decide +kernel)
theorem k_511 : (.methodLink "LimbRowsLaw" (90) y_X2_widen : Cond) ∈ gw := gw_mem 511 (by decide +kernel) (by decide +kernel)
theorem k_512 : (.instanceMethod y_X2_widen : Cond) ∈ gw := gw_mem 512 (by decide +kernel) (by decide +kernel)
theorem k_513 : (.selects "LimbRowsModel" y_X2_widen y_X2_widen : Cond) ∈ gw := gw_mem 513 (by decide +kernel) (by decide +kernel)
theorem k_514 : (.code y_X2_widen prog_4_method_18_code (3) (some .boolean) : Cond) ∈ gw := gw_mem 514 (by decide +kernel) (by decide +kernel)
theorem k_515 : (.methodLink "LimbRowsModel" (62) y_X2_isRow : Cond) ∈ gw := gw_mem 515 (by decide +kernel) (by decide +kernel)
theorem k_516 : (.static y_X2_isRow : Cond) ∈ gw := gw_mem 516 (by decide +kernel) (by decide +kernel)
theorem k_517 : (.code y_X2_isRow prog_4_method_4_code (1) (some .boolean) : Cond) ∈ gw := gw_mem 517 (by decide +kernel) (by decide +kernel)
theorem k_518 : (.methodLink "LimbRowsModel" (65) y_X2_refuses : Cond) ∈ gw := gw_mem 518 (by decide +kernel) (by decide +kernel)
theorem kt_519 : lw_tbl[519]? = some (.privateMethod y_X2_refuses) := by decide +kernel
theorem k_520 : (.instanceMethod y_X2_refuses : Cond) ∈ gw := gw_mem 520 (by decide +kernel) (by decide +kernel)
theorem k_521 : (.code y_X2_refuses prog_4_method_3_code (2) (some .boolean) : Cond) ∈ gw := gw_mem 521 (by decide +kernel) (by decide +kernel)
theorem k_522 : (.methodLink "LimbRowsModel" (53) y_X2_load : Cond) ∈ gw := gw_mem 522 (by decide +kernel) (by decide +kernel)
theorem kt_523 : lw_tbl[523]? = some (.privateMethod y_X2_load) := by decide +kernel
theorem k_524 : (.instanceMethod y_X2_load : Cond) ∈ gw := gw_mem 524 (by decide +kernel) (by decide +kernel)
theorem k_525 : (.code y_X2_load prog_4_method_7_code (8) none : Cond) ∈ gw := gw_mem 525 (by decide +kernel) (by decide +kernel)
theorem k_526 : (.methodLink "LimbRowsModel" (27) y_X2_clear : Cond) ∈ gw := gw_mem 526 (by decide +kernel) (by decide +kernel)
theorem kt_527 : lw_tbl[527]? = some (.privateMethod y_X2_clear) := by decide +kernel
theorem k_528 : (.instanceMethod y_X2_clear : Cond) ∈ gw := gw_mem 528 (by decide +kernel) (by decide +kernel)
theorem k_529 : (.code y_X2_clear prog_4_method_5_code (3) none : Cond) ∈ gw := gw_mem 529 (by decide +kernel) (by decide +kernel)
theorem k_530 : (.constant "LimbRowsModel" (31) (65535) : Cond) ∈ gw := gw_mem 530 (by decide +kernel) (by decide +kernel)
theorem k_531 : (.constant "LimbRowsModel" (32) (65536) : Cond) ∈ gw := gw_mem 531 (by decide +kernel) (by decide +kernel)
theorem k_532 : (.methodLink "LimbRowsModel" (33) y_X2_isZero : Cond) ∈ gw := gw_mem 532 (by decide +kernel) (by decide +kernel)
theorem kt_533 : lw_tbl[533]? = some (.privateMethod y_X2_isZero) := by decide +kernel
theorem k_534 : (.instanceMethod y_X2_isZero : Cond) ∈ gw := gw_mem 534 (by decide +kernel) (by decide +kernel)
theorem k_535 : (.code y_X2_isZero prog_4_method_6_code (4) (some .boolean) : Cond) ∈ gw := gw_mem 535 (by decide +kernel) (by decide +kernel)
theorem k_536 : (.methodLink "LimbRowsModel" (68) y_X2_store : Cond) ∈ gw := gw_mem 536 (by decide +kernel) (by decide +kernel)
theorem kt_537 : lw_tbl[537]? = some (.privateMethod y_X2_store) := by decide +kernel
theorem k_538 : (.instanceMethod y_X2_store : Cond) ∈ gw := gw_mem 538 (by decide +kernel) (by decide +kernel)
theorem k_539 : (.code y_X2_store prog_4_method_13_code (8) (some .boolean) : Cond) ∈ gw := gw_mem 539 (by decide +kernel) (by decide +kernel)
theorem k_540 : (.methodLink "LimbRowsModel" (50) y_X2_lengthOf : Cond) ∈ gw := gw_mem 540 (by decide +kernel) (by decide +kernel)
theorem kt_541 : lw_tbl[541]? = some (.privateMethod y_X2_lengthOf) := by decide +kernel
theorem k_542 : (.instanceMethod y_X2_lengthOf : Cond) ∈ gw := gw_mem 542 (by decide +kernel) (by decide +kernel)
theorem k_543 : (.code y_X2_lengthOf prog_4_method_12_code (3) (some .int) : Cond) ∈ gw := gw_mem 543 (by decide +kernel) (by decide +kernel)
theorem k_544 : (.methodLink "LimbRowsModel" (43) y_X2_bits : Cond) ∈ gw := gw_mem 544 (by decide +kernel) (by decide +kernel)
theorem kt_545 : lw_tbl[545]? = some (.privateMethod y_X2_bits) := by decide +kernel
theorem k_546 : (.instanceMethod y_X2_bits : Cond) ∈ gw := gw_mem 546 (by decide +kernel) (by decide +kernel)
theorem k_547 : (.code y_X2_bits prog_4_method_9_code (4) (some .int) : Cond) ∈ gw := gw_mem 547 (by decide +kernel) (by decide +kernel)
theorem k_548 : (.methodLink "LimbRowsModel" (47) y_X2_zerosOf : Cond) ∈ gw := gw_mem 548 (by decide +kernel) (by decide +kernel)
theorem kt_549 : lw_tbl[549]? = some (.privateMethod y_X2_zerosOf) := by decide +kernel
theorem k_550 : (.instanceMethod y_X2_zerosOf : Cond) ∈ gw := gw_mem 550 (by decide +kernel) (by decide +kernel)
theorem k_551 : (.code y_X2_zerosOf prog_4_method_11_code (3) (some .int) : Cond) ∈ gw := gw_mem 551 (by decide +kernel) (by decide +kernel)
theorem k_552 : (.methodLink "LimbRowsModel" (39) y_X2_bit : Cond) ∈ gw := gw_mem 552 (by decide +kernel) (by decide +kernel)
theorem kt_553 : lw_tbl[553]? = some (.privateMethod y_X2_bit) := by decide +kernel
theorem k_554 : (.instanceMethod y_X2_bit : Cond) ∈ gw := gw_mem 554 (by decide +kernel) (by decide +kernel)
theorem k_555 : (.code y_X2_bit prog_4_method_10_code (3) (some .int) : Cond) ∈ gw := gw_mem 555 (by decide +kernel) (by decide +kernel)
theorem k_556 : (.methodLink "LimbRowsLaw" (98) y_X2_width : Cond) ∈ gw := gw_mem 556 (by decide +kernel) (by decide +kernel)
theorem k_557 : (.instanceMethod y_X2_width : Cond) ∈ gw := gw_mem 557 (by decide +kernel) (by decide +kernel)
theorem k_558 : (.selects "LimbRowsModel" y_X2_width y_X2_width : Cond) ∈ gw := gw_mem 558 (by decide +kernel) (by decide +kernel)
theorem k_559 : (.code y_X2_width prog_4_method_19_code (2) (some .int) : Cond) ∈ gw := gw_mem 559 (by decide +kernel) (by decide +kernel)
theorem k_560 : (.methodLink "LimbRowsLaw" (104) y_X2_set : Cond) ∈ gw := gw_mem 560 (by decide +kernel) (by decide +kernel)
theorem k_561 : (.instanceMethod y_X2_set : Cond) ∈ gw := gw_mem 561 (by decide +kernel) (by decide +kernel)
theorem k_562 : (.selects "LimbRowsModel" y_X2_set y_X2_set : Cond) ∈ gw := gw_mem 562 (by decide +kernel) (by decide +kernel)
theorem k_563 : (.code y_X2_set prog_4_method_20_code (4) (some .boolean) : Cond) ∈ gw := gw_mem 563 (by decide +kernel) (by decide +kernel)
theorem k_564 : (.methodLink "LimbRowsModel" (72) y_X2_loadLong : Cond) ∈ gw := gw_mem 564 (by decide +kernel) (by decide +kernel)
theorem kt_565 : lw_tbl[565]? = some (.privateMethod y_X2_loadLong) := by decide +kernel
theorem k_566 : (.instanceMethod y_X2_loadLong : Cond) ∈ gw := gw_mem 566 (by decide +kernel) (by decide +kernel)
theorem k_567 : (.code y_X2_loadLong prog_4_method_8_code (7) none : Cond) ∈ gw := gw_mem 567 (by decide +kernel) (by decide +kernel)
theorem k_568 : (.constantLong "LimbRowsModel" (37) (65535) : Cond) ∈ gw := gw_mem 568 (by decide +kernel) (by decide +kernel)
theorem k_569 : (.methodLink "LimbRowsLaw" (108) y_X2_put : Cond) ∈ gw := gw_mem 569 (by decide +kernel) (by decide +kernel)
theorem k_570 : (.instanceMethod y_X2_put : Cond) ∈ gw := gw_mem 570 (by decide +kernel) (by decide +kernel)
theorem k_571 : (.selects "LimbRowsModel" y_X2_put y_X2_put : Cond) ∈ gw := gw_mem 571 (by decide +kernel) (by decide +kernel)
theorem k_572 : (.code y_X2_put prog_4_method_22_code (5) (some .int) : Cond) ∈ gw := gw_mem 572 (by decide +kernel) (by decide +kernel)
theorem k_573 : (.methodLink "LimbRowsModel" (76) y_X2_limbOf : Cond) ∈ gw := gw_mem 573 (by decide +kernel) (by decide +kernel)
theorem kt_574 : lw_tbl[574]? = some (.privateMethod y_X2_limbOf) := by decide +kernel
theorem k_575 : (.instanceMethod y_X2_limbOf : Cond) ∈ gw := gw_mem 575 (by decide +kernel) (by decide +kernel)
theorem k_576 : (.code y_X2_limbOf prog_4_method_21_code (3) (some .int) : Cond) ∈ gw := gw_mem 576 (by decide +kernel) (by decide +kernel)
theorem k_577 : (.methodLink "LimbRowsLaw" (111) y_X2_limb : Cond) ∈ gw := gw_mem 577 (by decide +kernel) (by decide +kernel)
theorem k_578 : (.instanceMethod y_X2_limb : Cond) ∈ gw := gw_mem 578 (by decide +kernel) (by decide +kernel)
theorem k_579 : (.selects "LimbRowsModel" y_X2_limb y_X2_limb : Cond) ∈ gw := gw_mem 579 (by decide +kernel) (by decide +kernel)
theorem k_580 : (.code y_X2_limb prog_4_method_23_code (3) (some .int) : Cond) ∈ gw := gw_mem 580 (by decide +kernel) (by decide +kernel)
theorem k_581 : (.methodLink "LimbRowsModel" (79) y_X2_signOf : Cond) ∈ gw := gw_mem 581 (by decide +kernel) (by decide +kernel)
theorem kt_582 : lw_tbl[582]? = some (.privateMethod y_X2_signOf) := by decide +kernel
theorem k_583 : (.instanceMethod y_X2_signOf : Cond) ∈ gw := gw_mem 583 (by decide +kernel) (by decide +kernel)
theorem k_584 : (.code y_X2_signOf prog_4_method_14_code (2) (some .int) : Cond) ∈ gw := gw_mem 584 (by decide +kernel) (by decide +kernel)
theorem k_585 : (.methodLink "LimbRowsLaw" (114) y_X2_copy : Cond) ∈ gw := gw_mem 585 (by decide +kernel) (by decide +kernel)
theorem k_586 : (.instanceMethod y_X2_copy : Cond) ∈ gw := gw_mem 586 (by decide +kernel) (by decide +kernel)
theorem k_587 : (.selects "LimbRowsModel" y_X2_copy y_X2_copy : Cond) ∈ gw := gw_mem 587 (by decide +kernel) (by decide +kernel)
theorem k_588 : (.code y_X2_copy prog_4_method_24_code (3) (some .boolean) : Cond) ∈ gw := gw_mem 588 (by decide +kernel) (by decide +kernel)
theorem k_589 : (.methodLink "LimbRowsLaw" (117) y_X2_add : Cond) ∈ gw := gw_mem 589 (by decide +kernel) (by decide +kernel)
theorem k_590 : (.instanceMethod y_X2_add : Cond) ∈ gw := gw_mem 590 (by decide +kernel) (by decide +kernel)
theorem k_591 : (.selects "LimbRowsModel" y_X2_add y_X2_add : Cond) ∈ gw := gw_mem 591 (by decide +kernel) (by decide +kernel)
theorem k_592 : (.code y_X2_add prog_4_method_27_code (3) (some .int) : Cond) ∈ gw := gw_mem 592 (by decide +kernel) (by decide +kernel)
theorem k_593 : (.methodLink "LimbRowsModel" (89) y_X2_together : Cond) ∈ gw := gw_mem 593 (by decide +kernel) (by decide +kernel)
theorem kt_594 : lw_tbl[594]? = some (.privateMethod y_X2_together) := by decide +kernel
theorem k_595 : (.instanceMethod y_X2_together : Cond) ∈ gw := gw_mem 595 (by decide +kernel) (by decide +kernel)
theorem k_596 : (.code y_X2_together prog_4_method_26_code (4) (some .int) : Cond) ∈ gw := gw_mem 596 (by decide +kernel) (by decide +kernel)
theorem k_597 : (.methodLink "LimbRowsModel" (82) y_X2_combine : Cond) ∈ gw := gw_mem 597 (by decide +kernel) (by decide +kernel)
theorem kt_598 : lw_tbl[598]? = some (.privateMethod y_X2_combine) := by decide +kernel
theorem k_599 : (.instanceMethod y_X2_combine : Cond) ∈ gw := gw_mem 599 (by decide +kernel) (by decide +kernel)
theorem k_600 : (.code y_X2_combine prog_4_method_16_code (11) none : Cond) ∈ gw := gw_mem 600 (by decide +kernel) (by decide +kernel)
theorem k_601 : (.methodLink "LimbRowsModel" (57) y_X2_compareSizes : Cond) ∈ gw := gw_mem 601 (by decide +kernel) (by decide +kernel)
theorem kt_602 : lw_tbl[602]? = some (.privateMethod y_X2_compareSizes) := by decide +kernel
theorem k_603 : (.instanceMethod y_X2_compareSizes : Cond) ∈ gw := gw_mem 603 (by decide +kernel) (by decide +kernel)
theorem k_604 : (.code y_X2_compareSizes prog_4_method_15_code (5) (some .int) : Cond) ∈ gw := gw_mem 604 (by decide +kernel) (by decide +kernel)
theorem k_605 : (.methodLink "LimbRowsModel" (86) y_X2_kept : Cond) ∈ gw := gw_mem 605 (by decide +kernel) (by decide +kernel)
theorem kt_606 : lw_tbl[606]? = some (.privateMethod y_X2_kept) := by decide +kernel
theorem k_607 : (.instanceMethod y_X2_kept : Cond) ∈ gw := gw_mem 607 (by decide +kernel) (by decide +kernel)
theorem k_608 : (.code y_X2_kept prog_4_method_25_code (3) (some .int) : Cond) ∈ gw := gw_mem 608 (by decide +kernel) (by decide +kernel)
theorem k_609 : (.methodLink "LimbRowsLaw" (120) y_X2_subtract : Cond) ∈ gw := gw_mem 609 (by decide +kernel) (by decide +kernel)
theorem k_610 : (.instanceMethod y_X2_subtract : Cond) ∈ gw := gw_mem 610 (by decide +kernel) (by decide +kernel)
theorem k_611 : (.selects "LimbRowsModel" y_X2_subtract y_X2_subtract : Cond) ∈ gw := gw_mem 611 (by decide +kernel) (by decide +kernel)
theorem k_612 : (.code y_X2_subtract prog_4_method_28_code (3) (some .int) : Cond) ∈ gw := gw_mem 612 (by decide +kernel) (by decide +kernel)
theorem k_613 : (.methodLink "LimbRowsLaw" (123) y_X2_addProduct : Cond) ∈ gw := gw_mem 613 (by decide +kernel) (by decide +kernel)
theorem k_614 : (.instanceMethod y_X2_addProduct : Cond) ∈ gw := gw_mem 614 (by decide +kernel) (by decide +kernel)
theorem k_615 : (.selects "LimbRowsModel" y_X2_addProduct y_X2_addProduct : Cond) ∈ gw := gw_mem 615 (by decide +kernel) (by decide +kernel)
theorem k_616 : (.code y_X2_addProduct prog_4_method_30_code (4) (some .int) : Cond) ∈ gw := gw_mem 616 (by decide +kernel) (by decide +kernel)
theorem k_617 : (.methodLink "LimbRowsModel" (96) y_X2_product : Cond) ∈ gw := gw_mem 617 (by decide +kernel) (by decide +kernel)
theorem kt_618 : lw_tbl[618]? = some (.privateMethod y_X2_product) := by decide +kernel
theorem k_619 : (.instanceMethod y_X2_product : Cond) ∈ gw := gw_mem 619 (by decide +kernel) (by decide +kernel)
theorem k_620 : (.code y_X2_product prog_4_method_29_code (5) (some .int) : Cond) ∈ gw := gw_mem 620 (by decide +kernel) (by decide +kernel)
theorem k_621 : (.methodLink "LimbRowsModel" (93) y_X2_multiply : Cond) ∈ gw := gw_mem 621 (by decide +kernel) (by decide +kernel)
theorem kt_622 : lw_tbl[622]? = some (.privateMethod y_X2_multiply) := by decide +kernel
theorem k_623 : (.instanceMethod y_X2_multiply : Cond) ∈ gw := gw_mem 623 (by decide +kernel) (by decide +kernel)
theorem k_624 : (.code y_X2_multiply prog_4_method_17_code (9) none : Cond) ∈ gw := gw_mem 624 (by decide +kernel) (by decide +kernel)
theorem k_625 : (.constantLong "LimbRowsModel" (60) (281474976710655) : Cond) ∈ gw := gw_mem 625 (by decide +kernel) (by decide +kernel)
theorem k_626 : (.methodLink "LimbRowsLaw" (126) y_X2_subtractProduct : Cond) ∈ gw := gw_mem 626 (by decide +kernel) (by decide +kernel)
theorem k_627 : (.instanceMethod y_X2_subtractProduct : Cond) ∈ gw := gw_mem 627 (by decide +kernel) (by decide +kernel)
theorem k_628 : (.selects "LimbRowsModel" y_X2_subtractProduct y_X2_subtractProduct : Cond) ∈ gw := gw_mem 628 (by decide +kernel) (by decide +kernel)
theorem k_629 : (.code y_X2_subtractProduct prog_4_method_31_code (4) (some .int) : Cond) ∈ gw := gw_mem 629 (by decide +kernel) (by decide +kernel)
theorem k_630 : (.methodLink "LimbRowsLaw" (129) y_X2_times : Cond) ∈ gw := gw_mem 630 (by decide +kernel) (by decide +kernel)
theorem k_631 : (.instanceMethod y_X2_times : Cond) ∈ gw := gw_mem 631 (by decide +kernel) (by decide +kernel)
theorem k_632 : (.selects "LimbRowsModel" y_X2_times y_X2_times : Cond) ∈ gw := gw_mem 632 (by decide +kernel) (by decide +kernel)
theorem k_633 : (.code y_X2_times prog_4_method_32_code (4) (some .int) : Cond) ∈ gw := gw_mem 633 (by decide +kernel) (by decide +kernel)
theorem k_634 : (.methodLink "LimbRowsLaw" (132) y_X2_negate : Cond) ∈ gw := gw_mem 634 (by decide +kernel) (by decide +kernel)
theorem k_635 : (.instanceMethod y_X2_negate : Cond) ∈ gw := gw_mem 635 (by decide +kernel) (by decide +kernel)
theorem k_636 : (.selects "LimbRowsModel" y_X2_negate y_X2_negate : Cond) ∈ gw := gw_mem 636 (by decide +kernel) (by decide +kernel)
theorem k_637 : (.code y_X2_negate prog_4_method_33_code (2) (some .boolean) : Cond) ∈ gw := gw_mem 637 (by decide +kernel) (by decide +kernel)
theorem k_638 : (.methodLink "LimbRowsLaw" (135) y_X2_left : Cond) ∈ gw := gw_mem 638 (by decide +kernel) (by decide +kernel)
theorem k_639 : (.instanceMethod y_X2_left : Cond) ∈ gw := gw_mem 639 (by decide +kernel) (by decide +kernel)
theorem k_640 : (.selects "LimbRowsModel" y_X2_left y_X2_left : Cond) ∈ gw := gw_mem 640 (by decide +kernel) (by decide +kernel)
theorem k_641 : (.code y_X2_left prog_4_method_34_code (5) (some .int) : Cond) ∈ gw := gw_mem 641 (by decide +kernel) (by decide +kernel)
theorem k_642 : (.methodLink "LimbRowsLaw" (138) y_X2_right : Cond) ∈ gw := gw_mem 642 (by decide +kernel) (by decide +kernel)
theorem k_643 : (.instanceMethod y_X2_right : Cond) ∈ gw := gw_mem 643 (by decide +kernel) (by decide +kernel)
theorem k_644 : (.selects "LimbRowsModel" y_X2_right y_X2_right : Cond) ∈ gw := gw_mem 644 (by decide +kernel) (by decide +kernel)
theorem k_645 : (.code y_X2_right prog_4_method_36_code (3) (some .int) : Cond) ∈ gw := gw_mem 645 (by decide +kernel) (by decide +kernel)
theorem k_646 : (.methodLink "LimbRowsModel" (100) y_X2_halve : Cond) ∈ gw := gw_mem 646 (by decide +kernel) (by decide +kernel)
theorem kt_647 : lw_tbl[647]? = some (.privateMethod y_X2_halve) := by decide +kernel
theorem k_648 : (.instanceMethod y_X2_halve : Cond) ∈ gw := gw_mem 648 (by decide +kernel) (by decide +kernel)
theorem k_649 : (.code y_X2_halve prog_4_method_35_code (5) none : Cond) ∈ gw := gw_mem 649 (by decide +kernel) (by decide +kernel)
theorem k_650 : (.methodLink "LimbRowsLaw" (141) y_X2_nearest : Cond) ∈ gw := gw_mem 650 (by decide +kernel) (by decide +kernel)
theorem k_651 : (.instanceMethod y_X2_nearest : Cond) ∈ gw := gw_mem 651 (by decide +kernel) (by decide +kernel)
theorem k_652 : (.selects "LimbRowsModel" y_X2_nearest y_X2_nearest : Cond) ∈ gw := gw_mem 652 (by decide +kernel) (by decide +kernel)
theorem k_653 : (.code y_X2_nearest prog_4_method_37_code (5) (some .int) : Cond) ∈ gw := gw_mem 653 (by decide +kernel) (by decide +kernel)
theorem k_654 : (.methodLink "LimbRowsLaw" (144) y_X2_divide : Cond) ∈ gw := gw_mem 654 (by decide +kernel) (by decide +kernel)
theorem k_655 : (.instanceMethod y_X2_divide : Cond) ∈ gw := gw_mem 655 (by decide +kernel) (by decide +kernel)
theorem k_656 : (.selects "LimbRowsModel" y_X2_divide y_X2_divide : Cond) ∈ gw := gw_mem 656 (by decide +kernel) (by decide +kernel)
theorem k_657 : (.code y_X2_divide prog_4_method_38_code (7) (some .long) : Cond) ∈ gw := gw_mem 657 (by decide +kernel) (by decide +kernel)
theorem k_658 : (.constantLong "LimbRowsModel" (104) (4611686018427387903) : Cond) ∈ gw := gw_mem 658 (by decide +kernel) (by decide +kernel)
theorem k_659 : (.constantLong "LimbRowsModel" (106) (2) : Cond) ∈ gw := gw_mem 659 (by decide +kernel) (by decide +kernel)
theorem k_660 : (.constantLong "LimbRowsModel" (108) (-1) : Cond) ∈ gw := gw_mem 660 (by decide +kernel) (by decide +kernel)
theorem k_661 : (.methodLink "LimbRowsLaw" (147) y_X2_zeros : Cond) ∈ gw := gw_mem 661 (by decide +kernel) (by decide +kernel)
theorem k_662 : (.instanceMethod y_X2_zeros : Cond) ∈ gw := gw_mem 662 (by decide +kernel) (by decide +kernel)
theorem k_663 : (.selects "LimbRowsModel" y_X2_zeros y_X2_zeros : Cond) ∈ gw := gw_mem 663 (by decide +kernel) (by decide +kernel)
theorem k_664 : (.code y_X2_zeros prog_4_method_39_code (2) (some .int) : Cond) ∈ gw := gw_mem 664 (by decide +kernel) (by decide +kernel)
theorem k_665 : (.methodLink "LimbRowsLaw" (150) y_X2_length : Cond) ∈ gw := gw_mem 665 (by decide +kernel) (by decide +kernel)
theorem k_666 : (.instanceMethod y_X2_length : Cond) ∈ gw := gw_mem 666 (by decide +kernel) (by decide +kernel)
theorem k_667 : (.selects "LimbRowsModel" y_X2_length y_X2_length : Cond) ∈ gw := gw_mem 667 (by decide +kernel) (by decide +kernel)
theorem k_668 : (.code y_X2_length prog_4_method_40_code (2) (some .int) : Cond) ∈ gw := gw_mem 668 (by decide +kernel) (by decide +kernel)
theorem k_669 : (.methodLink "LimbRowsLaw" (153) y_X2_sign : Cond) ∈ gw := gw_mem 669 (by decide +kernel) (by decide +kernel)
theorem k_670 : (.instanceMethod y_X2_sign : Cond) ∈ gw := gw_mem 670 (by decide +kernel) (by decide +kernel)
theorem k_671 : (.selects "LimbRowsModel" y_X2_sign y_X2_sign : Cond) ∈ gw := gw_mem 671 (by decide +kernel) (by decide +kernel)
theorem k_672 : (.code y_X2_sign prog_4_method_41_code (2) (some .int) : Cond) ∈ gw := gw_mem 672 (by decide +kernel) (by decide +kernel)
theorem k_673 : (.methodLink "LimbRowsLaw" (156) y_X2_compare : Cond) ∈ gw := gw_mem 673 (by decide +kernel) (by decide +kernel)
theorem k_674 : (.instanceMethod y_X2_compare : Cond) ∈ gw := gw_mem 674 (by decide +kernel) (by decide +kernel)
theorem k_675 : (.selects "LimbRowsModel" y_X2_compare y_X2_compare : Cond) ∈ gw := gw_mem 675 (by decide +kernel) (by decide +kernel)
theorem k_676 : (.code y_X2_compare prog_4_method_42_code (3) (some .int) : Cond) ∈ gw := gw_mem 676 (by decide +kernel) (by decide +kernel)
theorem k_677 : (.constantLong "LimbRowsLaw" (99) (4294967295) : Cond) ∈ gw := gw_mem 677 (by decide +kernel) (by decide +kernel)
theorem k_678 : (.arrayClass .long : Cond) ∈ gw := gw_mem 678 (by decide +kernel) (by decide +kernel)
theorem k_679 : (.sameMethod "java/lang/Throwable" "java/lang/Throwable" "fillInStackTrace" "(I)Ljava/lang/Throwable;" : Cond) ∈ gw := gw_mem 679 (by decide +kernel) (by decide +kernel)
end
section
theorem d_X0_init_0 : decode b_X0_init 0 = .ok (.aload_n 0, 1) := by decide +kernel
theorem d_X0_init_1 : decode b_X0_init 1 = .ok (.invokespecial 3, 3) := by decide +kernel
theorem d_X0_init_4 : decode b_X0_init 4 = .ok (.aload_n 0, 1) := by decide +kernel
theorem d_X0_init_5 : decode b_X0_init 5 = .ok (.iconst 1, 1) := by decide +kernel
theorem d_X0_init_6 : decode b_X0_init 6 = .ok (.newarray .int, 2) := by decide +kernel
theorem d_X0_init_8 : decode b_X0_init 8 = .ok (.putfield 9, 3) := by decide +kernel
theorem d_X0_init_11 : decode b_X0_init 11 = .ok (.aload_n 0, 1) := by decide +kernel
theorem d_X0_init_12 : decode b_X0_init 12 = .ok (.iconst 1, 1) := by decide +kernel
theorem d_X0_init_13 : decode b_X0_init 13 = .ok (.putfield 15, 3) := by decide +kernel
theorem d_X0_init_16 : decode b_X0_init 16 = .ok (.return_, 1) := by decide +kernel
theorem d_X0_changeWidth_0 : decode b_X0_changeWidth 0 = .ok (.aload_n 0, 1) := by decide +kernel
theorem d_X0_changeWidth_1 : decode b_X0_changeWidth 1 = .ok (.iload_n 1, 1) := by decide +kernel
theorem d_X0_changeWidth_2 : decode b_X0_changeWidth 2 = .ok (.invokevirtual 25, 3) := by decide +kernel
theorem d_X0_changeWidth_5 : decode b_X0_changeWidth 5 = .ok (.istore_n 2, 1) := by decide +kernel
theorem d_X0_changeWidth_6 : decode b_X0_changeWidth 6 = .ok (.aload_n 0, 1) := by decide +kernel
theorem d_X0_changeWidth_7 : decode b_X0_changeWidth 7 = .ok (.aload_n 0, 1) := by decide +kernel
theorem d_X0_changeWidth_8 : decode b_X0_changeWidth 8 = .ok (.getfield 15, 3) := by decide +kernel
theorem d_X0_changeWidth_11 : decode b_X0_changeWidth 11 = .ok (.invokevirtual 21, 3) := by decide +kernel
theorem d_X0_changeWidth_14 : decode b_X0_changeWidth 14 = .ok (.istore_n 3, 1) := by decide +kernel
theorem d_X0_changeWidth_15 : decode b_X0_changeWidth 15 = .ok (.iload_n 1, 1) := by decide +kernel
theorem d_X0_changeWidth_16 : decode b_X0_changeWidth 16 = .ok (.aload_n 0, 1) := by decide +kernel
theorem d_X0_changeWidth_17 : decode b_X0_changeWidth 17 = .ok (.getfield 9, 3) := by decide +kernel
theorem d_X0_changeWidth_20 : decode b_X0_changeWidth 20 = .ok (.arraylength, 1) := by decide +kernel
theorem d_X0_changeWidth_21 : decode b_X0_changeWidth 21 = .ok (.if_icmp .le 17, 3) := by decide +kernel
theorem d_X0_changeWidth_24 : decode b_X0_changeWidth 24 = .ok (.aload_n 0, 1) := by decide +kernel
theorem d_X0_changeWidth_25 : decode b_X0_changeWidth 25 = .ok (.aload_n 0, 1) := by decide +kernel
theorem d_X0_changeWidth_26 : decode b_X0_changeWidth 26 = .ok (.getfield 9, 3) := by decide +kernel
theorem d_X0_changeWidth_29 : decode b_X0_changeWidth 29 = .ok (.sipush 256, 3) := by decide +kernel
theorem d_X0_changeWidth_32 : decode b_X0_changeWidth 32 = .ok (.invokestatic 29, 3) := by decide +kernel
theorem d_X0_changeWidth_35 : decode b_X0_changeWidth 35 = .ok (.putfield 9, 3) := by decide +kernel
theorem d_X0_changeWidth_38 : decode b_X0_changeWidth 38 = .ok (.aload_n 0, 1) := by decide +kernel
theorem d_X0_changeWidth_39 : decode b_X0_changeWidth 39 = .ok (.getfield 15, 3) := by decide +kernel
theorem d_X0_changeWidth_42 : decode b_X0_changeWidth 42 = .ok (.istore 4, 2) := by decide +kernel
theorem d_X0_changeWidth_44 : decode b_X0_changeWidth 44 = .ok (.iload 4, 2) := by decide +kernel
theorem d_X0_changeWidth_46 : decode b_X0_changeWidth 46 = .ok (.iload_n 1, 1) := by decide +kernel
theorem d_X0_changeWidth_47 : decode b_X0_changeWidth 47 = .ok (.if_icmp .ge 17, 3) := by decide +kernel
theorem d_X0_changeWidth_50 : decode b_X0_changeWidth 50 = .ok (.aload_n 0, 1) := by decide +kernel
theorem d_X0_changeWidth_51 : decode b_X0_changeWidth 51 = .ok (.getfield 9, 3) := by decide +kernel
theorem d_X0_changeWidth_54 : decode b_X0_changeWidth 54 = .ok (.iload 4, 2) := by decide +kernel
theorem d_X0_changeWidth_56 : decode b_X0_changeWidth 56 = .ok (.iload_n 3, 1) := by decide +kernel
theorem d_X0_changeWidth_57 : decode b_X0_changeWidth 57 = .ok (.iastore, 1) := by decide +kernel
theorem d_X0_changeWidth_58 : decode b_X0_changeWidth 58 = .ok (.iinc 4 1, 3) := by decide +kernel
theorem d_X0_changeWidth_61 : decode b_X0_changeWidth 61 = .ok (.goto (-17), 3) := by decide +kernel
theorem d_X0_changeWidth_64 : decode b_X0_changeWidth 64 = .ok (.aload_n 0, 1) := by decide +kernel
theorem d_X0_changeWidth_65 : decode b_X0_changeWidth 65 = .ok (.iload_n 1, 1) := by decide +kernel
theorem d_X0_changeWidth_66 : decode b_X0_changeWidth 66 = .ok (.putfield 15, 3) := by decide +kernel
theorem d_X0_changeWidth_69 : decode b_X0_changeWidth 69 = .ok (.iload_n 2, 1) := by decide +kernel
theorem d_X0_changeWidth_70 : decode b_X0_changeWidth 70 = .ok (.ireturn, 1) := by decide +kernel
theorem d_X0_fitsIn_0 : decode b_X0_fitsIn 0 = .ok (.aload_n 0, 1) := by decide +kernel
theorem d_X0_fitsIn_1 : decode b_X0_fitsIn 1 = .ok (.iload_n 1, 1) := by decide +kernel
theorem d_X0_fitsIn_2 : decode b_X0_fitsIn 2 = .ok (.iconst 1, 1) := by decide +kernel
theorem d_X0_fitsIn_3 : decode b_X0_fitsIn 3 = .ok (.isub, 1) := by decide +kernel
theorem d_X0_fitsIn_4 : decode b_X0_fitsIn 4 = .ok (.invokevirtual 21, 3) := by decide +kernel
theorem d_X0_fitsIn_7 : decode b_X0_fitsIn 7 = .ok (.bipush 31, 2) := by decide +kernel
theorem d_X0_fitsIn_9 : decode b_X0_fitsIn 9 = .ok (.ishr, 1) := by decide +kernel
theorem d_X0_fitsIn_10 : decode b_X0_fitsIn 10 = .ok (.istore_n 2, 1) := by decide +kernel
theorem d_X0_fitsIn_11 : decode b_X0_fitsIn 11 = .ok (.iload_n 1, 1) := by decide +kernel
theorem d_X0_fitsIn_12 : decode b_X0_fitsIn 12 = .ok (.istore_n 3, 1) := by decide +kernel
theorem d_X0_fitsIn_13 : decode b_X0_fitsIn 13 = .ok (.iload_n 3, 1) := by decide +kernel
theorem d_X0_fitsIn_14 : decode b_X0_fitsIn 14 = .ok (.aload_n 0, 1) := by decide +kernel
theorem d_X0_fitsIn_15 : decode b_X0_fitsIn 15 = .ok (.getfield 15, 3) := by decide +kernel
theorem d_X0_fitsIn_18 : decode b_X0_fitsIn 18 = .ok (.if_icmp .ge 21, 3) := by decide +kernel
theorem d_X0_fitsIn_21 : decode b_X0_fitsIn 21 = .ok (.aload_n 0, 1) := by decide +kernel
theorem d_X0_fitsIn_22 : decode b_X0_fitsIn 22 = .ok (.getfield 9, 3) := by decide +kernel
theorem d_X0_fitsIn_25 : decode b_X0_fitsIn 25 = .ok (.iload_n 3, 1) := by decide +kernel
theorem d_X0_fitsIn_26 : decode b_X0_fitsIn 26 = .ok (.iaload, 1) := by decide +kernel
theorem d_X0_fitsIn_27 : decode b_X0_fitsIn 27 = .ok (.iload_n 2, 1) := by decide +kernel
theorem d_X0_fitsIn_28 : decode b_X0_fitsIn 28 = .ok (.if_icmp .eq 5, 3) := by decide +kernel
theorem d_X0_fitsIn_31 : decode b_X0_fitsIn 31 = .ok (.iconst 0, 1) := by decide +kernel
theorem d_X0_fitsIn_32 : decode b_X0_fitsIn 32 = .ok (.ireturn, 1) := by decide +kernel
theorem d_X0_fitsIn_33 : decode b_X0_fitsIn 33 = .ok (.iinc 3 1, 3) := by decide +kernel
theorem d_X0_fitsIn_36 : decode b_X0_fitsIn 36 = .ok (.goto (-23), 3) := by decide +kernel
theorem d_X0_fitsIn_39 : decode b_X0_fitsIn 39 = .ok (.iconst 1, 1) := by decide +kernel
theorem d_X0_fitsIn_40 : decode b_X0_fitsIn 40 = .ok (.ireturn, 1) := by decide +kernel
theorem d_X0_limbAt_0 : decode b_X0_limbAt 0 = .ok (.iload_n 1, 1) := by decide +kernel
theorem d_X0_limbAt_1 : decode b_X0_limbAt 1 = .ok (.ifCond .ge 5, 3) := by decide +kernel
theorem d_X0_limbAt_4 : decode b_X0_limbAt 4 = .ok (.iconst 0, 1) := by decide +kernel
theorem d_X0_limbAt_5 : decode b_X0_limbAt 5 = .ok (.ireturn, 1) := by decide +kernel
theorem d_X0_limbAt_6 : decode b_X0_limbAt 6 = .ok (.iload_n 1, 1) := by decide +kernel
theorem d_X0_limbAt_7 : decode b_X0_limbAt 7 = .ok (.aload_n 0, 1) := by decide +kernel
theorem d_X0_limbAt_8 : decode b_X0_limbAt 8 = .ok (.getfield 15, 3) := by decide +kernel
theorem d_X0_limbAt_11 : decode b_X0_limbAt 11 = .ok (.if_icmp .ge 12, 3) := by decide +kernel
theorem d_X0_limbAt_14 : decode b_X0_limbAt 14 = .ok (.aload_n 0, 1) := by decide +kernel
theorem d_X0_limbAt_15 : decode b_X0_limbAt 15 = .ok (.getfield 9, 3) := by decide +kernel
theorem d_X0_limbAt_18 : decode b_X0_limbAt 18 = .ok (.iload_n 1, 1) := by decide +kernel
theorem d_X0_limbAt_19 : decode b_X0_limbAt 19 = .ok (.iaload, 1) := by decide +kernel
theorem d_X0_limbAt_20 : decode b_X0_limbAt 20 = .ok (.goto 17, 3) := by decide +kernel
theorem d_X0_limbAt_23 : decode b_X0_limbAt 23 = .ok (.aload_n 0, 1) := by decide +kernel
theorem d_X0_limbAt_24 : decode b_X0_limbAt 24 = .ok (.getfield 9, 3) := by decide +kernel
theorem d_X0_limbAt_27 : decode b_X0_limbAt 27 = .ok (.aload_n 0, 1) := by decide +kernel
theorem d_X0_limbAt_28 : decode b_X0_limbAt 28 = .ok (.getfield 15, 3) := by decide +kernel
theorem d_X0_limbAt_31 : decode b_X0_limbAt 31 = .ok (.iconst 1, 1) := by decide +kernel
theorem d_X0_limbAt_32 : decode b_X0_limbAt 32 = .ok (.isub, 1) := by decide +kernel
theorem d_X0_limbAt_33 : decode b_X0_limbAt 33 = .ok (.iaload, 1) := by decide +kernel
theorem d_X0_limbAt_34 : decode b_X0_limbAt 34 = .ok (.bipush 31, 2) := by decide +kernel
theorem d_X0_limbAt_36 : decode b_X0_limbAt 36 = .ok (.ishr, 1) := by decide +kernel
theorem d_X0_limbAt_37 : decode b_X0_limbAt 37 = .ok (.ireturn, 1) := by decide +kernel
theorem d_X0_keepLong_0 : decode b_X0_keepLong 0 = .ok (.lload_n 1, 1) := by decide +kernel
theorem d_X0_keepLong_1 : decode b_X0_keepLong 1 = .ok (.lstore_n 3, 1) := by decide +kernel
theorem d_X0_keepLong_2 : decode b_X0_keepLong 2 = .ok (.iconst 0, 1) := by decide +kernel
theorem d_X0_keepLong_3 : decode b_X0_keepLong 3 = .ok (.istore 5, 2) := by decide +kernel
theorem d_X0_keepLong_5 : decode b_X0_keepLong 5 = .ok (.iload 5, 2) := by decide +kernel
theorem d_X0_keepLong_7 : decode b_X0_keepLong 7 = .ok (.aload_n 0, 1) := by decide +kernel
theorem d_X0_keepLong_8 : decode b_X0_keepLong 8 = .ok (.getfield 15, 3) := by decide +kernel
theorem d_X0_keepLong_11 : decode b_X0_keepLong 11 = .ok (.if_icmp .ge 23, 3) := by decide +kernel
theorem d_X0_keepLong_14 : decode b_X0_keepLong 14 = .ok (.aload_n 0, 1) := by decide +kernel
theorem d_X0_keepLong_15 : decode b_X0_keepLong 15 = .ok (.getfield 9, 3) := by decide +kernel
theorem d_X0_keepLong_18 : decode b_X0_keepLong 18 = .ok (.iload 5, 2) := by decide +kernel
theorem d_X0_keepLong_20 : decode b_X0_keepLong 20 = .ok (.lload_n 3, 1) := by decide +kernel
theorem d_X0_keepLong_21 : decode b_X0_keepLong 21 = .ok (.l2i, 1) := by decide +kernel
theorem d_X0_keepLong_22 : decode b_X0_keepLong 22 = .ok (.iastore, 1) := by decide +kernel
theorem d_X0_keepLong_23 : decode b_X0_keepLong 23 = .ok (.lload_n 3, 1) := by decide +kernel
theorem d_X0_keepLong_24 : decode b_X0_keepLong 24 = .ok (.bipush 32, 2) := by decide +kernel
theorem d_X0_keepLong_26 : decode b_X0_keepLong 26 = .ok (.lshr, 1) := by decide +kernel
theorem d_X0_keepLong_27 : decode b_X0_keepLong 27 = .ok (.lstore_n 3, 1) := by decide +kernel
theorem d_X0_keepLong_28 : decode b_X0_keepLong 28 = .ok (.iinc 5 1, 3) := by decide +kernel
theorem d_X0_keepLong_31 : decode b_X0_keepLong 31 = .ok (.goto (-26), 3) := by decide +kernel
theorem d_X0_keepLong_34 : decode b_X0_keepLong 34 = .ok (.aload_n 0, 1) := by decide +kernel
theorem d_X0_keepLong_35 : decode b_X0_keepLong 35 = .ok (.getfield 15, 3) := by decide +kernel
theorem d_X0_keepLong_38 : decode b_X0_keepLong 38 = .ok (.iconst 1, 1) := by decide +kernel
theorem d_X0_keepLong_39 : decode b_X0_keepLong 39 = .ok (.if_icmp .gt 11, 3) := by decide +kernel
theorem d_X0_keepLong_42 : decode b_X0_keepLong 42 = .ok (.lload_n 1, 1) := by decide +kernel
theorem d_X0_keepLong_43 : decode b_X0_keepLong 43 = .ok (.lload_n 1, 1) := by decide +kernel
theorem d_X0_keepLong_44 : decode b_X0_keepLong 44 = .ok (.l2i, 1) := by decide +kernel
theorem d_X0_keepLong_45 : decode b_X0_keepLong 45 = .ok (.i2l, 1) := by decide +kernel
theorem d_X0_keepLong_46 : decode b_X0_keepLong 46 = .ok (.lcmp, 1) := by decide +kernel
theorem d_X0_keepLong_47 : decode b_X0_keepLong 47 = .ok (.ifCond .ne 7, 3) := by decide +kernel
theorem d_X0_keepLong_50 : decode b_X0_keepLong 50 = .ok (.iconst 1, 1) := by decide +kernel
theorem d_X0_keepLong_51 : decode b_X0_keepLong 51 = .ok (.goto 4, 3) := by decide +kernel
theorem d_X0_keepLong_54 : decode b_X0_keepLong 54 = .ok (.iconst 0, 1) := by decide +kernel
theorem d_X0_keepLong_55 : decode b_X0_keepLong 55 = .ok (.ireturn, 1) := by decide +kernel
theorem d_X0_keepRow_0 : decode b_X0_keepRow 0 = .ok (.aload_n 1, 1) := by decide +kernel
theorem d_X0_keepRow_1 : decode b_X0_keepRow 1 = .ok (.aload_n 0, 1) := by decide +kernel
theorem d_X0_keepRow_2 : decode b_X0_keepRow 2 = .ok (.getfield 15, 3) := by decide +kernel
theorem d_X0_keepRow_5 : decode b_X0_keepRow 5 = .ok (.invokevirtual 25, 3) := by decide +kernel
theorem d_X0_keepRow_8 : decode b_X0_keepRow 8 = .ok (.istore_n 2, 1) := by decide +kernel
theorem d_X0_keepRow_9 : decode b_X0_keepRow 9 = .ok (.iconst 0, 1) := by decide +kernel
theorem d_X0_keepRow_10 : decode b_X0_keepRow 10 = .ok (.istore_n 3, 1) := by decide +kernel
theorem d_X0_keepRow_11 : decode b_X0_keepRow 11 = .ok (.iload_n 3, 1) := by decide +kernel
theorem d_X0_keepRow_12 : decode b_X0_keepRow 12 = .ok (.aload_n 0, 1) := by decide +kernel
theorem d_X0_keepRow_13 : decode b_X0_keepRow 13 = .ok (.getfield 15, 3) := by decide +kernel
theorem d_X0_keepRow_16 : decode b_X0_keepRow 16 = .ok (.if_icmp .ge 20, 3) := by decide +kernel
theorem d_X0_keepRow_19 : decode b_X0_keepRow 19 = .ok (.aload_n 0, 1) := by decide +kernel
theorem d_X0_keepRow_20 : decode b_X0_keepRow 20 = .ok (.getfield 9, 3) := by decide +kernel
theorem d_X0_keepRow_23 : decode b_X0_keepRow 23 = .ok (.iload_n 3, 1) := by decide +kernel
theorem d_X0_keepRow_24 : decode b_X0_keepRow 24 = .ok (.aload_n 1, 1) := by decide +kernel
theorem d_X0_keepRow_25 : decode b_X0_keepRow 25 = .ok (.iload_n 3, 1) := by decide +kernel
theorem d_X0_keepRow_26 : decode b_X0_keepRow 26 = .ok (.invokevirtual 21, 3) := by decide +kernel
theorem d_X0_keepRow_29 : decode b_X0_keepRow 29 = .ok (.iastore, 1) := by decide +kernel
theorem d_X0_keepRow_30 : decode b_X0_keepRow 30 = .ok (.iinc 3 1, 3) := by decide +kernel
theorem d_X0_keepRow_33 : decode b_X0_keepRow 33 = .ok (.goto (-22), 3) := by decide +kernel
theorem d_X0_keepRow_36 : decode b_X0_keepRow 36 = .ok (.iload_n 2, 1) := by decide +kernel
theorem d_X0_keepRow_37 : decode b_X0_keepRow 37 = .ok (.ireturn, 1) := by decide +kernel
theorem d_X0_addFrom_0 : decode b_X0_addFrom 0 = .ok (.aload_n 0, 1) := by decide +kernel
theorem d_X0_addFrom_1 : decode b_X0_addFrom 1 = .ok (.iload_n 1, 1) := by decide +kernel
theorem d_X0_addFrom_2 : decode b_X0_addFrom 2 = .ok (.aload_n 2, 1) := by decide +kernel
theorem d_X0_addFrom_3 : decode b_X0_addFrom 3 = .ok (.iconst 0, 1) := by decide +kernel
theorem d_X0_addFrom_4 : decode b_X0_addFrom 4 = .ok (.invokevirtual 35, 3) := by decide +kernel
theorem d_X0_addFrom_7 : decode b_X0_addFrom 7 = .ok (.return_, 1) := by decide +kernel
theorem d_X0_addLimbs_0 : decode b_X0_addLimbs 0 = .ok (.iload_n 3, 1) := by decide +kernel
theorem d_X0_addLimbs_1 : decode b_X0_addLimbs 1 = .ok (.iconst 1, 1) := by decide +kernel
theorem d_X0_addLimbs_2 : decode b_X0_addLimbs 2 = .ok (.iand, 1) := by decide +kernel
theorem d_X0_addLimbs_3 : decode b_X0_addLimbs 3 = .ok (.i2l, 1) := by decide +kernel
theorem d_X0_addLimbs_4 : decode b_X0_addLimbs 4 = .ok (.lstore 4, 2) := by decide +kernel
theorem d_X0_addLimbs_6 : decode b_X0_addLimbs 6 = .ok (.iload_n 1, 1) := by decide +kernel
theorem d_X0_addLimbs_7 : decode b_X0_addLimbs 7 = .ok (.istore 6, 2) := by decide +kernel
theorem d_X0_addLimbs_9 : decode b_X0_addLimbs 9 = .ok (.iload 6, 2) := by decide +kernel
theorem d_X0_addLimbs_11 : decode b_X0_addLimbs 11 = .ok (.aload_n 0, 1) := by decide +kernel
theorem d_X0_addLimbs_12 : decode b_X0_addLimbs 12 = .ok (.getfield 15, 3) := by decide +kernel
theorem d_X0_addLimbs_15 : decode b_X0_addLimbs 15 = .ok (.if_icmp .ge 55, 3) := by decide +kernel
theorem d_X0_addLimbs_18 : decode b_X0_addLimbs 18 = .ok (.aload_n 0, 1) := by decide +kernel
theorem d_X0_addLimbs_19 : decode b_X0_addLimbs 19 = .ok (.getfield 9, 3) := by decide +kernel
theorem d_X0_addLimbs_22 : decode b_X0_addLimbs 22 = .ok (.iload 6, 2) := by decide +kernel
theorem d_X0_addLimbs_24 : decode b_X0_addLimbs 24 = .ok (.iaload, 1) := by decide +kernel
theorem d_X0_addLimbs_25 : decode b_X0_addLimbs 25 = .ok (.invokestatic 39, 3) := by decide +kernel
theorem d_X0_addLimbs_28 : decode b_X0_addLimbs 28 = .ok (.aload_n 2, 1) := by decide +kernel
theorem d_X0_addLimbs_29 : decode b_X0_addLimbs 29 = .ok (.iload 6, 2) := by decide +kernel
theorem d_X0_addLimbs_31 : decode b_X0_addLimbs 31 = .ok (.iload_n 1, 1) := by decide +kernel
theorem d_X0_addLimbs_32 : decode b_X0_addLimbs 32 = .ok (.isub, 1) := by decide +kernel
theorem d_X0_addLimbs_33 : decode b_X0_addLimbs 33 = .ok (.invokevirtual 21, 3) := by decide +kernel
theorem d_X0_addLimbs_36 : decode b_X0_addLimbs 36 = .ok (.iload_n 3, 1) := by decide +kernel
theorem d_X0_addLimbs_37 : decode b_X0_addLimbs 37 = .ok (.ixor, 1) := by decide +kernel
theorem d_X0_addLimbs_38 : decode b_X0_addLimbs 38 = .ok (.invokestatic 39, 3) := by decide +kernel
theorem d_X0_addLimbs_41 : decode b_X0_addLimbs 41 = .ok (.ladd, 1) := by decide +kernel
theorem d_X0_addLimbs_42 : decode b_X0_addLimbs 42 = .ok (.lload 4, 2) := by decide +kernel
theorem d_X0_addLimbs_44 : decode b_X0_addLimbs 44 = .ok (.ladd, 1) := by decide +kernel
theorem d_X0_addLimbs_45 : decode b_X0_addLimbs 45 = .ok (.lstore 7, 2) := by decide +kernel
theorem d_X0_addLimbs_47 : decode b_X0_addLimbs 47 = .ok (.aload_n 0, 1) := by decide +kernel
theorem d_X0_addLimbs_48 : decode b_X0_addLimbs 48 = .ok (.getfield 9, 3) := by decide +kernel
theorem d_X0_addLimbs_51 : decode b_X0_addLimbs 51 = .ok (.iload 6, 2) := by decide +kernel
theorem d_X0_addLimbs_53 : decode b_X0_addLimbs 53 = .ok (.lload 7, 2) := by decide +kernel
theorem d_X0_addLimbs_55 : decode b_X0_addLimbs 55 = .ok (.l2i, 1) := by decide +kernel
theorem d_X0_addLimbs_56 : decode b_X0_addLimbs 56 = .ok (.iastore, 1) := by decide +kernel
theorem d_X0_addLimbs_57 : decode b_X0_addLimbs 57 = .ok (.lload 7, 2) := by decide +kernel
theorem d_X0_addLimbs_59 : decode b_X0_addLimbs 59 = .ok (.bipush 32, 2) := by decide +kernel
theorem d_X0_addLimbs_61 : decode b_X0_addLimbs 61 = .ok (.lushr, 1) := by decide +kernel
theorem d_X0_addLimbs_62 : decode b_X0_addLimbs 62 = .ok (.lstore 4, 2) := by decide +kernel
theorem d_X0_addLimbs_64 : decode b_X0_addLimbs 64 = .ok (.iinc 6 1, 3) := by decide +kernel
theorem d_X0_addLimbs_67 : decode b_X0_addLimbs 67 = .ok (.goto (-58), 3) := by decide +kernel
theorem d_X0_addLimbs_70 : decode b_X0_addLimbs 70 = .ok (.return_, 1) := by decide +kernel
theorem d_X0_unsigned_0 : decode b_X0_unsigned 0 = .ok (.iload_n 0, 1) := by decide +kernel
theorem d_X0_unsigned_1 : decode b_X0_unsigned 1 = .ok (.i2l, 1) := by decide +kernel
theorem d_X0_unsigned_2 : decode b_X0_unsigned 2 = .ok (.ldc2_w 19, 3) := by decide +kernel
theorem d_X0_unsigned_5 : decode b_X0_unsigned 5 = .ok (.land, 1) := by decide +kernel
theorem d_X0_unsigned_6 : decode b_X0_unsigned 6 = .ok (.lreturn, 1) := by decide +kernel
theorem d_X0_signum_0 : decode b_X0_signum 0 = .ok (.aload_n 0, 1) := by decide +kernel
theorem d_X0_signum_1 : decode b_X0_signum 1 = .ok (.invokevirtual 57, 3) := by decide +kernel
theorem d_X0_signum_4 : decode b_X0_signum 4 = .ok (.ifCond .eq 5, 3) := by decide +kernel
theorem d_X0_signum_7 : decode b_X0_signum 7 = .ok (.iconst (-1), 1) := by decide +kernel
theorem d_X0_signum_8 : decode b_X0_signum 8 = .ok (.ireturn, 1) := by decide +kernel
theorem d_X0_signum_9 : decode b_X0_signum 9 = .ok (.iconst 0, 1) := by decide +kernel
theorem d_X0_signum_10 : decode b_X0_signum 10 = .ok (.istore_n 1, 1) := by decide +kernel
theorem d_X0_signum_11 : decode b_X0_signum 11 = .ok (.iload_n 1, 1) := by decide +kernel
theorem d_X0_signum_12 : decode b_X0_signum 12 = .ok (.aload_n 0, 1) := by decide +kernel
theorem d_X0_signum_13 : decode b_X0_signum 13 = .ok (.getfield 15, 3) := by decide +kernel
theorem d_X0_signum_16 : decode b_X0_signum 16 = .ok (.if_icmp .ge 20, 3) := by decide +kernel
theorem d_X0_signum_19 : decode b_X0_signum 19 = .ok (.aload_n 0, 1) := by decide +kernel
theorem d_X0_signum_20 : decode b_X0_signum 20 = .ok (.getfield 9, 3) := by decide +kernel
theorem d_X0_signum_23 : decode b_X0_signum 23 = .ok (.iload_n 1, 1) := by decide +kernel
theorem d_X0_signum_24 : decode b_X0_signum 24 = .ok (.iaload, 1) := by decide +kernel
theorem d_X0_signum_25 : decode b_X0_signum 25 = .ok (.ifCond .eq 5, 3) := by decide +kernel
theorem d_X0_signum_28 : decode b_X0_signum 28 = .ok (.iconst 1, 1) := by decide +kernel
theorem d_X0_signum_29 : decode b_X0_signum 29 = .ok (.ireturn, 1) := by decide +kernel
theorem d_X0_signum_30 : decode b_X0_signum 30 = .ok (.iinc 1 1, 3) := by decide +kernel
theorem d_X0_signum_33 : decode b_X0_signum 33 = .ok (.goto (-22), 3) := by decide +kernel
theorem d_X0_signum_36 : decode b_X0_signum 36 = .ok (.iconst 0, 1) := by decide +kernel
theorem d_X0_signum_37 : decode b_X0_signum 37 = .ok (.ireturn, 1) := by decide +kernel
theorem d_X0_isNegative_0 : decode b_X0_isNegative 0 = .ok (.aload_n 0, 1) := by decide +kernel
theorem d_X0_isNegative_1 : decode b_X0_isNegative 1 = .ok (.getfield 9, 3) := by decide +kernel
theorem d_X0_isNegative_4 : decode b_X0_isNegative 4 = .ok (.aload_n 0, 1) := by decide +kernel
theorem d_X0_isNegative_5 : decode b_X0_isNegative 5 = .ok (.getfield 15, 3) := by decide +kernel
theorem d_X0_isNegative_8 : decode b_X0_isNegative 8 = .ok (.iconst 1, 1) := by decide +kernel
theorem d_X0_isNegative_9 : decode b_X0_isNegative 9 = .ok (.isub, 1) := by decide +kernel
theorem d_X0_isNegative_10 : decode b_X0_isNegative 10 = .ok (.iaload, 1) := by decide +kernel
theorem d_X0_isNegative_11 : decode b_X0_isNegative 11 = .ok (.ifCond .ge 7, 3) := by decide +kernel
theorem d_X0_isNegative_14 : decode b_X0_isNegative 14 = .ok (.iconst 1, 1) := by decide +kernel
theorem d_X0_isNegative_15 : decode b_X0_isNegative 15 = .ok (.goto 4, 3) := by decide +kernel
theorem d_X0_isNegative_18 : decode b_X0_isNegative 18 = .ok (.iconst 0, 1) := by decide +kernel
theorem d_X0_isNegative_19 : decode b_X0_isNegative 19 = .ok (.ireturn, 1) := by decide +kernel
theorem d_X0_subtractFrom_0 : decode b_X0_subtractFrom 0 = .ok (.aload_n 0, 1) := by decide +kernel
theorem d_X0_subtractFrom_1 : decode b_X0_subtractFrom 1 = .ok (.iload_n 1, 1) := by decide +kernel
theorem d_X0_subtractFrom_2 : decode b_X0_subtractFrom 2 = .ok (.aload_n 2, 1) := by decide +kernel
theorem d_X0_subtractFrom_3 : decode b_X0_subtractFrom 3 = .ok (.iconst (-1), 1) := by decide +kernel
theorem d_X0_subtractFrom_4 : decode b_X0_subtractFrom 4 = .ok (.invokevirtual 35, 3) := by decide +kernel
theorem d_X0_subtractFrom_7 : decode b_X0_subtractFrom 7 = .ok (.return_, 1) := by decide +kernel
theorem d_X0_addProductOf_0 : decode b_X0_addProductOf 0 = .ok (.aload_n 1, 1) := by decide +kernel
theorem d_X0_addProductOf_1 : decode b_X0_addProductOf 1 = .ok (.invokevirtual 43, 3) := by decide +kernel
theorem d_X0_addProductOf_4 : decode b_X0_addProductOf 4 = .ok (.bipush 32, 2) := by decide +kernel
theorem d_X0_addProductOf_6 : decode b_X0_addProductOf 6 = .ok (.idiv, 1) := by decide +kernel
theorem d_X0_addProductOf_7 : decode b_X0_addProductOf 7 = .ok (.iconst 1, 1) := by decide +kernel
theorem d_X0_addProductOf_8 : decode b_X0_addProductOf 8 = .ok (.iadd, 1) := by decide +kernel
theorem d_X0_addProductOf_9 : decode b_X0_addProductOf 9 = .ok (.istore_n 3, 1) := by decide +kernel
theorem d_X0_addProductOf_10 : decode b_X0_addProductOf 10 = .ok (.iload_n 3, 1) := by decide +kernel
theorem d_X0_addProductOf_11 : decode b_X0_addProductOf 11 = .ok (.aload_n 0, 1) := by decide +kernel
theorem d_X0_addProductOf_12 : decode b_X0_addProductOf 12 = .ok (.getfield 15, 3) := by decide +kernel
theorem d_X0_addProductOf_15 : decode b_X0_addProductOf 15 = .ok (.invokestatic 47, 3) := by decide +kernel
theorem d_X0_addProductOf_18 : decode b_X0_addProductOf 18 = .ok (.istore 4, 2) := by decide +kernel
theorem d_X0_addProductOf_20 : decode b_X0_addProductOf 20 = .ok (.iconst 0, 1) := by decide +kernel
theorem d_X0_addProductOf_21 : decode b_X0_addProductOf 21 = .ok (.istore 5, 2) := by decide +kernel
theorem d_X0_addProductOf_23 : decode b_X0_addProductOf 23 = .ok (.iload 5, 2) := by decide +kernel
theorem d_X0_addProductOf_25 : decode b_X0_addProductOf 25 = .ok (.iload 4, 2) := by decide +kernel
theorem d_X0_addProductOf_27 : decode b_X0_addProductOf 27 = .ok (.if_icmp .ge 26, 3) := by decide +kernel
theorem d_X0_addProductOf_30 : decode b_X0_addProductOf 30 = .ok (.aload_n 0, 1) := by decide +kernel
theorem d_X0_addProductOf_31 : decode b_X0_addProductOf 31 = .ok (.iload 5, 2) := by decide +kernel
theorem d_X0_addProductOf_33 : decode b_X0_addProductOf 33 = .ok (.aload_n 1, 1) := by decide +kernel
theorem d_X0_addProductOf_34 : decode b_X0_addProductOf 34 = .ok (.getfield 9, 3) := by decide +kernel
theorem d_X0_addProductOf_37 : decode b_X0_addProductOf 37 = .ok (.iload 5, 2) := by decide +kernel
theorem d_X0_addProductOf_39 : decode b_X0_addProductOf 39 = .ok (.iaload, 1) := by decide +kernel
theorem d_X0_addProductOf_40 : decode b_X0_addProductOf 40 = .ok (.invokestatic 39, 3) := by decide +kernel
theorem d_X0_addProductOf_43 : decode b_X0_addProductOf 43 = .ok (.aload_n 2, 1) := by decide +kernel
theorem d_X0_addProductOf_44 : decode b_X0_addProductOf 44 = .ok (.invokevirtual 53, 3) := by decide +kernel
theorem d_X0_addProductOf_47 : decode b_X0_addProductOf 47 = .ok (.iinc 5 1, 3) := by decide +kernel
theorem d_X0_addProductOf_50 : decode b_X0_addProductOf 50 = .ok (.goto (-27), 3) := by decide +kernel
theorem d_X0_addProductOf_53 : decode b_X0_addProductOf 53 = .ok (.aload_n 1, 1) := by decide +kernel
theorem d_X0_addProductOf_54 : decode b_X0_addProductOf 54 = .ok (.invokevirtual 57, 3) := by decide +kernel
theorem d_X0_addProductOf_57 : decode b_X0_addProductOf 57 = .ok (.ifCond .eq 9, 3) := by decide +kernel
theorem d_X0_addProductOf_60 : decode b_X0_addProductOf 60 = .ok (.aload_n 0, 1) := by decide +kernel
theorem d_X0_addProductOf_61 : decode b_X0_addProductOf 61 = .ok (.iload_n 3, 1) := by decide +kernel
theorem d_X0_addProductOf_62 : decode b_X0_addProductOf 62 = .ok (.aload_n 2, 1) := by decide +kernel
theorem d_X0_addProductOf_63 : decode b_X0_addProductOf 63 = .ok (.invokevirtual 61, 3) := by decide +kernel
theorem d_X0_addProductOf_66 : decode b_X0_addProductOf 66 = .ok (.return_, 1) := by decide +kernel
theorem d_X0_bitLength_0 : decode b_X0_bitLength 0 = .ok (.aload_n 0, 1) := by decide +kernel
theorem d_X0_bitLength_1 : decode b_X0_bitLength 1 = .ok (.aload_n 0, 1) := by decide +kernel
theorem d_X0_bitLength_2 : decode b_X0_bitLength 2 = .ok (.getfield 15, 3) := by decide +kernel
theorem d_X0_bitLength_5 : decode b_X0_bitLength 5 = .ok (.invokevirtual 21, 3) := by decide +kernel
theorem d_X0_bitLength_8 : decode b_X0_bitLength 8 = .ok (.istore_n 1, 1) := by decide +kernel
theorem d_X0_bitLength_9 : decode b_X0_bitLength 9 = .ok (.aload_n 0, 1) := by decide +kernel
theorem d_X0_bitLength_10 : decode b_X0_bitLength 10 = .ok (.getfield 15, 3) := by decide +kernel
theorem d_X0_bitLength_13 : decode b_X0_bitLength 13 = .ok (.iconst 1, 1) := by decide +kernel
theorem d_X0_bitLength_14 : decode b_X0_bitLength 14 = .ok (.isub, 1) := by decide +kernel
theorem d_X0_bitLength_15 : decode b_X0_bitLength 15 = .ok (.istore_n 2, 1) := by decide +kernel
theorem d_X0_bitLength_16 : decode b_X0_bitLength 16 = .ok (.iload_n 2, 1) := by decide +kernel
theorem d_X0_bitLength_17 : decode b_X0_bitLength 17 = .ok (.ifCond .lt 39, 3) := by decide +kernel
theorem d_X0_bitLength_20 : decode b_X0_bitLength 20 = .ok (.aload_n 0, 1) := by decide +kernel
theorem d_X0_bitLength_21 : decode b_X0_bitLength 21 = .ok (.getfield 9, 3) := by decide +kernel
theorem d_X0_bitLength_24 : decode b_X0_bitLength 24 = .ok (.iload_n 2, 1) := by decide +kernel
theorem d_X0_bitLength_25 : decode b_X0_bitLength 25 = .ok (.iaload, 1) := by decide +kernel
theorem d_X0_bitLength_26 : decode b_X0_bitLength 26 = .ok (.iload_n 1, 1) := by decide +kernel
theorem d_X0_bitLength_27 : decode b_X0_bitLength 27 = .ok (.if_icmp .eq 23, 3) := by decide +kernel
theorem d_X0_bitLength_30 : decode b_X0_bitLength 30 = .ok (.bipush 32, 2) := by decide +kernel
theorem d_X0_bitLength_32 : decode b_X0_bitLength 32 = .ok (.iload_n 2, 1) := by decide +kernel
theorem d_X0_bitLength_33 : decode b_X0_bitLength 33 = .ok (.imul, 1) := by decide +kernel
theorem d_X0_bitLength_34 : decode b_X0_bitLength 34 = .ok (.bipush 32, 2) := by decide +kernel
theorem d_X0_bitLength_36 : decode b_X0_bitLength 36 = .ok (.iadd, 1) := by decide +kernel
theorem d_X0_bitLength_37 : decode b_X0_bitLength 37 = .ok (.aload_n 0, 1) := by decide +kernel
theorem d_X0_bitLength_38 : decode b_X0_bitLength 38 = .ok (.getfield 9, 3) := by decide +kernel
theorem d_X0_bitLength_41 : decode b_X0_bitLength 41 = .ok (.iload_n 2, 1) := by decide +kernel
theorem d_X0_bitLength_42 : decode b_X0_bitLength 42 = .ok (.iaload, 1) := by decide +kernel
theorem d_X0_bitLength_43 : decode b_X0_bitLength 43 = .ok (.iload_n 1, 1) := by decide +kernel
theorem d_X0_bitLength_44 : decode b_X0_bitLength 44 = .ok (.ixor, 1) := by decide +kernel
theorem d_X0_bitLength_45 : decode b_X0_bitLength 45 = .ok (.invokestatic 97, 3) := by decide +kernel
theorem d_X0_bitLength_48 : decode b_X0_bitLength 48 = .ok (.isub, 1) := by decide +kernel
theorem d_X0_bitLength_49 : decode b_X0_bitLength 49 = .ok (.ireturn, 1) := by decide +kernel
theorem d_X0_bitLength_50 : decode b_X0_bitLength 50 = .ok (.iinc 2 (-1), 3) := by decide +kernel
theorem d_X0_bitLength_53 : decode b_X0_bitLength 53 = .ok (.goto (-37), 3) := by decide +kernel
theorem d_X0_bitLength_56 : decode b_X0_bitLength 56 = .ok (.iconst 0, 1) := by decide +kernel
theorem d_X0_bitLength_57 : decode b_X0_bitLength 57 = .ok (.ireturn, 1) := by decide +kernel
theorem d_X0_addMultiple_0 : decode b_X0_addMultiple 0 = .ok (.lconst 0, 1) := by decide +kernel
theorem d_X0_addMultiple_1 : decode b_X0_addMultiple 1 = .ok (.lstore 5, 2) := by decide +kernel
theorem d_X0_addMultiple_3 : decode b_X0_addMultiple 3 = .ok (.iload_n 1, 1) := by decide +kernel
theorem d_X0_addMultiple_4 : decode b_X0_addMultiple 4 = .ok (.istore 7, 2) := by decide +kernel
theorem d_X0_addMultiple_6 : decode b_X0_addMultiple 6 = .ok (.iload 7, 2) := by decide +kernel
theorem d_X0_addMultiple_8 : decode b_X0_addMultiple 8 = .ok (.aload_n 0, 1) := by decide +kernel
theorem d_X0_addMultiple_9 : decode b_X0_addMultiple 9 = .ok (.getfield 15, 3) := by decide +kernel
theorem d_X0_addMultiple_12 : decode b_X0_addMultiple 12 = .ok (.if_icmp .ge 56, 3) := by decide +kernel
theorem d_X0_addMultiple_15 : decode b_X0_addMultiple 15 = .ok (.lload_n 2, 1) := by decide +kernel
theorem d_X0_addMultiple_16 : decode b_X0_addMultiple 16 = .ok (.aload 4, 2) := by decide +kernel
theorem d_X0_addMultiple_18 : decode b_X0_addMultiple 18 = .ok (.iload 7, 2) := by decide +kernel
theorem d_X0_addMultiple_20 : decode b_X0_addMultiple 20 = .ok (.iload_n 1, 1) := by decide +kernel
theorem d_X0_addMultiple_21 : decode b_X0_addMultiple 21 = .ok (.isub, 1) := by decide +kernel
theorem d_X0_addMultiple_22 : decode b_X0_addMultiple 22 = .ok (.invokevirtual 21, 3) := by decide +kernel
theorem d_X0_addMultiple_25 : decode b_X0_addMultiple 25 = .ok (.invokestatic 39, 3) := by decide +kernel
theorem d_X0_addMultiple_28 : decode b_X0_addMultiple 28 = .ok (.lmul, 1) := by decide +kernel
theorem d_X0_addMultiple_29 : decode b_X0_addMultiple 29 = .ok (.aload_n 0, 1) := by decide +kernel
theorem d_X0_addMultiple_30 : decode b_X0_addMultiple 30 = .ok (.getfield 9, 3) := by decide +kernel
theorem d_X0_addMultiple_33 : decode b_X0_addMultiple 33 = .ok (.iload 7, 2) := by decide +kernel
theorem d_X0_addMultiple_35 : decode b_X0_addMultiple 35 = .ok (.iaload, 1) := by decide +kernel
theorem d_X0_addMultiple_36 : decode b_X0_addMultiple 36 = .ok (.invokestatic 39, 3) := by decide +kernel
theorem d_X0_addMultiple_39 : decode b_X0_addMultiple 39 = .ok (.ladd, 1) := by decide +kernel
theorem d_X0_addMultiple_40 : decode b_X0_addMultiple 40 = .ok (.lload 5, 2) := by decide +kernel
theorem d_X0_addMultiple_42 : decode b_X0_addMultiple 42 = .ok (.ladd, 1) := by decide +kernel
theorem d_X0_addMultiple_43 : decode b_X0_addMultiple 43 = .ok (.lstore 8, 2) := by decide +kernel
theorem d_X0_addMultiple_45 : decode b_X0_addMultiple 45 = .ok (.aload_n 0, 1) := by decide +kernel
theorem d_X0_addMultiple_46 : decode b_X0_addMultiple 46 = .ok (.getfield 9, 3) := by decide +kernel
theorem d_X0_addMultiple_49 : decode b_X0_addMultiple 49 = .ok (.iload 7, 2) := by decide +kernel
theorem d_X0_addMultiple_51 : decode b_X0_addMultiple 51 = .ok (.lload 8, 2) := by decide +kernel
theorem d_X0_addMultiple_53 : decode b_X0_addMultiple 53 = .ok (.l2i, 1) := by decide +kernel
theorem d_X0_addMultiple_54 : decode b_X0_addMultiple 54 = .ok (.iastore, 1) := by decide +kernel
theorem d_X0_addMultiple_55 : decode b_X0_addMultiple 55 = .ok (.lload 8, 2) := by decide +kernel
theorem d_X0_addMultiple_57 : decode b_X0_addMultiple 57 = .ok (.bipush 32, 2) := by decide +kernel
theorem d_X0_addMultiple_59 : decode b_X0_addMultiple 59 = .ok (.lushr, 1) := by decide +kernel
theorem d_X0_addMultiple_60 : decode b_X0_addMultiple 60 = .ok (.lstore 5, 2) := by decide +kernel
theorem d_X0_addMultiple_62 : decode b_X0_addMultiple 62 = .ok (.iinc 7 1, 3) := by decide +kernel
theorem d_X0_addMultiple_65 : decode b_X0_addMultiple 65 = .ok (.goto (-59), 3) := by decide +kernel
theorem d_X0_addMultiple_68 : decode b_X0_addMultiple 68 = .ok (.return_, 1) := by decide +kernel
theorem d_X0_subtractProductOf_0 : decode b_X0_subtractProductOf 0 = .ok (.aload_n 0, 1) := by decide +kernel
theorem d_X0_subtractProductOf_1 : decode b_X0_subtractProductOf 1 = .ok (.invokevirtual 65, 3) := by decide +kernel
theorem d_X0_subtractProductOf_4 : decode b_X0_subtractProductOf 4 = .ok (.aload_n 0, 1) := by decide +kernel
theorem d_X0_subtractProductOf_5 : decode b_X0_subtractProductOf 5 = .ok (.aload_n 1, 1) := by decide +kernel
theorem d_X0_subtractProductOf_6 : decode b_X0_subtractProductOf 6 = .ok (.aload_n 2, 1) := by decide +kernel
theorem d_X0_subtractProductOf_7 : decode b_X0_subtractProductOf 7 = .ok (.invokevirtual 68, 3) := by decide +kernel
theorem d_X0_subtractProductOf_10 : decode b_X0_subtractProductOf 10 = .ok (.aload_n 0, 1) := by decide +kernel
theorem d_X0_subtractProductOf_11 : decode b_X0_subtractProductOf 11 = .ok (.invokevirtual 65, 3) := by decide +kernel
theorem d_X0_subtractProductOf_14 : decode b_X0_subtractProductOf 14 = .ok (.return_, 1) := by decide +kernel
theorem d_X0_complement_0 : decode b_X0_complement 0 = .ok (.iconst 0, 1) := by decide +kernel
theorem d_X0_complement_1 : decode b_X0_complement 1 = .ok (.istore_n 1, 1) := by decide +kernel
theorem d_X0_complement_2 : decode b_X0_complement 2 = .ok (.iload_n 1, 1) := by decide +kernel
theorem d_X0_complement_3 : decode b_X0_complement 3 = .ok (.aload_n 0, 1) := by decide +kernel
theorem d_X0_complement_4 : decode b_X0_complement 4 = .ok (.getfield 15, 3) := by decide +kernel
theorem d_X0_complement_7 : decode b_X0_complement 7 = .ok (.if_icmp .ge 23, 3) := by decide +kernel
theorem d_X0_complement_10 : decode b_X0_complement 10 = .ok (.aload_n 0, 1) := by decide +kernel
theorem d_X0_complement_11 : decode b_X0_complement 11 = .ok (.getfield 9, 3) := by decide +kernel
theorem d_X0_complement_14 : decode b_X0_complement 14 = .ok (.iload_n 1, 1) := by decide +kernel
theorem d_X0_complement_15 : decode b_X0_complement 15 = .ok (.aload_n 0, 1) := by decide +kernel
theorem d_X0_complement_16 : decode b_X0_complement 16 = .ok (.getfield 9, 3) := by decide +kernel
theorem d_X0_complement_19 : decode b_X0_complement 19 = .ok (.iload_n 1, 1) := by decide +kernel
theorem d_X0_complement_20 : decode b_X0_complement 20 = .ok (.iaload, 1) := by decide +kernel
theorem d_X0_complement_21 : decode b_X0_complement 21 = .ok (.iconst (-1), 1) := by decide +kernel
theorem d_X0_complement_22 : decode b_X0_complement 22 = .ok (.ixor, 1) := by decide +kernel
theorem d_X0_complement_23 : decode b_X0_complement 23 = .ok (.iastore, 1) := by decide +kernel
theorem d_X0_complement_24 : decode b_X0_complement 24 = .ok (.iinc 1 1, 3) := by decide +kernel
theorem d_X0_complement_27 : decode b_X0_complement 27 = .ok (.goto (-25), 3) := by decide +kernel
theorem d_X0_complement_30 : decode b_X0_complement 30 = .ok (.return_, 1) := by decide +kernel
theorem d_X0_multiplyBy_0 : decode b_X0_multiplyBy 0 = .ok (.lload_n 1, 1) := by decide +kernel
theorem d_X0_multiplyBy_1 : decode b_X0_multiplyBy 1 = .ok (.ldc2_w 19, 3) := by decide +kernel
theorem d_X0_multiplyBy_4 : decode b_X0_multiplyBy 4 = .ok (.land, 1) := by decide +kernel
theorem d_X0_multiplyBy_5 : decode b_X0_multiplyBy 5 = .ok (.lstore_n 3, 1) := by decide +kernel
theorem d_X0_multiplyBy_6 : decode b_X0_multiplyBy 6 = .ok (.lload_n 1, 1) := by decide +kernel
theorem d_X0_multiplyBy_7 : decode b_X0_multiplyBy 7 = .ok (.bipush 32, 2) := by decide +kernel
theorem d_X0_multiplyBy_9 : decode b_X0_multiplyBy 9 = .ok (.lshr, 1) := by decide +kernel
theorem d_X0_multiplyBy_10 : decode b_X0_multiplyBy 10 = .ok (.lstore 5, 2) := by decide +kernel
theorem d_X0_multiplyBy_12 : decode b_X0_multiplyBy 12 = .ok (.lconst 0, 1) := by decide +kernel
theorem d_X0_multiplyBy_13 : decode b_X0_multiplyBy 13 = .ok (.lstore 7, 2) := by decide +kernel
theorem d_X0_multiplyBy_15 : decode b_X0_multiplyBy 15 = .ok (.iconst 0, 1) := by decide +kernel
theorem d_X0_multiplyBy_16 : decode b_X0_multiplyBy 16 = .ok (.istore 9, 2) := by decide +kernel
theorem d_X0_multiplyBy_18 : decode b_X0_multiplyBy 18 = .ok (.iload 9, 2) := by decide +kernel
theorem d_X0_multiplyBy_20 : decode b_X0_multiplyBy 20 = .ok (.aload_n 0, 1) := by decide +kernel
theorem d_X0_multiplyBy_21 : decode b_X0_multiplyBy 21 = .ok (.getfield 15, 3) := by decide +kernel
theorem d_X0_multiplyBy_24 : decode b_X0_multiplyBy 24 = .ok (.if_icmp .ge 63, 3) := by decide +kernel
theorem d_X0_multiplyBy_27 : decode b_X0_multiplyBy 27 = .ok (.aload_n 0, 1) := by decide +kernel
theorem d_X0_multiplyBy_28 : decode b_X0_multiplyBy 28 = .ok (.getfield 9, 3) := by decide +kernel
theorem d_X0_multiplyBy_31 : decode b_X0_multiplyBy 31 = .ok (.iload 9, 2) := by decide +kernel
theorem d_X0_multiplyBy_33 : decode b_X0_multiplyBy 33 = .ok (.iaload, 1) := by decide +kernel
theorem d_X0_multiplyBy_34 : decode b_X0_multiplyBy 34 = .ok (.invokestatic 39, 3) := by decide +kernel
theorem d_X0_multiplyBy_37 : decode b_X0_multiplyBy 37 = .ok (.lstore 10, 2) := by decide +kernel
theorem d_X0_multiplyBy_39 : decode b_X0_multiplyBy 39 = .ok (.lload 10, 2) := by decide +kernel
theorem d_X0_multiplyBy_41 : decode b_X0_multiplyBy 41 = .ok (.lload_n 3, 1) := by decide +kernel
theorem d_X0_multiplyBy_42 : decode b_X0_multiplyBy 42 = .ok (.lmul, 1) := by decide +kernel
theorem d_X0_multiplyBy_43 : decode b_X0_multiplyBy 43 = .ok (.lload 7, 2) := by decide +kernel
theorem d_X0_multiplyBy_45 : decode b_X0_multiplyBy 45 = .ok (.ldc2_w 19, 3) := by decide +kernel
theorem d_X0_multiplyBy_48 : decode b_X0_multiplyBy 48 = .ok (.land, 1) := by decide +kernel
theorem d_X0_multiplyBy_49 : decode b_X0_multiplyBy 49 = .ok (.ladd, 1) := by decide +kernel
theorem d_X0_multiplyBy_50 : decode b_X0_multiplyBy 50 = .ok (.lstore 12, 2) := by decide +kernel
theorem d_X0_multiplyBy_52 : decode b_X0_multiplyBy 52 = .ok (.aload_n 0, 1) := by decide +kernel
theorem d_X0_multiplyBy_53 : decode b_X0_multiplyBy 53 = .ok (.getfield 9, 3) := by decide +kernel
theorem d_X0_multiplyBy_56 : decode b_X0_multiplyBy 56 = .ok (.iload 9, 2) := by decide +kernel
theorem d_X0_multiplyBy_58 : decode b_X0_multiplyBy 58 = .ok (.lload 12, 2) := by decide +kernel
theorem d_X0_multiplyBy_60 : decode b_X0_multiplyBy 60 = .ok (.l2i, 1) := by decide +kernel
theorem d_X0_multiplyBy_61 : decode b_X0_multiplyBy 61 = .ok (.iastore, 1) := by decide +kernel
theorem d_X0_multiplyBy_62 : decode b_X0_multiplyBy 62 = .ok (.lload 10, 2) := by decide +kernel
end
section
theorem d_X0_multiplyBy_64 : decode b_X0_multiplyBy 64 = .ok (.lload 5, 2) := by decide +kernel
theorem d_X0_multiplyBy_66 : decode b_X0_multiplyBy 66 = .ok (.lmul, 1) := by decide +kernel
theorem d_X0_multiplyBy_67 : decode b_X0_multiplyBy 67 = .ok (.lload 7, 2) := by decide +kernel
theorem d_X0_multiplyBy_69 : decode b_X0_multiplyBy 69 = .ok (.bipush 32, 2) := by decide +kernel
theorem d_X0_multiplyBy_71 : decode b_X0_multiplyBy 71 = .ok (.lshr, 1) := by decide +kernel
theorem d_X0_multiplyBy_72 : decode b_X0_multiplyBy 72 = .ok (.ladd, 1) := by decide +kernel
theorem d_X0_multiplyBy_73 : decode b_X0_multiplyBy 73 = .ok (.lload 12, 2) := by decide +kernel
theorem d_X0_multiplyBy_75 : decode b_X0_multiplyBy 75 = .ok (.bipush 32, 2) := by decide +kernel
theorem d_X0_multiplyBy_77 : decode b_X0_multiplyBy 77 = .ok (.lushr, 1) := by decide +kernel
theorem d_X0_multiplyBy_78 : decode b_X0_multiplyBy 78 = .ok (.ladd, 1) := by decide +kernel
theorem d_X0_multiplyBy_79 : decode b_X0_multiplyBy 79 = .ok (.lstore 7, 2) := by decide +kernel
theorem d_X0_multiplyBy_81 : decode b_X0_multiplyBy 81 = .ok (.iinc 9 1, 3) := by decide +kernel
theorem d_X0_multiplyBy_84 : decode b_X0_multiplyBy 84 = .ok (.goto (-66), 3) := by decide +kernel
theorem d_X0_multiplyBy_87 : decode b_X0_multiplyBy 87 = .ok (.return_, 1) := by decide +kernel
theorem d_X0_turnRound_0 : decode b_X0_turnRound 0 = .ok (.aload_n 0, 1) := by decide +kernel
theorem d_X0_turnRound_1 : decode b_X0_turnRound 1 = .ok (.invokevirtual 57, 3) := by decide +kernel
theorem d_X0_turnRound_4 : decode b_X0_turnRound 4 = .ok (.istore_n 1, 1) := by decide +kernel
theorem d_X0_turnRound_5 : decode b_X0_turnRound 5 = .ok (.aload_n 0, 1) := by decide +kernel
theorem d_X0_turnRound_6 : decode b_X0_turnRound 6 = .ok (.invokevirtual 65, 3) := by decide +kernel
theorem d_X0_turnRound_9 : decode b_X0_turnRound 9 = .ok (.aload_n 0, 1) := by decide +kernel
theorem d_X0_turnRound_10 : decode b_X0_turnRound 10 = .ok (.invokevirtual 72, 3) := by decide +kernel
theorem d_X0_turnRound_13 : decode b_X0_turnRound 13 = .ok (.iload_n 1, 1) := by decide +kernel
theorem d_X0_turnRound_14 : decode b_X0_turnRound 14 = .ok (.ifCond .eq 10, 3) := by decide +kernel
theorem d_X0_turnRound_17 : decode b_X0_turnRound 17 = .ok (.aload_n 0, 1) := by decide +kernel
theorem d_X0_turnRound_18 : decode b_X0_turnRound 18 = .ok (.invokevirtual 57, 3) := by decide +kernel
theorem d_X0_turnRound_21 : decode b_X0_turnRound 21 = .ok (.ifCond .ne 7, 3) := by decide +kernel
theorem d_X0_turnRound_24 : decode b_X0_turnRound 24 = .ok (.iconst 1, 1) := by decide +kernel
theorem d_X0_turnRound_25 : decode b_X0_turnRound 25 = .ok (.goto 4, 3) := by decide +kernel
theorem d_X0_turnRound_28 : decode b_X0_turnRound 28 = .ok (.iconst 0, 1) := by decide +kernel
theorem d_X0_turnRound_29 : decode b_X0_turnRound 29 = .ok (.ireturn, 1) := by decide +kernel
theorem d_X0_increment_0 : decode b_X0_increment 0 = .ok (.iconst 0, 1) := by decide +kernel
theorem d_X0_increment_1 : decode b_X0_increment 1 = .ok (.istore_n 1, 1) := by decide +kernel
theorem d_X0_increment_2 : decode b_X0_increment 2 = .ok (.iload_n 1, 1) := by decide +kernel
theorem d_X0_increment_3 : decode b_X0_increment 3 = .ok (.aload_n 0, 1) := by decide +kernel
theorem d_X0_increment_4 : decode b_X0_increment 4 = .ok (.getfield 15, 3) := by decide +kernel
theorem d_X0_increment_7 : decode b_X0_increment 7 = .ok (.if_icmp .ge 29, 3) := by decide +kernel
theorem d_X0_increment_10 : decode b_X0_increment 10 = .ok (.aload_n 0, 1) := by decide +kernel
theorem d_X0_increment_11 : decode b_X0_increment 11 = .ok (.getfield 9, 3) := by decide +kernel
theorem d_X0_increment_14 : decode b_X0_increment 14 = .ok (.iload_n 1, 1) := by decide +kernel
theorem d_X0_increment_15 : decode b_X0_increment 15 = .ok (.dup2, 1) := by decide +kernel
theorem d_X0_increment_16 : decode b_X0_increment 16 = .ok (.iaload, 1) := by decide +kernel
theorem d_X0_increment_17 : decode b_X0_increment 17 = .ok (.iconst 1, 1) := by decide +kernel
theorem d_X0_increment_18 : decode b_X0_increment 18 = .ok (.iadd, 1) := by decide +kernel
theorem d_X0_increment_19 : decode b_X0_increment 19 = .ok (.iastore, 1) := by decide +kernel
theorem d_X0_increment_20 : decode b_X0_increment 20 = .ok (.aload_n 0, 1) := by decide +kernel
theorem d_X0_increment_21 : decode b_X0_increment 21 = .ok (.getfield 9, 3) := by decide +kernel
theorem d_X0_increment_24 : decode b_X0_increment 24 = .ok (.iload_n 1, 1) := by decide +kernel
theorem d_X0_increment_25 : decode b_X0_increment 25 = .ok (.iaload, 1) := by decide +kernel
theorem d_X0_increment_26 : decode b_X0_increment 26 = .ok (.ifCond .eq 4, 3) := by decide +kernel
theorem d_X0_increment_29 : decode b_X0_increment 29 = .ok (.return_, 1) := by decide +kernel
theorem d_X0_increment_30 : decode b_X0_increment 30 = .ok (.iinc 1 1, 3) := by decide +kernel
theorem d_X0_increment_33 : decode b_X0_increment 33 = .ok (.goto (-31), 3) := by decide +kernel
theorem d_X0_increment_36 : decode b_X0_increment 36 = .ok (.return_, 1) := by decide +kernel
theorem d_X0_shiftUp_0 : decode b_X0_shiftUp 0 = .ok (.iload_n 1, 1) := by decide +kernel
theorem d_X0_shiftUp_1 : decode b_X0_shiftUp 1 = .ok (.iconst 5, 1) := by decide +kernel
theorem d_X0_shiftUp_2 : decode b_X0_shiftUp 2 = .ok (.ishr, 1) := by decide +kernel
theorem d_X0_shiftUp_3 : decode b_X0_shiftUp 3 = .ok (.istore_n 2, 1) := by decide +kernel
theorem d_X0_shiftUp_4 : decode b_X0_shiftUp 4 = .ok (.iload_n 1, 1) := by decide +kernel
theorem d_X0_shiftUp_5 : decode b_X0_shiftUp 5 = .ok (.bipush 31, 2) := by decide +kernel
theorem d_X0_shiftUp_7 : decode b_X0_shiftUp 7 = .ok (.iand, 1) := by decide +kernel
theorem d_X0_shiftUp_8 : decode b_X0_shiftUp 8 = .ok (.istore_n 3, 1) := by decide +kernel
theorem d_X0_shiftUp_9 : decode b_X0_shiftUp 9 = .ok (.aload_n 0, 1) := by decide +kernel
theorem d_X0_shiftUp_10 : decode b_X0_shiftUp 10 = .ok (.getfield 15, 3) := by decide +kernel
theorem d_X0_shiftUp_13 : decode b_X0_shiftUp 13 = .ok (.iconst 1, 1) := by decide +kernel
theorem d_X0_shiftUp_14 : decode b_X0_shiftUp 14 = .ok (.isub, 1) := by decide +kernel
theorem d_X0_shiftUp_15 : decode b_X0_shiftUp 15 = .ok (.istore 4, 2) := by decide +kernel
theorem d_X0_shiftUp_17 : decode b_X0_shiftUp 17 = .ok (.iload 4, 2) := by decide +kernel
theorem d_X0_shiftUp_19 : decode b_X0_shiftUp 19 = .ok (.ifCond .lt 32, 3) := by decide +kernel
theorem d_X0_shiftUp_22 : decode b_X0_shiftUp 22 = .ok (.aload_n 0, 1) := by decide +kernel
theorem d_X0_shiftUp_23 : decode b_X0_shiftUp 23 = .ok (.getfield 9, 3) := by decide +kernel
theorem d_X0_shiftUp_26 : decode b_X0_shiftUp 26 = .ok (.iload 4, 2) := by decide +kernel
theorem d_X0_shiftUp_28 : decode b_X0_shiftUp 28 = .ok (.aload_n 0, 1) := by decide +kernel
theorem d_X0_shiftUp_29 : decode b_X0_shiftUp 29 = .ok (.iload 4, 2) := by decide +kernel
theorem d_X0_shiftUp_31 : decode b_X0_shiftUp 31 = .ok (.iload_n 2, 1) := by decide +kernel
theorem d_X0_shiftUp_32 : decode b_X0_shiftUp 32 = .ok (.isub, 1) := by decide +kernel
theorem d_X0_shiftUp_33 : decode b_X0_shiftUp 33 = .ok (.iconst 1, 1) := by decide +kernel
theorem d_X0_shiftUp_34 : decode b_X0_shiftUp 34 = .ok (.isub, 1) := by decide +kernel
theorem d_X0_shiftUp_35 : decode b_X0_shiftUp 35 = .ok (.invokevirtual 75, 3) := by decide +kernel
theorem d_X0_shiftUp_38 : decode b_X0_shiftUp 38 = .ok (.iload_n 3, 1) := by decide +kernel
theorem d_X0_shiftUp_39 : decode b_X0_shiftUp 39 = .ok (.lshl, 1) := by decide +kernel
theorem d_X0_shiftUp_40 : decode b_X0_shiftUp 40 = .ok (.bipush 32, 2) := by decide +kernel
theorem d_X0_shiftUp_42 : decode b_X0_shiftUp 42 = .ok (.lushr, 1) := by decide +kernel
theorem d_X0_shiftUp_43 : decode b_X0_shiftUp 43 = .ok (.l2i, 1) := by decide +kernel
theorem d_X0_shiftUp_44 : decode b_X0_shiftUp 44 = .ok (.iastore, 1) := by decide +kernel
theorem d_X0_shiftUp_45 : decode b_X0_shiftUp 45 = .ok (.iinc 4 (-1), 3) := by decide +kernel
theorem d_X0_shiftUp_48 : decode b_X0_shiftUp 48 = .ok (.goto (-31), 3) := by decide +kernel
theorem d_X0_shiftUp_51 : decode b_X0_shiftUp 51 = .ok (.return_, 1) := by decide +kernel
theorem d_X0_pairAt_0 : decode b_X0_pairAt 0 = .ok (.aload_n 0, 1) := by decide +kernel
theorem d_X0_pairAt_1 : decode b_X0_pairAt 1 = .ok (.iload_n 1, 1) := by decide +kernel
theorem d_X0_pairAt_2 : decode b_X0_pairAt 2 = .ok (.iconst 1, 1) := by decide +kernel
theorem d_X0_pairAt_3 : decode b_X0_pairAt 3 = .ok (.iadd, 1) := by decide +kernel
theorem d_X0_pairAt_4 : decode b_X0_pairAt 4 = .ok (.invokevirtual 21, 3) := by decide +kernel
theorem d_X0_pairAt_7 : decode b_X0_pairAt 7 = .ok (.invokestatic 39, 3) := by decide +kernel
theorem d_X0_pairAt_10 : decode b_X0_pairAt 10 = .ok (.bipush 32, 2) := by decide +kernel
theorem d_X0_pairAt_12 : decode b_X0_pairAt 12 = .ok (.lshl, 1) := by decide +kernel
theorem d_X0_pairAt_13 : decode b_X0_pairAt 13 = .ok (.aload_n 0, 1) := by decide +kernel
theorem d_X0_pairAt_14 : decode b_X0_pairAt 14 = .ok (.iload_n 1, 1) := by decide +kernel
theorem d_X0_pairAt_15 : decode b_X0_pairAt 15 = .ok (.invokevirtual 21, 3) := by decide +kernel
theorem d_X0_pairAt_18 : decode b_X0_pairAt 18 = .ok (.invokestatic 39, 3) := by decide +kernel
theorem d_X0_pairAt_21 : decode b_X0_pairAt 21 = .ok (.lor, 1) := by decide +kernel
theorem d_X0_pairAt_22 : decode b_X0_pairAt 22 = .ok (.lreturn, 1) := by decide +kernel
theorem d_X0_shiftDown_0 : decode b_X0_shiftDown 0 = .ok (.iload_n 1, 1) := by decide +kernel
theorem d_X0_shiftDown_1 : decode b_X0_shiftDown 1 = .ok (.iconst 5, 1) := by decide +kernel
theorem d_X0_shiftDown_2 : decode b_X0_shiftDown 2 = .ok (.ishr, 1) := by decide +kernel
theorem d_X0_shiftDown_3 : decode b_X0_shiftDown 3 = .ok (.istore_n 2, 1) := by decide +kernel
theorem d_X0_shiftDown_4 : decode b_X0_shiftDown 4 = .ok (.iload_n 1, 1) := by decide +kernel
theorem d_X0_shiftDown_5 : decode b_X0_shiftDown 5 = .ok (.bipush 31, 2) := by decide +kernel
theorem d_X0_shiftDown_7 : decode b_X0_shiftDown 7 = .ok (.iand, 1) := by decide +kernel
theorem d_X0_shiftDown_8 : decode b_X0_shiftDown 8 = .ok (.istore_n 3, 1) := by decide +kernel
theorem d_X0_shiftDown_9 : decode b_X0_shiftDown 9 = .ok (.iconst 0, 1) := by decide +kernel
theorem d_X0_shiftDown_10 : decode b_X0_shiftDown 10 = .ok (.istore 4, 2) := by decide +kernel
theorem d_X0_shiftDown_12 : decode b_X0_shiftDown 12 = .ok (.iload 4, 2) := by decide +kernel
theorem d_X0_shiftDown_14 : decode b_X0_shiftDown 14 = .ok (.aload_n 0, 1) := by decide +kernel
theorem d_X0_shiftDown_15 : decode b_X0_shiftDown 15 = .ok (.getfield 15, 3) := by decide +kernel
theorem d_X0_shiftDown_18 : decode b_X0_shiftDown 18 = .ok (.if_icmp .ge 27, 3) := by decide +kernel
theorem d_X0_shiftDown_21 : decode b_X0_shiftDown 21 = .ok (.aload_n 0, 1) := by decide +kernel
theorem d_X0_shiftDown_22 : decode b_X0_shiftDown 22 = .ok (.getfield 9, 3) := by decide +kernel
theorem d_X0_shiftDown_25 : decode b_X0_shiftDown 25 = .ok (.iload 4, 2) := by decide +kernel
theorem d_X0_shiftDown_27 : decode b_X0_shiftDown 27 = .ok (.aload_n 0, 1) := by decide +kernel
theorem d_X0_shiftDown_28 : decode b_X0_shiftDown 28 = .ok (.iload 4, 2) := by decide +kernel
theorem d_X0_shiftDown_30 : decode b_X0_shiftDown 30 = .ok (.iload_n 2, 1) := by decide +kernel
theorem d_X0_shiftDown_31 : decode b_X0_shiftDown 31 = .ok (.iadd, 1) := by decide +kernel
theorem d_X0_shiftDown_32 : decode b_X0_shiftDown 32 = .ok (.invokevirtual 75, 3) := by decide +kernel
theorem d_X0_shiftDown_35 : decode b_X0_shiftDown 35 = .ok (.iload_n 3, 1) := by decide +kernel
theorem d_X0_shiftDown_36 : decode b_X0_shiftDown 36 = .ok (.lushr, 1) := by decide +kernel
theorem d_X0_shiftDown_37 : decode b_X0_shiftDown 37 = .ok (.l2i, 1) := by decide +kernel
theorem d_X0_shiftDown_38 : decode b_X0_shiftDown 38 = .ok (.iastore, 1) := by decide +kernel
theorem d_X0_shiftDown_39 : decode b_X0_shiftDown 39 = .ok (.iinc 4 1, 3) := by decide +kernel
theorem d_X0_shiftDown_42 : decode b_X0_shiftDown 42 = .ok (.goto (-30), 3) := by decide +kernel
theorem d_X0_shiftDown_45 : decode b_X0_shiftDown 45 = .ok (.return_, 1) := by decide +kernel
theorem d_X0_roundsUp_0 : decode b_X0_roundsUp 0 = .ok (.iload_n 1, 1) := by decide +kernel
theorem d_X0_roundsUp_1 : decode b_X0_roundsUp 1 = .ok (.ifCond .eq 13, 3) := by decide +kernel
theorem d_X0_roundsUp_4 : decode b_X0_roundsUp 4 = .ok (.aload_n 0, 1) := by decide +kernel
theorem d_X0_roundsUp_5 : decode b_X0_roundsUp 5 = .ok (.iload_n 1, 1) := by decide +kernel
theorem d_X0_roundsUp_6 : decode b_X0_roundsUp 6 = .ok (.iconst 1, 1) := by decide +kernel
theorem d_X0_roundsUp_7 : decode b_X0_roundsUp 7 = .ok (.isub, 1) := by decide +kernel
theorem d_X0_roundsUp_8 : decode b_X0_roundsUp 8 = .ok (.invokevirtual 78, 3) := by decide +kernel
theorem d_X0_roundsUp_11 : decode b_X0_roundsUp 11 = .ok (.ifCond .ne 5, 3) := by decide +kernel
theorem d_X0_roundsUp_14 : decode b_X0_roundsUp 14 = .ok (.iconst 0, 1) := by decide +kernel
theorem d_X0_roundsUp_15 : decode b_X0_roundsUp 15 = .ok (.ireturn, 1) := by decide +kernel
theorem d_X0_roundsUp_16 : decode b_X0_roundsUp 16 = .ok (.aload_n 0, 1) := by decide +kernel
theorem d_X0_roundsUp_17 : decode b_X0_roundsUp 17 = .ok (.invokevirtual 81, 3) := by decide +kernel
theorem d_X0_roundsUp_20 : decode b_X0_roundsUp 20 = .ok (.iload_n 1, 1) := by decide +kernel
theorem d_X0_roundsUp_21 : decode b_X0_roundsUp 21 = .ok (.iconst 1, 1) := by decide +kernel
theorem d_X0_roundsUp_22 : decode b_X0_roundsUp 22 = .ok (.isub, 1) := by decide +kernel
theorem d_X0_roundsUp_23 : decode b_X0_roundsUp 23 = .ok (.if_icmp .ne 7, 3) := by decide +kernel
theorem d_X0_roundsUp_26 : decode b_X0_roundsUp 26 = .ok (.iconst 1, 1) := by decide +kernel
theorem d_X0_roundsUp_27 : decode b_X0_roundsUp 27 = .ok (.goto 4, 3) := by decide +kernel
theorem d_X0_roundsUp_30 : decode b_X0_roundsUp 30 = .ok (.iconst 0, 1) := by decide +kernel
theorem d_X0_roundsUp_31 : decode b_X0_roundsUp 31 = .ok (.istore_n 2, 1) := by decide +kernel
theorem d_X0_roundsUp_32 : decode b_X0_roundsUp 32 = .ok (.iload_n 2, 1) := by decide +kernel
theorem d_X0_roundsUp_33 : decode b_X0_roundsUp 33 = .ok (.ifCond .eq 12, 3) := by decide +kernel
theorem d_X0_roundsUp_36 : decode b_X0_roundsUp 36 = .ok (.aload_n 0, 1) := by decide +kernel
theorem d_X0_roundsUp_37 : decode b_X0_roundsUp 37 = .ok (.iload_n 1, 1) := by decide +kernel
theorem d_X0_roundsUp_38 : decode b_X0_roundsUp 38 = .ok (.invokevirtual 78, 3) := by decide +kernel
theorem d_X0_roundsUp_41 : decode b_X0_roundsUp 41 = .ok (.iconst 1, 1) := by decide +kernel
theorem d_X0_roundsUp_42 : decode b_X0_roundsUp 42 = .ok (.if_icmp .ne 7, 3) := by decide +kernel
theorem d_X0_roundsUp_45 : decode b_X0_roundsUp 45 = .ok (.iconst 1, 1) := by decide +kernel
theorem d_X0_roundsUp_46 : decode b_X0_roundsUp 46 = .ok (.goto 4, 3) := by decide +kernel
theorem d_X0_roundsUp_49 : decode b_X0_roundsUp 49 = .ok (.iconst 0, 1) := by decide +kernel
theorem d_X0_roundsUp_50 : decode b_X0_roundsUp 50 = .ok (.ireturn, 1) := by decide +kernel
theorem d_X0_bitAt_0 : decode b_X0_bitAt 0 = .ok (.aload_n 0, 1) := by decide +kernel
theorem d_X0_bitAt_1 : decode b_X0_bitAt 1 = .ok (.iload_n 1, 1) := by decide +kernel
theorem d_X0_bitAt_2 : decode b_X0_bitAt 2 = .ok (.iconst 5, 1) := by decide +kernel
theorem d_X0_bitAt_3 : decode b_X0_bitAt 3 = .ok (.ishr, 1) := by decide +kernel
theorem d_X0_bitAt_4 : decode b_X0_bitAt 4 = .ok (.invokevirtual 21, 3) := by decide +kernel
theorem d_X0_bitAt_7 : decode b_X0_bitAt 7 = .ok (.iload_n 1, 1) := by decide +kernel
theorem d_X0_bitAt_8 : decode b_X0_bitAt 8 = .ok (.bipush 31, 2) := by decide +kernel
theorem d_X0_bitAt_10 : decode b_X0_bitAt 10 = .ok (.iand, 1) := by decide +kernel
theorem d_X0_bitAt_11 : decode b_X0_bitAt 11 = .ok (.iushr, 1) := by decide +kernel
theorem d_X0_bitAt_12 : decode b_X0_bitAt 12 = .ok (.iconst 1, 1) := by decide +kernel
theorem d_X0_bitAt_13 : decode b_X0_bitAt 13 = .ok (.iand, 1) := by decide +kernel
theorem d_X0_bitAt_14 : decode b_X0_bitAt 14 = .ok (.ireturn, 1) := by decide +kernel
theorem d_X0_trailingZeros_0 : decode b_X0_trailingZeros 0 = .ok (.iconst 0, 1) := by decide +kernel
theorem d_X0_trailingZeros_1 : decode b_X0_trailingZeros 1 = .ok (.istore_n 1, 1) := by decide +kernel
theorem d_X0_trailingZeros_2 : decode b_X0_trailingZeros 2 = .ok (.iload_n 1, 1) := by decide +kernel
theorem d_X0_trailingZeros_3 : decode b_X0_trailingZeros 3 = .ok (.aload_n 0, 1) := by decide +kernel
theorem d_X0_trailingZeros_4 : decode b_X0_trailingZeros 4 = .ok (.getfield 15, 3) := by decide +kernel
theorem d_X0_trailingZeros_7 : decode b_X0_trailingZeros 7 = .ok (.if_icmp .ge 33, 3) := by decide +kernel
theorem d_X0_trailingZeros_10 : decode b_X0_trailingZeros 10 = .ok (.aload_n 0, 1) := by decide +kernel
theorem d_X0_trailingZeros_11 : decode b_X0_trailingZeros 11 = .ok (.getfield 9, 3) := by decide +kernel
theorem d_X0_trailingZeros_14 : decode b_X0_trailingZeros 14 = .ok (.iload_n 1, 1) := by decide +kernel
theorem d_X0_trailingZeros_15 : decode b_X0_trailingZeros 15 = .ok (.iaload, 1) := by decide +kernel
theorem d_X0_trailingZeros_16 : decode b_X0_trailingZeros 16 = .ok (.ifCond .eq 18, 3) := by decide +kernel
theorem d_X0_trailingZeros_19 : decode b_X0_trailingZeros 19 = .ok (.bipush 32, 2) := by decide +kernel
theorem d_X0_trailingZeros_21 : decode b_X0_trailingZeros 21 = .ok (.iload_n 1, 1) := by decide +kernel
theorem d_X0_trailingZeros_22 : decode b_X0_trailingZeros 22 = .ok (.imul, 1) := by decide +kernel
theorem d_X0_trailingZeros_23 : decode b_X0_trailingZeros 23 = .ok (.aload_n 0, 1) := by decide +kernel
theorem d_X0_trailingZeros_24 : decode b_X0_trailingZeros 24 = .ok (.getfield 9, 3) := by decide +kernel
theorem d_X0_trailingZeros_27 : decode b_X0_trailingZeros 27 = .ok (.iload_n 1, 1) := by decide +kernel
theorem d_X0_trailingZeros_28 : decode b_X0_trailingZeros 28 = .ok (.iaload, 1) := by decide +kernel
theorem d_X0_trailingZeros_29 : decode b_X0_trailingZeros 29 = .ok (.invokestatic 92, 3) := by decide +kernel
theorem d_X0_trailingZeros_32 : decode b_X0_trailingZeros 32 = .ok (.iadd, 1) := by decide +kernel
theorem d_X0_trailingZeros_33 : decode b_X0_trailingZeros 33 = .ok (.ireturn, 1) := by decide +kernel
theorem d_X0_trailingZeros_34 : decode b_X0_trailingZeros 34 = .ok (.iinc 1 1, 3) := by decide +kernel
theorem d_X0_trailingZeros_37 : decode b_X0_trailingZeros 37 = .ok (.goto (-35), 3) := by decide +kernel
theorem d_X0_trailingZeros_40 : decode b_X0_trailingZeros 40 = .ok (.bipush 32, 2) := by decide +kernel
theorem d_X0_trailingZeros_42 : decode b_X0_trailingZeros 42 = .ok (.aload_n 0, 1) := by decide +kernel
theorem d_X0_trailingZeros_43 : decode b_X0_trailingZeros 43 = .ok (.getfield 15, 3) := by decide +kernel
theorem d_X0_trailingZeros_46 : decode b_X0_trailingZeros 46 = .ok (.imul, 1) := by decide +kernel
theorem d_X0_trailingZeros_47 : decode b_X0_trailingZeros 47 = .ok (.ireturn, 1) := by decide +kernel
theorem d_X0_divideBy_0 : decode b_X0_divideBy 0 = .ok (.aload_n 0, 1) := by decide +kernel
theorem d_X0_divideBy_1 : decode b_X0_divideBy 1 = .ok (.invokevirtual 57, 3) := by decide +kernel
theorem d_X0_divideBy_4 : decode b_X0_divideBy 4 = .ok (.ifCond .ne 9, 3) := by decide +kernel
theorem d_X0_divideBy_7 : decode b_X0_divideBy 7 = .ok (.aload_n 0, 1) := by decide +kernel
theorem d_X0_divideBy_8 : decode b_X0_divideBy 8 = .ok (.lload_n 1, 1) := by decide +kernel
theorem d_X0_divideBy_9 : decode b_X0_divideBy 9 = .ok (.invokevirtual 84, 3) := by decide +kernel
theorem d_X0_divideBy_12 : decode b_X0_divideBy 12 = .ok (.lreturn, 1) := by decide +kernel
theorem d_X0_divideBy_13 : decode b_X0_divideBy 13 = .ok (.aload_n 0, 1) := by decide +kernel
theorem d_X0_divideBy_14 : decode b_X0_divideBy 14 = .ok (.invokevirtual 65, 3) := by decide +kernel
theorem d_X0_divideBy_17 : decode b_X0_divideBy 17 = .ok (.aload_n 0, 1) := by decide +kernel
theorem d_X0_divideBy_18 : decode b_X0_divideBy 18 = .ok (.lload_n 1, 1) := by decide +kernel
theorem d_X0_divideBy_19 : decode b_X0_divideBy 19 = .ok (.invokevirtual 84, 3) := by decide +kernel
theorem d_X0_divideBy_22 : decode b_X0_divideBy 22 = .ok (.lstore_n 3, 1) := by decide +kernel
theorem d_X0_divideBy_23 : decode b_X0_divideBy 23 = .ok (.aload_n 0, 1) := by decide +kernel
theorem d_X0_divideBy_24 : decode b_X0_divideBy 24 = .ok (.invokevirtual 65, 3) := by decide +kernel
theorem d_X0_divideBy_27 : decode b_X0_divideBy 27 = .ok (.lload_n 1, 1) := by decide +kernel
theorem d_X0_divideBy_28 : decode b_X0_divideBy 28 = .ok (.lconst 1, 1) := by decide +kernel
theorem d_X0_divideBy_29 : decode b_X0_divideBy 29 = .ok (.lsub, 1) := by decide +kernel
theorem d_X0_divideBy_30 : decode b_X0_divideBy 30 = .ok (.lload_n 3, 1) := by decide +kernel
theorem d_X0_divideBy_31 : decode b_X0_divideBy 31 = .ok (.lsub, 1) := by decide +kernel
theorem d_X0_divideBy_32 : decode b_X0_divideBy 32 = .ok (.lreturn, 1) := by decide +kernel
theorem d_X0_divideLimbs_0 : decode b_X0_divideLimbs 0 = .ok (.lconst 0, 1) := by decide +kernel
theorem d_X0_divideLimbs_1 : decode b_X0_divideLimbs 1 = .ok (.lstore_n 3, 1) := by decide +kernel
theorem d_X0_divideLimbs_2 : decode b_X0_divideLimbs 2 = .ok (.aload_n 0, 1) := by decide +kernel
theorem d_X0_divideLimbs_3 : decode b_X0_divideLimbs 3 = .ok (.getfield 15, 3) := by decide +kernel
theorem d_X0_divideLimbs_6 : decode b_X0_divideLimbs 6 = .ok (.iconst 1, 1) := by decide +kernel
theorem d_X0_divideLimbs_7 : decode b_X0_divideLimbs 7 = .ok (.isub, 1) := by decide +kernel
theorem d_X0_divideLimbs_8 : decode b_X0_divideLimbs 8 = .ok (.istore 5, 2) := by decide +kernel
theorem d_X0_divideLimbs_10 : decode b_X0_divideLimbs 10 = .ok (.iload 5, 2) := by decide +kernel
theorem d_X0_divideLimbs_12 : decode b_X0_divideLimbs 12 = .ok (.ifCond .lt 18, 3) := by decide +kernel
theorem d_X0_divideLimbs_15 : decode b_X0_divideLimbs 15 = .ok (.aload_n 0, 1) := by decide +kernel
theorem d_X0_divideLimbs_16 : decode b_X0_divideLimbs 16 = .ok (.iload 5, 2) := by decide +kernel
theorem d_X0_divideLimbs_18 : decode b_X0_divideLimbs 18 = .ok (.lload_n 3, 1) := by decide +kernel
theorem d_X0_divideLimbs_19 : decode b_X0_divideLimbs 19 = .ok (.lload_n 1, 1) := by decide +kernel
theorem d_X0_divideLimbs_20 : decode b_X0_divideLimbs 20 = .ok (.invokevirtual 88, 3) := by decide +kernel
theorem d_X0_divideLimbs_23 : decode b_X0_divideLimbs 23 = .ok (.lstore_n 3, 1) := by decide +kernel
theorem d_X0_divideLimbs_24 : decode b_X0_divideLimbs 24 = .ok (.iinc 5 (-1), 3) := by decide +kernel
theorem d_X0_divideLimbs_27 : decode b_X0_divideLimbs 27 = .ok (.goto (-17), 3) := by decide +kernel
theorem d_X0_divideLimbs_30 : decode b_X0_divideLimbs 30 = .ok (.lload_n 3, 1) := by decide +kernel
theorem d_X0_divideLimbs_31 : decode b_X0_divideLimbs 31 = .ok (.lreturn, 1) := by decide +kernel
theorem d_X0_divideLimb_0 : decode b_X0_divideLimb 0 = .ok (.lload_n 2, 1) := by decide +kernel
theorem d_X0_divideLimb_1 : decode b_X0_divideLimb 1 = .ok (.lstore 6, 2) := by decide +kernel
theorem d_X0_divideLimb_3 : decode b_X0_divideLimb 3 = .ok (.iconst 0, 1) := by decide +kernel
theorem d_X0_divideLimb_4 : decode b_X0_divideLimb 4 = .ok (.istore 8, 2) := by decide +kernel
theorem d_X0_divideLimb_6 : decode b_X0_divideLimb 6 = .ok (.bipush 31, 2) := by decide +kernel
theorem d_X0_divideLimb_8 : decode b_X0_divideLimb 8 = .ok (.istore 9, 2) := by decide +kernel
theorem d_X0_divideLimb_10 : decode b_X0_divideLimb 10 = .ok (.iload 9, 2) := by decide +kernel
theorem d_X0_divideLimb_12 : decode b_X0_divideLimb 12 = .ok (.ifCond .lt 55, 3) := by decide +kernel
theorem d_X0_divideLimb_15 : decode b_X0_divideLimb 15 = .ok (.lload 6, 2) := by decide +kernel
theorem d_X0_divideLimb_17 : decode b_X0_divideLimb 17 = .ok (.iconst 1, 1) := by decide +kernel
theorem d_X0_divideLimb_18 : decode b_X0_divideLimb 18 = .ok (.lshl, 1) := by decide +kernel
theorem d_X0_divideLimb_19 : decode b_X0_divideLimb 19 = .ok (.aload_n 0, 1) := by decide +kernel
theorem d_X0_divideLimb_20 : decode b_X0_divideLimb 20 = .ok (.getfield 9, 3) := by decide +kernel
theorem d_X0_divideLimb_23 : decode b_X0_divideLimb 23 = .ok (.iload_n 1, 1) := by decide +kernel
theorem d_X0_divideLimb_24 : decode b_X0_divideLimb 24 = .ok (.iaload, 1) := by decide +kernel
theorem d_X0_divideLimb_25 : decode b_X0_divideLimb 25 = .ok (.iload 9, 2) := by decide +kernel
theorem d_X0_divideLimb_27 : decode b_X0_divideLimb 27 = .ok (.iushr, 1) := by decide +kernel
theorem d_X0_divideLimb_28 : decode b_X0_divideLimb 28 = .ok (.iconst 1, 1) := by decide +kernel
theorem d_X0_divideLimb_29 : decode b_X0_divideLimb 29 = .ok (.iand, 1) := by decide +kernel
theorem d_X0_divideLimb_30 : decode b_X0_divideLimb 30 = .ok (.i2l, 1) := by decide +kernel
theorem d_X0_divideLimb_31 : decode b_X0_divideLimb 31 = .ok (.lor, 1) := by decide +kernel
theorem d_X0_divideLimb_32 : decode b_X0_divideLimb 32 = .ok (.lstore 6, 2) := by decide +kernel
theorem d_X0_divideLimb_34 : decode b_X0_divideLimb 34 = .ok (.iload 8, 2) := by decide +kernel
theorem d_X0_divideLimb_36 : decode b_X0_divideLimb 36 = .ok (.iconst 1, 1) := by decide +kernel
theorem d_X0_divideLimb_37 : decode b_X0_divideLimb 37 = .ok (.ishl, 1) := by decide +kernel
theorem d_X0_divideLimb_38 : decode b_X0_divideLimb 38 = .ok (.istore 8, 2) := by decide +kernel
theorem d_X0_divideLimb_40 : decode b_X0_divideLimb 40 = .ok (.lload 6, 2) := by decide +kernel
theorem d_X0_divideLimb_42 : decode b_X0_divideLimb 42 = .ok (.lload 4, 2) := by decide +kernel
theorem d_X0_divideLimb_44 : decode b_X0_divideLimb 44 = .ok (.lcmp, 1) := by decide +kernel
theorem d_X0_divideLimb_45 : decode b_X0_divideLimb 45 = .ok (.ifCond .lt 16, 3) := by decide +kernel
theorem d_X0_divideLimb_48 : decode b_X0_divideLimb 48 = .ok (.lload 6, 2) := by decide +kernel
theorem d_X0_divideLimb_50 : decode b_X0_divideLimb 50 = .ok (.lload 4, 2) := by decide +kernel
theorem d_X0_divideLimb_52 : decode b_X0_divideLimb 52 = .ok (.lsub, 1) := by decide +kernel
theorem d_X0_divideLimb_53 : decode b_X0_divideLimb 53 = .ok (.lstore 6, 2) := by decide +kernel
theorem d_X0_divideLimb_55 : decode b_X0_divideLimb 55 = .ok (.iload 8, 2) := by decide +kernel
theorem d_X0_divideLimb_57 : decode b_X0_divideLimb 57 = .ok (.iconst 1, 1) := by decide +kernel
theorem d_X0_divideLimb_58 : decode b_X0_divideLimb 58 = .ok (.ior, 1) := by decide +kernel
theorem d_X0_divideLimb_59 : decode b_X0_divideLimb 59 = .ok (.istore 8, 2) := by decide +kernel
theorem d_X0_divideLimb_61 : decode b_X0_divideLimb 61 = .ok (.iinc 9 (-1), 3) := by decide +kernel
theorem d_X0_divideLimb_64 : decode b_X0_divideLimb 64 = .ok (.goto (-54), 3) := by decide +kernel
theorem d_X0_divideLimb_67 : decode b_X0_divideLimb 67 = .ok (.aload_n 0, 1) := by decide +kernel
theorem d_X0_divideLimb_68 : decode b_X0_divideLimb 68 = .ok (.getfield 9, 3) := by decide +kernel
theorem d_X0_divideLimb_71 : decode b_X0_divideLimb 71 = .ok (.iload_n 1, 1) := by decide +kernel
theorem d_X0_divideLimb_72 : decode b_X0_divideLimb 72 = .ok (.iload 8, 2) := by decide +kernel
theorem d_X0_divideLimb_74 : decode b_X0_divideLimb 74 = .ok (.iastore, 1) := by decide +kernel
theorem d_X0_divideLimb_75 : decode b_X0_divideLimb 75 = .ok (.lload 6, 2) := by decide +kernel
theorem d_X0_divideLimb_77 : decode b_X0_divideLimb 77 = .ok (.lreturn, 1) := by decide +kernel
theorem d_X0_order_0 : decode b_X0_order 0 = .ok (.aload_n 0, 1) := by decide +kernel
theorem d_X0_order_1 : decode b_X0_order 1 = .ok (.invokevirtual 57, 3) := by decide +kernel
theorem d_X0_order_4 : decode b_X0_order 4 = .ok (.aload_n 1, 1) := by decide +kernel
theorem d_X0_order_5 : decode b_X0_order 5 = .ok (.invokevirtual 57, 3) := by decide +kernel
theorem d_X0_order_8 : decode b_X0_order 8 = .ok (.if_icmp .eq 16, 3) := by decide +kernel
theorem d_X0_order_11 : decode b_X0_order 11 = .ok (.aload_n 0, 1) := by decide +kernel
theorem d_X0_order_12 : decode b_X0_order 12 = .ok (.invokevirtual 57, 3) := by decide +kernel
theorem d_X0_order_15 : decode b_X0_order 15 = .ok (.ifCond .eq 7, 3) := by decide +kernel
theorem d_X0_order_18 : decode b_X0_order 18 = .ok (.iconst (-1), 1) := by decide +kernel
theorem d_X0_order_19 : decode b_X0_order 19 = .ok (.goto 4, 3) := by decide +kernel
theorem d_X0_order_22 : decode b_X0_order 22 = .ok (.iconst 1, 1) := by decide +kernel
theorem d_X0_order_23 : decode b_X0_order 23 = .ok (.ireturn, 1) := by decide +kernel
theorem d_X0_order_24 : decode b_X0_order 24 = .ok (.aload_n 0, 1) := by decide +kernel
theorem d_X0_order_25 : decode b_X0_order 25 = .ok (.getfield 15, 3) := by decide +kernel
theorem d_X0_order_28 : decode b_X0_order 28 = .ok (.aload_n 1, 1) := by decide +kernel
theorem d_X0_order_29 : decode b_X0_order 29 = .ok (.getfield 15, 3) := by decide +kernel
theorem d_X0_order_32 : decode b_X0_order 32 = .ok (.invokestatic 100, 3) := by decide +kernel
theorem d_X0_order_35 : decode b_X0_order 35 = .ok (.iconst 1, 1) := by decide +kernel
theorem d_X0_order_36 : decode b_X0_order 36 = .ok (.isub, 1) := by decide +kernel
theorem d_X0_order_37 : decode b_X0_order 37 = .ok (.istore_n 2, 1) := by decide +kernel
theorem d_X0_order_38 : decode b_X0_order 38 = .ok (.iload_n 2, 1) := by decide +kernel
theorem d_X0_order_39 : decode b_X0_order 39 = .ok (.ifCond .lt 35, 3) := by decide +kernel
theorem d_X0_order_42 : decode b_X0_order 42 = .ok (.aload_n 0, 1) := by decide +kernel
theorem d_X0_order_43 : decode b_X0_order 43 = .ok (.iload_n 2, 1) := by decide +kernel
theorem d_X0_order_44 : decode b_X0_order 44 = .ok (.invokevirtual 21, 3) := by decide +kernel
theorem d_X0_order_47 : decode b_X0_order 47 = .ok (.invokestatic 39, 3) := by decide +kernel
theorem d_X0_order_50 : decode b_X0_order 50 = .ok (.aload_n 1, 1) := by decide +kernel
theorem d_X0_order_51 : decode b_X0_order 51 = .ok (.iload_n 2, 1) := by decide +kernel
theorem d_X0_order_52 : decode b_X0_order 52 = .ok (.invokevirtual 21, 3) := by decide +kernel
theorem d_X0_order_55 : decode b_X0_order 55 = .ok (.invokestatic 39, 3) := by decide +kernel
theorem d_X0_order_58 : decode b_X0_order 58 = .ok (.invokestatic 103, 3) := by decide +kernel
theorem d_X0_order_61 : decode b_X0_order 61 = .ok (.istore_n 3, 1) := by decide +kernel
theorem d_X0_order_62 : decode b_X0_order 62 = .ok (.iload_n 3, 1) := by decide +kernel
theorem d_X0_order_63 : decode b_X0_order 63 = .ok (.ifCond .eq 5, 3) := by decide +kernel
theorem d_X0_order_66 : decode b_X0_order 66 = .ok (.iload_n 3, 1) := by decide +kernel
theorem d_X0_order_67 : decode b_X0_order 67 = .ok (.ireturn, 1) := by decide +kernel
theorem d_X0_order_68 : decode b_X0_order 68 = .ok (.iinc 2 (-1), 3) := by decide +kernel
theorem d_X0_order_71 : decode b_X0_order 71 = .ok (.goto (-33), 3) := by decide +kernel
theorem d_X0_order_74 : decode b_X0_order 74 = .ok (.iconst 0, 1) := by decide +kernel
theorem d_X0_order_75 : decode b_X0_order 75 = .ok (.ireturn, 1) := by decide +kernel
end
section
theorem d_X1_init_0 : decode b_X1_init 0 = .ok (.aload_n 0, 1) := by decide +kernel
theorem d_X1_init_1 : decode b_X1_init 1 = .ok (.invokespecial 1, 3) := by decide +kernel
theorem d_X1_init_4 : decode b_X1_init 4 = .ok (.aload_n 0, 1) := by decide +kernel
theorem d_X1_init_5 : decode b_X1_init 5 = .ok (.bipush 64, 2) := by decide +kernel
theorem d_X1_init_7 : decode b_X1_init 7 = .ok (.anewarray 9, 3) := by decide +kernel
theorem d_X1_init_10 : decode b_X1_init 10 = .ok (.putfield 11, 3) := by decide +kernel
theorem d_X1_init_13 : decode b_X1_init 13 = .ok (.iconst 0, 1) := by decide +kernel
theorem d_X1_init_14 : decode b_X1_init 14 = .ok (.istore_n 1, 1) := by decide +kernel
theorem d_X1_init_15 : decode b_X1_init 15 = .ok (.iload_n 1, 1) := by decide +kernel
theorem d_X1_init_16 : decode b_X1_init 16 = .ok (.bipush 64, 2) := by decide +kernel
theorem d_X1_init_18 : decode b_X1_init 18 = .ok (.if_icmp .ge 22, 3) := by decide +kernel
theorem d_X1_init_21 : decode b_X1_init 21 = .ok (.aload_n 0, 1) := by decide +kernel
theorem d_X1_init_22 : decode b_X1_init 22 = .ok (.getfield 11, 3) := by decide +kernel
theorem d_X1_init_25 : decode b_X1_init 25 = .ok (.iload_n 1, 1) := by decide +kernel
theorem d_X1_init_26 : decode b_X1_init 26 = .ok (.new 9, 3) := by decide +kernel
theorem d_X1_init_29 : decode b_X1_init 29 = .ok (.dup, 1) := by decide +kernel
theorem d_X1_init_30 : decode b_X1_init 30 = .ok (.invokespecial 15, 3) := by decide +kernel
theorem d_X1_init_33 : decode b_X1_init 33 = .ok (.aastore, 1) := by decide +kernel
theorem d_X1_init_34 : decode b_X1_init 34 = .ok (.iinc 1 1, 3) := by decide +kernel
theorem d_X1_init_37 : decode b_X1_init 37 = .ok (.goto (-22), 3) := by decide +kernel
theorem d_X1_init_40 : decode b_X1_init 40 = .ok (.return_, 1) := by decide +kernel
theorem d_X1_widen_0 : decode b_X1_widen 0 = .ok (.aload_n 0, 1) := by decide +kernel
theorem d_X1_widen_1 : decode b_X1_widen 1 = .ok (.iload_n 1, 1) := by decide +kernel
theorem d_X1_widen_2 : decode b_X1_widen 2 = .ok (.invokevirtual 16, 3) := by decide +kernel
theorem d_X1_widen_5 : decode b_X1_widen 5 = .ok (.astore_n 3, 1) := by decide +kernel
theorem d_X1_widen_6 : decode b_X1_widen 6 = .ok (.iload_n 2, 1) := by decide +kernel
theorem d_X1_widen_7 : decode b_X1_widen 7 = .ok (.iconst 1, 1) := by decide +kernel
theorem d_X1_widen_8 : decode b_X1_widen 8 = .ok (.if_icmp .lt 10, 3) := by decide +kernel
theorem d_X1_widen_11 : decode b_X1_widen 11 = .ok (.iload_n 2, 1) := by decide +kernel
theorem d_X1_widen_12 : decode b_X1_widen 12 = .ok (.sipush 256, 3) := by decide +kernel
theorem d_X1_widen_15 : decode b_X1_widen 15 = .ok (.if_icmp .le 13, 3) := by decide +kernel
theorem d_X1_widen_18 : decode b_X1_widen 18 = .ok (.new 20, 3) := by decide +kernel
theorem d_X1_widen_21 : decode b_X1_widen 21 = .ok (.dup, 1) := by decide +kernel
theorem d_X1_widen_22 : decode b_X1_widen 22 = .ok (.ldc 22, 2) := by decide +kernel
theorem d_X1_widen_24 : decode b_X1_widen 24 = .ok (.invokespecial 24, 3) := by decide +kernel
theorem d_X1_widen_27 : decode b_X1_widen 27 = .ok (.athrow, 1) := by decide +kernel
theorem d_X1_widen_28 : decode b_X1_widen 28 = .ok (.aload_n 3, 1) := by decide +kernel
theorem d_X1_widen_29 : decode b_X1_widen 29 = .ok (.iload_n 2, 1) := by decide +kernel
theorem d_X1_widen_30 : decode b_X1_widen 30 = .ok (.invokevirtual 27, 3) := by decide +kernel
theorem d_X1_widen_33 : decode b_X1_widen 33 = .ok (.ireturn, 1) := by decide +kernel
theorem d_X1_rowAt_0 : decode b_X1_rowAt 0 = .ok (.iload_n 1, 1) := by decide +kernel
theorem d_X1_rowAt_1 : decode b_X1_rowAt 1 = .ok (.ifCond .lt 9, 3) := by decide +kernel
theorem d_X1_rowAt_4 : decode b_X1_rowAt 4 = .ok (.iload_n 1, 1) := by decide +kernel
theorem d_X1_rowAt_5 : decode b_X1_rowAt 5 = .ok (.bipush 64, 2) := by decide +kernel
theorem d_X1_rowAt_7 : decode b_X1_rowAt 7 = .ok (.if_icmp .lt 13, 3) := by decide +kernel
theorem d_X1_rowAt_10 : decode b_X1_rowAt 10 = .ok (.new 39, 3) := by decide +kernel
theorem d_X1_rowAt_13 : decode b_X1_rowAt 13 = .ok (.dup, 1) := by decide +kernel
theorem d_X1_rowAt_14 : decode b_X1_rowAt 14 = .ok (.ldc 120, 2) := by decide +kernel
theorem d_X1_rowAt_16 : decode b_X1_rowAt 16 = .ok (.invokespecial 43, 3) := by decide +kernel
theorem d_X1_rowAt_19 : decode b_X1_rowAt 19 = .ok (.athrow, 1) := by decide +kernel
theorem d_X1_rowAt_20 : decode b_X1_rowAt 20 = .ok (.aload_n 0, 1) := by decide +kernel
theorem d_X1_rowAt_21 : decode b_X1_rowAt 21 = .ok (.getfield 11, 3) := by decide +kernel
theorem d_X1_rowAt_24 : decode b_X1_rowAt 24 = .ok (.iload_n 1, 1) := by decide +kernel
theorem d_X1_rowAt_25 : decode b_X1_rowAt 25 = .ok (.aaload, 1) := by decide +kernel
theorem d_X1_rowAt_26 : decode b_X1_rowAt 26 = .ok (.areturn, 1) := by decide +kernel
theorem d_X1_width_0 : decode b_X1_width 0 = .ok (.aload_n 0, 1) := by decide +kernel
theorem d_X1_width_1 : decode b_X1_width 1 = .ok (.iload_n 1, 1) := by decide +kernel
theorem d_X1_width_2 : decode b_X1_width 2 = .ok (.invokevirtual 16, 3) := by decide +kernel
theorem d_X1_width_5 : decode b_X1_width 5 = .ok (.getfield 31, 3) := by decide +kernel
theorem d_X1_width_8 : decode b_X1_width 8 = .ok (.ireturn, 1) := by decide +kernel
theorem d_X1_set_0 : decode b_X1_set 0 = .ok (.aload_n 0, 1) := by decide +kernel
theorem d_X1_set_1 : decode b_X1_set 1 = .ok (.iload_n 1, 1) := by decide +kernel
theorem d_X1_set_2 : decode b_X1_set 2 = .ok (.invokevirtual 16, 3) := by decide +kernel
theorem d_X1_set_5 : decode b_X1_set 5 = .ok (.lload_n 2, 1) := by decide +kernel
theorem d_X1_set_6 : decode b_X1_set 6 = .ok (.invokevirtual 35, 3) := by decide +kernel
theorem d_X1_set_9 : decode b_X1_set 9 = .ok (.ireturn, 1) := by decide +kernel
theorem d_X1_put_0 : decode b_X1_put 0 = .ok (.aload_n 0, 1) := by decide +kernel
theorem d_X1_put_1 : decode b_X1_put 1 = .ok (.iload_n 1, 1) := by decide +kernel
theorem d_X1_put_2 : decode b_X1_put 2 = .ok (.invokevirtual 16, 3) := by decide +kernel
theorem d_X1_put_5 : decode b_X1_put 5 = .ok (.astore 4, 2) := by decide +kernel
theorem d_X1_put_7 : decode b_X1_put 7 = .ok (.iload_n 2, 1) := by decide +kernel
theorem d_X1_put_8 : decode b_X1_put 8 = .ok (.ifCond .lt 12, 3) := by decide +kernel
theorem d_X1_put_11 : decode b_X1_put 11 = .ok (.iload_n 2, 1) := by decide +kernel
theorem d_X1_put_12 : decode b_X1_put 12 = .ok (.aload 4, 2) := by decide +kernel
theorem d_X1_put_14 : decode b_X1_put 14 = .ok (.getfield 31, 3) := by decide +kernel
theorem d_X1_put_17 : decode b_X1_put 17 = .ok (.if_icmp .lt 13, 3) := by decide +kernel
theorem d_X1_put_20 : decode b_X1_put 20 = .ok (.new 39, 3) := by decide +kernel
theorem d_X1_put_23 : decode b_X1_put 23 = .ok (.dup, 1) := by decide +kernel
theorem d_X1_put_24 : decode b_X1_put 24 = .ok (.ldc 41, 2) := by decide +kernel
theorem d_X1_put_26 : decode b_X1_put 26 = .ok (.invokespecial 43, 3) := by decide +kernel
theorem d_X1_put_29 : decode b_X1_put 29 = .ok (.athrow, 1) := by decide +kernel
theorem d_X1_put_30 : decode b_X1_put 30 = .ok (.aload 4, 2) := by decide +kernel
theorem d_X1_put_32 : decode b_X1_put 32 = .ok (.getfield 44, 3) := by decide +kernel
theorem d_X1_put_35 : decode b_X1_put 35 = .ok (.iload_n 2, 1) := by decide +kernel
theorem d_X1_put_36 : decode b_X1_put 36 = .ok (.iaload, 1) := by decide +kernel
theorem d_X1_put_37 : decode b_X1_put 37 = .ok (.istore 5, 2) := by decide +kernel
theorem d_X1_put_39 : decode b_X1_put 39 = .ok (.aload 4, 2) := by decide +kernel
theorem d_X1_put_41 : decode b_X1_put 41 = .ok (.getfield 44, 3) := by decide +kernel
theorem d_X1_put_44 : decode b_X1_put 44 = .ok (.iload_n 2, 1) := by decide +kernel
theorem d_X1_put_45 : decode b_X1_put 45 = .ok (.iload_n 3, 1) := by decide +kernel
theorem d_X1_put_46 : decode b_X1_put 46 = .ok (.iastore, 1) := by decide +kernel
theorem d_X1_put_47 : decode b_X1_put 47 = .ok (.iload 5, 2) := by decide +kernel
theorem d_X1_put_49 : decode b_X1_put 49 = .ok (.ireturn, 1) := by decide +kernel
theorem d_X1_limb_0 : decode b_X1_limb 0 = .ok (.aload_n 0, 1) := by decide +kernel
theorem d_X1_limb_1 : decode b_X1_limb 1 = .ok (.iload_n 1, 1) := by decide +kernel
theorem d_X1_limb_2 : decode b_X1_limb 2 = .ok (.invokevirtual 16, 3) := by decide +kernel
theorem d_X1_limb_5 : decode b_X1_limb 5 = .ok (.astore_n 3, 1) := by decide +kernel
theorem d_X1_limb_6 : decode b_X1_limb 6 = .ok (.iload_n 2, 1) := by decide +kernel
theorem d_X1_limb_7 : decode b_X1_limb 7 = .ok (.ifCond .ge 13, 3) := by decide +kernel
theorem d_X1_limb_10 : decode b_X1_limb 10 = .ok (.new 39, 3) := by decide +kernel
theorem d_X1_limb_13 : decode b_X1_limb 13 = .ok (.dup, 1) := by decide +kernel
theorem d_X1_limb_14 : decode b_X1_limb 14 = .ok (.ldc 41, 2) := by decide +kernel
theorem d_X1_limb_16 : decode b_X1_limb 16 = .ok (.invokespecial 43, 3) := by decide +kernel
theorem d_X1_limb_19 : decode b_X1_limb 19 = .ok (.athrow, 1) := by decide +kernel
theorem d_X1_limb_20 : decode b_X1_limb 20 = .ok (.aload_n 3, 1) := by decide +kernel
theorem d_X1_limb_21 : decode b_X1_limb 21 = .ok (.iload_n 2, 1) := by decide +kernel
theorem d_X1_limb_22 : decode b_X1_limb 22 = .ok (.invokevirtual 48, 3) := by decide +kernel
theorem d_X1_limb_25 : decode b_X1_limb 25 = .ok (.ireturn, 1) := by decide +kernel
theorem d_X1_copy_0 : decode b_X1_copy 0 = .ok (.aload_n 0, 1) := by decide +kernel
theorem d_X1_copy_1 : decode b_X1_copy 1 = .ok (.iload_n 1, 1) := by decide +kernel
theorem d_X1_copy_2 : decode b_X1_copy 2 = .ok (.invokevirtual 16, 3) := by decide +kernel
theorem d_X1_copy_5 : decode b_X1_copy 5 = .ok (.astore_n 3, 1) := by decide +kernel
theorem d_X1_copy_6 : decode b_X1_copy 6 = .ok (.aload_n 0, 1) := by decide +kernel
theorem d_X1_copy_7 : decode b_X1_copy 7 = .ok (.iload_n 2, 1) := by decide +kernel
theorem d_X1_copy_8 : decode b_X1_copy 8 = .ok (.invokevirtual 16, 3) := by decide +kernel
theorem d_X1_copy_11 : decode b_X1_copy 11 = .ok (.astore 4, 2) := by decide +kernel
theorem d_X1_copy_13 : decode b_X1_copy 13 = .ok (.aload_n 3, 1) := by decide +kernel
theorem d_X1_copy_14 : decode b_X1_copy 14 = .ok (.aload 4, 2) := by decide +kernel
theorem d_X1_copy_16 : decode b_X1_copy 16 = .ok (.invokevirtual 52, 3) := by decide +kernel
theorem d_X1_copy_19 : decode b_X1_copy 19 = .ok (.ireturn, 1) := by decide +kernel
theorem d_X1_add_0 : decode b_X1_add 0 = .ok (.aload_n 0, 1) := by decide +kernel
theorem d_X1_add_1 : decode b_X1_add 1 = .ok (.iload_n 1, 1) := by decide +kernel
theorem d_X1_add_2 : decode b_X1_add 2 = .ok (.invokevirtual 16, 3) := by decide +kernel
theorem d_X1_add_5 : decode b_X1_add 5 = .ok (.astore_n 3, 1) := by decide +kernel
theorem d_X1_add_6 : decode b_X1_add 6 = .ok (.aload_n 0, 1) := by decide +kernel
theorem d_X1_add_7 : decode b_X1_add 7 = .ok (.iload_n 2, 1) := by decide +kernel
theorem d_X1_add_8 : decode b_X1_add 8 = .ok (.invokevirtual 16, 3) := by decide +kernel
theorem d_X1_add_11 : decode b_X1_add 11 = .ok (.astore 4, 2) := by decide +kernel
theorem d_X1_add_13 : decode b_X1_add 13 = .ok (.aload_n 3, 1) := by decide +kernel
theorem d_X1_add_14 : decode b_X1_add 14 = .ok (.iconst 0, 1) := by decide +kernel
theorem d_X1_add_15 : decode b_X1_add 15 = .ok (.aload 4, 2) := by decide +kernel
theorem d_X1_add_17 : decode b_X1_add 17 = .ok (.invokevirtual 56, 3) := by decide +kernel
theorem d_X1_add_20 : decode b_X1_add 20 = .ok (.aload_n 3, 1) := by decide +kernel
theorem d_X1_add_21 : decode b_X1_add 21 = .ok (.invokevirtual 60, 3) := by decide +kernel
theorem d_X1_add_24 : decode b_X1_add 24 = .ok (.ireturn, 1) := by decide +kernel
theorem d_X1_subtract_0 : decode b_X1_subtract 0 = .ok (.aload_n 0, 1) := by decide +kernel
theorem d_X1_subtract_1 : decode b_X1_subtract 1 = .ok (.iload_n 1, 1) := by decide +kernel
theorem d_X1_subtract_2 : decode b_X1_subtract 2 = .ok (.invokevirtual 16, 3) := by decide +kernel
theorem d_X1_subtract_5 : decode b_X1_subtract 5 = .ok (.astore_n 3, 1) := by decide +kernel
theorem d_X1_subtract_6 : decode b_X1_subtract 6 = .ok (.aload_n 0, 1) := by decide +kernel
theorem d_X1_subtract_7 : decode b_X1_subtract 7 = .ok (.iload_n 2, 1) := by decide +kernel
theorem d_X1_subtract_8 : decode b_X1_subtract 8 = .ok (.invokevirtual 16, 3) := by decide +kernel
theorem d_X1_subtract_11 : decode b_X1_subtract 11 = .ok (.astore 4, 2) := by decide +kernel
theorem d_X1_subtract_13 : decode b_X1_subtract 13 = .ok (.aload_n 3, 1) := by decide +kernel
theorem d_X1_subtract_14 : decode b_X1_subtract 14 = .ok (.iconst 0, 1) := by decide +kernel
theorem d_X1_subtract_15 : decode b_X1_subtract 15 = .ok (.aload 4, 2) := by decide +kernel
theorem d_X1_subtract_17 : decode b_X1_subtract 17 = .ok (.invokevirtual 64, 3) := by decide +kernel
theorem d_X1_subtract_20 : decode b_X1_subtract 20 = .ok (.aload_n 3, 1) := by decide +kernel
theorem d_X1_subtract_21 : decode b_X1_subtract 21 = .ok (.invokevirtual 60, 3) := by decide +kernel
theorem d_X1_subtract_24 : decode b_X1_subtract 24 = .ok (.ireturn, 1) := by decide +kernel
theorem d_X1_addProduct_0 : decode b_X1_addProduct 0 = .ok (.aload_n 0, 1) := by decide +kernel
theorem d_X1_addProduct_1 : decode b_X1_addProduct 1 = .ok (.iload_n 1, 1) := by decide +kernel
theorem d_X1_addProduct_2 : decode b_X1_addProduct 2 = .ok (.invokevirtual 16, 3) := by decide +kernel
theorem d_X1_addProduct_5 : decode b_X1_addProduct 5 = .ok (.astore 4, 2) := by decide +kernel
theorem d_X1_addProduct_7 : decode b_X1_addProduct 7 = .ok (.aload_n 0, 1) := by decide +kernel
theorem d_X1_addProduct_8 : decode b_X1_addProduct 8 = .ok (.iload_n 2, 1) := by decide +kernel
theorem d_X1_addProduct_9 : decode b_X1_addProduct 9 = .ok (.invokevirtual 16, 3) := by decide +kernel
theorem d_X1_addProduct_12 : decode b_X1_addProduct 12 = .ok (.astore 5, 2) := by decide +kernel
theorem d_X1_addProduct_14 : decode b_X1_addProduct 14 = .ok (.aload_n 0, 1) := by decide +kernel
theorem d_X1_addProduct_15 : decode b_X1_addProduct 15 = .ok (.iload_n 3, 1) := by decide +kernel
theorem d_X1_addProduct_16 : decode b_X1_addProduct 16 = .ok (.invokevirtual 16, 3) := by decide +kernel
theorem d_X1_addProduct_19 : decode b_X1_addProduct 19 = .ok (.astore 6, 2) := by decide +kernel
theorem d_X1_addProduct_21 : decode b_X1_addProduct 21 = .ok (.iload_n 1, 1) := by decide +kernel
theorem d_X1_addProduct_22 : decode b_X1_addProduct 22 = .ok (.iload_n 2, 1) := by decide +kernel
theorem d_X1_addProduct_23 : decode b_X1_addProduct 23 = .ok (.iload_n 3, 1) := by decide +kernel
theorem d_X1_addProduct_24 : decode b_X1_addProduct 24 = .ok (.invokestatic 67, 3) := by decide +kernel
theorem d_X1_addProduct_27 : decode b_X1_addProduct 27 = .ok (.aload 4, 2) := by decide +kernel
theorem d_X1_addProduct_29 : decode b_X1_addProduct 29 = .ok (.aload 5, 2) := by decide +kernel
theorem d_X1_addProduct_31 : decode b_X1_addProduct 31 = .ok (.aload 6, 2) := by decide +kernel
theorem d_X1_addProduct_33 : decode b_X1_addProduct 33 = .ok (.invokevirtual 71, 3) := by decide +kernel
theorem d_X1_addProduct_36 : decode b_X1_addProduct 36 = .ok (.aload 4, 2) := by decide +kernel
theorem d_X1_addProduct_38 : decode b_X1_addProduct 38 = .ok (.invokevirtual 60, 3) := by decide +kernel
theorem d_X1_addProduct_41 : decode b_X1_addProduct 41 = .ok (.ireturn, 1) := by decide +kernel
theorem d_X1_refuseOwnFactor_0 : decode b_X1_refuseOwnFactor 0 = .ok (.iload_n 0, 1) := by decide +kernel
theorem d_X1_refuseOwnFactor_1 : decode b_X1_refuseOwnFactor 1 = .ok (.iload_n 1, 1) := by decide +kernel
theorem d_X1_refuseOwnFactor_2 : decode b_X1_refuseOwnFactor 2 = .ok (.if_icmp .eq 8, 3) := by decide +kernel
theorem d_X1_refuseOwnFactor_5 : decode b_X1_refuseOwnFactor 5 = .ok (.iload_n 0, 1) := by decide +kernel
theorem d_X1_refuseOwnFactor_6 : decode b_X1_refuseOwnFactor 6 = .ok (.iload_n 2, 1) := by decide +kernel
theorem d_X1_refuseOwnFactor_7 : decode b_X1_refuseOwnFactor 7 = .ok (.if_icmp .ne 13, 3) := by decide +kernel
theorem d_X1_refuseOwnFactor_10 : decode b_X1_refuseOwnFactor 10 = .ok (.new 20, 3) := by decide +kernel
theorem d_X1_refuseOwnFactor_13 : decode b_X1_refuseOwnFactor 13 = .ok (.dup, 1) := by decide +kernel
theorem d_X1_refuseOwnFactor_14 : decode b_X1_refuseOwnFactor 14 = .ok (.ldc 122, 2) := by decide +kernel
theorem d_X1_refuseOwnFactor_16 : decode b_X1_refuseOwnFactor 16 = .ok (.invokespecial 24, 3) := by decide +kernel
theorem d_X1_refuseOwnFactor_19 : decode b_X1_refuseOwnFactor 19 = .ok (.athrow, 1) := by decide +kernel
theorem d_X1_refuseOwnFactor_20 : decode b_X1_refuseOwnFactor 20 = .ok (.return_, 1) := by decide +kernel
theorem d_X1_subtractProduct_0 : decode b_X1_subtractProduct 0 = .ok (.aload_n 0, 1) := by decide +kernel
theorem d_X1_subtractProduct_1 : decode b_X1_subtractProduct 1 = .ok (.iload_n 1, 1) := by decide +kernel
theorem d_X1_subtractProduct_2 : decode b_X1_subtractProduct 2 = .ok (.invokevirtual 16, 3) := by decide +kernel
theorem d_X1_subtractProduct_5 : decode b_X1_subtractProduct 5 = .ok (.astore 4, 2) := by decide +kernel
theorem d_X1_subtractProduct_7 : decode b_X1_subtractProduct 7 = .ok (.aload_n 0, 1) := by decide +kernel
theorem d_X1_subtractProduct_8 : decode b_X1_subtractProduct 8 = .ok (.iload_n 2, 1) := by decide +kernel
theorem d_X1_subtractProduct_9 : decode b_X1_subtractProduct 9 = .ok (.invokevirtual 16, 3) := by decide +kernel
theorem d_X1_subtractProduct_12 : decode b_X1_subtractProduct 12 = .ok (.astore 5, 2) := by decide +kernel
theorem d_X1_subtractProduct_14 : decode b_X1_subtractProduct 14 = .ok (.aload_n 0, 1) := by decide +kernel
theorem d_X1_subtractProduct_15 : decode b_X1_subtractProduct 15 = .ok (.iload_n 3, 1) := by decide +kernel
theorem d_X1_subtractProduct_16 : decode b_X1_subtractProduct 16 = .ok (.invokevirtual 16, 3) := by decide +kernel
theorem d_X1_subtractProduct_19 : decode b_X1_subtractProduct 19 = .ok (.astore 6, 2) := by decide +kernel
theorem d_X1_subtractProduct_21 : decode b_X1_subtractProduct 21 = .ok (.iload_n 1, 1) := by decide +kernel
theorem d_X1_subtractProduct_22 : decode b_X1_subtractProduct 22 = .ok (.iload_n 2, 1) := by decide +kernel
theorem d_X1_subtractProduct_23 : decode b_X1_subtractProduct 23 = .ok (.iload_n 3, 1) := by decide +kernel
theorem d_X1_subtractProduct_24 : decode b_X1_subtractProduct 24 = .ok (.invokestatic 67, 3) := by decide +kernel
theorem d_X1_subtractProduct_27 : decode b_X1_subtractProduct 27 = .ok (.aload 4, 2) := by decide +kernel
theorem d_X1_subtractProduct_29 : decode b_X1_subtractProduct 29 = .ok (.aload 5, 2) := by decide +kernel
theorem d_X1_subtractProduct_31 : decode b_X1_subtractProduct 31 = .ok (.aload 6, 2) := by decide +kernel
theorem d_X1_subtractProduct_33 : decode b_X1_subtractProduct 33 = .ok (.invokevirtual 75, 3) := by decide +kernel
theorem d_X1_subtractProduct_36 : decode b_X1_subtractProduct 36 = .ok (.aload 4, 2) := by decide +kernel
theorem d_X1_subtractProduct_38 : decode b_X1_subtractProduct 38 = .ok (.invokevirtual 60, 3) := by decide +kernel
theorem d_X1_subtractProduct_41 : decode b_X1_subtractProduct 41 = .ok (.ireturn, 1) := by decide +kernel
theorem d_X1_times_0 : decode b_X1_times 0 = .ok (.aload_n 0, 1) := by decide +kernel
theorem d_X1_times_1 : decode b_X1_times 1 = .ok (.iload_n 1, 1) := by decide +kernel
theorem d_X1_times_2 : decode b_X1_times 2 = .ok (.invokevirtual 16, 3) := by decide +kernel
theorem d_X1_times_5 : decode b_X1_times 5 = .ok (.astore 4, 2) := by decide +kernel
theorem d_X1_times_7 : decode b_X1_times 7 = .ok (.aload 4, 2) := by decide +kernel
theorem d_X1_times_9 : decode b_X1_times 9 = .ok (.lload_n 2, 1) := by decide +kernel
theorem d_X1_times_10 : decode b_X1_times 10 = .ok (.invokevirtual 78, 3) := by decide +kernel
theorem d_X1_times_13 : decode b_X1_times 13 = .ok (.aload 4, 2) := by decide +kernel
theorem d_X1_times_15 : decode b_X1_times 15 = .ok (.invokevirtual 60, 3) := by decide +kernel
theorem d_X1_times_18 : decode b_X1_times 18 = .ok (.ireturn, 1) := by decide +kernel
theorem d_X1_negate_0 : decode b_X1_negate 0 = .ok (.aload_n 0, 1) := by decide +kernel
theorem d_X1_negate_1 : decode b_X1_negate 1 = .ok (.iload_n 1, 1) := by decide +kernel
theorem d_X1_negate_2 : decode b_X1_negate 2 = .ok (.invokevirtual 16, 3) := by decide +kernel
theorem d_X1_negate_5 : decode b_X1_negate 5 = .ok (.invokevirtual 82, 3) := by decide +kernel
theorem d_X1_negate_8 : decode b_X1_negate 8 = .ok (.ireturn, 1) := by decide +kernel
theorem d_X1_left_0 : decode b_X1_left 0 = .ok (.aload_n 0, 1) := by decide +kernel
theorem d_X1_left_1 : decode b_X1_left 1 = .ok (.iload_n 1, 1) := by decide +kernel
theorem d_X1_left_2 : decode b_X1_left 2 = .ok (.invokevirtual 16, 3) := by decide +kernel
theorem d_X1_left_5 : decode b_X1_left 5 = .ok (.astore_n 3, 1) := by decide +kernel
theorem d_X1_left_6 : decode b_X1_left 6 = .ok (.iload_n 2, 1) := by decide +kernel
theorem d_X1_left_7 : decode b_X1_left 7 = .ok (.invokestatic 86, 3) := by decide +kernel
theorem d_X1_left_10 : decode b_X1_left 10 = .ok (.aload_n 3, 1) := by decide +kernel
theorem d_X1_left_11 : decode b_X1_left 11 = .ok (.iload_n 2, 1) := by decide +kernel
theorem d_X1_left_12 : decode b_X1_left 12 = .ok (.invokevirtual 90, 3) := by decide +kernel
theorem d_X1_left_15 : decode b_X1_left 15 = .ok (.aload_n 3, 1) := by decide +kernel
theorem d_X1_left_16 : decode b_X1_left 16 = .ok (.invokevirtual 60, 3) := by decide +kernel
theorem d_X1_left_19 : decode b_X1_left 19 = .ok (.ireturn, 1) := by decide +kernel
theorem d_X1_refuseShift_0 : decode b_X1_refuseShift 0 = .ok (.iload_n 0, 1) := by decide +kernel
theorem d_X1_refuseShift_1 : decode b_X1_refuseShift 1 = .ok (.ifCond .lt 10, 3) := by decide +kernel
theorem d_X1_refuseShift_4 : decode b_X1_refuseShift 4 = .ok (.iload_n 0, 1) := by decide +kernel
theorem d_X1_refuseShift_5 : decode b_X1_refuseShift 5 = .ok (.sipush 8192, 3) := by decide +kernel
theorem d_X1_refuseShift_8 : decode b_X1_refuseShift 8 = .ok (.if_icmp .le 13, 3) := by decide +kernel
theorem d_X1_refuseShift_11 : decode b_X1_refuseShift 11 = .ok (.new 20, 3) := by decide +kernel
theorem d_X1_refuseShift_14 : decode b_X1_refuseShift 14 = .ok (.dup, 1) := by decide +kernel
theorem d_X1_refuseShift_15 : decode b_X1_refuseShift 15 = .ok (.ldc 124, 2) := by decide +kernel
theorem d_X1_refuseShift_17 : decode b_X1_refuseShift 17 = .ok (.invokespecial 24, 3) := by decide +kernel
theorem d_X1_refuseShift_20 : decode b_X1_refuseShift 20 = .ok (.athrow, 1) := by decide +kernel
theorem d_X1_refuseShift_21 : decode b_X1_refuseShift 21 = .ok (.return_, 1) := by decide +kernel
theorem d_X1_right_0 : decode b_X1_right 0 = .ok (.aload_n 0, 1) := by decide +kernel
theorem d_X1_right_1 : decode b_X1_right 1 = .ok (.iload_n 1, 1) := by decide +kernel
theorem d_X1_right_2 : decode b_X1_right 2 = .ok (.invokevirtual 16, 3) := by decide +kernel
theorem d_X1_right_5 : decode b_X1_right 5 = .ok (.astore_n 3, 1) := by decide +kernel
theorem d_X1_right_6 : decode b_X1_right 6 = .ok (.iload_n 2, 1) := by decide +kernel
theorem d_X1_right_7 : decode b_X1_right 7 = .ok (.invokestatic 86, 3) := by decide +kernel
theorem d_X1_right_10 : decode b_X1_right 10 = .ok (.aload_n 3, 1) := by decide +kernel
theorem d_X1_right_11 : decode b_X1_right 11 = .ok (.iload_n 2, 1) := by decide +kernel
theorem d_X1_right_12 : decode b_X1_right 12 = .ok (.invokevirtual 93, 3) := by decide +kernel
theorem d_X1_right_15 : decode b_X1_right 15 = .ok (.aload_n 3, 1) := by decide +kernel
theorem d_X1_right_16 : decode b_X1_right 16 = .ok (.invokevirtual 60, 3) := by decide +kernel
theorem d_X1_right_19 : decode b_X1_right 19 = .ok (.ireturn, 1) := by decide +kernel
theorem d_X1_nearest_0 : decode b_X1_nearest 0 = .ok (.aload_n 0, 1) := by decide +kernel
theorem d_X1_nearest_1 : decode b_X1_nearest 1 = .ok (.iload_n 1, 1) := by decide +kernel
theorem d_X1_nearest_2 : decode b_X1_nearest 2 = .ok (.invokevirtual 16, 3) := by decide +kernel
theorem d_X1_nearest_5 : decode b_X1_nearest 5 = .ok (.astore_n 3, 1) := by decide +kernel
theorem d_X1_nearest_6 : decode b_X1_nearest 6 = .ok (.iload_n 2, 1) := by decide +kernel
theorem d_X1_nearest_7 : decode b_X1_nearest 7 = .ok (.invokestatic 86, 3) := by decide +kernel
theorem d_X1_nearest_10 : decode b_X1_nearest 10 = .ok (.aload_n 3, 1) := by decide +kernel
theorem d_X1_nearest_11 : decode b_X1_nearest 11 = .ok (.iload_n 2, 1) := by decide +kernel
theorem d_X1_nearest_12 : decode b_X1_nearest 12 = .ok (.invokevirtual 96, 3) := by decide +kernel
theorem d_X1_nearest_15 : decode b_X1_nearest 15 = .ok (.istore 4, 2) := by decide +kernel
theorem d_X1_nearest_17 : decode b_X1_nearest 17 = .ok (.aload_n 3, 1) := by decide +kernel
theorem d_X1_nearest_18 : decode b_X1_nearest 18 = .ok (.iload_n 2, 1) := by decide +kernel
theorem d_X1_nearest_19 : decode b_X1_nearest 19 = .ok (.invokevirtual 93, 3) := by decide +kernel
theorem d_X1_nearest_22 : decode b_X1_nearest 22 = .ok (.iload 4, 2) := by decide +kernel
theorem d_X1_nearest_24 : decode b_X1_nearest 24 = .ok (.ifCond .eq 7, 3) := by decide +kernel
theorem d_X1_nearest_27 : decode b_X1_nearest 27 = .ok (.aload_n 3, 1) := by decide +kernel
theorem d_X1_nearest_28 : decode b_X1_nearest 28 = .ok (.invokevirtual 99, 3) := by decide +kernel
theorem d_X1_nearest_31 : decode b_X1_nearest 31 = .ok (.aload_n 3, 1) := by decide +kernel
theorem d_X1_nearest_32 : decode b_X1_nearest 32 = .ok (.invokevirtual 60, 3) := by decide +kernel
theorem d_X1_nearest_35 : decode b_X1_nearest 35 = .ok (.ireturn, 1) := by decide +kernel
theorem d_X1_divide_0 : decode b_X1_divide 0 = .ok (.aload_n 0, 1) := by decide +kernel
theorem d_X1_divide_1 : decode b_X1_divide 1 = .ok (.iload_n 1, 1) := by decide +kernel
theorem d_X1_divide_2 : decode b_X1_divide 2 = .ok (.invokevirtual 16, 3) := by decide +kernel
theorem d_X1_divide_5 : decode b_X1_divide 5 = .ok (.astore 4, 2) := by decide +kernel
theorem d_X1_divide_7 : decode b_X1_divide 7 = .ok (.lload_n 2, 1) := by decide +kernel
theorem d_X1_divide_8 : decode b_X1_divide 8 = .ok (.lconst 1, 1) := by decide +kernel
theorem d_X1_divide_9 : decode b_X1_divide 9 = .ok (.lcmp, 1) := by decide +kernel
theorem d_X1_divide_10 : decode b_X1_divide 10 = .ok (.ifCond .lt 11, 3) := by decide +kernel
theorem d_X1_divide_13 : decode b_X1_divide 13 = .ok (.lload_n 2, 1) := by decide +kernel
theorem d_X1_divide_14 : decode b_X1_divide 14 = .ok (.ldc2_w 102, 3) := by decide +kernel
theorem d_X1_divide_17 : decode b_X1_divide 17 = .ok (.lcmp, 1) := by decide +kernel
theorem d_X1_divide_18 : decode b_X1_divide 18 = .ok (.ifCond .le 13, 3) := by decide +kernel
theorem d_X1_divide_21 : decode b_X1_divide 21 = .ok (.new 20, 3) := by decide +kernel
theorem d_X1_divide_24 : decode b_X1_divide 24 = .ok (.dup, 1) := by decide +kernel
theorem d_X1_divide_25 : decode b_X1_divide 25 = .ok (.ldc 104, 2) := by decide +kernel
theorem d_X1_divide_27 : decode b_X1_divide 27 = .ok (.invokespecial 24, 3) := by decide +kernel
theorem d_X1_divide_30 : decode b_X1_divide 30 = .ok (.athrow, 1) := by decide +kernel
theorem d_X1_divide_31 : decode b_X1_divide 31 = .ok (.aload 4, 2) := by decide +kernel
theorem d_X1_divide_33 : decode b_X1_divide 33 = .ok (.lload_n 2, 1) := by decide +kernel
theorem d_X1_divide_34 : decode b_X1_divide 34 = .ok (.invokevirtual 106, 3) := by decide +kernel
theorem d_X1_divide_37 : decode b_X1_divide 37 = .ok (.lreturn, 1) := by decide +kernel
theorem d_X1_zeros_0 : decode b_X1_zeros 0 = .ok (.aload_n 0, 1) := by decide +kernel
theorem d_X1_zeros_1 : decode b_X1_zeros 1 = .ok (.iload_n 1, 1) := by decide +kernel
theorem d_X1_zeros_2 : decode b_X1_zeros 2 = .ok (.invokevirtual 16, 3) := by decide +kernel
theorem d_X1_zeros_5 : decode b_X1_zeros 5 = .ok (.invokevirtual 110, 3) := by decide +kernel
theorem d_X1_zeros_8 : decode b_X1_zeros 8 = .ok (.ireturn, 1) := by decide +kernel
theorem d_X1_length_0 : decode b_X1_length 0 = .ok (.aload_n 0, 1) := by decide +kernel
theorem d_X1_length_1 : decode b_X1_length 1 = .ok (.iload_n 1, 1) := by decide +kernel
theorem d_X1_length_2 : decode b_X1_length 2 = .ok (.invokevirtual 16, 3) := by decide +kernel
theorem d_X1_length_5 : decode b_X1_length 5 = .ok (.invokevirtual 113, 3) := by decide +kernel
theorem d_X1_length_8 : decode b_X1_length 8 = .ok (.ireturn, 1) := by decide +kernel
theorem d_X1_sign_0 : decode b_X1_sign 0 = .ok (.aload_n 0, 1) := by decide +kernel
theorem d_X1_sign_1 : decode b_X1_sign 1 = .ok (.iload_n 1, 1) := by decide +kernel
theorem d_X1_sign_2 : decode b_X1_sign 2 = .ok (.invokevirtual 16, 3) := by decide +kernel
theorem d_X1_sign_5 : decode b_X1_sign 5 = .ok (.invokevirtual 60, 3) := by decide +kernel
theorem d_X1_sign_8 : decode b_X1_sign 8 = .ok (.ireturn, 1) := by decide +kernel
theorem d_X1_compare_0 : decode b_X1_compare 0 = .ok (.aload_n 0, 1) := by decide +kernel
theorem d_X1_compare_1 : decode b_X1_compare 1 = .ok (.iload_n 1, 1) := by decide +kernel
theorem d_X1_compare_2 : decode b_X1_compare 2 = .ok (.invokevirtual 16, 3) := by decide +kernel
theorem d_X1_compare_5 : decode b_X1_compare 5 = .ok (.astore_n 3, 1) := by decide +kernel
theorem d_X1_compare_6 : decode b_X1_compare 6 = .ok (.aload_n 0, 1) := by decide +kernel
theorem d_X1_compare_7 : decode b_X1_compare 7 = .ok (.iload_n 2, 1) := by decide +kernel
theorem d_X1_compare_8 : decode b_X1_compare 8 = .ok (.invokevirtual 16, 3) := by decide +kernel
theorem d_X1_compare_11 : decode b_X1_compare 11 = .ok (.astore 4, 2) := by decide +kernel
theorem d_X1_compare_13 : decode b_X1_compare 13 = .ok (.aload_n 3, 1) := by decide +kernel
theorem d_X1_compare_14 : decode b_X1_compare 14 = .ok (.aload 4, 2) := by decide +kernel
theorem d_X1_compare_16 : decode b_X1_compare 16 = .ok (.invokevirtual 116, 3) := by decide +kernel
theorem d_X1_compare_19 : decode b_X1_compare 19 = .ok (.ireturn, 1) := by decide +kernel
end
section
theorem d_X2_init_0 : decode b_X2_init 0 = .ok (.aload_n 0, 1) := by decide +kernel
theorem d_X2_init_1 : decode b_X2_init 1 = .ok (.invokespecial 1, 3) := by decide +kernel
theorem d_X2_init_4 : decode b_X2_init 4 = .ok (.aload_n 0, 1) := by decide +kernel
theorem d_X2_init_5 : decode b_X2_init 5 = .ok (.bipush 64, 2) := by decide +kernel
theorem d_X2_init_7 : decode b_X2_init 7 = .ok (.newarray .int, 2) := by decide +kernel
theorem d_X2_init_9 : decode b_X2_init 9 = .ok (.putfield 7, 3) := by decide +kernel
theorem d_X2_init_12 : decode b_X2_init 12 = .ok (.aload_n 0, 1) := by decide +kernel
theorem d_X2_init_13 : decode b_X2_init 13 = .ok (.ldc 13, 2) := by decide +kernel
theorem d_X2_init_15 : decode b_X2_init 15 = .ok (.newarray .int, 2) := by decide +kernel
theorem d_X2_init_17 : decode b_X2_init 17 = .ok (.putfield 14, 3) := by decide +kernel
theorem d_X2_init_20 : decode b_X2_init 20 = .ok (.aload_n 0, 1) := by decide +kernel
theorem d_X2_init_21 : decode b_X2_init 21 = .ok (.iconst 3, 1) := by decide +kernel
theorem d_X2_init_22 : decode b_X2_init 22 = .ok (.newarray .int, 2) := by decide +kernel
theorem d_X2_init_24 : decode b_X2_init 24 = .ok (.putfield 17, 3) := by decide +kernel
theorem d_X2_init_27 : decode b_X2_init 27 = .ok (.aload_n 0, 1) := by decide +kernel
theorem d_X2_init_28 : decode b_X2_init 28 = .ok (.sipush 3300, 3) := by decide +kernel
theorem d_X2_init_31 : decode b_X2_init 31 = .ok (.newarray .int, 2) := by decide +kernel
theorem d_X2_init_33 : decode b_X2_init 33 = .ok (.putfield 20, 3) := by decide +kernel
theorem d_X2_init_36 : decode b_X2_init 36 = .ok (.iconst 0, 1) := by decide +kernel
theorem d_X2_init_37 : decode b_X2_init 37 = .ok (.istore_n 1, 1) := by decide +kernel
theorem d_X2_init_38 : decode b_X2_init 38 = .ok (.iload_n 1, 1) := by decide +kernel
theorem d_X2_init_39 : decode b_X2_init 39 = .ok (.bipush 64, 2) := by decide +kernel
theorem d_X2_init_41 : decode b_X2_init 41 = .ok (.if_icmp .ge 16, 3) := by decide +kernel
theorem d_X2_init_44 : decode b_X2_init 44 = .ok (.aload_n 0, 1) := by decide +kernel
theorem d_X2_init_45 : decode b_X2_init 45 = .ok (.getfield 7, 3) := by decide +kernel
theorem d_X2_init_48 : decode b_X2_init 48 = .ok (.iload_n 1, 1) := by decide +kernel
theorem d_X2_init_49 : decode b_X2_init 49 = .ok (.iconst 1, 1) := by decide +kernel
theorem d_X2_init_50 : decode b_X2_init 50 = .ok (.iastore, 1) := by decide +kernel
theorem d_X2_init_51 : decode b_X2_init 51 = .ok (.iinc 1 1, 3) := by decide +kernel
theorem d_X2_init_54 : decode b_X2_init 54 = .ok (.goto (-16), 3) := by decide +kernel
theorem d_X2_init_57 : decode b_X2_init 57 = .ok (.return_, 1) := by decide +kernel
theorem d_X2_thrown_0 : decode b_X2_thrown 0 = .ok (.aload_n 0, 1) := by decide +kernel
theorem d_X2_thrown_1 : decode b_X2_thrown 1 = .ok (.getfield 23, 3) := by decide +kernel
theorem d_X2_thrown_4 : decode b_X2_thrown 4 = .ok (.ireturn, 1) := by decide +kernel
theorem d_X2_widen_0 : decode b_X2_widen 0 = .ok (.aload_n 0, 1) := by decide +kernel
theorem d_X2_widen_1 : decode b_X2_widen 1 = .ok (.iload_n 1, 1) := by decide +kernel
theorem d_X2_widen_2 : decode b_X2_widen 2 = .ok (.invokestatic 62, 3) := by decide +kernel
theorem d_X2_widen_5 : decode b_X2_widen 5 = .ok (.ifCond .ne 7, 3) := by decide +kernel
theorem d_X2_widen_8 : decode b_X2_widen 8 = .ok (.iconst 1, 1) := by decide +kernel
theorem d_X2_widen_9 : decode b_X2_widen 9 = .ok (.goto 20, 3) := by decide +kernel
theorem d_X2_widen_12 : decode b_X2_widen 12 = .ok (.iload_n 2, 1) := by decide +kernel
theorem d_X2_widen_13 : decode b_X2_widen 13 = .ok (.iconst 1, 1) := by decide +kernel
theorem d_X2_widen_14 : decode b_X2_widen 14 = .ok (.if_icmp .lt 10, 3) := by decide +kernel
theorem d_X2_widen_17 : decode b_X2_widen 17 = .ok (.iload_n 2, 1) := by decide +kernel
theorem d_X2_widen_18 : decode b_X2_widen 18 = .ok (.sipush 256, 3) := by decide +kernel
theorem d_X2_widen_21 : decode b_X2_widen 21 = .ok (.if_icmp .le 7, 3) := by decide +kernel
theorem d_X2_widen_24 : decode b_X2_widen 24 = .ok (.iconst 2, 1) := by decide +kernel
theorem d_X2_widen_25 : decode b_X2_widen 25 = .ok (.goto 4, 3) := by decide +kernel
theorem d_X2_widen_28 : decode b_X2_widen 28 = .ok (.iconst 0, 1) := by decide +kernel
theorem d_X2_widen_29 : decode b_X2_widen 29 = .ok (.invokevirtual 65, 3) := by decide +kernel
theorem d_X2_widen_32 : decode b_X2_widen 32 = .ok (.ifCond .eq 5, 3) := by decide +kernel
theorem d_X2_widen_35 : decode b_X2_widen 35 = .ok (.iconst 0, 1) := by decide +kernel
theorem d_X2_widen_36 : decode b_X2_widen 36 = .ok (.ireturn, 1) := by decide +kernel
theorem d_X2_widen_37 : decode b_X2_widen 37 = .ok (.aload_n 0, 1) := by decide +kernel
theorem d_X2_widen_38 : decode b_X2_widen 38 = .ok (.iconst 0, 1) := by decide +kernel
theorem d_X2_widen_39 : decode b_X2_widen 39 = .ok (.iload_n 1, 1) := by decide +kernel
theorem d_X2_widen_40 : decode b_X2_widen 40 = .ok (.invokevirtual 53, 3) := by decide +kernel
theorem d_X2_widen_43 : decode b_X2_widen 43 = .ok (.aload_n 0, 1) := by decide +kernel
theorem d_X2_widen_44 : decode b_X2_widen 44 = .ok (.getfield 7, 3) := by decide +kernel
theorem d_X2_widen_47 : decode b_X2_widen 47 = .ok (.iload_n 1, 1) := by decide +kernel
theorem d_X2_widen_48 : decode b_X2_widen 48 = .ok (.iload_n 2, 1) := by decide +kernel
theorem d_X2_widen_49 : decode b_X2_widen 49 = .ok (.iastore, 1) := by decide +kernel
theorem d_X2_widen_50 : decode b_X2_widen 50 = .ok (.aload_n 0, 1) := by decide +kernel
theorem d_X2_widen_51 : decode b_X2_widen 51 = .ok (.iload_n 1, 1) := by decide +kernel
theorem d_X2_widen_52 : decode b_X2_widen 52 = .ok (.iconst 0, 1) := by decide +kernel
theorem d_X2_widen_53 : decode b_X2_widen 53 = .ok (.invokevirtual 68, 3) := by decide +kernel
theorem d_X2_widen_56 : decode b_X2_widen 56 = .ok (.ireturn, 1) := by decide +kernel
theorem d_X2_isRow_0 : decode b_X2_isRow 0 = .ok (.iload_n 0, 1) := by decide +kernel
theorem d_X2_isRow_1 : decode b_X2_isRow 1 = .ok (.ifCond .lt 13, 3) := by decide +kernel
theorem d_X2_isRow_4 : decode b_X2_isRow 4 = .ok (.iload_n 0, 1) := by decide +kernel
theorem d_X2_isRow_5 : decode b_X2_isRow 5 = .ok (.bipush 64, 2) := by decide +kernel
theorem d_X2_isRow_7 : decode b_X2_isRow 7 = .ok (.if_icmp .ge 7, 3) := by decide +kernel
theorem d_X2_isRow_10 : decode b_X2_isRow 10 = .ok (.iconst 1, 1) := by decide +kernel
theorem d_X2_isRow_11 : decode b_X2_isRow 11 = .ok (.goto 4, 3) := by decide +kernel
theorem d_X2_isRow_14 : decode b_X2_isRow 14 = .ok (.iconst 0, 1) := by decide +kernel
theorem d_X2_isRow_15 : decode b_X2_isRow 15 = .ok (.ireturn, 1) := by decide +kernel
theorem d_X2_refuses_0 : decode b_X2_refuses 0 = .ok (.aload_n 0, 1) := by decide +kernel
theorem d_X2_refuses_1 : decode b_X2_refuses 1 = .ok (.iload_n 1, 1) := by decide +kernel
theorem d_X2_refuses_2 : decode b_X2_refuses 2 = .ok (.putfield 23, 3) := by decide +kernel
theorem d_X2_refuses_5 : decode b_X2_refuses 5 = .ok (.iload_n 1, 1) := by decide +kernel
theorem d_X2_refuses_6 : decode b_X2_refuses 6 = .ok (.ifCond .le 7, 3) := by decide +kernel
theorem d_X2_refuses_9 : decode b_X2_refuses 9 = .ok (.iconst 1, 1) := by decide +kernel
theorem d_X2_refuses_10 : decode b_X2_refuses 10 = .ok (.goto 4, 3) := by decide +kernel
theorem d_X2_refuses_13 : decode b_X2_refuses 13 = .ok (.iconst 0, 1) := by decide +kernel
theorem d_X2_refuses_14 : decode b_X2_refuses 14 = .ok (.ireturn, 1) := by decide +kernel
theorem d_X2_load_0 : decode b_X2_load 0 = .ok (.aload_n 0, 1) := by decide +kernel
theorem d_X2_load_1 : decode b_X2_load 1 = .ok (.iload_n 1, 1) := by decide +kernel
theorem d_X2_load_2 : decode b_X2_load 2 = .ok (.invokevirtual 27, 3) := by decide +kernel
theorem d_X2_load_5 : decode b_X2_load 5 = .ok (.iconst 2, 1) := by decide +kernel
theorem d_X2_load_6 : decode b_X2_load 6 = .ok (.aload_n 0, 1) := by decide +kernel
theorem d_X2_load_7 : decode b_X2_load 7 = .ok (.getfield 7, 3) := by decide +kernel
theorem d_X2_load_10 : decode b_X2_load 10 = .ok (.iload_n 2, 1) := by decide +kernel
theorem d_X2_load_11 : decode b_X2_load 11 = .ok (.iaload, 1) := by decide +kernel
theorem d_X2_load_12 : decode b_X2_load 12 = .ok (.imul, 1) := by decide +kernel
theorem d_X2_load_13 : decode b_X2_load 13 = .ok (.istore_n 3, 1) := by decide +kernel
theorem d_X2_load_14 : decode b_X2_load 14 = .ok (.aload_n 0, 1) := by decide +kernel
theorem d_X2_load_15 : decode b_X2_load 15 = .ok (.getfield 14, 3) := by decide +kernel
theorem d_X2_load_18 : decode b_X2_load 18 = .ok (.sipush 512, 3) := by decide +kernel
theorem d_X2_load_21 : decode b_X2_load 21 = .ok (.iload_n 2, 1) := by decide +kernel
theorem d_X2_load_22 : decode b_X2_load 22 = .ok (.imul, 1) := by decide +kernel
theorem d_X2_load_23 : decode b_X2_load 23 = .ok (.iload_n 3, 1) := by decide +kernel
theorem d_X2_load_24 : decode b_X2_load 24 = .ok (.iadd, 1) := by decide +kernel
theorem d_X2_load_25 : decode b_X2_load 25 = .ok (.iconst 1, 1) := by decide +kernel
theorem d_X2_load_26 : decode b_X2_load 26 = .ok (.isub, 1) := by decide +kernel
theorem d_X2_load_27 : decode b_X2_load 27 = .ok (.iaload, 1) := by decide +kernel
theorem d_X2_load_28 : decode b_X2_load 28 = .ok (.ldc 13, 2) := by decide +kernel
theorem d_X2_load_30 : decode b_X2_load 30 = .ok (.if_icmp .lt 7, 3) := by decide +kernel
theorem d_X2_load_33 : decode b_X2_load 33 = .ok (.iconst 1, 1) := by decide +kernel
theorem d_X2_load_34 : decode b_X2_load 34 = .ok (.goto 4, 3) := by decide +kernel
theorem d_X2_load_37 : decode b_X2_load 37 = .ok (.iconst 0, 1) := by decide +kernel
theorem d_X2_load_38 : decode b_X2_load 38 = .ok (.istore 4, 2) := by decide +kernel
theorem d_X2_load_40 : decode b_X2_load 40 = .ok (.iload 4, 2) := by decide +kernel
theorem d_X2_load_42 : decode b_X2_load 42 = .ok (.ifCond .eq 7, 3) := by decide +kernel
theorem d_X2_load_45 : decode b_X2_load 45 = .ok (.iconst 1, 1) := by decide +kernel
theorem d_X2_load_46 : decode b_X2_load 46 = .ok (.goto 4, 3) := by decide +kernel
theorem d_X2_load_49 : decode b_X2_load 49 = .ok (.iconst 0, 1) := by decide +kernel
theorem d_X2_load_50 : decode b_X2_load 50 = .ok (.istore 5, 2) := by decide +kernel
theorem d_X2_load_52 : decode b_X2_load 52 = .ok (.iconst 0, 1) := by decide +kernel
theorem d_X2_load_53 : decode b_X2_load 53 = .ok (.istore 6, 2) := by decide +kernel
theorem d_X2_load_55 : decode b_X2_load 55 = .ok (.iload 6, 2) := by decide +kernel
theorem d_X2_load_57 : decode b_X2_load 57 = .ok (.iload_n 3, 1) := by decide +kernel
theorem d_X2_load_58 : decode b_X2_load 58 = .ok (.if_icmp .ge 69, 3) := by decide +kernel
theorem d_X2_load_61 : decode b_X2_load 61 = .ok (.aload_n 0, 1) := by decide +kernel
theorem d_X2_load_62 : decode b_X2_load 62 = .ok (.getfield 14, 3) := by decide +kernel
theorem d_X2_load_65 : decode b_X2_load 65 = .ok (.sipush 512, 3) := by decide +kernel
theorem d_X2_load_68 : decode b_X2_load 68 = .ok (.iload_n 2, 1) := by decide +kernel
theorem d_X2_load_69 : decode b_X2_load 69 = .ok (.imul, 1) := by decide +kernel
theorem d_X2_load_70 : decode b_X2_load 70 = .ok (.iload 6, 2) := by decide +kernel
theorem d_X2_load_72 : decode b_X2_load 72 = .ok (.iadd, 1) := by decide +kernel
theorem d_X2_load_73 : decode b_X2_load 73 = .ok (.iaload, 1) := by decide +kernel
theorem d_X2_load_74 : decode b_X2_load 74 = .ok (.istore 7, 2) := by decide +kernel
theorem d_X2_load_76 : decode b_X2_load 76 = .ok (.iload 4, 2) := by decide +kernel
theorem d_X2_load_78 : decode b_X2_load 78 = .ok (.ifCond .eq 11, 3) := by decide +kernel
theorem d_X2_load_81 : decode b_X2_load 81 = .ok (.ldc 31, 2) := by decide +kernel
theorem d_X2_load_83 : decode b_X2_load 83 = .ok (.iload 7, 2) := by decide +kernel
theorem d_X2_load_85 : decode b_X2_load 85 = .ok (.isub, 1) := by decide +kernel
theorem d_X2_load_86 : decode b_X2_load 86 = .ok (.goto 5, 3) := by decide +kernel
theorem d_X2_load_89 : decode b_X2_load 89 = .ok (.iload 7, 2) := by decide +kernel
theorem d_X2_load_91 : decode b_X2_load 91 = .ok (.iload 5, 2) := by decide +kernel
theorem d_X2_load_93 : decode b_X2_load 93 = .ok (.iadd, 1) := by decide +kernel
theorem d_X2_load_94 : decode b_X2_load 94 = .ok (.istore 7, 2) := by decide +kernel
theorem d_X2_load_96 : decode b_X2_load 96 = .ok (.iload 7, 2) := by decide +kernel
theorem d_X2_load_98 : decode b_X2_load 98 = .ok (.ldc 32, 2) := by decide +kernel
theorem d_X2_load_100 : decode b_X2_load 100 = .ok (.idiv, 1) := by decide +kernel
theorem d_X2_load_101 : decode b_X2_load 101 = .ok (.istore 5, 2) := by decide +kernel
theorem d_X2_load_103 : decode b_X2_load 103 = .ok (.aload_n 0, 1) := by decide +kernel
theorem d_X2_load_104 : decode b_X2_load 104 = .ok (.getfield 20, 3) := by decide +kernel
theorem d_X2_load_107 : decode b_X2_load 107 = .ok (.sipush 1100, 3) := by decide +kernel
theorem d_X2_load_110 : decode b_X2_load 110 = .ok (.iload_n 1, 1) := by decide +kernel
theorem d_X2_load_111 : decode b_X2_load 111 = .ok (.imul, 1) := by decide +kernel
theorem d_X2_load_112 : decode b_X2_load 112 = .ok (.iload 6, 2) := by decide +kernel
theorem d_X2_load_114 : decode b_X2_load 114 = .ok (.iadd, 1) := by decide +kernel
theorem d_X2_load_115 : decode b_X2_load 115 = .ok (.iload 7, 2) := by decide +kernel
theorem d_X2_load_117 : decode b_X2_load 117 = .ok (.ldc 32, 2) := by decide +kernel
theorem d_X2_load_119 : decode b_X2_load 119 = .ok (.irem, 1) := by decide +kernel
theorem d_X2_load_120 : decode b_X2_load 120 = .ok (.iastore, 1) := by decide +kernel
theorem d_X2_load_121 : decode b_X2_load 121 = .ok (.iinc 6 1, 3) := by decide +kernel
theorem d_X2_load_124 : decode b_X2_load 124 = .ok (.goto (-69), 3) := by decide +kernel
theorem d_X2_load_127 : decode b_X2_load 127 = .ok (.aload_n 0, 1) := by decide +kernel
theorem d_X2_load_128 : decode b_X2_load 128 = .ok (.getfield 20, 3) := by decide +kernel
theorem d_X2_load_131 : decode b_X2_load 131 = .ok (.sipush 1100, 3) := by decide +kernel
theorem d_X2_load_134 : decode b_X2_load 134 = .ok (.iload_n 1, 1) := by decide +kernel
theorem d_X2_load_135 : decode b_X2_load 135 = .ok (.imul, 1) := by decide +kernel
theorem d_X2_load_136 : decode b_X2_load 136 = .ok (.iload_n 3, 1) := by decide +kernel
theorem d_X2_load_137 : decode b_X2_load 137 = .ok (.iadd, 1) := by decide +kernel
theorem d_X2_load_138 : decode b_X2_load 138 = .ok (.iload 5, 2) := by decide +kernel
theorem d_X2_load_140 : decode b_X2_load 140 = .ok (.iastore, 1) := by decide +kernel
theorem d_X2_load_141 : decode b_X2_load 141 = .ok (.aload_n 0, 1) := by decide +kernel
theorem d_X2_load_142 : decode b_X2_load 142 = .ok (.getfield 17, 3) := by decide +kernel
theorem d_X2_load_145 : decode b_X2_load 145 = .ok (.iload_n 1, 1) := by decide +kernel
theorem d_X2_load_146 : decode b_X2_load 146 = .ok (.aload_n 0, 1) := by decide +kernel
theorem d_X2_load_147 : decode b_X2_load 147 = .ok (.iload_n 1, 1) := by decide +kernel
theorem d_X2_load_148 : decode b_X2_load 148 = .ok (.invokevirtual 33, 3) := by decide +kernel
theorem d_X2_load_151 : decode b_X2_load 151 = .ok (.ifCond .eq 7, 3) := by decide +kernel
theorem d_X2_load_154 : decode b_X2_load 154 = .ok (.iconst 0, 1) := by decide +kernel
theorem d_X2_load_155 : decode b_X2_load 155 = .ok (.goto 13, 3) := by decide +kernel
theorem d_X2_load_158 : decode b_X2_load 158 = .ok (.iload 4, 2) := by decide +kernel
theorem d_X2_load_160 : decode b_X2_load 160 = .ok (.ifCond .eq 7, 3) := by decide +kernel
theorem d_X2_load_163 : decode b_X2_load 163 = .ok (.iconst (-1), 1) := by decide +kernel
theorem d_X2_load_164 : decode b_X2_load 164 = .ok (.goto 4, 3) := by decide +kernel
theorem d_X2_load_167 : decode b_X2_load 167 = .ok (.iconst 1, 1) := by decide +kernel
theorem d_X2_load_168 : decode b_X2_load 168 = .ok (.iastore, 1) := by decide +kernel
theorem d_X2_load_169 : decode b_X2_load 169 = .ok (.return_, 1) := by decide +kernel
theorem d_X2_clear_0 : decode b_X2_clear 0 = .ok (.iconst 0, 1) := by decide +kernel
theorem d_X2_clear_1 : decode b_X2_clear 1 = .ok (.istore_n 2, 1) := by decide +kernel
theorem d_X2_clear_2 : decode b_X2_clear 2 = .ok (.iload_n 2, 1) := by decide +kernel
theorem d_X2_clear_3 : decode b_X2_clear 3 = .ok (.sipush 1100, 3) := by decide +kernel
theorem d_X2_clear_6 : decode b_X2_clear 6 = .ok (.if_icmp .ge 22, 3) := by decide +kernel
theorem d_X2_clear_9 : decode b_X2_clear 9 = .ok (.aload_n 0, 1) := by decide +kernel
theorem d_X2_clear_10 : decode b_X2_clear 10 = .ok (.getfield 20, 3) := by decide +kernel
theorem d_X2_clear_13 : decode b_X2_clear 13 = .ok (.sipush 1100, 3) := by decide +kernel
theorem d_X2_clear_16 : decode b_X2_clear 16 = .ok (.iload_n 1, 1) := by decide +kernel
theorem d_X2_clear_17 : decode b_X2_clear 17 = .ok (.imul, 1) := by decide +kernel
theorem d_X2_clear_18 : decode b_X2_clear 18 = .ok (.iload_n 2, 1) := by decide +kernel
theorem d_X2_clear_19 : decode b_X2_clear 19 = .ok (.iadd, 1) := by decide +kernel
theorem d_X2_clear_20 : decode b_X2_clear 20 = .ok (.iconst 0, 1) := by decide +kernel
theorem d_X2_clear_21 : decode b_X2_clear 21 = .ok (.iastore, 1) := by decide +kernel
theorem d_X2_clear_22 : decode b_X2_clear 22 = .ok (.iinc 2 1, 3) := by decide +kernel
theorem d_X2_clear_25 : decode b_X2_clear 25 = .ok (.goto (-23), 3) := by decide +kernel
theorem d_X2_clear_28 : decode b_X2_clear 28 = .ok (.aload_n 0, 1) := by decide +kernel
theorem d_X2_clear_29 : decode b_X2_clear 29 = .ok (.getfield 17, 3) := by decide +kernel
theorem d_X2_clear_32 : decode b_X2_clear 32 = .ok (.iload_n 1, 1) := by decide +kernel
theorem d_X2_clear_33 : decode b_X2_clear 33 = .ok (.iconst 0, 1) := by decide +kernel
theorem d_X2_clear_34 : decode b_X2_clear 34 = .ok (.iastore, 1) := by decide +kernel
theorem d_X2_clear_35 : decode b_X2_clear 35 = .ok (.return_, 1) := by decide +kernel
theorem d_X2_isZero_0 : decode b_X2_isZero 0 = .ok (.iconst 1, 1) := by decide +kernel
theorem d_X2_isZero_1 : decode b_X2_isZero 1 = .ok (.istore_n 2, 1) := by decide +kernel
theorem d_X2_isZero_2 : decode b_X2_isZero 2 = .ok (.iconst 0, 1) := by decide +kernel
theorem d_X2_isZero_3 : decode b_X2_isZero 3 = .ok (.istore_n 3, 1) := by decide +kernel
theorem d_X2_isZero_4 : decode b_X2_isZero 4 = .ok (.iload_n 3, 1) := by decide +kernel
theorem d_X2_isZero_5 : decode b_X2_isZero 5 = .ok (.sipush 1100, 3) := by decide +kernel
theorem d_X2_isZero_8 : decode b_X2_isZero 8 = .ok (.if_icmp .ge 34, 3) := by decide +kernel
theorem d_X2_isZero_11 : decode b_X2_isZero 11 = .ok (.iload_n 2, 1) := by decide +kernel
theorem d_X2_isZero_12 : decode b_X2_isZero 12 = .ok (.ifCond .eq 22, 3) := by decide +kernel
theorem d_X2_isZero_15 : decode b_X2_isZero 15 = .ok (.aload_n 0, 1) := by decide +kernel
theorem d_X2_isZero_16 : decode b_X2_isZero 16 = .ok (.getfield 20, 3) := by decide +kernel
theorem d_X2_isZero_19 : decode b_X2_isZero 19 = .ok (.sipush 1100, 3) := by decide +kernel
theorem d_X2_isZero_22 : decode b_X2_isZero 22 = .ok (.iload_n 1, 1) := by decide +kernel
theorem d_X2_isZero_23 : decode b_X2_isZero 23 = .ok (.imul, 1) := by decide +kernel
theorem d_X2_isZero_24 : decode b_X2_isZero 24 = .ok (.iload_n 3, 1) := by decide +kernel
theorem d_X2_isZero_25 : decode b_X2_isZero 25 = .ok (.iadd, 1) := by decide +kernel
theorem d_X2_isZero_26 : decode b_X2_isZero 26 = .ok (.iaload, 1) := by decide +kernel
theorem d_X2_isZero_27 : decode b_X2_isZero 27 = .ok (.ifCond .ne 7, 3) := by decide +kernel
theorem d_X2_isZero_30 : decode b_X2_isZero 30 = .ok (.iconst 1, 1) := by decide +kernel
theorem d_X2_isZero_31 : decode b_X2_isZero 31 = .ok (.goto 4, 3) := by decide +kernel
theorem d_X2_isZero_34 : decode b_X2_isZero 34 = .ok (.iconst 0, 1) := by decide +kernel
theorem d_X2_isZero_35 : decode b_X2_isZero 35 = .ok (.istore_n 2, 1) := by decide +kernel
theorem d_X2_isZero_36 : decode b_X2_isZero 36 = .ok (.iinc 3 1, 3) := by decide +kernel
theorem d_X2_isZero_39 : decode b_X2_isZero 39 = .ok (.goto (-35), 3) := by decide +kernel
theorem d_X2_isZero_42 : decode b_X2_isZero 42 = .ok (.iload_n 2, 1) := by decide +kernel
theorem d_X2_isZero_43 : decode b_X2_isZero 43 = .ok (.ireturn, 1) := by decide +kernel
theorem d_X2_store_0 : decode b_X2_store 0 = .ok (.iconst 2, 1) := by decide +kernel
theorem d_X2_store_1 : decode b_X2_store 1 = .ok (.aload_n 0, 1) := by decide +kernel
theorem d_X2_store_2 : decode b_X2_store 2 = .ok (.getfield 7, 3) := by decide +kernel
theorem d_X2_store_5 : decode b_X2_store 5 = .ok (.iload_n 1, 1) := by decide +kernel
theorem d_X2_store_6 : decode b_X2_store 6 = .ok (.iaload, 1) := by decide +kernel
theorem d_X2_store_7 : decode b_X2_store 7 = .ok (.imul, 1) := by decide +kernel
theorem d_X2_store_8 : decode b_X2_store 8 = .ok (.istore_n 3, 1) := by decide +kernel
theorem d_X2_store_9 : decode b_X2_store 9 = .ok (.aload_n 0, 1) := by decide +kernel
theorem d_X2_store_10 : decode b_X2_store 10 = .ok (.iload_n 2, 1) := by decide +kernel
theorem d_X2_store_11 : decode b_X2_store 11 = .ok (.invokevirtual 50, 3) := by decide +kernel
theorem d_X2_store_14 : decode b_X2_store 14 = .ok (.bipush 16, 2) := by decide +kernel
theorem d_X2_store_16 : decode b_X2_store 16 = .ok (.iload_n 3, 1) := by decide +kernel
theorem d_X2_store_17 : decode b_X2_store 17 = .ok (.imul, 1) := by decide +kernel
theorem d_X2_store_18 : decode b_X2_store 18 = .ok (.if_icmp .ge 7, 3) := by decide +kernel
theorem d_X2_store_21 : decode b_X2_store 21 = .ok (.iconst 1, 1) := by decide +kernel
theorem d_X2_store_22 : decode b_X2_store 22 = .ok (.goto 4, 3) := by decide +kernel
theorem d_X2_store_25 : decode b_X2_store 25 = .ok (.iconst 0, 1) := by decide +kernel
theorem d_X2_store_26 : decode b_X2_store 26 = .ok (.istore 4, 2) := by decide +kernel
theorem d_X2_store_28 : decode b_X2_store 28 = .ok (.aload_n 0, 1) := by decide +kernel
theorem d_X2_store_29 : decode b_X2_store 29 = .ok (.getfield 17, 3) := by decide +kernel
theorem d_X2_store_32 : decode b_X2_store 32 = .ok (.iload_n 2, 1) := by decide +kernel
theorem d_X2_store_33 : decode b_X2_store 33 = .ok (.iaload, 1) := by decide +kernel
theorem d_X2_store_34 : decode b_X2_store 34 = .ok (.ifCond .ge 7, 3) := by decide +kernel
theorem d_X2_store_37 : decode b_X2_store 37 = .ok (.iconst 1, 1) := by decide +kernel
theorem d_X2_store_38 : decode b_X2_store 38 = .ok (.goto 4, 3) := by decide +kernel
theorem d_X2_store_41 : decode b_X2_store 41 = .ok (.iconst 0, 1) := by decide +kernel
theorem d_X2_store_42 : decode b_X2_store 42 = .ok (.istore 5, 2) := by decide +kernel
theorem d_X2_store_44 : decode b_X2_store 44 = .ok (.iconst 0, 1) := by decide +kernel
theorem d_X2_store_45 : decode b_X2_store 45 = .ok (.istore 6, 2) := by decide +kernel
theorem d_X2_store_47 : decode b_X2_store 47 = .ok (.iload 6, 2) := by decide +kernel
theorem d_X2_store_49 : decode b_X2_store 49 = .ok (.iload_n 3, 1) := by decide +kernel
theorem d_X2_store_50 : decode b_X2_store 50 = .ok (.if_icmp .ge 73, 3) := by decide +kernel
theorem d_X2_store_53 : decode b_X2_store 53 = .ok (.aload_n 0, 1) := by decide +kernel
theorem d_X2_store_54 : decode b_X2_store 54 = .ok (.getfield 20, 3) := by decide +kernel
theorem d_X2_store_57 : decode b_X2_store 57 = .ok (.sipush 1100, 3) := by decide +kernel
theorem d_X2_store_60 : decode b_X2_store 60 = .ok (.iload_n 2, 1) := by decide +kernel
theorem d_X2_store_61 : decode b_X2_store 61 = .ok (.imul, 1) := by decide +kernel
theorem d_X2_store_62 : decode b_X2_store 62 = .ok (.iload 6, 2) := by decide +kernel
theorem d_X2_store_64 : decode b_X2_store 64 = .ok (.iadd, 1) := by decide +kernel
theorem d_X2_store_65 : decode b_X2_store 65 = .ok (.iaload, 1) := by decide +kernel
theorem d_X2_store_66 : decode b_X2_store 66 = .ok (.istore 7, 2) := by decide +kernel
theorem d_X2_store_68 : decode b_X2_store 68 = .ok (.aload_n 0, 1) := by decide +kernel
theorem d_X2_store_69 : decode b_X2_store 69 = .ok (.getfield 17, 3) := by decide +kernel
theorem d_X2_store_72 : decode b_X2_store 72 = .ok (.iload_n 2, 1) := by decide +kernel
theorem d_X2_store_73 : decode b_X2_store 73 = .ok (.iaload, 1) := by decide +kernel
theorem d_X2_store_74 : decode b_X2_store 74 = .ok (.ifCond .ge 11, 3) := by decide +kernel
theorem d_X2_store_77 : decode b_X2_store 77 = .ok (.ldc 31, 2) := by decide +kernel
theorem d_X2_store_79 : decode b_X2_store 79 = .ok (.iload 7, 2) := by decide +kernel
theorem d_X2_store_81 : decode b_X2_store 81 = .ok (.isub, 1) := by decide +kernel
theorem d_X2_store_82 : decode b_X2_store 82 = .ok (.goto 5, 3) := by decide +kernel
theorem d_X2_store_85 : decode b_X2_store 85 = .ok (.iload 7, 2) := by decide +kernel
theorem d_X2_store_87 : decode b_X2_store 87 = .ok (.iload 5, 2) := by decide +kernel
theorem d_X2_store_89 : decode b_X2_store 89 = .ok (.iadd, 1) := by decide +kernel
theorem d_X2_store_90 : decode b_X2_store 90 = .ok (.istore 7, 2) := by decide +kernel
theorem d_X2_store_92 : decode b_X2_store 92 = .ok (.iload 7, 2) := by decide +kernel
theorem d_X2_store_94 : decode b_X2_store 94 = .ok (.ldc 32, 2) := by decide +kernel
theorem d_X2_store_96 : decode b_X2_store 96 = .ok (.idiv, 1) := by decide +kernel
theorem d_X2_store_97 : decode b_X2_store 97 = .ok (.istore 5, 2) := by decide +kernel
theorem d_X2_store_99 : decode b_X2_store 99 = .ok (.aload_n 0, 1) := by decide +kernel
theorem d_X2_store_100 : decode b_X2_store 100 = .ok (.getfield 14, 3) := by decide +kernel
theorem d_X2_store_103 : decode b_X2_store 103 = .ok (.sipush 512, 3) := by decide +kernel
theorem d_X2_store_106 : decode b_X2_store 106 = .ok (.iload_n 1, 1) := by decide +kernel
theorem d_X2_store_107 : decode b_X2_store 107 = .ok (.imul, 1) := by decide +kernel
theorem d_X2_store_108 : decode b_X2_store 108 = .ok (.iload 6, 2) := by decide +kernel
theorem d_X2_store_110 : decode b_X2_store 110 = .ok (.iadd, 1) := by decide +kernel
theorem d_X2_store_111 : decode b_X2_store 111 = .ok (.iload 7, 2) := by decide +kernel
theorem d_X2_store_113 : decode b_X2_store 113 = .ok (.ldc 32, 2) := by decide +kernel
theorem d_X2_store_115 : decode b_X2_store 115 = .ok (.irem, 1) := by decide +kernel
theorem d_X2_store_116 : decode b_X2_store 116 = .ok (.iastore, 1) := by decide +kernel
theorem d_X2_store_117 : decode b_X2_store 117 = .ok (.iinc 6 1, 3) := by decide +kernel
theorem d_X2_store_120 : decode b_X2_store 120 = .ok (.goto (-73), 3) := by decide +kernel
theorem d_X2_store_123 : decode b_X2_store 123 = .ok (.iload 4, 2) := by decide +kernel
theorem d_X2_store_125 : decode b_X2_store 125 = .ok (.ireturn, 1) := by decide +kernel
theorem d_X2_lengthOf_0 : decode b_X2_lengthOf 0 = .ok (.aload_n 0, 1) := by decide +kernel
theorem d_X2_lengthOf_1 : decode b_X2_lengthOf 1 = .ok (.iload_n 1, 1) := by decide +kernel
theorem d_X2_lengthOf_2 : decode b_X2_lengthOf 2 = .ok (.invokevirtual 43, 3) := by decide +kernel
theorem d_X2_lengthOf_5 : decode b_X2_lengthOf 5 = .ok (.istore_n 2, 1) := by decide +kernel
theorem d_X2_lengthOf_6 : decode b_X2_lengthOf 6 = .ok (.aload_n 0, 1) := by decide +kernel
theorem d_X2_lengthOf_7 : decode b_X2_lengthOf 7 = .ok (.getfield 17, 3) := by decide +kernel
theorem d_X2_lengthOf_10 : decode b_X2_lengthOf 10 = .ok (.iload_n 1, 1) := by decide +kernel
theorem d_X2_lengthOf_11 : decode b_X2_lengthOf 11 = .ok (.iaload, 1) := by decide +kernel
theorem d_X2_lengthOf_12 : decode b_X2_lengthOf 12 = .ok (.ifCond .ge 20, 3) := by decide +kernel
theorem d_X2_lengthOf_15 : decode b_X2_lengthOf 15 = .ok (.aload_n 0, 1) := by decide +kernel
theorem d_X2_lengthOf_16 : decode b_X2_lengthOf 16 = .ok (.iload_n 1, 1) := by decide +kernel
theorem d_X2_lengthOf_17 : decode b_X2_lengthOf 17 = .ok (.invokevirtual 47, 3) := by decide +kernel
theorem d_X2_lengthOf_20 : decode b_X2_lengthOf 20 = .ok (.iload_n 2, 1) := by decide +kernel
theorem d_X2_lengthOf_21 : decode b_X2_lengthOf 21 = .ok (.iconst 1, 1) := by decide +kernel
theorem d_X2_lengthOf_22 : decode b_X2_lengthOf 22 = .ok (.isub, 1) := by decide +kernel
theorem d_X2_lengthOf_23 : decode b_X2_lengthOf 23 = .ok (.if_icmp .ne 9, 3) := by decide +kernel
theorem d_X2_lengthOf_26 : decode b_X2_lengthOf 26 = .ok (.iload_n 2, 1) := by decide +kernel
theorem d_X2_lengthOf_27 : decode b_X2_lengthOf 27 = .ok (.iconst 1, 1) := by decide +kernel
theorem d_X2_lengthOf_28 : decode b_X2_lengthOf 28 = .ok (.isub, 1) := by decide +kernel
theorem d_X2_lengthOf_29 : decode b_X2_lengthOf 29 = .ok (.goto 4, 3) := by decide +kernel
theorem d_X2_lengthOf_32 : decode b_X2_lengthOf 32 = .ok (.iload_n 2, 1) := by decide +kernel
theorem d_X2_lengthOf_33 : decode b_X2_lengthOf 33 = .ok (.ireturn, 1) := by decide +kernel
theorem d_X2_bits_0 : decode b_X2_bits 0 = .ok (.sipush 1099, 3) := by decide +kernel
theorem d_X2_bits_3 : decode b_X2_bits 3 = .ok (.istore_n 2, 1) := by decide +kernel
theorem d_X2_bits_4 : decode b_X2_bits 4 = .ok (.iload_n 2, 1) := by decide +kernel
theorem d_X2_bits_5 : decode b_X2_bits 5 = .ok (.ifCond .lt 24, 3) := by decide +kernel
theorem d_X2_bits_8 : decode b_X2_bits 8 = .ok (.aload_n 0, 1) := by decide +kernel
theorem d_X2_bits_9 : decode b_X2_bits 9 = .ok (.getfield 20, 3) := by decide +kernel
theorem d_X2_bits_12 : decode b_X2_bits 12 = .ok (.sipush 1100, 3) := by decide +kernel
theorem d_X2_bits_15 : decode b_X2_bits 15 = .ok (.iload_n 1, 1) := by decide +kernel
theorem d_X2_bits_16 : decode b_X2_bits 16 = .ok (.imul, 1) := by decide +kernel
theorem d_X2_bits_17 : decode b_X2_bits 17 = .ok (.iload_n 2, 1) := by decide +kernel
theorem d_X2_bits_18 : decode b_X2_bits 18 = .ok (.iadd, 1) := by decide +kernel
theorem d_X2_bits_19 : decode b_X2_bits 19 = .ok (.iaload, 1) := by decide +kernel
theorem d_X2_bits_20 : decode b_X2_bits 20 = .ok (.ifCond .ne 9, 3) := by decide +kernel
theorem d_X2_bits_23 : decode b_X2_bits 23 = .ok (.iinc 2 (-1), 3) := by decide +kernel
theorem d_X2_bits_26 : decode b_X2_bits 26 = .ok (.goto (-22), 3) := by decide +kernel
theorem d_X2_bits_29 : decode b_X2_bits 29 = .ok (.iconst 0, 1) := by decide +kernel
theorem d_X2_bits_30 : decode b_X2_bits 30 = .ok (.istore_n 3, 1) := by decide +kernel
theorem d_X2_bits_31 : decode b_X2_bits 31 = .ok (.iload_n 2, 1) := by decide +kernel
theorem d_X2_bits_32 : decode b_X2_bits 32 = .ok (.ifCond .lt 26, 3) := by decide +kernel
theorem d_X2_bits_35 : decode b_X2_bits 35 = .ok (.aload_n 0, 1) := by decide +kernel
theorem d_X2_bits_36 : decode b_X2_bits 36 = .ok (.getfield 20, 3) := by decide +kernel
theorem d_X2_bits_39 : decode b_X2_bits 39 = .ok (.sipush 1100, 3) := by decide +kernel
theorem d_X2_bits_42 : decode b_X2_bits 42 = .ok (.iload_n 1, 1) := by decide +kernel
theorem d_X2_bits_43 : decode b_X2_bits 43 = .ok (.imul, 1) := by decide +kernel
theorem d_X2_bits_44 : decode b_X2_bits 44 = .ok (.iload_n 2, 1) := by decide +kernel
theorem d_X2_bits_45 : decode b_X2_bits 45 = .ok (.iadd, 1) := by decide +kernel
theorem d_X2_bits_46 : decode b_X2_bits 46 = .ok (.iaload, 1) := by decide +kernel
theorem d_X2_bits_47 : decode b_X2_bits 47 = .ok (.iload_n 3, 1) := by decide +kernel
theorem d_X2_bits_48 : decode b_X2_bits 48 = .ok (.ishr, 1) := by decide +kernel
theorem d_X2_bits_49 : decode b_X2_bits 49 = .ok (.ifCond .le 9, 3) := by decide +kernel
theorem d_X2_bits_52 : decode b_X2_bits 52 = .ok (.iinc 3 1, 3) := by decide +kernel
theorem d_X2_bits_55 : decode b_X2_bits 55 = .ok (.goto (-24), 3) := by decide +kernel
theorem d_X2_bits_58 : decode b_X2_bits 58 = .ok (.iload_n 2, 1) := by decide +kernel
theorem d_X2_bits_59 : decode b_X2_bits 59 = .ok (.ifCond .ge 7, 3) := by decide +kernel
theorem d_X2_bits_62 : decode b_X2_bits 62 = .ok (.iconst 0, 1) := by decide +kernel
theorem d_X2_bits_63 : decode b_X2_bits 63 = .ok (.goto 9, 3) := by decide +kernel
theorem d_X2_bits_66 : decode b_X2_bits 66 = .ok (.bipush 16, 2) := by decide +kernel
theorem d_X2_bits_68 : decode b_X2_bits 68 = .ok (.iload_n 2, 1) := by decide +kernel
theorem d_X2_bits_69 : decode b_X2_bits 69 = .ok (.imul, 1) := by decide +kernel
theorem d_X2_bits_70 : decode b_X2_bits 70 = .ok (.iload_n 3, 1) := by decide +kernel
theorem d_X2_bits_71 : decode b_X2_bits 71 = .ok (.iadd, 1) := by decide +kernel
theorem d_X2_bits_72 : decode b_X2_bits 72 = .ok (.ireturn, 1) := by decide +kernel
theorem d_X2_zerosOf_0 : decode b_X2_zerosOf 0 = .ok (.iconst 0, 1) := by decide +kernel
theorem d_X2_zerosOf_1 : decode b_X2_zerosOf 1 = .ok (.istore_n 2, 1) := by decide +kernel
theorem d_X2_zerosOf_2 : decode b_X2_zerosOf 2 = .ok (.aload_n 0, 1) := by decide +kernel
theorem d_X2_zerosOf_3 : decode b_X2_zerosOf 3 = .ok (.iload_n 1, 1) := by decide +kernel
theorem d_X2_zerosOf_4 : decode b_X2_zerosOf 4 = .ok (.iload_n 2, 1) := by decide +kernel
theorem d_X2_zerosOf_5 : decode b_X2_zerosOf 5 = .ok (.invokevirtual 39, 3) := by decide +kernel
theorem d_X2_zerosOf_8 : decode b_X2_zerosOf 8 = .ok (.ifCond .ne 9, 3) := by decide +kernel
theorem d_X2_zerosOf_11 : decode b_X2_zerosOf 11 = .ok (.iinc 2 1, 3) := by decide +kernel
theorem d_X2_zerosOf_14 : decode b_X2_zerosOf 14 = .ok (.goto (-12), 3) := by decide +kernel
theorem d_X2_zerosOf_17 : decode b_X2_zerosOf 17 = .ok (.iload_n 2, 1) := by decide +kernel
theorem d_X2_zerosOf_18 : decode b_X2_zerosOf 18 = .ok (.ireturn, 1) := by decide +kernel
theorem d_X2_bit_0 : decode b_X2_bit 0 = .ok (.aload_n 0, 1) := by decide +kernel
theorem d_X2_bit_1 : decode b_X2_bit 1 = .ok (.getfield 20, 3) := by decide +kernel
theorem d_X2_bit_4 : decode b_X2_bit 4 = .ok (.sipush 1100, 3) := by decide +kernel
theorem d_X2_bit_7 : decode b_X2_bit 7 = .ok (.iload_n 1, 1) := by decide +kernel
theorem d_X2_bit_8 : decode b_X2_bit 8 = .ok (.imul, 1) := by decide +kernel
theorem d_X2_bit_9 : decode b_X2_bit 9 = .ok (.iload_n 2, 1) := by decide +kernel
theorem d_X2_bit_10 : decode b_X2_bit 10 = .ok (.bipush 16, 2) := by decide +kernel
theorem d_X2_bit_12 : decode b_X2_bit 12 = .ok (.idiv, 1) := by decide +kernel
theorem d_X2_bit_13 : decode b_X2_bit 13 = .ok (.iadd, 1) := by decide +kernel
theorem d_X2_bit_14 : decode b_X2_bit 14 = .ok (.iaload, 1) := by decide +kernel
theorem d_X2_bit_15 : decode b_X2_bit 15 = .ok (.iload_n 2, 1) := by decide +kernel
theorem d_X2_bit_16 : decode b_X2_bit 16 = .ok (.bipush 16, 2) := by decide +kernel
theorem d_X2_bit_18 : decode b_X2_bit 18 = .ok (.irem, 1) := by decide +kernel
theorem d_X2_bit_19 : decode b_X2_bit 19 = .ok (.ishr, 1) := by decide +kernel
theorem d_X2_bit_20 : decode b_X2_bit 20 = .ok (.iconst 1, 1) := by decide +kernel
theorem d_X2_bit_21 : decode b_X2_bit 21 = .ok (.iand, 1) := by decide +kernel
theorem d_X2_bit_22 : decode b_X2_bit 22 = .ok (.ireturn, 1) := by decide +kernel
theorem d_X2_width_0 : decode b_X2_width 0 = .ok (.aload_n 0, 1) := by decide +kernel
theorem d_X2_width_1 : decode b_X2_width 1 = .ok (.iload_n 1, 1) := by decide +kernel
theorem d_X2_width_2 : decode b_X2_width 2 = .ok (.invokestatic 62, 3) := by decide +kernel
theorem d_X2_width_5 : decode b_X2_width 5 = .ok (.ifCond .eq 7, 3) := by decide +kernel
theorem d_X2_width_8 : decode b_X2_width 8 = .ok (.iconst 0, 1) := by decide +kernel
theorem d_X2_width_9 : decode b_X2_width 9 = .ok (.goto 4, 3) := by decide +kernel
theorem d_X2_width_12 : decode b_X2_width 12 = .ok (.iconst 1, 1) := by decide +kernel
theorem d_X2_width_13 : decode b_X2_width 13 = .ok (.invokevirtual 65, 3) := by decide +kernel
theorem d_X2_width_16 : decode b_X2_width 16 = .ok (.ifCond .eq 7, 3) := by decide +kernel
theorem d_X2_width_19 : decode b_X2_width 19 = .ok (.iconst 0, 1) := by decide +kernel
theorem d_X2_width_20 : decode b_X2_width 20 = .ok (.goto 9, 3) := by decide +kernel
theorem d_X2_width_23 : decode b_X2_width 23 = .ok (.aload_n 0, 1) := by decide +kernel
theorem d_X2_width_24 : decode b_X2_width 24 = .ok (.getfield 7, 3) := by decide +kernel
theorem d_X2_width_27 : decode b_X2_width 27 = .ok (.iload_n 1, 1) := by decide +kernel
theorem d_X2_width_28 : decode b_X2_width 28 = .ok (.iaload, 1) := by decide +kernel
theorem d_X2_width_29 : decode b_X2_width 29 = .ok (.ireturn, 1) := by decide +kernel
theorem d_X2_set_0 : decode b_X2_set 0 = .ok (.aload_n 0, 1) := by decide +kernel
theorem d_X2_set_1 : decode b_X2_set 1 = .ok (.iload_n 1, 1) := by decide +kernel
theorem d_X2_set_2 : decode b_X2_set 2 = .ok (.invokestatic 62, 3) := by decide +kernel
theorem d_X2_set_5 : decode b_X2_set 5 = .ok (.ifCond .eq 7, 3) := by decide +kernel
theorem d_X2_set_8 : decode b_X2_set 8 = .ok (.iconst 0, 1) := by decide +kernel
theorem d_X2_set_9 : decode b_X2_set 9 = .ok (.goto 4, 3) := by decide +kernel
theorem d_X2_set_12 : decode b_X2_set 12 = .ok (.iconst 1, 1) := by decide +kernel
theorem d_X2_set_13 : decode b_X2_set 13 = .ok (.invokevirtual 65, 3) := by decide +kernel
end
section
theorem d_X2_set_16 : decode b_X2_set 16 = .ok (.ifCond .eq 5, 3) := by decide +kernel
theorem d_X2_set_19 : decode b_X2_set 19 = .ok (.iconst 0, 1) := by decide +kernel
theorem d_X2_set_20 : decode b_X2_set 20 = .ok (.ireturn, 1) := by decide +kernel
theorem d_X2_set_21 : decode b_X2_set 21 = .ok (.aload_n 0, 1) := by decide +kernel
theorem d_X2_set_22 : decode b_X2_set 22 = .ok (.iconst 0, 1) := by decide +kernel
theorem d_X2_set_23 : decode b_X2_set 23 = .ok (.lload_n 2, 1) := by decide +kernel
theorem d_X2_set_24 : decode b_X2_set 24 = .ok (.invokevirtual 72, 3) := by decide +kernel
theorem d_X2_set_27 : decode b_X2_set 27 = .ok (.aload_n 0, 1) := by decide +kernel
theorem d_X2_set_28 : decode b_X2_set 28 = .ok (.iload_n 1, 1) := by decide +kernel
theorem d_X2_set_29 : decode b_X2_set 29 = .ok (.iconst 0, 1) := by decide +kernel
theorem d_X2_set_30 : decode b_X2_set 30 = .ok (.invokevirtual 68, 3) := by decide +kernel
theorem d_X2_set_33 : decode b_X2_set 33 = .ok (.ireturn, 1) := by decide +kernel
theorem d_X2_loadLong_0 : decode b_X2_loadLong 0 = .ok (.aload_n 0, 1) := by decide +kernel
theorem d_X2_loadLong_1 : decode b_X2_loadLong 1 = .ok (.iload_n 1, 1) := by decide +kernel
theorem d_X2_loadLong_2 : decode b_X2_loadLong 2 = .ok (.invokevirtual 27, 3) := by decide +kernel
theorem d_X2_loadLong_5 : decode b_X2_loadLong 5 = .ok (.lload_n 2, 1) := by decide +kernel
theorem d_X2_loadLong_6 : decode b_X2_loadLong 6 = .ok (.lconst 0, 1) := by decide +kernel
theorem d_X2_loadLong_7 : decode b_X2_loadLong 7 = .ok (.lcmp, 1) := by decide +kernel
theorem d_X2_loadLong_8 : decode b_X2_loadLong 8 = .ok (.ifCond .ge 8, 3) := by decide +kernel
theorem d_X2_loadLong_11 : decode b_X2_loadLong 11 = .ok (.lload_n 2, 1) := by decide +kernel
theorem d_X2_loadLong_12 : decode b_X2_loadLong 12 = .ok (.lneg, 1) := by decide +kernel
theorem d_X2_loadLong_13 : decode b_X2_loadLong 13 = .ok (.goto 4, 3) := by decide +kernel
theorem d_X2_loadLong_16 : decode b_X2_loadLong 16 = .ok (.lload_n 2, 1) := by decide +kernel
theorem d_X2_loadLong_17 : decode b_X2_loadLong 17 = .ok (.lstore 4, 2) := by decide +kernel
theorem d_X2_loadLong_19 : decode b_X2_loadLong 19 = .ok (.iconst 0, 1) := by decide +kernel
theorem d_X2_loadLong_20 : decode b_X2_loadLong 20 = .ok (.istore 6, 2) := by decide +kernel
theorem d_X2_loadLong_22 : decode b_X2_loadLong 22 = .ok (.iload 6, 2) := by decide +kernel
theorem d_X2_loadLong_24 : decode b_X2_loadLong 24 = .ok (.iconst 4, 1) := by decide +kernel
theorem d_X2_loadLong_25 : decode b_X2_loadLong 25 = .ok (.if_icmp .ge 35, 3) := by decide +kernel
theorem d_X2_loadLong_28 : decode b_X2_loadLong 28 = .ok (.aload_n 0, 1) := by decide +kernel
theorem d_X2_loadLong_29 : decode b_X2_loadLong 29 = .ok (.getfield 20, 3) := by decide +kernel
theorem d_X2_loadLong_32 : decode b_X2_loadLong 32 = .ok (.sipush 1100, 3) := by decide +kernel
theorem d_X2_loadLong_35 : decode b_X2_loadLong 35 = .ok (.iload_n 1, 1) := by decide +kernel
theorem d_X2_loadLong_36 : decode b_X2_loadLong 36 = .ok (.imul, 1) := by decide +kernel
theorem d_X2_loadLong_37 : decode b_X2_loadLong 37 = .ok (.iload 6, 2) := by decide +kernel
theorem d_X2_loadLong_39 : decode b_X2_loadLong 39 = .ok (.iadd, 1) := by decide +kernel
theorem d_X2_loadLong_40 : decode b_X2_loadLong 40 = .ok (.lload 4, 2) := by decide +kernel
theorem d_X2_loadLong_42 : decode b_X2_loadLong 42 = .ok (.bipush 16, 2) := by decide +kernel
theorem d_X2_loadLong_44 : decode b_X2_loadLong 44 = .ok (.iload 6, 2) := by decide +kernel
theorem d_X2_loadLong_46 : decode b_X2_loadLong 46 = .ok (.imul, 1) := by decide +kernel
theorem d_X2_loadLong_47 : decode b_X2_loadLong 47 = .ok (.lushr, 1) := by decide +kernel
theorem d_X2_loadLong_48 : decode b_X2_loadLong 48 = .ok (.ldc2_w 37, 3) := by decide +kernel
theorem d_X2_loadLong_51 : decode b_X2_loadLong 51 = .ok (.land, 1) := by decide +kernel
theorem d_X2_loadLong_52 : decode b_X2_loadLong 52 = .ok (.l2i, 1) := by decide +kernel
theorem d_X2_loadLong_53 : decode b_X2_loadLong 53 = .ok (.iastore, 1) := by decide +kernel
theorem d_X2_loadLong_54 : decode b_X2_loadLong 54 = .ok (.iinc 6 1, 3) := by decide +kernel
theorem d_X2_loadLong_57 : decode b_X2_loadLong 57 = .ok (.goto (-35), 3) := by decide +kernel
theorem d_X2_loadLong_60 : decode b_X2_loadLong 60 = .ok (.aload_n 0, 1) := by decide +kernel
theorem d_X2_loadLong_61 : decode b_X2_loadLong 61 = .ok (.getfield 17, 3) := by decide +kernel
theorem d_X2_loadLong_64 : decode b_X2_loadLong 64 = .ok (.iload_n 1, 1) := by decide +kernel
theorem d_X2_loadLong_65 : decode b_X2_loadLong 65 = .ok (.lload_n 2, 1) := by decide +kernel
theorem d_X2_loadLong_66 : decode b_X2_loadLong 66 = .ok (.lconst 0, 1) := by decide +kernel
theorem d_X2_loadLong_67 : decode b_X2_loadLong 67 = .ok (.lcmp, 1) := by decide +kernel
theorem d_X2_loadLong_68 : decode b_X2_loadLong 68 = .ok (.ifCond .ge 7, 3) := by decide +kernel
theorem d_X2_loadLong_71 : decode b_X2_loadLong 71 = .ok (.iconst (-1), 1) := by decide +kernel
theorem d_X2_loadLong_72 : decode b_X2_loadLong 72 = .ok (.goto 14, 3) := by decide +kernel
theorem d_X2_loadLong_75 : decode b_X2_loadLong 75 = .ok (.lload_n 2, 1) := by decide +kernel
theorem d_X2_loadLong_76 : decode b_X2_loadLong 76 = .ok (.lconst 0, 1) := by decide +kernel
theorem d_X2_loadLong_77 : decode b_X2_loadLong 77 = .ok (.lcmp, 1) := by decide +kernel
theorem d_X2_loadLong_78 : decode b_X2_loadLong 78 = .ok (.ifCond .le 7, 3) := by decide +kernel
theorem d_X2_loadLong_81 : decode b_X2_loadLong 81 = .ok (.iconst 1, 1) := by decide +kernel
theorem d_X2_loadLong_82 : decode b_X2_loadLong 82 = .ok (.goto 4, 3) := by decide +kernel
theorem d_X2_loadLong_85 : decode b_X2_loadLong 85 = .ok (.iconst 0, 1) := by decide +kernel
theorem d_X2_loadLong_86 : decode b_X2_loadLong 86 = .ok (.iastore, 1) := by decide +kernel
theorem d_X2_loadLong_87 : decode b_X2_loadLong 87 = .ok (.return_, 1) := by decide +kernel
theorem d_X2_put_0 : decode b_X2_put 0 = .ok (.aload_n 0, 1) := by decide +kernel
theorem d_X2_put_1 : decode b_X2_put 1 = .ok (.iload_n 1, 1) := by decide +kernel
theorem d_X2_put_2 : decode b_X2_put 2 = .ok (.invokestatic 62, 3) := by decide +kernel
theorem d_X2_put_5 : decode b_X2_put 5 = .ok (.ifCond .eq 17, 3) := by decide +kernel
theorem d_X2_put_8 : decode b_X2_put 8 = .ok (.iload_n 2, 1) := by decide +kernel
theorem d_X2_put_9 : decode b_X2_put 9 = .ok (.ifCond .lt 13, 3) := by decide +kernel
theorem d_X2_put_12 : decode b_X2_put 12 = .ok (.iload_n 2, 1) := by decide +kernel
theorem d_X2_put_13 : decode b_X2_put 13 = .ok (.aload_n 0, 1) := by decide +kernel
theorem d_X2_put_14 : decode b_X2_put 14 = .ok (.getfield 7, 3) := by decide +kernel
theorem d_X2_put_17 : decode b_X2_put 17 = .ok (.iload_n 1, 1) := by decide +kernel
theorem d_X2_put_18 : decode b_X2_put 18 = .ok (.iaload, 1) := by decide +kernel
theorem d_X2_put_19 : decode b_X2_put 19 = .ok (.if_icmp .lt 7, 3) := by decide +kernel
theorem d_X2_put_22 : decode b_X2_put 22 = .ok (.iconst 1, 1) := by decide +kernel
theorem d_X2_put_23 : decode b_X2_put 23 = .ok (.goto 4, 3) := by decide +kernel
theorem d_X2_put_26 : decode b_X2_put 26 = .ok (.iconst 0, 1) := by decide +kernel
theorem d_X2_put_27 : decode b_X2_put 27 = .ok (.invokevirtual 65, 3) := by decide +kernel
theorem d_X2_put_30 : decode b_X2_put 30 = .ok (.ifCond .eq 5, 3) := by decide +kernel
theorem d_X2_put_33 : decode b_X2_put 33 = .ok (.iconst 0, 1) := by decide +kernel
theorem d_X2_put_34 : decode b_X2_put 34 = .ok (.ireturn, 1) := by decide +kernel
theorem d_X2_put_35 : decode b_X2_put 35 = .ok (.aload_n 0, 1) := by decide +kernel
theorem d_X2_put_36 : decode b_X2_put 36 = .ok (.iload_n 1, 1) := by decide +kernel
theorem d_X2_put_37 : decode b_X2_put 37 = .ok (.iload_n 2, 1) := by decide +kernel
theorem d_X2_put_38 : decode b_X2_put 38 = .ok (.invokevirtual 76, 3) := by decide +kernel
theorem d_X2_put_41 : decode b_X2_put 41 = .ok (.istore 4, 2) := by decide +kernel
theorem d_X2_put_43 : decode b_X2_put 43 = .ok (.aload_n 0, 1) := by decide +kernel
theorem d_X2_put_44 : decode b_X2_put 44 = .ok (.getfield 14, 3) := by decide +kernel
theorem d_X2_put_47 : decode b_X2_put 47 = .ok (.sipush 512, 3) := by decide +kernel
theorem d_X2_put_50 : decode b_X2_put 50 = .ok (.iload_n 1, 1) := by decide +kernel
theorem d_X2_put_51 : decode b_X2_put 51 = .ok (.imul, 1) := by decide +kernel
theorem d_X2_put_52 : decode b_X2_put 52 = .ok (.iconst 2, 1) := by decide +kernel
theorem d_X2_put_53 : decode b_X2_put 53 = .ok (.iload_n 2, 1) := by decide +kernel
theorem d_X2_put_54 : decode b_X2_put 54 = .ok (.imul, 1) := by decide +kernel
theorem d_X2_put_55 : decode b_X2_put 55 = .ok (.iadd, 1) := by decide +kernel
theorem d_X2_put_56 : decode b_X2_put 56 = .ok (.iload_n 3, 1) := by decide +kernel
theorem d_X2_put_57 : decode b_X2_put 57 = .ok (.ldc 31, 2) := by decide +kernel
theorem d_X2_put_59 : decode b_X2_put 59 = .ok (.iand, 1) := by decide +kernel
theorem d_X2_put_60 : decode b_X2_put 60 = .ok (.iastore, 1) := by decide +kernel
theorem d_X2_put_61 : decode b_X2_put 61 = .ok (.aload_n 0, 1) := by decide +kernel
theorem d_X2_put_62 : decode b_X2_put 62 = .ok (.getfield 14, 3) := by decide +kernel
theorem d_X2_put_65 : decode b_X2_put 65 = .ok (.sipush 512, 3) := by decide +kernel
theorem d_X2_put_68 : decode b_X2_put 68 = .ok (.iload_n 1, 1) := by decide +kernel
theorem d_X2_put_69 : decode b_X2_put 69 = .ok (.imul, 1) := by decide +kernel
theorem d_X2_put_70 : decode b_X2_put 70 = .ok (.iconst 2, 1) := by decide +kernel
theorem d_X2_put_71 : decode b_X2_put 71 = .ok (.iload_n 2, 1) := by decide +kernel
theorem d_X2_put_72 : decode b_X2_put 72 = .ok (.imul, 1) := by decide +kernel
theorem d_X2_put_73 : decode b_X2_put 73 = .ok (.iadd, 1) := by decide +kernel
theorem d_X2_put_74 : decode b_X2_put 74 = .ok (.iconst 1, 1) := by decide +kernel
theorem d_X2_put_75 : decode b_X2_put 75 = .ok (.iadd, 1) := by decide +kernel
theorem d_X2_put_76 : decode b_X2_put 76 = .ok (.iload_n 3, 1) := by decide +kernel
theorem d_X2_put_77 : decode b_X2_put 77 = .ok (.bipush 16, 2) := by decide +kernel
theorem d_X2_put_79 : decode b_X2_put 79 = .ok (.ishr, 1) := by decide +kernel
theorem d_X2_put_80 : decode b_X2_put 80 = .ok (.ldc 31, 2) := by decide +kernel
theorem d_X2_put_82 : decode b_X2_put 82 = .ok (.iand, 1) := by decide +kernel
theorem d_X2_put_83 : decode b_X2_put 83 = .ok (.iastore, 1) := by decide +kernel
theorem d_X2_put_84 : decode b_X2_put 84 = .ok (.iload 4, 2) := by decide +kernel
theorem d_X2_put_86 : decode b_X2_put 86 = .ok (.ireturn, 1) := by decide +kernel
theorem d_X2_limbOf_0 : decode b_X2_limbOf 0 = .ok (.aload_n 0, 1) := by decide +kernel
theorem d_X2_limbOf_1 : decode b_X2_limbOf 1 = .ok (.getfield 14, 3) := by decide +kernel
theorem d_X2_limbOf_4 : decode b_X2_limbOf 4 = .ok (.sipush 512, 3) := by decide +kernel
theorem d_X2_limbOf_7 : decode b_X2_limbOf 7 = .ok (.iload_n 1, 1) := by decide +kernel
theorem d_X2_limbOf_8 : decode b_X2_limbOf 8 = .ok (.imul, 1) := by decide +kernel
theorem d_X2_limbOf_9 : decode b_X2_limbOf 9 = .ok (.iconst 2, 1) := by decide +kernel
theorem d_X2_limbOf_10 : decode b_X2_limbOf 10 = .ok (.iload_n 2, 1) := by decide +kernel
theorem d_X2_limbOf_11 : decode b_X2_limbOf 11 = .ok (.imul, 1) := by decide +kernel
theorem d_X2_limbOf_12 : decode b_X2_limbOf 12 = .ok (.iadd, 1) := by decide +kernel
theorem d_X2_limbOf_13 : decode b_X2_limbOf 13 = .ok (.iconst 1, 1) := by decide +kernel
theorem d_X2_limbOf_14 : decode b_X2_limbOf 14 = .ok (.iadd, 1) := by decide +kernel
theorem d_X2_limbOf_15 : decode b_X2_limbOf 15 = .ok (.iaload, 1) := by decide +kernel
theorem d_X2_limbOf_16 : decode b_X2_limbOf 16 = .ok (.bipush 16, 2) := by decide +kernel
theorem d_X2_limbOf_18 : decode b_X2_limbOf 18 = .ok (.ishl, 1) := by decide +kernel
theorem d_X2_limbOf_19 : decode b_X2_limbOf 19 = .ok (.aload_n 0, 1) := by decide +kernel
theorem d_X2_limbOf_20 : decode b_X2_limbOf 20 = .ok (.getfield 14, 3) := by decide +kernel
theorem d_X2_limbOf_23 : decode b_X2_limbOf 23 = .ok (.sipush 512, 3) := by decide +kernel
theorem d_X2_limbOf_26 : decode b_X2_limbOf 26 = .ok (.iload_n 1, 1) := by decide +kernel
theorem d_X2_limbOf_27 : decode b_X2_limbOf 27 = .ok (.imul, 1) := by decide +kernel
theorem d_X2_limbOf_28 : decode b_X2_limbOf 28 = .ok (.iconst 2, 1) := by decide +kernel
theorem d_X2_limbOf_29 : decode b_X2_limbOf 29 = .ok (.iload_n 2, 1) := by decide +kernel
theorem d_X2_limbOf_30 : decode b_X2_limbOf 30 = .ok (.imul, 1) := by decide +kernel
theorem d_X2_limbOf_31 : decode b_X2_limbOf 31 = .ok (.iadd, 1) := by decide +kernel
theorem d_X2_limbOf_32 : decode b_X2_limbOf 32 = .ok (.iaload, 1) := by decide +kernel
theorem d_X2_limbOf_33 : decode b_X2_limbOf 33 = .ok (.ior, 1) := by decide +kernel
theorem d_X2_limbOf_34 : decode b_X2_limbOf 34 = .ok (.ireturn, 1) := by decide +kernel
theorem d_X2_limb_0 : decode b_X2_limb 0 = .ok (.aload_n 0, 1) := by decide +kernel
theorem d_X2_limb_1 : decode b_X2_limb 1 = .ok (.iload_n 1, 1) := by decide +kernel
theorem d_X2_limb_2 : decode b_X2_limb 2 = .ok (.invokestatic 62, 3) := by decide +kernel
theorem d_X2_limb_5 : decode b_X2_limb 5 = .ok (.ifCond .eq 7, 3) := by decide +kernel
theorem d_X2_limb_8 : decode b_X2_limb 8 = .ok (.iload_n 2, 1) := by decide +kernel
theorem d_X2_limb_9 : decode b_X2_limb 9 = .ok (.ifCond .ge 7, 3) := by decide +kernel
theorem d_X2_limb_12 : decode b_X2_limb 12 = .ok (.iconst 1, 1) := by decide +kernel
theorem d_X2_limb_13 : decode b_X2_limb 13 = .ok (.goto 4, 3) := by decide +kernel
theorem d_X2_limb_16 : decode b_X2_limb 16 = .ok (.iconst 0, 1) := by decide +kernel
theorem d_X2_limb_17 : decode b_X2_limb 17 = .ok (.invokevirtual 65, 3) := by decide +kernel
theorem d_X2_limb_20 : decode b_X2_limb 20 = .ok (.ifCond .eq 5, 3) := by decide +kernel
theorem d_X2_limb_23 : decode b_X2_limb 23 = .ok (.iconst 0, 1) := by decide +kernel
theorem d_X2_limb_24 : decode b_X2_limb 24 = .ok (.ireturn, 1) := by decide +kernel
theorem d_X2_limb_25 : decode b_X2_limb 25 = .ok (.iload_n 2, 1) := by decide +kernel
theorem d_X2_limb_26 : decode b_X2_limb 26 = .ok (.aload_n 0, 1) := by decide +kernel
theorem d_X2_limb_27 : decode b_X2_limb 27 = .ok (.getfield 7, 3) := by decide +kernel
theorem d_X2_limb_30 : decode b_X2_limb 30 = .ok (.iload_n 1, 1) := by decide +kernel
theorem d_X2_limb_31 : decode b_X2_limb 31 = .ok (.iaload, 1) := by decide +kernel
theorem d_X2_limb_32 : decode b_X2_limb 32 = .ok (.if_icmp .ge 10, 3) := by decide +kernel
theorem d_X2_limb_35 : decode b_X2_limb 35 = .ok (.aload_n 0, 1) := by decide +kernel
theorem d_X2_limb_36 : decode b_X2_limb 36 = .ok (.iload_n 1, 1) := by decide +kernel
theorem d_X2_limb_37 : decode b_X2_limb 37 = .ok (.iload_n 2, 1) := by decide +kernel
theorem d_X2_limb_38 : decode b_X2_limb 38 = .ok (.invokevirtual 76, 3) := by decide +kernel
theorem d_X2_limb_41 : decode b_X2_limb 41 = .ok (.ireturn, 1) := by decide +kernel
theorem d_X2_limb_42 : decode b_X2_limb 42 = .ok (.aload_n 0, 1) := by decide +kernel
theorem d_X2_limb_43 : decode b_X2_limb 43 = .ok (.iload_n 1, 1) := by decide +kernel
theorem d_X2_limb_44 : decode b_X2_limb 44 = .ok (.invokevirtual 79, 3) := by decide +kernel
theorem d_X2_limb_47 : decode b_X2_limb 47 = .ok (.ifCond .ge 7, 3) := by decide +kernel
theorem d_X2_limb_50 : decode b_X2_limb 50 = .ok (.iconst (-1), 1) := by decide +kernel
theorem d_X2_limb_51 : decode b_X2_limb 51 = .ok (.goto 4, 3) := by decide +kernel
theorem d_X2_limb_54 : decode b_X2_limb 54 = .ok (.iconst 0, 1) := by decide +kernel
theorem d_X2_limb_55 : decode b_X2_limb 55 = .ok (.ireturn, 1) := by decide +kernel
theorem d_X2_signOf_0 : decode b_X2_signOf 0 = .ok (.aload_n 0, 1) := by decide +kernel
theorem d_X2_signOf_1 : decode b_X2_signOf 1 = .ok (.iconst 2, 1) := by decide +kernel
theorem d_X2_signOf_2 : decode b_X2_signOf 2 = .ok (.iload_n 1, 1) := by decide +kernel
theorem d_X2_signOf_3 : decode b_X2_signOf 3 = .ok (.invokevirtual 53, 3) := by decide +kernel
theorem d_X2_signOf_6 : decode b_X2_signOf 6 = .ok (.aload_n 0, 1) := by decide +kernel
theorem d_X2_signOf_7 : decode b_X2_signOf 7 = .ok (.getfield 17, 3) := by decide +kernel
theorem d_X2_signOf_10 : decode b_X2_signOf 10 = .ok (.iconst 2, 1) := by decide +kernel
theorem d_X2_signOf_11 : decode b_X2_signOf 11 = .ok (.iaload, 1) := by decide +kernel
theorem d_X2_signOf_12 : decode b_X2_signOf 12 = .ok (.ireturn, 1) := by decide +kernel
theorem d_X2_copy_0 : decode b_X2_copy 0 = .ok (.aload_n 0, 1) := by decide +kernel
theorem d_X2_copy_1 : decode b_X2_copy 1 = .ok (.iload_n 1, 1) := by decide +kernel
theorem d_X2_copy_2 : decode b_X2_copy 2 = .ok (.invokestatic 62, 3) := by decide +kernel
theorem d_X2_copy_5 : decode b_X2_copy 5 = .ok (.ifCond .eq 14, 3) := by decide +kernel
theorem d_X2_copy_8 : decode b_X2_copy 8 = .ok (.iload_n 2, 1) := by decide +kernel
theorem d_X2_copy_9 : decode b_X2_copy 9 = .ok (.invokestatic 62, 3) := by decide +kernel
theorem d_X2_copy_12 : decode b_X2_copy 12 = .ok (.ifCond .eq 7, 3) := by decide +kernel
theorem d_X2_copy_15 : decode b_X2_copy 15 = .ok (.iconst 0, 1) := by decide +kernel
theorem d_X2_copy_16 : decode b_X2_copy 16 = .ok (.goto 4, 3) := by decide +kernel
theorem d_X2_copy_19 : decode b_X2_copy 19 = .ok (.iconst 1, 1) := by decide +kernel
theorem d_X2_copy_20 : decode b_X2_copy 20 = .ok (.invokevirtual 65, 3) := by decide +kernel
theorem d_X2_copy_23 : decode b_X2_copy 23 = .ok (.ifCond .eq 5, 3) := by decide +kernel
theorem d_X2_copy_26 : decode b_X2_copy 26 = .ok (.iconst 0, 1) := by decide +kernel
theorem d_X2_copy_27 : decode b_X2_copy 27 = .ok (.ireturn, 1) := by decide +kernel
theorem d_X2_copy_28 : decode b_X2_copy 28 = .ok (.aload_n 0, 1) := by decide +kernel
theorem d_X2_copy_29 : decode b_X2_copy 29 = .ok (.iconst 0, 1) := by decide +kernel
theorem d_X2_copy_30 : decode b_X2_copy 30 = .ok (.iload_n 2, 1) := by decide +kernel
theorem d_X2_copy_31 : decode b_X2_copy 31 = .ok (.invokevirtual 53, 3) := by decide +kernel
theorem d_X2_copy_34 : decode b_X2_copy 34 = .ok (.aload_n 0, 1) := by decide +kernel
theorem d_X2_copy_35 : decode b_X2_copy 35 = .ok (.iload_n 1, 1) := by decide +kernel
theorem d_X2_copy_36 : decode b_X2_copy 36 = .ok (.iconst 0, 1) := by decide +kernel
theorem d_X2_copy_37 : decode b_X2_copy 37 = .ok (.invokevirtual 68, 3) := by decide +kernel
theorem d_X2_copy_40 : decode b_X2_copy 40 = .ok (.ireturn, 1) := by decide +kernel
theorem d_X2_add_0 : decode b_X2_add 0 = .ok (.aload_n 0, 1) := by decide +kernel
theorem d_X2_add_1 : decode b_X2_add 1 = .ok (.iload_n 1, 1) := by decide +kernel
theorem d_X2_add_2 : decode b_X2_add 2 = .ok (.iload_n 2, 1) := by decide +kernel
theorem d_X2_add_3 : decode b_X2_add 3 = .ok (.iconst 0, 1) := by decide +kernel
theorem d_X2_add_4 : decode b_X2_add 4 = .ok (.invokevirtual 89, 3) := by decide +kernel
theorem d_X2_add_7 : decode b_X2_add 7 = .ok (.ireturn, 1) := by decide +kernel
theorem d_X2_together_0 : decode b_X2_together 0 = .ok (.aload_n 0, 1) := by decide +kernel
theorem d_X2_together_1 : decode b_X2_together 1 = .ok (.iload_n 1, 1) := by decide +kernel
theorem d_X2_together_2 : decode b_X2_together 2 = .ok (.invokestatic 62, 3) := by decide +kernel
theorem d_X2_together_5 : decode b_X2_together 5 = .ok (.ifCond .eq 14, 3) := by decide +kernel
theorem d_X2_together_8 : decode b_X2_together 8 = .ok (.iload_n 2, 1) := by decide +kernel
theorem d_X2_together_9 : decode b_X2_together 9 = .ok (.invokestatic 62, 3) := by decide +kernel
theorem d_X2_together_12 : decode b_X2_together 12 = .ok (.ifCond .eq 7, 3) := by decide +kernel
theorem d_X2_together_15 : decode b_X2_together 15 = .ok (.iconst 0, 1) := by decide +kernel
theorem d_X2_together_16 : decode b_X2_together 16 = .ok (.goto 4, 3) := by decide +kernel
theorem d_X2_together_19 : decode b_X2_together 19 = .ok (.iconst 1, 1) := by decide +kernel
theorem d_X2_together_20 : decode b_X2_together 20 = .ok (.invokevirtual 65, 3) := by decide +kernel
theorem d_X2_together_23 : decode b_X2_together 23 = .ok (.ifCond .eq 5, 3) := by decide +kernel
theorem d_X2_together_26 : decode b_X2_together 26 = .ok (.iconst 0, 1) := by decide +kernel
theorem d_X2_together_27 : decode b_X2_together 27 = .ok (.ireturn, 1) := by decide +kernel
theorem d_X2_together_28 : decode b_X2_together 28 = .ok (.aload_n 0, 1) := by decide +kernel
theorem d_X2_together_29 : decode b_X2_together 29 = .ok (.iconst 0, 1) := by decide +kernel
theorem d_X2_together_30 : decode b_X2_together 30 = .ok (.iload_n 1, 1) := by decide +kernel
theorem d_X2_together_31 : decode b_X2_together 31 = .ok (.invokevirtual 53, 3) := by decide +kernel
theorem d_X2_together_34 : decode b_X2_together 34 = .ok (.aload_n 0, 1) := by decide +kernel
theorem d_X2_together_35 : decode b_X2_together 35 = .ok (.iconst 1, 1) := by decide +kernel
theorem d_X2_together_36 : decode b_X2_together 36 = .ok (.iload_n 2, 1) := by decide +kernel
theorem d_X2_together_37 : decode b_X2_together 37 = .ok (.invokevirtual 53, 3) := by decide +kernel
theorem d_X2_together_40 : decode b_X2_together 40 = .ok (.aload_n 0, 1) := by decide +kernel
theorem d_X2_together_41 : decode b_X2_together 41 = .ok (.iconst 0, 1) := by decide +kernel
theorem d_X2_together_42 : decode b_X2_together 42 = .ok (.iconst 1, 1) := by decide +kernel
theorem d_X2_together_43 : decode b_X2_together 43 = .ok (.iload_n 3, 1) := by decide +kernel
theorem d_X2_together_44 : decode b_X2_together 44 = .ok (.invokevirtual 82, 3) := by decide +kernel
theorem d_X2_together_47 : decode b_X2_together 47 = .ok (.aload_n 0, 1) := by decide +kernel
theorem d_X2_together_48 : decode b_X2_together 48 = .ok (.iload_n 1, 1) := by decide +kernel
theorem d_X2_together_49 : decode b_X2_together 49 = .ok (.iconst 0, 1) := by decide +kernel
theorem d_X2_together_50 : decode b_X2_together 50 = .ok (.invokevirtual 86, 3) := by decide +kernel
theorem d_X2_together_53 : decode b_X2_together 53 = .ok (.ireturn, 1) := by decide +kernel
theorem d_X2_combine_0 : decode b_X2_combine 0 = .ok (.iload_n 3, 1) := by decide +kernel
theorem d_X2_combine_1 : decode b_X2_combine 1 = .ok (.ifCond .eq 13, 3) := by decide +kernel
theorem d_X2_combine_4 : decode b_X2_combine 4 = .ok (.aload_n 0, 1) := by decide +kernel
theorem d_X2_combine_5 : decode b_X2_combine 5 = .ok (.getfield 17, 3) := by decide +kernel
theorem d_X2_combine_8 : decode b_X2_combine 8 = .ok (.iload_n 2, 1) := by decide +kernel
theorem d_X2_combine_9 : decode b_X2_combine 9 = .ok (.iaload, 1) := by decide +kernel
theorem d_X2_combine_10 : decode b_X2_combine 10 = .ok (.ineg, 1) := by decide +kernel
theorem d_X2_combine_11 : decode b_X2_combine 11 = .ok (.goto 9, 3) := by decide +kernel
theorem d_X2_combine_14 : decode b_X2_combine 14 = .ok (.aload_n 0, 1) := by decide +kernel
theorem d_X2_combine_15 : decode b_X2_combine 15 = .ok (.getfield 17, 3) := by decide +kernel
theorem d_X2_combine_18 : decode b_X2_combine 18 = .ok (.iload_n 2, 1) := by decide +kernel
theorem d_X2_combine_19 : decode b_X2_combine 19 = .ok (.iaload, 1) := by decide +kernel
theorem d_X2_combine_20 : decode b_X2_combine 20 = .ok (.istore 4, 2) := by decide +kernel
theorem d_X2_combine_22 : decode b_X2_combine 22 = .ok (.aload_n 0, 1) := by decide +kernel
theorem d_X2_combine_23 : decode b_X2_combine 23 = .ok (.getfield 17, 3) := by decide +kernel
theorem d_X2_combine_26 : decode b_X2_combine 26 = .ok (.iload_n 1, 1) := by decide +kernel
theorem d_X2_combine_27 : decode b_X2_combine 27 = .ok (.iaload, 1) := by decide +kernel
theorem d_X2_combine_28 : decode b_X2_combine 28 = .ok (.ifCond .eq 19, 3) := by decide +kernel
theorem d_X2_combine_31 : decode b_X2_combine 31 = .ok (.iload 4, 2) := by decide +kernel
theorem d_X2_combine_33 : decode b_X2_combine 33 = .ok (.ifCond .eq 14, 3) := by decide +kernel
theorem d_X2_combine_36 : decode b_X2_combine 36 = .ok (.aload_n 0, 1) := by decide +kernel
theorem d_X2_combine_37 : decode b_X2_combine 37 = .ok (.getfield 17, 3) := by decide +kernel
theorem d_X2_combine_40 : decode b_X2_combine 40 = .ok (.iload_n 1, 1) := by decide +kernel
theorem d_X2_combine_41 : decode b_X2_combine 41 = .ok (.iaload, 1) := by decide +kernel
theorem d_X2_combine_42 : decode b_X2_combine 42 = .ok (.iload 4, 2) := by decide +kernel
theorem d_X2_combine_44 : decode b_X2_combine 44 = .ok (.if_icmp .ne 107, 3) := by decide +kernel
theorem d_X2_combine_47 : decode b_X2_combine 47 = .ok (.iconst 0, 1) := by decide +kernel
theorem d_X2_combine_48 : decode b_X2_combine 48 = .ok (.istore 5, 2) := by decide +kernel
theorem d_X2_combine_50 : decode b_X2_combine 50 = .ok (.iconst 0, 1) := by decide +kernel
theorem d_X2_combine_51 : decode b_X2_combine 51 = .ok (.istore 6, 2) := by decide +kernel
theorem d_X2_combine_53 : decode b_X2_combine 53 = .ok (.iload 6, 2) := by decide +kernel
theorem d_X2_combine_55 : decode b_X2_combine 55 = .ok (.sipush 1100, 3) := by decide +kernel
theorem d_X2_combine_58 : decode b_X2_combine 58 = .ok (.if_icmp .ge 66, 3) := by decide +kernel
theorem d_X2_combine_61 : decode b_X2_combine 61 = .ok (.aload_n 0, 1) := by decide +kernel
theorem d_X2_combine_62 : decode b_X2_combine 62 = .ok (.getfield 20, 3) := by decide +kernel
theorem d_X2_combine_65 : decode b_X2_combine 65 = .ok (.sipush 1100, 3) := by decide +kernel
theorem d_X2_combine_68 : decode b_X2_combine 68 = .ok (.iload_n 1, 1) := by decide +kernel
theorem d_X2_combine_69 : decode b_X2_combine 69 = .ok (.imul, 1) := by decide +kernel
theorem d_X2_combine_70 : decode b_X2_combine 70 = .ok (.iload 6, 2) := by decide +kernel
theorem d_X2_combine_72 : decode b_X2_combine 72 = .ok (.iadd, 1) := by decide +kernel
theorem d_X2_combine_73 : decode b_X2_combine 73 = .ok (.iaload, 1) := by decide +kernel
theorem d_X2_combine_74 : decode b_X2_combine 74 = .ok (.aload_n 0, 1) := by decide +kernel
theorem d_X2_combine_75 : decode b_X2_combine 75 = .ok (.getfield 20, 3) := by decide +kernel
theorem d_X2_combine_78 : decode b_X2_combine 78 = .ok (.sipush 1100, 3) := by decide +kernel
theorem d_X2_combine_81 : decode b_X2_combine 81 = .ok (.iload_n 2, 1) := by decide +kernel
theorem d_X2_combine_82 : decode b_X2_combine 82 = .ok (.imul, 1) := by decide +kernel
theorem d_X2_combine_83 : decode b_X2_combine 83 = .ok (.iload 6, 2) := by decide +kernel
theorem d_X2_combine_85 : decode b_X2_combine 85 = .ok (.iadd, 1) := by decide +kernel
theorem d_X2_combine_86 : decode b_X2_combine 86 = .ok (.iaload, 1) := by decide +kernel
theorem d_X2_combine_87 : decode b_X2_combine 87 = .ok (.iadd, 1) := by decide +kernel
theorem d_X2_combine_88 : decode b_X2_combine 88 = .ok (.iload 5, 2) := by decide +kernel
theorem d_X2_combine_90 : decode b_X2_combine 90 = .ok (.iadd, 1) := by decide +kernel
theorem d_X2_combine_91 : decode b_X2_combine 91 = .ok (.istore 7, 2) := by decide +kernel
theorem d_X2_combine_93 : decode b_X2_combine 93 = .ok (.aload_n 0, 1) := by decide +kernel
theorem d_X2_combine_94 : decode b_X2_combine 94 = .ok (.getfield 20, 3) := by decide +kernel
theorem d_X2_combine_97 : decode b_X2_combine 97 = .ok (.sipush 1100, 3) := by decide +kernel
theorem d_X2_combine_100 : decode b_X2_combine 100 = .ok (.iload_n 1, 1) := by decide +kernel
theorem d_X2_combine_101 : decode b_X2_combine 101 = .ok (.imul, 1) := by decide +kernel
theorem d_X2_combine_102 : decode b_X2_combine 102 = .ok (.iload 6, 2) := by decide +kernel
theorem d_X2_combine_104 : decode b_X2_combine 104 = .ok (.iadd, 1) := by decide +kernel
theorem d_X2_combine_105 : decode b_X2_combine 105 = .ok (.iload 7, 2) := by decide +kernel
theorem d_X2_combine_107 : decode b_X2_combine 107 = .ok (.ldc 32, 2) := by decide +kernel
theorem d_X2_combine_109 : decode b_X2_combine 109 = .ok (.irem, 1) := by decide +kernel
theorem d_X2_combine_110 : decode b_X2_combine 110 = .ok (.iastore, 1) := by decide +kernel
theorem d_X2_combine_111 : decode b_X2_combine 111 = .ok (.iload 7, 2) := by decide +kernel
theorem d_X2_combine_113 : decode b_X2_combine 113 = .ok (.ldc 32, 2) := by decide +kernel
theorem d_X2_combine_115 : decode b_X2_combine 115 = .ok (.idiv, 1) := by decide +kernel
theorem d_X2_combine_116 : decode b_X2_combine 116 = .ok (.istore 5, 2) := by decide +kernel
theorem d_X2_combine_118 : decode b_X2_combine 118 = .ok (.iinc 6 1, 3) := by decide +kernel
theorem d_X2_combine_121 : decode b_X2_combine 121 = .ok (.goto (-68), 3) := by decide +kernel
theorem d_X2_combine_124 : decode b_X2_combine 124 = .ok (.aload_n 0, 1) := by decide +kernel
theorem d_X2_combine_125 : decode b_X2_combine 125 = .ok (.getfield 17, 3) := by decide +kernel
theorem d_X2_combine_128 : decode b_X2_combine 128 = .ok (.iload_n 1, 1) := by decide +kernel
theorem d_X2_combine_129 : decode b_X2_combine 129 = .ok (.aload_n 0, 1) := by decide +kernel
theorem d_X2_combine_130 : decode b_X2_combine 130 = .ok (.getfield 17, 3) := by decide +kernel
theorem d_X2_combine_133 : decode b_X2_combine 133 = .ok (.iload_n 1, 1) := by decide +kernel
theorem d_X2_combine_134 : decode b_X2_combine 134 = .ok (.iaload, 1) := by decide +kernel
theorem d_X2_combine_135 : decode b_X2_combine 135 = .ok (.ifCond .ne 8, 3) := by decide +kernel
theorem d_X2_combine_138 : decode b_X2_combine 138 = .ok (.iload 4, 2) := by decide +kernel
theorem d_X2_combine_140 : decode b_X2_combine 140 = .ok (.goto 9, 3) := by decide +kernel
theorem d_X2_combine_143 : decode b_X2_combine 143 = .ok (.aload_n 0, 1) := by decide +kernel
theorem d_X2_combine_144 : decode b_X2_combine 144 = .ok (.getfield 17, 3) := by decide +kernel
theorem d_X2_combine_147 : decode b_X2_combine 147 = .ok (.iload_n 1, 1) := by decide +kernel
theorem d_X2_combine_148 : decode b_X2_combine 148 = .ok (.iaload, 1) := by decide +kernel
theorem d_X2_combine_149 : decode b_X2_combine 149 = .ok (.iastore, 1) := by decide +kernel
theorem d_X2_combine_150 : decode b_X2_combine 150 = .ok (.return_, 1) := by decide +kernel
theorem d_X2_combine_151 : decode b_X2_combine 151 = .ok (.aload_n 0, 1) := by decide +kernel
theorem d_X2_combine_152 : decode b_X2_combine 152 = .ok (.iload_n 1, 1) := by decide +kernel
theorem d_X2_combine_153 : decode b_X2_combine 153 = .ok (.iload_n 2, 1) := by decide +kernel
theorem d_X2_combine_154 : decode b_X2_combine 154 = .ok (.invokevirtual 57, 3) := by decide +kernel
theorem d_X2_combine_157 : decode b_X2_combine 157 = .ok (.istore 5, 2) := by decide +kernel
theorem d_X2_combine_159 : decode b_X2_combine 159 = .ok (.iconst 0, 1) := by decide +kernel
theorem d_X2_combine_160 : decode b_X2_combine 160 = .ok (.istore 6, 2) := by decide +kernel
theorem d_X2_combine_162 : decode b_X2_combine 162 = .ok (.iconst 0, 1) := by decide +kernel
theorem d_X2_combine_163 : decode b_X2_combine 163 = .ok (.istore 7, 2) := by decide +kernel
theorem d_X2_combine_165 : decode b_X2_combine 165 = .ok (.iload 7, 2) := by decide +kernel
theorem d_X2_combine_167 : decode b_X2_combine 167 = .ok (.sipush 1100, 3) := by decide +kernel
theorem d_X2_combine_170 : decode b_X2_combine 170 = .ok (.if_icmp .ge 102, 3) := by decide +kernel
theorem d_X2_combine_173 : decode b_X2_combine 173 = .ok (.aload_n 0, 1) := by decide +kernel
theorem d_X2_combine_174 : decode b_X2_combine 174 = .ok (.getfield 20, 3) := by decide +kernel
theorem d_X2_combine_177 : decode b_X2_combine 177 = .ok (.sipush 1100, 3) := by decide +kernel
theorem d_X2_combine_180 : decode b_X2_combine 180 = .ok (.iload_n 1, 1) := by decide +kernel
theorem d_X2_combine_181 : decode b_X2_combine 181 = .ok (.imul, 1) := by decide +kernel
theorem d_X2_combine_182 : decode b_X2_combine 182 = .ok (.iload 7, 2) := by decide +kernel
theorem d_X2_combine_184 : decode b_X2_combine 184 = .ok (.iadd, 1) := by decide +kernel
theorem d_X2_combine_185 : decode b_X2_combine 185 = .ok (.iaload, 1) := by decide +kernel
theorem d_X2_combine_186 : decode b_X2_combine 186 = .ok (.istore 8, 2) := by decide +kernel
theorem d_X2_combine_188 : decode b_X2_combine 188 = .ok (.aload_n 0, 1) := by decide +kernel
theorem d_X2_combine_189 : decode b_X2_combine 189 = .ok (.getfield 20, 3) := by decide +kernel
theorem d_X2_combine_192 : decode b_X2_combine 192 = .ok (.sipush 1100, 3) := by decide +kernel
theorem d_X2_combine_195 : decode b_X2_combine 195 = .ok (.iload_n 2, 1) := by decide +kernel
theorem d_X2_combine_196 : decode b_X2_combine 196 = .ok (.imul, 1) := by decide +kernel
theorem d_X2_combine_197 : decode b_X2_combine 197 = .ok (.iload 7, 2) := by decide +kernel
theorem d_X2_combine_199 : decode b_X2_combine 199 = .ok (.iadd, 1) := by decide +kernel
theorem d_X2_combine_200 : decode b_X2_combine 200 = .ok (.iaload, 1) := by decide +kernel
theorem d_X2_combine_201 : decode b_X2_combine 201 = .ok (.istore 9, 2) := by decide +kernel
theorem d_X2_combine_203 : decode b_X2_combine 203 = .ok (.iload 5, 2) := by decide +kernel
theorem d_X2_combine_205 : decode b_X2_combine 205 = .ok (.ifCond .ge 11, 3) := by decide +kernel
theorem d_X2_combine_208 : decode b_X2_combine 208 = .ok (.iload 9, 2) := by decide +kernel
theorem d_X2_combine_210 : decode b_X2_combine 210 = .ok (.iload 8, 2) := by decide +kernel
theorem d_X2_combine_212 : decode b_X2_combine 212 = .ok (.isub, 1) := by decide +kernel
theorem d_X2_combine_213 : decode b_X2_combine 213 = .ok (.goto 8, 3) := by decide +kernel
theorem d_X2_combine_216 : decode b_X2_combine 216 = .ok (.iload 8, 2) := by decide +kernel
theorem d_X2_combine_218 : decode b_X2_combine 218 = .ok (.iload 9, 2) := by decide +kernel
theorem d_X2_combine_220 : decode b_X2_combine 220 = .ok (.isub, 1) := by decide +kernel
theorem d_X2_combine_221 : decode b_X2_combine 221 = .ok (.iload 6, 2) := by decide +kernel
theorem d_X2_combine_223 : decode b_X2_combine 223 = .ok (.isub, 1) := by decide +kernel
theorem d_X2_combine_224 : decode b_X2_combine 224 = .ok (.istore 10, 2) := by decide +kernel
theorem d_X2_combine_226 : decode b_X2_combine 226 = .ok (.iload 10, 2) := by decide +kernel
theorem d_X2_combine_228 : decode b_X2_combine 228 = .ok (.ifCond .ge 7, 3) := by decide +kernel
theorem d_X2_combine_231 : decode b_X2_combine 231 = .ok (.iconst 1, 1) := by decide +kernel
theorem d_X2_combine_232 : decode b_X2_combine 232 = .ok (.goto 4, 3) := by decide +kernel
theorem d_X2_combine_235 : decode b_X2_combine 235 = .ok (.iconst 0, 1) := by decide +kernel
theorem d_X2_combine_236 : decode b_X2_combine 236 = .ok (.istore 6, 2) := by decide +kernel
theorem d_X2_combine_238 : decode b_X2_combine 238 = .ok (.aload_n 0, 1) := by decide +kernel
theorem d_X2_combine_239 : decode b_X2_combine 239 = .ok (.getfield 20, 3) := by decide +kernel
theorem d_X2_combine_242 : decode b_X2_combine 242 = .ok (.sipush 1100, 3) := by decide +kernel
theorem d_X2_combine_245 : decode b_X2_combine 245 = .ok (.iload_n 1, 1) := by decide +kernel
theorem d_X2_combine_246 : decode b_X2_combine 246 = .ok (.imul, 1) := by decide +kernel
theorem d_X2_combine_247 : decode b_X2_combine 247 = .ok (.iload 7, 2) := by decide +kernel
theorem d_X2_combine_249 : decode b_X2_combine 249 = .ok (.iadd, 1) := by decide +kernel
theorem d_X2_combine_250 : decode b_X2_combine 250 = .ok (.iload 10, 2) := by decide +kernel
theorem d_X2_combine_252 : decode b_X2_combine 252 = .ok (.ifCond .ge 11, 3) := by decide +kernel
theorem d_X2_combine_255 : decode b_X2_combine 255 = .ok (.iload 10, 2) := by decide +kernel
theorem d_X2_combine_257 : decode b_X2_combine 257 = .ok (.ldc 32, 2) := by decide +kernel
theorem d_X2_combine_259 : decode b_X2_combine 259 = .ok (.iadd, 1) := by decide +kernel
theorem d_X2_combine_260 : decode b_X2_combine 260 = .ok (.goto 5, 3) := by decide +kernel
theorem d_X2_combine_263 : decode b_X2_combine 263 = .ok (.iload 10, 2) := by decide +kernel
theorem d_X2_combine_265 : decode b_X2_combine 265 = .ok (.iastore, 1) := by decide +kernel
theorem d_X2_combine_266 : decode b_X2_combine 266 = .ok (.iinc 7 1, 3) := by decide +kernel
theorem d_X2_combine_269 : decode b_X2_combine 269 = .ok (.goto (-104), 3) := by decide +kernel
theorem d_X2_combine_272 : decode b_X2_combine 272 = .ok (.aload_n 0, 1) := by decide +kernel
theorem d_X2_combine_273 : decode b_X2_combine 273 = .ok (.getfield 17, 3) := by decide +kernel
theorem d_X2_combine_276 : decode b_X2_combine 276 = .ok (.iload_n 1, 1) := by decide +kernel
theorem d_X2_combine_277 : decode b_X2_combine 277 = .ok (.iload 5, 2) := by decide +kernel
theorem d_X2_combine_279 : decode b_X2_combine 279 = .ok (.ifCond .ne 7, 3) := by decide +kernel
theorem d_X2_combine_282 : decode b_X2_combine 282 = .ok (.iconst 0, 1) := by decide +kernel
theorem d_X2_combine_283 : decode b_X2_combine 283 = .ok (.goto 19, 3) := by decide +kernel
theorem d_X2_combine_286 : decode b_X2_combine 286 = .ok (.iload 5, 2) := by decide +kernel
theorem d_X2_combine_288 : decode b_X2_combine 288 = .ok (.ifCond .ge 8, 3) := by decide +kernel
theorem d_X2_combine_291 : decode b_X2_combine 291 = .ok (.iload 4, 2) := by decide +kernel
theorem d_X2_combine_293 : decode b_X2_combine 293 = .ok (.goto 9, 3) := by decide +kernel
theorem d_X2_combine_296 : decode b_X2_combine 296 = .ok (.aload_n 0, 1) := by decide +kernel
theorem d_X2_combine_297 : decode b_X2_combine 297 = .ok (.getfield 17, 3) := by decide +kernel
theorem d_X2_combine_300 : decode b_X2_combine 300 = .ok (.iload_n 1, 1) := by decide +kernel
theorem d_X2_combine_301 : decode b_X2_combine 301 = .ok (.iaload, 1) := by decide +kernel
theorem d_X2_combine_302 : decode b_X2_combine 302 = .ok (.iastore, 1) := by decide +kernel
theorem d_X2_combine_303 : decode b_X2_combine 303 = .ok (.return_, 1) := by decide +kernel
theorem d_X2_compareSizes_0 : decode b_X2_compareSizes 0 = .ok (.sipush 1099, 3) := by decide +kernel
theorem d_X2_compareSizes_3 : decode b_X2_compareSizes 3 = .ok (.istore_n 3, 1) := by decide +kernel
theorem d_X2_compareSizes_4 : decode b_X2_compareSizes 4 = .ok (.iload_n 3, 1) := by decide +kernel
end
section
theorem d_X2_compareSizes_5 : decode b_X2_compareSizes 5 = .ok (.ifCond .le 36, 3) := by decide +kernel
theorem d_X2_compareSizes_8 : decode b_X2_compareSizes 8 = .ok (.aload_n 0, 1) := by decide +kernel
theorem d_X2_compareSizes_9 : decode b_X2_compareSizes 9 = .ok (.getfield 20, 3) := by decide +kernel
theorem d_X2_compareSizes_12 : decode b_X2_compareSizes 12 = .ok (.sipush 1100, 3) := by decide +kernel
theorem d_X2_compareSizes_15 : decode b_X2_compareSizes 15 = .ok (.iload_n 1, 1) := by decide +kernel
theorem d_X2_compareSizes_16 : decode b_X2_compareSizes 16 = .ok (.imul, 1) := by decide +kernel
theorem d_X2_compareSizes_17 : decode b_X2_compareSizes 17 = .ok (.iload_n 3, 1) := by decide +kernel
theorem d_X2_compareSizes_18 : decode b_X2_compareSizes 18 = .ok (.iadd, 1) := by decide +kernel
theorem d_X2_compareSizes_19 : decode b_X2_compareSizes 19 = .ok (.iaload, 1) := by decide +kernel
theorem d_X2_compareSizes_20 : decode b_X2_compareSizes 20 = .ok (.aload_n 0, 1) := by decide +kernel
theorem d_X2_compareSizes_21 : decode b_X2_compareSizes 21 = .ok (.getfield 20, 3) := by decide +kernel
theorem d_X2_compareSizes_24 : decode b_X2_compareSizes 24 = .ok (.sipush 1100, 3) := by decide +kernel
theorem d_X2_compareSizes_27 : decode b_X2_compareSizes 27 = .ok (.iload_n 2, 1) := by decide +kernel
theorem d_X2_compareSizes_28 : decode b_X2_compareSizes 28 = .ok (.imul, 1) := by decide +kernel
theorem d_X2_compareSizes_29 : decode b_X2_compareSizes 29 = .ok (.iload_n 3, 1) := by decide +kernel
theorem d_X2_compareSizes_30 : decode b_X2_compareSizes 30 = .ok (.iadd, 1) := by decide +kernel
theorem d_X2_compareSizes_31 : decode b_X2_compareSizes 31 = .ok (.iaload, 1) := by decide +kernel
theorem d_X2_compareSizes_32 : decode b_X2_compareSizes 32 = .ok (.if_icmp .ne 9, 3) := by decide +kernel
theorem d_X2_compareSizes_35 : decode b_X2_compareSizes 35 = .ok (.iinc 3 (-1), 3) := by decide +kernel
theorem d_X2_compareSizes_38 : decode b_X2_compareSizes 38 = .ok (.goto (-34), 3) := by decide +kernel
theorem d_X2_compareSizes_41 : decode b_X2_compareSizes 41 = .ok (.aload_n 0, 1) := by decide +kernel
theorem d_X2_compareSizes_42 : decode b_X2_compareSizes 42 = .ok (.getfield 20, 3) := by decide +kernel
theorem d_X2_compareSizes_45 : decode b_X2_compareSizes 45 = .ok (.sipush 1100, 3) := by decide +kernel
theorem d_X2_compareSizes_48 : decode b_X2_compareSizes 48 = .ok (.iload_n 1, 1) := by decide +kernel
theorem d_X2_compareSizes_49 : decode b_X2_compareSizes 49 = .ok (.imul, 1) := by decide +kernel
theorem d_X2_compareSizes_50 : decode b_X2_compareSizes 50 = .ok (.iload_n 3, 1) := by decide +kernel
theorem d_X2_compareSizes_51 : decode b_X2_compareSizes 51 = .ok (.iadd, 1) := by decide +kernel
theorem d_X2_compareSizes_52 : decode b_X2_compareSizes 52 = .ok (.iaload, 1) := by decide +kernel
theorem d_X2_compareSizes_53 : decode b_X2_compareSizes 53 = .ok (.aload_n 0, 1) := by decide +kernel
theorem d_X2_compareSizes_54 : decode b_X2_compareSizes 54 = .ok (.getfield 20, 3) := by decide +kernel
theorem d_X2_compareSizes_57 : decode b_X2_compareSizes 57 = .ok (.sipush 1100, 3) := by decide +kernel
theorem d_X2_compareSizes_60 : decode b_X2_compareSizes 60 = .ok (.iload_n 2, 1) := by decide +kernel
theorem d_X2_compareSizes_61 : decode b_X2_compareSizes 61 = .ok (.imul, 1) := by decide +kernel
theorem d_X2_compareSizes_62 : decode b_X2_compareSizes 62 = .ok (.iload_n 3, 1) := by decide +kernel
theorem d_X2_compareSizes_63 : decode b_X2_compareSizes 63 = .ok (.iadd, 1) := by decide +kernel
theorem d_X2_compareSizes_64 : decode b_X2_compareSizes 64 = .ok (.iaload, 1) := by decide +kernel
theorem d_X2_compareSizes_65 : decode b_X2_compareSizes 65 = .ok (.isub, 1) := by decide +kernel
theorem d_X2_compareSizes_66 : decode b_X2_compareSizes 66 = .ok (.istore 4, 2) := by decide +kernel
theorem d_X2_compareSizes_68 : decode b_X2_compareSizes 68 = .ok (.iload 4, 2) := by decide +kernel
theorem d_X2_compareSizes_70 : decode b_X2_compareSizes 70 = .ok (.ifCond .ge 7, 3) := by decide +kernel
theorem d_X2_compareSizes_73 : decode b_X2_compareSizes 73 = .ok (.iconst (-1), 1) := by decide +kernel
theorem d_X2_compareSizes_74 : decode b_X2_compareSizes 74 = .ok (.goto 13, 3) := by decide +kernel
theorem d_X2_compareSizes_77 : decode b_X2_compareSizes 77 = .ok (.iload 4, 2) := by decide +kernel
theorem d_X2_compareSizes_79 : decode b_X2_compareSizes 79 = .ok (.ifCond .le 7, 3) := by decide +kernel
theorem d_X2_compareSizes_82 : decode b_X2_compareSizes 82 = .ok (.iconst 1, 1) := by decide +kernel
theorem d_X2_compareSizes_83 : decode b_X2_compareSizes 83 = .ok (.goto 4, 3) := by decide +kernel
theorem d_X2_compareSizes_86 : decode b_X2_compareSizes 86 = .ok (.iconst 0, 1) := by decide +kernel
theorem d_X2_compareSizes_87 : decode b_X2_compareSizes 87 = .ok (.ireturn, 1) := by decide +kernel
theorem d_X2_kept_0 : decode b_X2_kept 0 = .ok (.aload_n 0, 1) := by decide +kernel
theorem d_X2_kept_1 : decode b_X2_kept 1 = .ok (.iload_n 1, 1) := by decide +kernel
theorem d_X2_kept_2 : decode b_X2_kept 2 = .ok (.iload_n 2, 1) := by decide +kernel
theorem d_X2_kept_3 : decode b_X2_kept 3 = .ok (.invokevirtual 68, 3) := by decide +kernel
theorem d_X2_kept_6 : decode b_X2_kept 6 = .ok (.pop, 1) := by decide +kernel
theorem d_X2_kept_7 : decode b_X2_kept 7 = .ok (.aload_n 0, 1) := by decide +kernel
theorem d_X2_kept_8 : decode b_X2_kept 8 = .ok (.iload_n 1, 1) := by decide +kernel
theorem d_X2_kept_9 : decode b_X2_kept 9 = .ok (.invokevirtual 79, 3) := by decide +kernel
theorem d_X2_kept_12 : decode b_X2_kept 12 = .ok (.ireturn, 1) := by decide +kernel
theorem d_X2_subtract_0 : decode b_X2_subtract 0 = .ok (.aload_n 0, 1) := by decide +kernel
theorem d_X2_subtract_1 : decode b_X2_subtract 1 = .ok (.iload_n 1, 1) := by decide +kernel
theorem d_X2_subtract_2 : decode b_X2_subtract 2 = .ok (.iload_n 2, 1) := by decide +kernel
theorem d_X2_subtract_3 : decode b_X2_subtract 3 = .ok (.iconst 1, 1) := by decide +kernel
theorem d_X2_subtract_4 : decode b_X2_subtract 4 = .ok (.invokevirtual 89, 3) := by decide +kernel
theorem d_X2_subtract_7 : decode b_X2_subtract 7 = .ok (.ireturn, 1) := by decide +kernel
theorem d_X2_addProduct_0 : decode b_X2_addProduct 0 = .ok (.aload_n 0, 1) := by decide +kernel
theorem d_X2_addProduct_1 : decode b_X2_addProduct 1 = .ok (.iload_n 1, 1) := by decide +kernel
theorem d_X2_addProduct_2 : decode b_X2_addProduct 2 = .ok (.iload_n 2, 1) := by decide +kernel
theorem d_X2_addProduct_3 : decode b_X2_addProduct 3 = .ok (.iload_n 3, 1) := by decide +kernel
theorem d_X2_addProduct_4 : decode b_X2_addProduct 4 = .ok (.iconst 0, 1) := by decide +kernel
theorem d_X2_addProduct_5 : decode b_X2_addProduct 5 = .ok (.invokevirtual 96, 3) := by decide +kernel
theorem d_X2_addProduct_8 : decode b_X2_addProduct 8 = .ok (.ireturn, 1) := by decide +kernel
theorem d_X2_product_0 : decode b_X2_product 0 = .ok (.aload_n 0, 1) := by decide +kernel
theorem d_X2_product_1 : decode b_X2_product 1 = .ok (.iload_n 1, 1) := by decide +kernel
theorem d_X2_product_2 : decode b_X2_product 2 = .ok (.invokestatic 62, 3) := by decide +kernel
theorem d_X2_product_5 : decode b_X2_product 5 = .ok (.ifCond .eq 17, 3) := by decide +kernel
theorem d_X2_product_8 : decode b_X2_product 8 = .ok (.iload_n 2, 1) := by decide +kernel
theorem d_X2_product_9 : decode b_X2_product 9 = .ok (.invokestatic 62, 3) := by decide +kernel
theorem d_X2_product_12 : decode b_X2_product 12 = .ok (.ifCond .eq 10, 3) := by decide +kernel
theorem d_X2_product_15 : decode b_X2_product 15 = .ok (.iload_n 3, 1) := by decide +kernel
theorem d_X2_product_16 : decode b_X2_product 16 = .ok (.invokestatic 62, 3) := by decide +kernel
theorem d_X2_product_19 : decode b_X2_product 19 = .ok (.ifCond .ne 7, 3) := by decide +kernel
theorem d_X2_product_22 : decode b_X2_product 22 = .ok (.iconst 1, 1) := by decide +kernel
theorem d_X2_product_23 : decode b_X2_product 23 = .ok (.goto 18, 3) := by decide +kernel
theorem d_X2_product_26 : decode b_X2_product 26 = .ok (.iload_n 1, 1) := by decide +kernel
theorem d_X2_product_27 : decode b_X2_product 27 = .ok (.iload_n 2, 1) := by decide +kernel
theorem d_X2_product_28 : decode b_X2_product 28 = .ok (.if_icmp .eq 8, 3) := by decide +kernel
theorem d_X2_product_31 : decode b_X2_product 31 = .ok (.iload_n 1, 1) := by decide +kernel
theorem d_X2_product_32 : decode b_X2_product 32 = .ok (.iload_n 3, 1) := by decide +kernel
theorem d_X2_product_33 : decode b_X2_product 33 = .ok (.if_icmp .ne 7, 3) := by decide +kernel
theorem d_X2_product_36 : decode b_X2_product 36 = .ok (.iconst 2, 1) := by decide +kernel
theorem d_X2_product_37 : decode b_X2_product 37 = .ok (.goto 4, 3) := by decide +kernel
theorem d_X2_product_40 : decode b_X2_product 40 = .ok (.iconst 0, 1) := by decide +kernel
theorem d_X2_product_41 : decode b_X2_product 41 = .ok (.invokevirtual 65, 3) := by decide +kernel
theorem d_X2_product_44 : decode b_X2_product 44 = .ok (.ifCond .eq 5, 3) := by decide +kernel
theorem d_X2_product_47 : decode b_X2_product 47 = .ok (.iconst 0, 1) := by decide +kernel
theorem d_X2_product_48 : decode b_X2_product 48 = .ok (.ireturn, 1) := by decide +kernel
theorem d_X2_product_49 : decode b_X2_product 49 = .ok (.aload_n 0, 1) := by decide +kernel
theorem d_X2_product_50 : decode b_X2_product 50 = .ok (.iconst 0, 1) := by decide +kernel
theorem d_X2_product_51 : decode b_X2_product 51 = .ok (.iload_n 2, 1) := by decide +kernel
theorem d_X2_product_52 : decode b_X2_product 52 = .ok (.invokevirtual 53, 3) := by decide +kernel
theorem d_X2_product_55 : decode b_X2_product 55 = .ok (.aload_n 0, 1) := by decide +kernel
theorem d_X2_product_56 : decode b_X2_product 56 = .ok (.iconst 1, 1) := by decide +kernel
theorem d_X2_product_57 : decode b_X2_product 57 = .ok (.iload_n 3, 1) := by decide +kernel
theorem d_X2_product_58 : decode b_X2_product 58 = .ok (.invokevirtual 53, 3) := by decide +kernel
theorem d_X2_product_61 : decode b_X2_product 61 = .ok (.aload_n 0, 1) := by decide +kernel
theorem d_X2_product_62 : decode b_X2_product 62 = .ok (.invokevirtual 93, 3) := by decide +kernel
theorem d_X2_product_65 : decode b_X2_product 65 = .ok (.aload_n 0, 1) := by decide +kernel
theorem d_X2_product_66 : decode b_X2_product 66 = .ok (.iconst 0, 1) := by decide +kernel
theorem d_X2_product_67 : decode b_X2_product 67 = .ok (.iload_n 1, 1) := by decide +kernel
theorem d_X2_product_68 : decode b_X2_product 68 = .ok (.invokevirtual 53, 3) := by decide +kernel
theorem d_X2_product_71 : decode b_X2_product 71 = .ok (.aload_n 0, 1) := by decide +kernel
theorem d_X2_product_72 : decode b_X2_product 72 = .ok (.iconst 0, 1) := by decide +kernel
theorem d_X2_product_73 : decode b_X2_product 73 = .ok (.iconst 2, 1) := by decide +kernel
theorem d_X2_product_74 : decode b_X2_product 74 = .ok (.iload 4, 2) := by decide +kernel
theorem d_X2_product_76 : decode b_X2_product 76 = .ok (.invokevirtual 82, 3) := by decide +kernel
theorem d_X2_product_79 : decode b_X2_product 79 = .ok (.aload_n 0, 1) := by decide +kernel
theorem d_X2_product_80 : decode b_X2_product 80 = .ok (.iload_n 1, 1) := by decide +kernel
theorem d_X2_product_81 : decode b_X2_product 81 = .ok (.iconst 0, 1) := by decide +kernel
theorem d_X2_product_82 : decode b_X2_product 82 = .ok (.invokevirtual 86, 3) := by decide +kernel
theorem d_X2_product_85 : decode b_X2_product 85 = .ok (.ireturn, 1) := by decide +kernel
theorem d_X2_multiply_0 : decode b_X2_multiply 0 = .ok (.aload_n 0, 1) := by decide +kernel
theorem d_X2_multiply_1 : decode b_X2_multiply 1 = .ok (.iconst 2, 1) := by decide +kernel
theorem d_X2_multiply_2 : decode b_X2_multiply 2 = .ok (.invokevirtual 27, 3) := by decide +kernel
theorem d_X2_multiply_5 : decode b_X2_multiply 5 = .ok (.aload_n 0, 1) := by decide +kernel
theorem d_X2_multiply_6 : decode b_X2_multiply 6 = .ok (.iconst 0, 1) := by decide +kernel
theorem d_X2_multiply_7 : decode b_X2_multiply 7 = .ok (.invokevirtual 43, 3) := by decide +kernel
theorem d_X2_multiply_10 : decode b_X2_multiply 10 = .ok (.bipush 15, 2) := by decide +kernel
theorem d_X2_multiply_12 : decode b_X2_multiply 12 = .ok (.iadd, 1) := by decide +kernel
theorem d_X2_multiply_13 : decode b_X2_multiply 13 = .ok (.bipush 16, 2) := by decide +kernel
theorem d_X2_multiply_15 : decode b_X2_multiply 15 = .ok (.idiv, 1) := by decide +kernel
theorem d_X2_multiply_16 : decode b_X2_multiply 16 = .ok (.istore_n 1, 1) := by decide +kernel
theorem d_X2_multiply_17 : decode b_X2_multiply 17 = .ok (.aload_n 0, 1) := by decide +kernel
theorem d_X2_multiply_18 : decode b_X2_multiply 18 = .ok (.iconst 1, 1) := by decide +kernel
theorem d_X2_multiply_19 : decode b_X2_multiply 19 = .ok (.invokevirtual 43, 3) := by decide +kernel
theorem d_X2_multiply_22 : decode b_X2_multiply 22 = .ok (.bipush 15, 2) := by decide +kernel
theorem d_X2_multiply_24 : decode b_X2_multiply 24 = .ok (.iadd, 1) := by decide +kernel
theorem d_X2_multiply_25 : decode b_X2_multiply 25 = .ok (.bipush 16, 2) := by decide +kernel
theorem d_X2_multiply_27 : decode b_X2_multiply 27 = .ok (.idiv, 1) := by decide +kernel
theorem d_X2_multiply_28 : decode b_X2_multiply 28 = .ok (.istore_n 2, 1) := by decide +kernel
theorem d_X2_multiply_29 : decode b_X2_multiply 29 = .ok (.lconst 0, 1) := by decide +kernel
theorem d_X2_multiply_30 : decode b_X2_multiply 30 = .ok (.lstore_n 3, 1) := by decide +kernel
theorem d_X2_multiply_31 : decode b_X2_multiply 31 = .ok (.iconst 0, 1) := by decide +kernel
theorem d_X2_multiply_32 : decode b_X2_multiply 32 = .ok (.istore 5, 2) := by decide +kernel
theorem d_X2_multiply_34 : decode b_X2_multiply 34 = .ok (.iload 5, 2) := by decide +kernel
theorem d_X2_multiply_36 : decode b_X2_multiply 36 = .ok (.iload_n 1, 1) := by decide +kernel
theorem d_X2_multiply_37 : decode b_X2_multiply 37 = .ok (.iload_n 2, 1) := by decide +kernel
theorem d_X2_multiply_38 : decode b_X2_multiply 38 = .ok (.iadd, 1) := by decide +kernel
theorem d_X2_multiply_39 : decode b_X2_multiply 39 = .ok (.if_icmp .ge 122, 3) := by decide +kernel
theorem d_X2_multiply_42 : decode b_X2_multiply 42 = .ok (.lconst 0, 1) := by decide +kernel
theorem d_X2_multiply_43 : decode b_X2_multiply 43 = .ok (.lstore 6, 2) := by decide +kernel
theorem d_X2_multiply_45 : decode b_X2_multiply 45 = .ok (.iload 5, 2) := by decide +kernel
theorem d_X2_multiply_47 : decode b_X2_multiply 47 = .ok (.iload_n 2, 1) := by decide +kernel
theorem d_X2_multiply_48 : decode b_X2_multiply 48 = .ok (.isub, 1) := by decide +kernel
theorem d_X2_multiply_49 : decode b_X2_multiply 49 = .ok (.iconst 1, 1) := by decide +kernel
theorem d_X2_multiply_50 : decode b_X2_multiply 50 = .ok (.iadd, 1) := by decide +kernel
theorem d_X2_multiply_51 : decode b_X2_multiply 51 = .ok (.ifCond .ge 7, 3) := by decide +kernel
theorem d_X2_multiply_54 : decode b_X2_multiply 54 = .ok (.iconst 0, 1) := by decide +kernel
theorem d_X2_multiply_55 : decode b_X2_multiply 55 = .ok (.goto 9, 3) := by decide +kernel
theorem d_X2_multiply_58 : decode b_X2_multiply 58 = .ok (.iload 5, 2) := by decide +kernel
theorem d_X2_multiply_60 : decode b_X2_multiply 60 = .ok (.iload_n 2, 1) := by decide +kernel
theorem d_X2_multiply_61 : decode b_X2_multiply 61 = .ok (.isub, 1) := by decide +kernel
theorem d_X2_multiply_62 : decode b_X2_multiply 62 = .ok (.iconst 1, 1) := by decide +kernel
theorem d_X2_multiply_63 : decode b_X2_multiply 63 = .ok (.iadd, 1) := by decide +kernel
theorem d_X2_multiply_64 : decode b_X2_multiply 64 = .ok (.istore 8, 2) := by decide +kernel
theorem d_X2_multiply_66 : decode b_X2_multiply 66 = .ok (.iload 8, 2) := by decide +kernel
theorem d_X2_multiply_68 : decode b_X2_multiply 68 = .ok (.iload_n 1, 1) := by decide +kernel
theorem d_X2_multiply_69 : decode b_X2_multiply 69 = .ok (.if_icmp .ge 58, 3) := by decide +kernel
theorem d_X2_multiply_72 : decode b_X2_multiply 72 = .ok (.iload 8, 2) := by decide +kernel
theorem d_X2_multiply_74 : decode b_X2_multiply 74 = .ok (.iload 5, 2) := by decide +kernel
theorem d_X2_multiply_76 : decode b_X2_multiply 76 = .ok (.if_icmp .gt 51, 3) := by decide +kernel
theorem d_X2_multiply_79 : decode b_X2_multiply 79 = .ok (.lload_n 3, 1) := by decide +kernel
theorem d_X2_multiply_80 : decode b_X2_multiply 80 = .ok (.aload_n 0, 1) := by decide +kernel
theorem d_X2_multiply_81 : decode b_X2_multiply 81 = .ok (.getfield 20, 3) := by decide +kernel
theorem d_X2_multiply_84 : decode b_X2_multiply 84 = .ok (.iload 8, 2) := by decide +kernel
theorem d_X2_multiply_86 : decode b_X2_multiply 86 = .ok (.iaload, 1) := by decide +kernel
theorem d_X2_multiply_87 : decode b_X2_multiply 87 = .ok (.i2l, 1) := by decide +kernel
theorem d_X2_multiply_88 : decode b_X2_multiply 88 = .ok (.aload_n 0, 1) := by decide +kernel
theorem d_X2_multiply_89 : decode b_X2_multiply 89 = .ok (.getfield 20, 3) := by decide +kernel
theorem d_X2_multiply_92 : decode b_X2_multiply 92 = .ok (.sipush 1100, 3) := by decide +kernel
theorem d_X2_multiply_95 : decode b_X2_multiply 95 = .ok (.iload 5, 2) := by decide +kernel
theorem d_X2_multiply_97 : decode b_X2_multiply 97 = .ok (.iadd, 1) := by decide +kernel
theorem d_X2_multiply_98 : decode b_X2_multiply 98 = .ok (.iload 8, 2) := by decide +kernel
theorem d_X2_multiply_100 : decode b_X2_multiply 100 = .ok (.isub, 1) := by decide +kernel
theorem d_X2_multiply_101 : decode b_X2_multiply 101 = .ok (.iaload, 1) := by decide +kernel
theorem d_X2_multiply_102 : decode b_X2_multiply 102 = .ok (.i2l, 1) := by decide +kernel
theorem d_X2_multiply_103 : decode b_X2_multiply 103 = .ok (.lmul, 1) := by decide +kernel
theorem d_X2_multiply_104 : decode b_X2_multiply 104 = .ok (.ladd, 1) := by decide +kernel
theorem d_X2_multiply_105 : decode b_X2_multiply 105 = .ok (.lstore_n 3, 1) := by decide +kernel
theorem d_X2_multiply_106 : decode b_X2_multiply 106 = .ok (.lload 6, 2) := by decide +kernel
theorem d_X2_multiply_108 : decode b_X2_multiply 108 = .ok (.lload_n 3, 1) := by decide +kernel
theorem d_X2_multiply_109 : decode b_X2_multiply 109 = .ok (.bipush 48, 2) := by decide +kernel
theorem d_X2_multiply_111 : decode b_X2_multiply 111 = .ok (.lushr, 1) := by decide +kernel
theorem d_X2_multiply_112 : decode b_X2_multiply 112 = .ok (.ladd, 1) := by decide +kernel
theorem d_X2_multiply_113 : decode b_X2_multiply 113 = .ok (.lstore 6, 2) := by decide +kernel
theorem d_X2_multiply_115 : decode b_X2_multiply 115 = .ok (.lload_n 3, 1) := by decide +kernel
theorem d_X2_multiply_116 : decode b_X2_multiply 116 = .ok (.ldc2_w 60, 3) := by decide +kernel
theorem d_X2_multiply_119 : decode b_X2_multiply 119 = .ok (.land, 1) := by decide +kernel
theorem d_X2_multiply_120 : decode b_X2_multiply 120 = .ok (.lstore_n 3, 1) := by decide +kernel
theorem d_X2_multiply_121 : decode b_X2_multiply 121 = .ok (.iinc 8 1, 3) := by decide +kernel
theorem d_X2_multiply_124 : decode b_X2_multiply 124 = .ok (.goto (-58), 3) := by decide +kernel
theorem d_X2_multiply_127 : decode b_X2_multiply 127 = .ok (.aload_n 0, 1) := by decide +kernel
theorem d_X2_multiply_128 : decode b_X2_multiply 128 = .ok (.getfield 20, 3) := by decide +kernel
theorem d_X2_multiply_131 : decode b_X2_multiply 131 = .ok (.sipush 2200, 3) := by decide +kernel
theorem d_X2_multiply_134 : decode b_X2_multiply 134 = .ok (.iload 5, 2) := by decide +kernel
theorem d_X2_multiply_136 : decode b_X2_multiply 136 = .ok (.iadd, 1) := by decide +kernel
theorem d_X2_multiply_137 : decode b_X2_multiply 137 = .ok (.lload_n 3, 1) := by decide +kernel
theorem d_X2_multiply_138 : decode b_X2_multiply 138 = .ok (.ldc2_w 37, 3) := by decide +kernel
theorem d_X2_multiply_141 : decode b_X2_multiply 141 = .ok (.land, 1) := by decide +kernel
theorem d_X2_multiply_142 : decode b_X2_multiply 142 = .ok (.l2i, 1) := by decide +kernel
theorem d_X2_multiply_143 : decode b_X2_multiply 143 = .ok (.iastore, 1) := by decide +kernel
theorem d_X2_multiply_144 : decode b_X2_multiply 144 = .ok (.lload_n 3, 1) := by decide +kernel
theorem d_X2_multiply_145 : decode b_X2_multiply 145 = .ok (.bipush 16, 2) := by decide +kernel
theorem d_X2_multiply_147 : decode b_X2_multiply 147 = .ok (.lushr, 1) := by decide +kernel
theorem d_X2_multiply_148 : decode b_X2_multiply 148 = .ok (.lload 6, 2) := by decide +kernel
theorem d_X2_multiply_150 : decode b_X2_multiply 150 = .ok (.bipush 32, 2) := by decide +kernel
theorem d_X2_multiply_152 : decode b_X2_multiply 152 = .ok (.lshl, 1) := by decide +kernel
theorem d_X2_multiply_153 : decode b_X2_multiply 153 = .ok (.ladd, 1) := by decide +kernel
theorem d_X2_multiply_154 : decode b_X2_multiply 154 = .ok (.lstore_n 3, 1) := by decide +kernel
theorem d_X2_multiply_155 : decode b_X2_multiply 155 = .ok (.iinc 5 1, 3) := by decide +kernel
theorem d_X2_multiply_158 : decode b_X2_multiply 158 = .ok (.goto (-124), 3) := by decide +kernel
theorem d_X2_multiply_161 : decode b_X2_multiply 161 = .ok (.aload_n 0, 1) := by decide +kernel
theorem d_X2_multiply_162 : decode b_X2_multiply 162 = .ok (.getfield 17, 3) := by decide +kernel
theorem d_X2_multiply_165 : decode b_X2_multiply 165 = .ok (.iconst 2, 1) := by decide +kernel
theorem d_X2_multiply_166 : decode b_X2_multiply 166 = .ok (.aload_n 0, 1) := by decide +kernel
theorem d_X2_multiply_167 : decode b_X2_multiply 167 = .ok (.getfield 17, 3) := by decide +kernel
theorem d_X2_multiply_170 : decode b_X2_multiply 170 = .ok (.iconst 0, 1) := by decide +kernel
theorem d_X2_multiply_171 : decode b_X2_multiply 171 = .ok (.iaload, 1) := by decide +kernel
theorem d_X2_multiply_172 : decode b_X2_multiply 172 = .ok (.aload_n 0, 1) := by decide +kernel
theorem d_X2_multiply_173 : decode b_X2_multiply 173 = .ok (.getfield 17, 3) := by decide +kernel
theorem d_X2_multiply_176 : decode b_X2_multiply 176 = .ok (.iconst 1, 1) := by decide +kernel
theorem d_X2_multiply_177 : decode b_X2_multiply 177 = .ok (.iaload, 1) := by decide +kernel
theorem d_X2_multiply_178 : decode b_X2_multiply 178 = .ok (.imul, 1) := by decide +kernel
theorem d_X2_multiply_179 : decode b_X2_multiply 179 = .ok (.iastore, 1) := by decide +kernel
theorem d_X2_multiply_180 : decode b_X2_multiply 180 = .ok (.return_, 1) := by decide +kernel
theorem d_X2_subtractProduct_0 : decode b_X2_subtractProduct 0 = .ok (.aload_n 0, 1) := by decide +kernel
theorem d_X2_subtractProduct_1 : decode b_X2_subtractProduct 1 = .ok (.iload_n 1, 1) := by decide +kernel
theorem d_X2_subtractProduct_2 : decode b_X2_subtractProduct 2 = .ok (.iload_n 2, 1) := by decide +kernel
theorem d_X2_subtractProduct_3 : decode b_X2_subtractProduct 3 = .ok (.iload_n 3, 1) := by decide +kernel
theorem d_X2_subtractProduct_4 : decode b_X2_subtractProduct 4 = .ok (.iconst 1, 1) := by decide +kernel
theorem d_X2_subtractProduct_5 : decode b_X2_subtractProduct 5 = .ok (.invokevirtual 96, 3) := by decide +kernel
theorem d_X2_subtractProduct_8 : decode b_X2_subtractProduct 8 = .ok (.ireturn, 1) := by decide +kernel
theorem d_X2_times_0 : decode b_X2_times 0 = .ok (.aload_n 0, 1) := by decide +kernel
theorem d_X2_times_1 : decode b_X2_times 1 = .ok (.iload_n 1, 1) := by decide +kernel
theorem d_X2_times_2 : decode b_X2_times 2 = .ok (.invokestatic 62, 3) := by decide +kernel
theorem d_X2_times_5 : decode b_X2_times 5 = .ok (.ifCond .eq 7, 3) := by decide +kernel
theorem d_X2_times_8 : decode b_X2_times 8 = .ok (.iconst 0, 1) := by decide +kernel
theorem d_X2_times_9 : decode b_X2_times 9 = .ok (.goto 4, 3) := by decide +kernel
theorem d_X2_times_12 : decode b_X2_times 12 = .ok (.iconst 1, 1) := by decide +kernel
theorem d_X2_times_13 : decode b_X2_times 13 = .ok (.invokevirtual 65, 3) := by decide +kernel
theorem d_X2_times_16 : decode b_X2_times 16 = .ok (.ifCond .eq 5, 3) := by decide +kernel
theorem d_X2_times_19 : decode b_X2_times 19 = .ok (.iconst 0, 1) := by decide +kernel
theorem d_X2_times_20 : decode b_X2_times 20 = .ok (.ireturn, 1) := by decide +kernel
theorem d_X2_times_21 : decode b_X2_times 21 = .ok (.aload_n 0, 1) := by decide +kernel
theorem d_X2_times_22 : decode b_X2_times 22 = .ok (.iconst 0, 1) := by decide +kernel
theorem d_X2_times_23 : decode b_X2_times 23 = .ok (.iload_n 1, 1) := by decide +kernel
theorem d_X2_times_24 : decode b_X2_times 24 = .ok (.invokevirtual 53, 3) := by decide +kernel
theorem d_X2_times_27 : decode b_X2_times 27 = .ok (.aload_n 0, 1) := by decide +kernel
theorem d_X2_times_28 : decode b_X2_times 28 = .ok (.iconst 1, 1) := by decide +kernel
theorem d_X2_times_29 : decode b_X2_times 29 = .ok (.lload_n 2, 1) := by decide +kernel
theorem d_X2_times_30 : decode b_X2_times 30 = .ok (.invokevirtual 72, 3) := by decide +kernel
theorem d_X2_times_33 : decode b_X2_times 33 = .ok (.aload_n 0, 1) := by decide +kernel
theorem d_X2_times_34 : decode b_X2_times 34 = .ok (.invokevirtual 93, 3) := by decide +kernel
theorem d_X2_times_37 : decode b_X2_times 37 = .ok (.aload_n 0, 1) := by decide +kernel
theorem d_X2_times_38 : decode b_X2_times 38 = .ok (.iload_n 1, 1) := by decide +kernel
theorem d_X2_times_39 : decode b_X2_times 39 = .ok (.iconst 2, 1) := by decide +kernel
theorem d_X2_times_40 : decode b_X2_times 40 = .ok (.invokevirtual 86, 3) := by decide +kernel
theorem d_X2_times_43 : decode b_X2_times 43 = .ok (.ireturn, 1) := by decide +kernel
theorem d_X2_negate_0 : decode b_X2_negate 0 = .ok (.aload_n 0, 1) := by decide +kernel
theorem d_X2_negate_1 : decode b_X2_negate 1 = .ok (.iload_n 1, 1) := by decide +kernel
theorem d_X2_negate_2 : decode b_X2_negate 2 = .ok (.invokestatic 62, 3) := by decide +kernel
theorem d_X2_negate_5 : decode b_X2_negate 5 = .ok (.ifCond .eq 7, 3) := by decide +kernel
theorem d_X2_negate_8 : decode b_X2_negate 8 = .ok (.iconst 0, 1) := by decide +kernel
theorem d_X2_negate_9 : decode b_X2_negate 9 = .ok (.goto 4, 3) := by decide +kernel
theorem d_X2_negate_12 : decode b_X2_negate 12 = .ok (.iconst 1, 1) := by decide +kernel
theorem d_X2_negate_13 : decode b_X2_negate 13 = .ok (.invokevirtual 65, 3) := by decide +kernel
theorem d_X2_negate_16 : decode b_X2_negate 16 = .ok (.ifCond .eq 5, 3) := by decide +kernel
theorem d_X2_negate_19 : decode b_X2_negate 19 = .ok (.iconst 0, 1) := by decide +kernel
theorem d_X2_negate_20 : decode b_X2_negate 20 = .ok (.ireturn, 1) := by decide +kernel
theorem d_X2_negate_21 : decode b_X2_negate 21 = .ok (.aload_n 0, 1) := by decide +kernel
theorem d_X2_negate_22 : decode b_X2_negate 22 = .ok (.iconst 0, 1) := by decide +kernel
theorem d_X2_negate_23 : decode b_X2_negate 23 = .ok (.iload_n 1, 1) := by decide +kernel
theorem d_X2_negate_24 : decode b_X2_negate 24 = .ok (.invokevirtual 53, 3) := by decide +kernel
theorem d_X2_negate_27 : decode b_X2_negate 27 = .ok (.aload_n 0, 1) := by decide +kernel
theorem d_X2_negate_28 : decode b_X2_negate 28 = .ok (.getfield 17, 3) := by decide +kernel
theorem d_X2_negate_31 : decode b_X2_negate 31 = .ok (.iconst 0, 1) := by decide +kernel
theorem d_X2_negate_32 : decode b_X2_negate 32 = .ok (.aload_n 0, 1) := by decide +kernel
theorem d_X2_negate_33 : decode b_X2_negate 33 = .ok (.getfield 17, 3) := by decide +kernel
theorem d_X2_negate_36 : decode b_X2_negate 36 = .ok (.iconst 0, 1) := by decide +kernel
theorem d_X2_negate_37 : decode b_X2_negate 37 = .ok (.iaload, 1) := by decide +kernel
theorem d_X2_negate_38 : decode b_X2_negate 38 = .ok (.ineg, 1) := by decide +kernel
theorem d_X2_negate_39 : decode b_X2_negate 39 = .ok (.iastore, 1) := by decide +kernel
theorem d_X2_negate_40 : decode b_X2_negate 40 = .ok (.aload_n 0, 1) := by decide +kernel
theorem d_X2_negate_41 : decode b_X2_negate 41 = .ok (.iload_n 1, 1) := by decide +kernel
theorem d_X2_negate_42 : decode b_X2_negate 42 = .ok (.iconst 0, 1) := by decide +kernel
theorem d_X2_negate_43 : decode b_X2_negate 43 = .ok (.invokevirtual 68, 3) := by decide +kernel
theorem d_X2_negate_46 : decode b_X2_negate 46 = .ok (.ireturn, 1) := by decide +kernel
theorem d_X2_left_0 : decode b_X2_left 0 = .ok (.aload_n 0, 1) := by decide +kernel
theorem d_X2_left_1 : decode b_X2_left 1 = .ok (.iload_n 1, 1) := by decide +kernel
theorem d_X2_left_2 : decode b_X2_left 2 = .ok (.invokestatic 62, 3) := by decide +kernel
theorem d_X2_left_5 : decode b_X2_left 5 = .ok (.ifCond .ne 7, 3) := by decide +kernel
theorem d_X2_left_8 : decode b_X2_left 8 = .ok (.iconst 1, 1) := by decide +kernel
theorem d_X2_left_9 : decode b_X2_left 9 = .ok (.goto 19, 3) := by decide +kernel
theorem d_X2_left_12 : decode b_X2_left 12 = .ok (.iload_n 2, 1) := by decide +kernel
theorem d_X2_left_13 : decode b_X2_left 13 = .ok (.ifCond .lt 10, 3) := by decide +kernel
theorem d_X2_left_16 : decode b_X2_left 16 = .ok (.iload_n 2, 1) := by decide +kernel
theorem d_X2_left_17 : decode b_X2_left 17 = .ok (.sipush 8192, 3) := by decide +kernel
theorem d_X2_left_20 : decode b_X2_left 20 = .ok (.if_icmp .le 7, 3) := by decide +kernel
theorem d_X2_left_23 : decode b_X2_left 23 = .ok (.iconst 2, 1) := by decide +kernel
theorem d_X2_left_24 : decode b_X2_left 24 = .ok (.goto 4, 3) := by decide +kernel
theorem d_X2_left_27 : decode b_X2_left 27 = .ok (.iconst 0, 1) := by decide +kernel
theorem d_X2_left_28 : decode b_X2_left 28 = .ok (.invokevirtual 65, 3) := by decide +kernel
theorem d_X2_left_31 : decode b_X2_left 31 = .ok (.ifCond .eq 5, 3) := by decide +kernel
theorem d_X2_left_34 : decode b_X2_left 34 = .ok (.iconst 0, 1) := by decide +kernel
theorem d_X2_left_35 : decode b_X2_left 35 = .ok (.ireturn, 1) := by decide +kernel
theorem d_X2_left_36 : decode b_X2_left 36 = .ok (.aload_n 0, 1) := by decide +kernel
theorem d_X2_left_37 : decode b_X2_left 37 = .ok (.iconst 0, 1) := by decide +kernel
theorem d_X2_left_38 : decode b_X2_left 38 = .ok (.iload_n 1, 1) := by decide +kernel
theorem d_X2_left_39 : decode b_X2_left 39 = .ok (.invokevirtual 53, 3) := by decide +kernel
theorem d_X2_left_42 : decode b_X2_left 42 = .ok (.aload_n 0, 1) := by decide +kernel
theorem d_X2_left_43 : decode b_X2_left 43 = .ok (.iconst 1, 1) := by decide +kernel
theorem d_X2_left_44 : decode b_X2_left 44 = .ok (.invokevirtual 27, 3) := by decide +kernel
theorem d_X2_left_47 : decode b_X2_left 47 = .ok (.aload_n 0, 1) := by decide +kernel
theorem d_X2_left_48 : decode b_X2_left 48 = .ok (.iconst 0, 1) := by decide +kernel
theorem d_X2_left_49 : decode b_X2_left 49 = .ok (.invokevirtual 43, 3) := by decide +kernel
theorem d_X2_left_52 : decode b_X2_left 52 = .ok (.istore_n 3, 1) := by decide +kernel
theorem d_X2_left_53 : decode b_X2_left 53 = .ok (.iconst 0, 1) := by decide +kernel
theorem d_X2_left_54 : decode b_X2_left 54 = .ok (.istore 4, 2) := by decide +kernel
theorem d_X2_left_56 : decode b_X2_left 56 = .ok (.iload 4, 2) := by decide +kernel
theorem d_X2_left_58 : decode b_X2_left 58 = .ok (.iload_n 3, 1) := by decide +kernel
theorem d_X2_left_59 : decode b_X2_left 59 = .ok (.if_icmp .ge 57, 3) := by decide +kernel
theorem d_X2_left_62 : decode b_X2_left 62 = .ok (.aload_n 0, 1) := by decide +kernel
theorem d_X2_left_63 : decode b_X2_left 63 = .ok (.getfield 20, 3) := by decide +kernel
theorem d_X2_left_66 : decode b_X2_left 66 = .ok (.sipush 1100, 3) := by decide +kernel
theorem d_X2_left_69 : decode b_X2_left 69 = .ok (.iload 4, 2) := by decide +kernel
theorem d_X2_left_71 : decode b_X2_left 71 = .ok (.iload_n 2, 1) := by decide +kernel
theorem d_X2_left_72 : decode b_X2_left 72 = .ok (.iadd, 1) := by decide +kernel
theorem d_X2_left_73 : decode b_X2_left 73 = .ok (.bipush 16, 2) := by decide +kernel
theorem d_X2_left_75 : decode b_X2_left 75 = .ok (.idiv, 1) := by decide +kernel
theorem d_X2_left_76 : decode b_X2_left 76 = .ok (.iadd, 1) := by decide +kernel
theorem d_X2_left_77 : decode b_X2_left 77 = .ok (.aload_n 0, 1) := by decide +kernel
theorem d_X2_left_78 : decode b_X2_left 78 = .ok (.getfield 20, 3) := by decide +kernel
theorem d_X2_left_81 : decode b_X2_left 81 = .ok (.sipush 1100, 3) := by decide +kernel
theorem d_X2_left_84 : decode b_X2_left 84 = .ok (.iload 4, 2) := by decide +kernel
theorem d_X2_left_86 : decode b_X2_left 86 = .ok (.iload_n 2, 1) := by decide +kernel
theorem d_X2_left_87 : decode b_X2_left 87 = .ok (.iadd, 1) := by decide +kernel
theorem d_X2_left_88 : decode b_X2_left 88 = .ok (.bipush 16, 2) := by decide +kernel
theorem d_X2_left_90 : decode b_X2_left 90 = .ok (.idiv, 1) := by decide +kernel
theorem d_X2_left_91 : decode b_X2_left 91 = .ok (.iadd, 1) := by decide +kernel
theorem d_X2_left_92 : decode b_X2_left 92 = .ok (.iaload, 1) := by decide +kernel
theorem d_X2_left_93 : decode b_X2_left 93 = .ok (.aload_n 0, 1) := by decide +kernel
theorem d_X2_left_94 : decode b_X2_left 94 = .ok (.iconst 0, 1) := by decide +kernel
theorem d_X2_left_95 : decode b_X2_left 95 = .ok (.iload 4, 2) := by decide +kernel
theorem d_X2_left_97 : decode b_X2_left 97 = .ok (.invokevirtual 39, 3) := by decide +kernel
theorem d_X2_left_100 : decode b_X2_left 100 = .ok (.iload 4, 2) := by decide +kernel
theorem d_X2_left_102 : decode b_X2_left 102 = .ok (.iload_n 2, 1) := by decide +kernel
theorem d_X2_left_103 : decode b_X2_left 103 = .ok (.iadd, 1) := by decide +kernel
theorem d_X2_left_104 : decode b_X2_left 104 = .ok (.bipush 16, 2) := by decide +kernel
theorem d_X2_left_106 : decode b_X2_left 106 = .ok (.irem, 1) := by decide +kernel
theorem d_X2_left_107 : decode b_X2_left 107 = .ok (.ishl, 1) := by decide +kernel
theorem d_X2_left_108 : decode b_X2_left 108 = .ok (.ior, 1) := by decide +kernel
theorem d_X2_left_109 : decode b_X2_left 109 = .ok (.iastore, 1) := by decide +kernel
theorem d_X2_left_110 : decode b_X2_left 110 = .ok (.iinc 4 1, 3) := by decide +kernel
theorem d_X2_left_113 : decode b_X2_left 113 = .ok (.goto (-57), 3) := by decide +kernel
theorem d_X2_left_116 : decode b_X2_left 116 = .ok (.aload_n 0, 1) := by decide +kernel
theorem d_X2_left_117 : decode b_X2_left 117 = .ok (.getfield 17, 3) := by decide +kernel
theorem d_X2_left_120 : decode b_X2_left 120 = .ok (.iconst 1, 1) := by decide +kernel
theorem d_X2_left_121 : decode b_X2_left 121 = .ok (.aload_n 0, 1) := by decide +kernel
theorem d_X2_left_122 : decode b_X2_left 122 = .ok (.getfield 17, 3) := by decide +kernel
theorem d_X2_left_125 : decode b_X2_left 125 = .ok (.iconst 0, 1) := by decide +kernel
theorem d_X2_left_126 : decode b_X2_left 126 = .ok (.iaload, 1) := by decide +kernel
theorem d_X2_left_127 : decode b_X2_left 127 = .ok (.iastore, 1) := by decide +kernel
theorem d_X2_left_128 : decode b_X2_left 128 = .ok (.aload_n 0, 1) := by decide +kernel
theorem d_X2_left_129 : decode b_X2_left 129 = .ok (.iload_n 1, 1) := by decide +kernel
theorem d_X2_left_130 : decode b_X2_left 130 = .ok (.iconst 1, 1) := by decide +kernel
theorem d_X2_left_131 : decode b_X2_left 131 = .ok (.invokevirtual 86, 3) := by decide +kernel
theorem d_X2_left_134 : decode b_X2_left 134 = .ok (.ireturn, 1) := by decide +kernel
theorem d_X2_right_0 : decode b_X2_right 0 = .ok (.aload_n 0, 1) := by decide +kernel
theorem d_X2_right_1 : decode b_X2_right 1 = .ok (.iload_n 1, 1) := by decide +kernel
theorem d_X2_right_2 : decode b_X2_right 2 = .ok (.invokestatic 62, 3) := by decide +kernel
theorem d_X2_right_5 : decode b_X2_right 5 = .ok (.ifCond .ne 7, 3) := by decide +kernel
theorem d_X2_right_8 : decode b_X2_right 8 = .ok (.iconst 1, 1) := by decide +kernel
theorem d_X2_right_9 : decode b_X2_right 9 = .ok (.goto 19, 3) := by decide +kernel
theorem d_X2_right_12 : decode b_X2_right 12 = .ok (.iload_n 2, 1) := by decide +kernel
theorem d_X2_right_13 : decode b_X2_right 13 = .ok (.ifCond .lt 10, 3) := by decide +kernel
theorem d_X2_right_16 : decode b_X2_right 16 = .ok (.iload_n 2, 1) := by decide +kernel
theorem d_X2_right_17 : decode b_X2_right 17 = .ok (.sipush 8192, 3) := by decide +kernel
theorem d_X2_right_20 : decode b_X2_right 20 = .ok (.if_icmp .le 7, 3) := by decide +kernel
theorem d_X2_right_23 : decode b_X2_right 23 = .ok (.iconst 2, 1) := by decide +kernel
theorem d_X2_right_24 : decode b_X2_right 24 = .ok (.goto 4, 3) := by decide +kernel
theorem d_X2_right_27 : decode b_X2_right 27 = .ok (.iconst 0, 1) := by decide +kernel
theorem d_X2_right_28 : decode b_X2_right 28 = .ok (.invokevirtual 65, 3) := by decide +kernel
theorem d_X2_right_31 : decode b_X2_right 31 = .ok (.ifCond .eq 5, 3) := by decide +kernel
theorem d_X2_right_34 : decode b_X2_right 34 = .ok (.iconst 0, 1) := by decide +kernel
theorem d_X2_right_35 : decode b_X2_right 35 = .ok (.ireturn, 1) := by decide +kernel
theorem d_X2_right_36 : decode b_X2_right 36 = .ok (.aload_n 0, 1) := by decide +kernel
theorem d_X2_right_37 : decode b_X2_right 37 = .ok (.iconst 0, 1) := by decide +kernel
theorem d_X2_right_38 : decode b_X2_right 38 = .ok (.iload_n 1, 1) := by decide +kernel
theorem d_X2_right_39 : decode b_X2_right 39 = .ok (.invokevirtual 53, 3) := by decide +kernel
theorem d_X2_right_42 : decode b_X2_right 42 = .ok (.aload_n 0, 1) := by decide +kernel
theorem d_X2_right_43 : decode b_X2_right 43 = .ok (.iload_n 2, 1) := by decide +kernel
theorem d_X2_right_44 : decode b_X2_right 44 = .ok (.aload_n 0, 1) := by decide +kernel
theorem d_X2_right_45 : decode b_X2_right 45 = .ok (.getfield 17, 3) := by decide +kernel
theorem d_X2_right_48 : decode b_X2_right 48 = .ok (.iconst 0, 1) := by decide +kernel
theorem d_X2_right_49 : decode b_X2_right 49 = .ok (.iaload, 1) := by decide +kernel
theorem d_X2_right_50 : decode b_X2_right 50 = .ok (.ifCond .ge 16, 3) := by decide +kernel
theorem d_X2_right_53 : decode b_X2_right 53 = .ok (.aload_n 0, 1) := by decide +kernel
theorem d_X2_right_54 : decode b_X2_right 54 = .ok (.iconst 0, 1) := by decide +kernel
theorem d_X2_right_55 : decode b_X2_right 55 = .ok (.invokevirtual 47, 3) := by decide +kernel
theorem d_X2_right_58 : decode b_X2_right 58 = .ok (.iload_n 2, 1) := by decide +kernel
theorem d_X2_right_59 : decode b_X2_right 59 = .ok (.if_icmp .ge 7, 3) := by decide +kernel
theorem d_X2_right_62 : decode b_X2_right 62 = .ok (.iconst 1, 1) := by decide +kernel
theorem d_X2_right_63 : decode b_X2_right 63 = .ok (.goto 4, 3) := by decide +kernel
theorem d_X2_right_66 : decode b_X2_right 66 = .ok (.iconst 0, 1) := by decide +kernel
theorem d_X2_right_67 : decode b_X2_right 67 = .ok (.invokevirtual 100, 3) := by decide +kernel
theorem d_X2_right_70 : decode b_X2_right 70 = .ok (.aload_n 0, 1) := by decide +kernel
theorem d_X2_right_71 : decode b_X2_right 71 = .ok (.iload_n 1, 1) := by decide +kernel
theorem d_X2_right_72 : decode b_X2_right 72 = .ok (.iconst 1, 1) := by decide +kernel
theorem d_X2_right_73 : decode b_X2_right 73 = .ok (.invokevirtual 86, 3) := by decide +kernel
theorem d_X2_right_76 : decode b_X2_right 76 = .ok (.ireturn, 1) := by decide +kernel
theorem d_X2_halve_0 : decode b_X2_halve 0 = .ok (.aload_n 0, 1) := by decide +kernel
theorem d_X2_halve_1 : decode b_X2_halve 1 = .ok (.iconst 1, 1) := by decide +kernel
end
section
theorem d_X2_halve_2 : decode b_X2_halve 2 = .ok (.invokevirtual 27, 3) := by decide +kernel
theorem d_X2_halve_5 : decode b_X2_halve 5 = .ok (.aload_n 0, 1) := by decide +kernel
theorem d_X2_halve_6 : decode b_X2_halve 6 = .ok (.iconst 0, 1) := by decide +kernel
theorem d_X2_halve_7 : decode b_X2_halve 7 = .ok (.invokevirtual 43, 3) := by decide +kernel
theorem d_X2_halve_10 : decode b_X2_halve 10 = .ok (.istore_n 3, 1) := by decide +kernel
theorem d_X2_halve_11 : decode b_X2_halve 11 = .ok (.iload_n 1, 1) := by decide +kernel
theorem d_X2_halve_12 : decode b_X2_halve 12 = .ok (.istore 4, 2) := by decide +kernel
theorem d_X2_halve_14 : decode b_X2_halve 14 = .ok (.iload 4, 2) := by decide +kernel
theorem d_X2_halve_16 : decode b_X2_halve 16 = .ok (.iload_n 3, 1) := by decide +kernel
theorem d_X2_halve_17 : decode b_X2_halve 17 = .ok (.if_icmp .ge 57, 3) := by decide +kernel
theorem d_X2_halve_20 : decode b_X2_halve 20 = .ok (.aload_n 0, 1) := by decide +kernel
theorem d_X2_halve_21 : decode b_X2_halve 21 = .ok (.getfield 20, 3) := by decide +kernel
theorem d_X2_halve_24 : decode b_X2_halve 24 = .ok (.sipush 1100, 3) := by decide +kernel
theorem d_X2_halve_27 : decode b_X2_halve 27 = .ok (.iload 4, 2) := by decide +kernel
theorem d_X2_halve_29 : decode b_X2_halve 29 = .ok (.iload_n 1, 1) := by decide +kernel
theorem d_X2_halve_30 : decode b_X2_halve 30 = .ok (.isub, 1) := by decide +kernel
theorem d_X2_halve_31 : decode b_X2_halve 31 = .ok (.bipush 16, 2) := by decide +kernel
theorem d_X2_halve_33 : decode b_X2_halve 33 = .ok (.idiv, 1) := by decide +kernel
theorem d_X2_halve_34 : decode b_X2_halve 34 = .ok (.iadd, 1) := by decide +kernel
theorem d_X2_halve_35 : decode b_X2_halve 35 = .ok (.aload_n 0, 1) := by decide +kernel
theorem d_X2_halve_36 : decode b_X2_halve 36 = .ok (.getfield 20, 3) := by decide +kernel
theorem d_X2_halve_39 : decode b_X2_halve 39 = .ok (.sipush 1100, 3) := by decide +kernel
theorem d_X2_halve_42 : decode b_X2_halve 42 = .ok (.iload 4, 2) := by decide +kernel
theorem d_X2_halve_44 : decode b_X2_halve 44 = .ok (.iload_n 1, 1) := by decide +kernel
theorem d_X2_halve_45 : decode b_X2_halve 45 = .ok (.isub, 1) := by decide +kernel
theorem d_X2_halve_46 : decode b_X2_halve 46 = .ok (.bipush 16, 2) := by decide +kernel
theorem d_X2_halve_48 : decode b_X2_halve 48 = .ok (.idiv, 1) := by decide +kernel
theorem d_X2_halve_49 : decode b_X2_halve 49 = .ok (.iadd, 1) := by decide +kernel
theorem d_X2_halve_50 : decode b_X2_halve 50 = .ok (.iaload, 1) := by decide +kernel
theorem d_X2_halve_51 : decode b_X2_halve 51 = .ok (.aload_n 0, 1) := by decide +kernel
theorem d_X2_halve_52 : decode b_X2_halve 52 = .ok (.iconst 0, 1) := by decide +kernel
theorem d_X2_halve_53 : decode b_X2_halve 53 = .ok (.iload 4, 2) := by decide +kernel
theorem d_X2_halve_55 : decode b_X2_halve 55 = .ok (.invokevirtual 39, 3) := by decide +kernel
theorem d_X2_halve_58 : decode b_X2_halve 58 = .ok (.iload 4, 2) := by decide +kernel
theorem d_X2_halve_60 : decode b_X2_halve 60 = .ok (.iload_n 1, 1) := by decide +kernel
theorem d_X2_halve_61 : decode b_X2_halve 61 = .ok (.isub, 1) := by decide +kernel
theorem d_X2_halve_62 : decode b_X2_halve 62 = .ok (.bipush 16, 2) := by decide +kernel
theorem d_X2_halve_64 : decode b_X2_halve 64 = .ok (.irem, 1) := by decide +kernel
theorem d_X2_halve_65 : decode b_X2_halve 65 = .ok (.ishl, 1) := by decide +kernel
theorem d_X2_halve_66 : decode b_X2_halve 66 = .ok (.ior, 1) := by decide +kernel
theorem d_X2_halve_67 : decode b_X2_halve 67 = .ok (.iastore, 1) := by decide +kernel
theorem d_X2_halve_68 : decode b_X2_halve 68 = .ok (.iinc 4 1, 3) := by decide +kernel
theorem d_X2_halve_71 : decode b_X2_halve 71 = .ok (.goto (-57), 3) := by decide +kernel
theorem d_X2_halve_74 : decode b_X2_halve 74 = .ok (.aload_n 0, 1) := by decide +kernel
theorem d_X2_halve_75 : decode b_X2_halve 75 = .ok (.getfield 17, 3) := by decide +kernel
theorem d_X2_halve_78 : decode b_X2_halve 78 = .ok (.iconst 1, 1) := by decide +kernel
theorem d_X2_halve_79 : decode b_X2_halve 79 = .ok (.iload_n 3, 1) := by decide +kernel
theorem d_X2_halve_80 : decode b_X2_halve 80 = .ok (.iload_n 1, 1) := by decide +kernel
theorem d_X2_halve_81 : decode b_X2_halve 81 = .ok (.if_icmp .le 12, 3) := by decide +kernel
theorem d_X2_halve_84 : decode b_X2_halve 84 = .ok (.aload_n 0, 1) := by decide +kernel
theorem d_X2_halve_85 : decode b_X2_halve 85 = .ok (.getfield 17, 3) := by decide +kernel
theorem d_X2_halve_88 : decode b_X2_halve 88 = .ok (.iconst 0, 1) := by decide +kernel
theorem d_X2_halve_89 : decode b_X2_halve 89 = .ok (.iaload, 1) := by decide +kernel
theorem d_X2_halve_90 : decode b_X2_halve 90 = .ok (.goto 4, 3) := by decide +kernel
theorem d_X2_halve_93 : decode b_X2_halve 93 = .ok (.iconst 0, 1) := by decide +kernel
theorem d_X2_halve_94 : decode b_X2_halve 94 = .ok (.iastore, 1) := by decide +kernel
theorem d_X2_halve_95 : decode b_X2_halve 95 = .ok (.iload_n 2, 1) := by decide +kernel
theorem d_X2_halve_96 : decode b_X2_halve 96 = .ok (.ifCond .eq 26, 3) := by decide +kernel
theorem d_X2_halve_99 : decode b_X2_halve 99 = .ok (.aload_n 0, 1) := by decide +kernel
theorem d_X2_halve_100 : decode b_X2_halve 100 = .ok (.getfield 17, 3) := by decide +kernel
theorem d_X2_halve_103 : decode b_X2_halve 103 = .ok (.iconst 0, 1) := by decide +kernel
theorem d_X2_halve_104 : decode b_X2_halve 104 = .ok (.iaload, 1) := by decide +kernel
theorem d_X2_halve_105 : decode b_X2_halve 105 = .ok (.istore 4, 2) := by decide +kernel
theorem d_X2_halve_107 : decode b_X2_halve 107 = .ok (.aload_n 0, 1) := by decide +kernel
theorem d_X2_halve_108 : decode b_X2_halve 108 = .ok (.iconst 2, 1) := by decide +kernel
theorem d_X2_halve_109 : decode b_X2_halve 109 = .ok (.iload 4, 2) := by decide +kernel
theorem d_X2_halve_111 : decode b_X2_halve 111 = .ok (.i2l, 1) := by decide +kernel
theorem d_X2_halve_112 : decode b_X2_halve 112 = .ok (.invokevirtual 72, 3) := by decide +kernel
theorem d_X2_halve_115 : decode b_X2_halve 115 = .ok (.aload_n 0, 1) := by decide +kernel
theorem d_X2_halve_116 : decode b_X2_halve 116 = .ok (.iconst 1, 1) := by decide +kernel
theorem d_X2_halve_117 : decode b_X2_halve 117 = .ok (.iconst 2, 1) := by decide +kernel
theorem d_X2_halve_118 : decode b_X2_halve 118 = .ok (.iconst 0, 1) := by decide +kernel
theorem d_X2_halve_119 : decode b_X2_halve 119 = .ok (.invokevirtual 82, 3) := by decide +kernel
theorem d_X2_halve_122 : decode b_X2_halve 122 = .ok (.return_, 1) := by decide +kernel
theorem d_X2_nearest_0 : decode b_X2_nearest 0 = .ok (.aload_n 0, 1) := by decide +kernel
theorem d_X2_nearest_1 : decode b_X2_nearest 1 = .ok (.iload_n 1, 1) := by decide +kernel
theorem d_X2_nearest_2 : decode b_X2_nearest 2 = .ok (.invokestatic 62, 3) := by decide +kernel
theorem d_X2_nearest_5 : decode b_X2_nearest 5 = .ok (.ifCond .ne 7, 3) := by decide +kernel
theorem d_X2_nearest_8 : decode b_X2_nearest 8 = .ok (.iconst 1, 1) := by decide +kernel
theorem d_X2_nearest_9 : decode b_X2_nearest 9 = .ok (.goto 19, 3) := by decide +kernel
theorem d_X2_nearest_12 : decode b_X2_nearest 12 = .ok (.iload_n 2, 1) := by decide +kernel
theorem d_X2_nearest_13 : decode b_X2_nearest 13 = .ok (.ifCond .lt 10, 3) := by decide +kernel
theorem d_X2_nearest_16 : decode b_X2_nearest 16 = .ok (.iload_n 2, 1) := by decide +kernel
theorem d_X2_nearest_17 : decode b_X2_nearest 17 = .ok (.sipush 8192, 3) := by decide +kernel
theorem d_X2_nearest_20 : decode b_X2_nearest 20 = .ok (.if_icmp .le 7, 3) := by decide +kernel
theorem d_X2_nearest_23 : decode b_X2_nearest 23 = .ok (.iconst 2, 1) := by decide +kernel
theorem d_X2_nearest_24 : decode b_X2_nearest 24 = .ok (.goto 4, 3) := by decide +kernel
theorem d_X2_nearest_27 : decode b_X2_nearest 27 = .ok (.iconst 0, 1) := by decide +kernel
theorem d_X2_nearest_28 : decode b_X2_nearest 28 = .ok (.invokevirtual 65, 3) := by decide +kernel
theorem d_X2_nearest_31 : decode b_X2_nearest 31 = .ok (.ifCond .eq 5, 3) := by decide +kernel
theorem d_X2_nearest_34 : decode b_X2_nearest 34 = .ok (.iconst 0, 1) := by decide +kernel
theorem d_X2_nearest_35 : decode b_X2_nearest 35 = .ok (.ireturn, 1) := by decide +kernel
theorem d_X2_nearest_36 : decode b_X2_nearest 36 = .ok (.aload_n 0, 1) := by decide +kernel
theorem d_X2_nearest_37 : decode b_X2_nearest 37 = .ok (.iconst 0, 1) := by decide +kernel
theorem d_X2_nearest_38 : decode b_X2_nearest 38 = .ok (.iload_n 1, 1) := by decide +kernel
theorem d_X2_nearest_39 : decode b_X2_nearest 39 = .ok (.invokevirtual 53, 3) := by decide +kernel
theorem d_X2_nearest_42 : decode b_X2_nearest 42 = .ok (.iload_n 2, 1) := by decide +kernel
theorem d_X2_nearest_43 : decode b_X2_nearest 43 = .ok (.ifCond .le 28, 3) := by decide +kernel
theorem d_X2_nearest_46 : decode b_X2_nearest 46 = .ok (.aload_n 0, 1) := by decide +kernel
theorem d_X2_nearest_47 : decode b_X2_nearest 47 = .ok (.getfield 17, 3) := by decide +kernel
theorem d_X2_nearest_50 : decode b_X2_nearest 50 = .ok (.iconst 0, 1) := by decide +kernel
theorem d_X2_nearest_51 : decode b_X2_nearest 51 = .ok (.iaload, 1) := by decide +kernel
theorem d_X2_nearest_52 : decode b_X2_nearest 52 = .ok (.ifCond .eq 19, 3) := by decide +kernel
theorem d_X2_nearest_55 : decode b_X2_nearest 55 = .ok (.aload_n 0, 1) := by decide +kernel
theorem d_X2_nearest_56 : decode b_X2_nearest 56 = .ok (.iconst 0, 1) := by decide +kernel
theorem d_X2_nearest_57 : decode b_X2_nearest 57 = .ok (.iload_n 2, 1) := by decide +kernel
theorem d_X2_nearest_58 : decode b_X2_nearest 58 = .ok (.iconst 1, 1) := by decide +kernel
theorem d_X2_nearest_59 : decode b_X2_nearest 59 = .ok (.isub, 1) := by decide +kernel
theorem d_X2_nearest_60 : decode b_X2_nearest 60 = .ok (.invokevirtual 39, 3) := by decide +kernel
theorem d_X2_nearest_63 : decode b_X2_nearest 63 = .ok (.iconst 1, 1) := by decide +kernel
theorem d_X2_nearest_64 : decode b_X2_nearest 64 = .ok (.if_icmp .ne 7, 3) := by decide +kernel
theorem d_X2_nearest_67 : decode b_X2_nearest 67 = .ok (.iconst 1, 1) := by decide +kernel
theorem d_X2_nearest_68 : decode b_X2_nearest 68 = .ok (.goto 4, 3) := by decide +kernel
theorem d_X2_nearest_71 : decode b_X2_nearest 71 = .ok (.iconst 0, 1) := by decide +kernel
theorem d_X2_nearest_72 : decode b_X2_nearest 72 = .ok (.istore_n 3, 1) := by decide +kernel
theorem d_X2_nearest_73 : decode b_X2_nearest 73 = .ok (.iload_n 3, 1) := by decide +kernel
theorem d_X2_nearest_74 : decode b_X2_nearest 74 = .ok (.ifCond .eq 28, 3) := by decide +kernel
theorem d_X2_nearest_77 : decode b_X2_nearest 77 = .ok (.aload_n 0, 1) := by decide +kernel
theorem d_X2_nearest_78 : decode b_X2_nearest 78 = .ok (.iconst 0, 1) := by decide +kernel
theorem d_X2_nearest_79 : decode b_X2_nearest 79 = .ok (.invokevirtual 47, 3) := by decide +kernel
theorem d_X2_nearest_82 : decode b_X2_nearest 82 = .ok (.iload_n 2, 1) := by decide +kernel
theorem d_X2_nearest_83 : decode b_X2_nearest 83 = .ok (.iconst 1, 1) := by decide +kernel
theorem d_X2_nearest_84 : decode b_X2_nearest 84 = .ok (.isub, 1) := by decide +kernel
theorem d_X2_nearest_85 : decode b_X2_nearest 85 = .ok (.if_icmp .lt 13, 3) := by decide +kernel
theorem d_X2_nearest_88 : decode b_X2_nearest 88 = .ok (.aload_n 0, 1) := by decide +kernel
theorem d_X2_nearest_89 : decode b_X2_nearest 89 = .ok (.iconst 0, 1) := by decide +kernel
theorem d_X2_nearest_90 : decode b_X2_nearest 90 = .ok (.iload_n 2, 1) := by decide +kernel
theorem d_X2_nearest_91 : decode b_X2_nearest 91 = .ok (.invokevirtual 39, 3) := by decide +kernel
theorem d_X2_nearest_94 : decode b_X2_nearest 94 = .ok (.iconst 1, 1) := by decide +kernel
theorem d_X2_nearest_95 : decode b_X2_nearest 95 = .ok (.if_icmp .ne 7, 3) := by decide +kernel
theorem d_X2_nearest_98 : decode b_X2_nearest 98 = .ok (.iconst 1, 1) := by decide +kernel
theorem d_X2_nearest_99 : decode b_X2_nearest 99 = .ok (.goto 4, 3) := by decide +kernel
theorem d_X2_nearest_102 : decode b_X2_nearest 102 = .ok (.iconst 0, 1) := by decide +kernel
theorem d_X2_nearest_103 : decode b_X2_nearest 103 = .ok (.istore 4, 2) := by decide +kernel
theorem d_X2_nearest_105 : decode b_X2_nearest 105 = .ok (.aload_n 0, 1) := by decide +kernel
theorem d_X2_nearest_106 : decode b_X2_nearest 106 = .ok (.iload_n 2, 1) := by decide +kernel
theorem d_X2_nearest_107 : decode b_X2_nearest 107 = .ok (.iload 4, 2) := by decide +kernel
theorem d_X2_nearest_109 : decode b_X2_nearest 109 = .ok (.invokevirtual 100, 3) := by decide +kernel
theorem d_X2_nearest_112 : decode b_X2_nearest 112 = .ok (.aload_n 0, 1) := by decide +kernel
theorem d_X2_nearest_113 : decode b_X2_nearest 113 = .ok (.iload_n 1, 1) := by decide +kernel
theorem d_X2_nearest_114 : decode b_X2_nearest 114 = .ok (.iconst 1, 1) := by decide +kernel
theorem d_X2_nearest_115 : decode b_X2_nearest 115 = .ok (.invokevirtual 86, 3) := by decide +kernel
theorem d_X2_nearest_118 : decode b_X2_nearest 118 = .ok (.ireturn, 1) := by decide +kernel
theorem d_X2_divide_0 : decode b_X2_divide 0 = .ok (.aload_n 0, 1) := by decide +kernel
theorem d_X2_divide_1 : decode b_X2_divide 1 = .ok (.iload_n 1, 1) := by decide +kernel
theorem d_X2_divide_2 : decode b_X2_divide 2 = .ok (.invokestatic 62, 3) := by decide +kernel
theorem d_X2_divide_5 : decode b_X2_divide 5 = .ok (.ifCond .ne 7, 3) := by decide +kernel
theorem d_X2_divide_8 : decode b_X2_divide 8 = .ok (.iconst 1, 1) := by decide +kernel
theorem d_X2_divide_9 : decode b_X2_divide 9 = .ok (.goto 22, 3) := by decide +kernel
theorem d_X2_divide_12 : decode b_X2_divide 12 = .ok (.lload_n 2, 1) := by decide +kernel
theorem d_X2_divide_13 : decode b_X2_divide 13 = .ok (.lconst 1, 1) := by decide +kernel
theorem d_X2_divide_14 : decode b_X2_divide 14 = .ok (.lcmp, 1) := by decide +kernel
theorem d_X2_divide_15 : decode b_X2_divide 15 = .ok (.ifCond .lt 11, 3) := by decide +kernel
theorem d_X2_divide_18 : decode b_X2_divide 18 = .ok (.lload_n 2, 1) := by decide +kernel
theorem d_X2_divide_19 : decode b_X2_divide 19 = .ok (.ldc2_w 104, 3) := by decide +kernel
theorem d_X2_divide_22 : decode b_X2_divide 22 = .ok (.lcmp, 1) := by decide +kernel
theorem d_X2_divide_23 : decode b_X2_divide 23 = .ok (.ifCond .le 7, 3) := by decide +kernel
theorem d_X2_divide_26 : decode b_X2_divide 26 = .ok (.iconst 2, 1) := by decide +kernel
theorem d_X2_divide_27 : decode b_X2_divide 27 = .ok (.goto 4, 3) := by decide +kernel
theorem d_X2_divide_30 : decode b_X2_divide 30 = .ok (.iconst 0, 1) := by decide +kernel
theorem d_X2_divide_31 : decode b_X2_divide 31 = .ok (.invokevirtual 65, 3) := by decide +kernel
theorem d_X2_divide_34 : decode b_X2_divide 34 = .ok (.ifCond .eq 5, 3) := by decide +kernel
theorem d_X2_divide_37 : decode b_X2_divide 37 = .ok (.lconst 0, 1) := by decide +kernel
theorem d_X2_divide_38 : decode b_X2_divide 38 = .ok (.lreturn, 1) := by decide +kernel
theorem d_X2_divide_39 : decode b_X2_divide 39 = .ok (.aload_n 0, 1) := by decide +kernel
theorem d_X2_divide_40 : decode b_X2_divide 40 = .ok (.iconst 0, 1) := by decide +kernel
theorem d_X2_divide_41 : decode b_X2_divide 41 = .ok (.iload_n 1, 1) := by decide +kernel
theorem d_X2_divide_42 : decode b_X2_divide 42 = .ok (.invokevirtual 53, 3) := by decide +kernel
theorem d_X2_divide_45 : decode b_X2_divide 45 = .ok (.aload_n 0, 1) := by decide +kernel
theorem d_X2_divide_46 : decode b_X2_divide 46 = .ok (.iconst 1, 1) := by decide +kernel
theorem d_X2_divide_47 : decode b_X2_divide 47 = .ok (.invokevirtual 27, 3) := by decide +kernel
theorem d_X2_divide_50 : decode b_X2_divide 50 = .ok (.lconst 0, 1) := by decide +kernel
theorem d_X2_divide_51 : decode b_X2_divide 51 = .ok (.lstore 4, 2) := by decide +kernel
theorem d_X2_divide_53 : decode b_X2_divide 53 = .ok (.aload_n 0, 1) := by decide +kernel
theorem d_X2_divide_54 : decode b_X2_divide 54 = .ok (.iconst 0, 1) := by decide +kernel
theorem d_X2_divide_55 : decode b_X2_divide 55 = .ok (.invokevirtual 43, 3) := by decide +kernel
theorem d_X2_divide_58 : decode b_X2_divide 58 = .ok (.iconst 1, 1) := by decide +kernel
theorem d_X2_divide_59 : decode b_X2_divide 59 = .ok (.isub, 1) := by decide +kernel
theorem d_X2_divide_60 : decode b_X2_divide 60 = .ok (.istore 6, 2) := by decide +kernel
theorem d_X2_divide_62 : decode b_X2_divide 62 = .ok (.iload 6, 2) := by decide +kernel
theorem d_X2_divide_64 : decode b_X2_divide 64 = .ok (.ifCond .lt 75, 3) := by decide +kernel
theorem d_X2_divide_67 : decode b_X2_divide 67 = .ok (.ldc2_w 106, 3) := by decide +kernel
theorem d_X2_divide_70 : decode b_X2_divide 70 = .ok (.lload 4, 2) := by decide +kernel
theorem d_X2_divide_72 : decode b_X2_divide 72 = .ok (.lmul, 1) := by decide +kernel
theorem d_X2_divide_73 : decode b_X2_divide 73 = .ok (.aload_n 0, 1) := by decide +kernel
theorem d_X2_divide_74 : decode b_X2_divide 74 = .ok (.iconst 0, 1) := by decide +kernel
theorem d_X2_divide_75 : decode b_X2_divide 75 = .ok (.iload 6, 2) := by decide +kernel
theorem d_X2_divide_77 : decode b_X2_divide 77 = .ok (.invokevirtual 39, 3) := by decide +kernel
theorem d_X2_divide_80 : decode b_X2_divide 80 = .ok (.i2l, 1) := by decide +kernel
theorem d_X2_divide_81 : decode b_X2_divide 81 = .ok (.ladd, 1) := by decide +kernel
theorem d_X2_divide_82 : decode b_X2_divide 82 = .ok (.lstore 4, 2) := by decide +kernel
theorem d_X2_divide_84 : decode b_X2_divide 84 = .ok (.lload 4, 2) := by decide +kernel
theorem d_X2_divide_86 : decode b_X2_divide 86 = .ok (.lload_n 2, 1) := by decide +kernel
theorem d_X2_divide_87 : decode b_X2_divide 87 = .ok (.lcmp, 1) := by decide +kernel
theorem d_X2_divide_88 : decode b_X2_divide 88 = .ok (.ifCond .lt 45, 3) := by decide +kernel
theorem d_X2_divide_91 : decode b_X2_divide 91 = .ok (.lload 4, 2) := by decide +kernel
theorem d_X2_divide_93 : decode b_X2_divide 93 = .ok (.lload_n 2, 1) := by decide +kernel
theorem d_X2_divide_94 : decode b_X2_divide 94 = .ok (.lsub, 1) := by decide +kernel
theorem d_X2_divide_95 : decode b_X2_divide 95 = .ok (.lstore 4, 2) := by decide +kernel
theorem d_X2_divide_97 : decode b_X2_divide 97 = .ok (.aload_n 0, 1) := by decide +kernel
theorem d_X2_divide_98 : decode b_X2_divide 98 = .ok (.getfield 20, 3) := by decide +kernel
theorem d_X2_divide_101 : decode b_X2_divide 101 = .ok (.sipush 1100, 3) := by decide +kernel
theorem d_X2_divide_104 : decode b_X2_divide 104 = .ok (.iload 6, 2) := by decide +kernel
theorem d_X2_divide_106 : decode b_X2_divide 106 = .ok (.bipush 16, 2) := by decide +kernel
theorem d_X2_divide_108 : decode b_X2_divide 108 = .ok (.idiv, 1) := by decide +kernel
theorem d_X2_divide_109 : decode b_X2_divide 109 = .ok (.iadd, 1) := by decide +kernel
theorem d_X2_divide_110 : decode b_X2_divide 110 = .ok (.aload_n 0, 1) := by decide +kernel
theorem d_X2_divide_111 : decode b_X2_divide 111 = .ok (.getfield 20, 3) := by decide +kernel
theorem d_X2_divide_114 : decode b_X2_divide 114 = .ok (.sipush 1100, 3) := by decide +kernel
theorem d_X2_divide_117 : decode b_X2_divide 117 = .ok (.iload 6, 2) := by decide +kernel
theorem d_X2_divide_119 : decode b_X2_divide 119 = .ok (.bipush 16, 2) := by decide +kernel
theorem d_X2_divide_121 : decode b_X2_divide 121 = .ok (.idiv, 1) := by decide +kernel
theorem d_X2_divide_122 : decode b_X2_divide 122 = .ok (.iadd, 1) := by decide +kernel
theorem d_X2_divide_123 : decode b_X2_divide 123 = .ok (.iaload, 1) := by decide +kernel
theorem d_X2_divide_124 : decode b_X2_divide 124 = .ok (.iconst 1, 1) := by decide +kernel
theorem d_X2_divide_125 : decode b_X2_divide 125 = .ok (.iload 6, 2) := by decide +kernel
theorem d_X2_divide_127 : decode b_X2_divide 127 = .ok (.bipush 16, 2) := by decide +kernel
theorem d_X2_divide_129 : decode b_X2_divide 129 = .ok (.irem, 1) := by decide +kernel
theorem d_X2_divide_130 : decode b_X2_divide 130 = .ok (.ishl, 1) := by decide +kernel
theorem d_X2_divide_131 : decode b_X2_divide 131 = .ok (.ior, 1) := by decide +kernel
theorem d_X2_divide_132 : decode b_X2_divide 132 = .ok (.iastore, 1) := by decide +kernel
theorem d_X2_divide_133 : decode b_X2_divide 133 = .ok (.iinc 6 (-1), 3) := by decide +kernel
theorem d_X2_divide_136 : decode b_X2_divide 136 = .ok (.goto (-74), 3) := by decide +kernel
theorem d_X2_divide_139 : decode b_X2_divide 139 = .ok (.aload_n 0, 1) := by decide +kernel
theorem d_X2_divide_140 : decode b_X2_divide 140 = .ok (.getfield 17, 3) := by decide +kernel
theorem d_X2_divide_143 : decode b_X2_divide 143 = .ok (.iconst 0, 1) := by decide +kernel
theorem d_X2_divide_144 : decode b_X2_divide 144 = .ok (.iaload, 1) := by decide +kernel
theorem d_X2_divide_145 : decode b_X2_divide 145 = .ok (.ifCond .ge 7, 3) := by decide +kernel
theorem d_X2_divide_148 : decode b_X2_divide 148 = .ok (.iconst 1, 1) := by decide +kernel
theorem d_X2_divide_149 : decode b_X2_divide 149 = .ok (.goto 4, 3) := by decide +kernel
theorem d_X2_divide_152 : decode b_X2_divide 152 = .ok (.iconst 0, 1) := by decide +kernel
theorem d_X2_divide_153 : decode b_X2_divide 153 = .ok (.istore 6, 2) := by decide +kernel
theorem d_X2_divide_155 : decode b_X2_divide 155 = .ok (.aload_n 0, 1) := by decide +kernel
theorem d_X2_divide_156 : decode b_X2_divide 156 = .ok (.getfield 17, 3) := by decide +kernel
theorem d_X2_divide_159 : decode b_X2_divide 159 = .ok (.iconst 1, 1) := by decide +kernel
theorem d_X2_divide_160 : decode b_X2_divide 160 = .ok (.aload_n 0, 1) := by decide +kernel
theorem d_X2_divide_161 : decode b_X2_divide 161 = .ok (.iconst 1, 1) := by decide +kernel
theorem d_X2_divide_162 : decode b_X2_divide 162 = .ok (.invokevirtual 43, 3) := by decide +kernel
theorem d_X2_divide_165 : decode b_X2_divide 165 = .ok (.ifCond .ne 7, 3) := by decide +kernel
theorem d_X2_divide_168 : decode b_X2_divide 168 = .ok (.iconst 0, 1) := by decide +kernel
theorem d_X2_divide_169 : decode b_X2_divide 169 = .ok (.goto 9, 3) := by decide +kernel
theorem d_X2_divide_172 : decode b_X2_divide 172 = .ok (.aload_n 0, 1) := by decide +kernel
theorem d_X2_divide_173 : decode b_X2_divide 173 = .ok (.getfield 17, 3) := by decide +kernel
theorem d_X2_divide_176 : decode b_X2_divide 176 = .ok (.iconst 0, 1) := by decide +kernel
theorem d_X2_divide_177 : decode b_X2_divide 177 = .ok (.iaload, 1) := by decide +kernel
theorem d_X2_divide_178 : decode b_X2_divide 178 = .ok (.iastore, 1) := by decide +kernel
theorem d_X2_divide_179 : decode b_X2_divide 179 = .ok (.iload 6, 2) := by decide +kernel
theorem d_X2_divide_181 : decode b_X2_divide 181 = .ok (.ifCond .eq 31, 3) := by decide +kernel
theorem d_X2_divide_184 : decode b_X2_divide 184 = .ok (.lload 4, 2) := by decide +kernel
theorem d_X2_divide_186 : decode b_X2_divide 186 = .ok (.lconst 0, 1) := by decide +kernel
theorem d_X2_divide_187 : decode b_X2_divide 187 = .ok (.lcmp, 1) := by decide +kernel
theorem d_X2_divide_188 : decode b_X2_divide 188 = .ok (.ifCond .le 24, 3) := by decide +kernel
theorem d_X2_divide_191 : decode b_X2_divide 191 = .ok (.aload_n 0, 1) := by decide +kernel
theorem d_X2_divide_192 : decode b_X2_divide 192 = .ok (.iconst 2, 1) := by decide +kernel
theorem d_X2_divide_193 : decode b_X2_divide 193 = .ok (.ldc2_w 108, 3) := by decide +kernel
theorem d_X2_divide_196 : decode b_X2_divide 196 = .ok (.invokevirtual 72, 3) := by decide +kernel
theorem d_X2_divide_199 : decode b_X2_divide 199 = .ok (.aload_n 0, 1) := by decide +kernel
theorem d_X2_divide_200 : decode b_X2_divide 200 = .ok (.iconst 1, 1) := by decide +kernel
theorem d_X2_divide_201 : decode b_X2_divide 201 = .ok (.iconst 2, 1) := by decide +kernel
theorem d_X2_divide_202 : decode b_X2_divide 202 = .ok (.iconst 0, 1) := by decide +kernel
theorem d_X2_divide_203 : decode b_X2_divide 203 = .ok (.invokevirtual 82, 3) := by decide +kernel
theorem d_X2_divide_206 : decode b_X2_divide 206 = .ok (.lload_n 2, 1) := by decide +kernel
theorem d_X2_divide_207 : decode b_X2_divide 207 = .ok (.lload 4, 2) := by decide +kernel
theorem d_X2_divide_209 : decode b_X2_divide 209 = .ok (.lsub, 1) := by decide +kernel
theorem d_X2_divide_210 : decode b_X2_divide 210 = .ok (.lstore 4, 2) := by decide +kernel
theorem d_X2_divide_212 : decode b_X2_divide 212 = .ok (.aload_n 0, 1) := by decide +kernel
theorem d_X2_divide_213 : decode b_X2_divide 213 = .ok (.iload_n 1, 1) := by decide +kernel
theorem d_X2_divide_214 : decode b_X2_divide 214 = .ok (.iconst 1, 1) := by decide +kernel
theorem d_X2_divide_215 : decode b_X2_divide 215 = .ok (.invokevirtual 68, 3) := by decide +kernel
theorem d_X2_divide_218 : decode b_X2_divide 218 = .ok (.pop, 1) := by decide +kernel
theorem d_X2_divide_219 : decode b_X2_divide 219 = .ok (.lload 4, 2) := by decide +kernel
theorem d_X2_divide_221 : decode b_X2_divide 221 = .ok (.lreturn, 1) := by decide +kernel
theorem d_X2_zeros_0 : decode b_X2_zeros 0 = .ok (.aload_n 0, 1) := by decide +kernel
theorem d_X2_zeros_1 : decode b_X2_zeros 1 = .ok (.iload_n 1, 1) := by decide +kernel
theorem d_X2_zeros_2 : decode b_X2_zeros 2 = .ok (.invokestatic 62, 3) := by decide +kernel
theorem d_X2_zeros_5 : decode b_X2_zeros 5 = .ok (.ifCond .eq 7, 3) := by decide +kernel
theorem d_X2_zeros_8 : decode b_X2_zeros 8 = .ok (.iconst 0, 1) := by decide +kernel
theorem d_X2_zeros_9 : decode b_X2_zeros 9 = .ok (.goto 4, 3) := by decide +kernel
theorem d_X2_zeros_12 : decode b_X2_zeros 12 = .ok (.iconst 1, 1) := by decide +kernel
theorem d_X2_zeros_13 : decode b_X2_zeros 13 = .ok (.invokevirtual 65, 3) := by decide +kernel
theorem d_X2_zeros_16 : decode b_X2_zeros 16 = .ok (.ifCond .eq 5, 3) := by decide +kernel
theorem d_X2_zeros_19 : decode b_X2_zeros 19 = .ok (.iconst 0, 1) := by decide +kernel
theorem d_X2_zeros_20 : decode b_X2_zeros 20 = .ok (.ireturn, 1) := by decide +kernel
theorem d_X2_zeros_21 : decode b_X2_zeros 21 = .ok (.aload_n 0, 1) := by decide +kernel
theorem d_X2_zeros_22 : decode b_X2_zeros 22 = .ok (.iconst 0, 1) := by decide +kernel
theorem d_X2_zeros_23 : decode b_X2_zeros 23 = .ok (.iload_n 1, 1) := by decide +kernel
theorem d_X2_zeros_24 : decode b_X2_zeros 24 = .ok (.invokevirtual 53, 3) := by decide +kernel
theorem d_X2_zeros_27 : decode b_X2_zeros 27 = .ok (.aload_n 0, 1) := by decide +kernel
theorem d_X2_zeros_28 : decode b_X2_zeros 28 = .ok (.getfield 17, 3) := by decide +kernel
theorem d_X2_zeros_31 : decode b_X2_zeros 31 = .ok (.iconst 0, 1) := by decide +kernel
theorem d_X2_zeros_32 : decode b_X2_zeros 32 = .ok (.iaload, 1) := by decide +kernel
theorem d_X2_zeros_33 : decode b_X2_zeros 33 = .ok (.ifCond .ne 15, 3) := by decide +kernel
theorem d_X2_zeros_36 : decode b_X2_zeros 36 = .ok (.bipush 32, 2) := by decide +kernel
theorem d_X2_zeros_38 : decode b_X2_zeros 38 = .ok (.aload_n 0, 1) := by decide +kernel
theorem d_X2_zeros_39 : decode b_X2_zeros 39 = .ok (.getfield 7, 3) := by decide +kernel
theorem d_X2_zeros_42 : decode b_X2_zeros 42 = .ok (.iload_n 1, 1) := by decide +kernel
theorem d_X2_zeros_43 : decode b_X2_zeros 43 = .ok (.iaload, 1) := by decide +kernel
theorem d_X2_zeros_44 : decode b_X2_zeros 44 = .ok (.imul, 1) := by decide +kernel
theorem d_X2_zeros_45 : decode b_X2_zeros 45 = .ok (.goto 8, 3) := by decide +kernel
theorem d_X2_zeros_48 : decode b_X2_zeros 48 = .ok (.aload_n 0, 1) := by decide +kernel
theorem d_X2_zeros_49 : decode b_X2_zeros 49 = .ok (.iconst 0, 1) := by decide +kernel
theorem d_X2_zeros_50 : decode b_X2_zeros 50 = .ok (.invokevirtual 47, 3) := by decide +kernel
theorem d_X2_zeros_53 : decode b_X2_zeros 53 = .ok (.ireturn, 1) := by decide +kernel
theorem d_X2_length_0 : decode b_X2_length 0 = .ok (.aload_n 0, 1) := by decide +kernel
theorem d_X2_length_1 : decode b_X2_length 1 = .ok (.iload_n 1, 1) := by decide +kernel
theorem d_X2_length_2 : decode b_X2_length 2 = .ok (.invokestatic 62, 3) := by decide +kernel
theorem d_X2_length_5 : decode b_X2_length 5 = .ok (.ifCond .eq 7, 3) := by decide +kernel
theorem d_X2_length_8 : decode b_X2_length 8 = .ok (.iconst 0, 1) := by decide +kernel
theorem d_X2_length_9 : decode b_X2_length 9 = .ok (.goto 4, 3) := by decide +kernel
theorem d_X2_length_12 : decode b_X2_length 12 = .ok (.iconst 1, 1) := by decide +kernel
theorem d_X2_length_13 : decode b_X2_length 13 = .ok (.invokevirtual 65, 3) := by decide +kernel
theorem d_X2_length_16 : decode b_X2_length 16 = .ok (.ifCond .eq 5, 3) := by decide +kernel
theorem d_X2_length_19 : decode b_X2_length 19 = .ok (.iconst 0, 1) := by decide +kernel
theorem d_X2_length_20 : decode b_X2_length 20 = .ok (.ireturn, 1) := by decide +kernel
theorem d_X2_length_21 : decode b_X2_length 21 = .ok (.aload_n 0, 1) := by decide +kernel
theorem d_X2_length_22 : decode b_X2_length 22 = .ok (.iconst 0, 1) := by decide +kernel
theorem d_X2_length_23 : decode b_X2_length 23 = .ok (.iload_n 1, 1) := by decide +kernel
theorem d_X2_length_24 : decode b_X2_length 24 = .ok (.invokevirtual 53, 3) := by decide +kernel
theorem d_X2_length_27 : decode b_X2_length 27 = .ok (.aload_n 0, 1) := by decide +kernel
theorem d_X2_length_28 : decode b_X2_length 28 = .ok (.iconst 0, 1) := by decide +kernel
theorem d_X2_length_29 : decode b_X2_length 29 = .ok (.invokevirtual 50, 3) := by decide +kernel
theorem d_X2_length_32 : decode b_X2_length 32 = .ok (.ireturn, 1) := by decide +kernel
theorem d_X2_sign_0 : decode b_X2_sign 0 = .ok (.aload_n 0, 1) := by decide +kernel
theorem d_X2_sign_1 : decode b_X2_sign 1 = .ok (.iload_n 1, 1) := by decide +kernel
theorem d_X2_sign_2 : decode b_X2_sign 2 = .ok (.invokestatic 62, 3) := by decide +kernel
theorem d_X2_sign_5 : decode b_X2_sign 5 = .ok (.ifCond .eq 7, 3) := by decide +kernel
theorem d_X2_sign_8 : decode b_X2_sign 8 = .ok (.iconst 0, 1) := by decide +kernel
theorem d_X2_sign_9 : decode b_X2_sign 9 = .ok (.goto 4, 3) := by decide +kernel
theorem d_X2_sign_12 : decode b_X2_sign 12 = .ok (.iconst 1, 1) := by decide +kernel
theorem d_X2_sign_13 : decode b_X2_sign 13 = .ok (.invokevirtual 65, 3) := by decide +kernel
theorem d_X2_sign_16 : decode b_X2_sign 16 = .ok (.ifCond .eq 7, 3) := by decide +kernel
theorem d_X2_sign_19 : decode b_X2_sign 19 = .ok (.iconst 0, 1) := by decide +kernel
theorem d_X2_sign_20 : decode b_X2_sign 20 = .ok (.goto 8, 3) := by decide +kernel
theorem d_X2_sign_23 : decode b_X2_sign 23 = .ok (.aload_n 0, 1) := by decide +kernel
theorem d_X2_sign_24 : decode b_X2_sign 24 = .ok (.iload_n 1, 1) := by decide +kernel
theorem d_X2_sign_25 : decode b_X2_sign 25 = .ok (.invokevirtual 79, 3) := by decide +kernel
theorem d_X2_sign_28 : decode b_X2_sign 28 = .ok (.ireturn, 1) := by decide +kernel
theorem d_X2_compare_0 : decode b_X2_compare 0 = .ok (.aload_n 0, 1) := by decide +kernel
theorem d_X2_compare_1 : decode b_X2_compare 1 = .ok (.iload_n 1, 1) := by decide +kernel
theorem d_X2_compare_2 : decode b_X2_compare 2 = .ok (.invokestatic 62, 3) := by decide +kernel
theorem d_X2_compare_5 : decode b_X2_compare 5 = .ok (.ifCond .eq 14, 3) := by decide +kernel
theorem d_X2_compare_8 : decode b_X2_compare 8 = .ok (.iload_n 2, 1) := by decide +kernel
theorem d_X2_compare_9 : decode b_X2_compare 9 = .ok (.invokestatic 62, 3) := by decide +kernel
theorem d_X2_compare_12 : decode b_X2_compare 12 = .ok (.ifCond .eq 7, 3) := by decide +kernel
theorem d_X2_compare_15 : decode b_X2_compare 15 = .ok (.iconst 0, 1) := by decide +kernel
theorem d_X2_compare_16 : decode b_X2_compare 16 = .ok (.goto 4, 3) := by decide +kernel
theorem d_X2_compare_19 : decode b_X2_compare 19 = .ok (.iconst 1, 1) := by decide +kernel
theorem d_X2_compare_20 : decode b_X2_compare 20 = .ok (.invokevirtual 65, 3) := by decide +kernel
theorem d_X2_compare_23 : decode b_X2_compare 23 = .ok (.ifCond .eq 5, 3) := by decide +kernel
theorem d_X2_compare_26 : decode b_X2_compare 26 = .ok (.iconst 0, 1) := by decide +kernel
theorem d_X2_compare_27 : decode b_X2_compare 27 = .ok (.ireturn, 1) := by decide +kernel
theorem d_X2_compare_28 : decode b_X2_compare 28 = .ok (.aload_n 0, 1) := by decide +kernel
theorem d_X2_compare_29 : decode b_X2_compare 29 = .ok (.iconst 0, 1) := by decide +kernel
theorem d_X2_compare_30 : decode b_X2_compare 30 = .ok (.iload_n 1, 1) := by decide +kernel
theorem d_X2_compare_31 : decode b_X2_compare 31 = .ok (.invokevirtual 53, 3) := by decide +kernel
theorem d_X2_compare_34 : decode b_X2_compare 34 = .ok (.aload_n 0, 1) := by decide +kernel
theorem d_X2_compare_35 : decode b_X2_compare 35 = .ok (.iconst 1, 1) := by decide +kernel
theorem d_X2_compare_36 : decode b_X2_compare 36 = .ok (.iload_n 2, 1) := by decide +kernel
theorem d_X2_compare_37 : decode b_X2_compare 37 = .ok (.invokevirtual 53, 3) := by decide +kernel
theorem d_X2_compare_40 : decode b_X2_compare 40 = .ok (.aload_n 0, 1) := by decide +kernel
theorem d_X2_compare_41 : decode b_X2_compare 41 = .ok (.iconst 0, 1) := by decide +kernel
theorem d_X2_compare_42 : decode b_X2_compare 42 = .ok (.iconst 1, 1) := by decide +kernel
theorem d_X2_compare_43 : decode b_X2_compare 43 = .ok (.iconst 1, 1) := by decide +kernel
theorem d_X2_compare_44 : decode b_X2_compare 44 = .ok (.invokevirtual 82, 3) := by decide +kernel
theorem d_X2_compare_47 : decode b_X2_compare 47 = .ok (.aload_n 0, 1) := by decide +kernel
theorem d_X2_compare_48 : decode b_X2_compare 48 = .ok (.getfield 17, 3) := by decide +kernel
theorem d_X2_compare_51 : decode b_X2_compare 51 = .ok (.iconst 0, 1) := by decide +kernel
theorem d_X2_compare_52 : decode b_X2_compare 52 = .ok (.iaload, 1) := by decide +kernel
theorem d_X2_compare_53 : decode b_X2_compare 53 = .ok (.ireturn, 1) := by decide +kernel
end
section
theorem d_L_widen_0 : decode b_L_widen 0 = .ok (.aload_n 3, 1) := by decide +kernel
theorem d_L_widen_1 : decode b_L_widen 1 = .ok (.iconst 0, 1) := by decide +kernel
theorem d_L_widen_2 : decode b_L_widen 2 = .ok (.aload_n 0, 1) := by decide +kernel
theorem d_L_widen_3 : decode b_L_widen 3 = .ok (.iload_n 1, 1) := by decide +kernel
theorem d_L_widen_4 : decode b_L_widen 4 = .ok (.iload_n 2, 1) := by decide +kernel
theorem d_L_widen_5 : decode b_L_widen 5 = .ok (.invokevirtual 7, 3) := by decide +kernel
theorem d_L_widen_8 : decode b_L_widen 8 = .ok (.ifCond .eq 7, 3) := by decide +kernel
theorem d_L_widen_11 : decode b_L_widen 11 = .ok (.lconst 1, 1) := by decide +kernel
theorem d_L_widen_12 : decode b_L_widen 12 = .ok (.goto 4, 3) := by decide +kernel
theorem d_L_widen_15 : decode b_L_widen 15 = .ok (.lconst 0, 1) := by decide +kernel
theorem d_L_widen_16 : decode b_L_widen 16 = .ok (.lastore, 1) := by decide +kernel
theorem d_L_widen_17 : decode b_L_widen 17 = .ok (.goto 11, 3) := by decide +kernel
theorem d_L_widen_20 : decode b_L_widen 20 = .ok (.astore 4, 2) := by decide +kernel
theorem d_L_widen_22 : decode b_L_widen 22 = .ok (.iconst 1, 1) := by decide +kernel
theorem d_L_widen_23 : decode b_L_widen 23 = .ok (.ireturn, 1) := by decide +kernel
theorem d_L_widen_24 : decode b_L_widen 24 = .ok (.astore 4, 2) := by decide +kernel
theorem d_L_widen_26 : decode b_L_widen 26 = .ok (.iconst 2, 1) := by decide +kernel
theorem d_L_widen_27 : decode b_L_widen 27 = .ok (.ireturn, 1) := by decide +kernel
theorem d_L_widen_28 : decode b_L_widen 28 = .ok (.iconst 0, 1) := by decide +kernel
theorem d_L_widen_29 : decode b_L_widen 29 = .ok (.ireturn, 1) := by decide +kernel
theorem d_L_width_0 : decode b_L_width 0 = .ok (.aload_n 2, 1) := by decide +kernel
theorem d_L_width_1 : decode b_L_width 1 = .ok (.iconst 0, 1) := by decide +kernel
theorem d_L_width_2 : decode b_L_width 2 = .ok (.aload_n 0, 1) := by decide +kernel
theorem d_L_width_3 : decode b_L_width 3 = .ok (.iload_n 1, 1) := by decide +kernel
theorem d_L_width_4 : decode b_L_width 4 = .ok (.invokevirtual 17, 3) := by decide +kernel
theorem d_L_width_7 : decode b_L_width 7 = .ok (.i2l, 1) := by decide +kernel
theorem d_L_width_8 : decode b_L_width 8 = .ok (.lastore, 1) := by decide +kernel
theorem d_L_width_9 : decode b_L_width 9 = .ok (.goto 6, 3) := by decide +kernel
theorem d_L_width_12 : decode b_L_width 12 = .ok (.astore_n 3, 1) := by decide +kernel
theorem d_L_width_13 : decode b_L_width 13 = .ok (.iconst 1, 1) := by decide +kernel
theorem d_L_width_14 : decode b_L_width 14 = .ok (.ireturn, 1) := by decide +kernel
theorem d_L_width_15 : decode b_L_width 15 = .ok (.iconst 0, 1) := by decide +kernel
theorem d_L_width_16 : decode b_L_width 16 = .ok (.ireturn, 1) := by decide +kernel
theorem d_L_set_0 : decode b_L_set 0 = .ok (.aload 4, 2) := by decide +kernel
theorem d_L_set_2 : decode b_L_set 2 = .ok (.iconst 0, 1) := by decide +kernel
theorem d_L_set_3 : decode b_L_set 3 = .ok (.aload_n 0, 1) := by decide +kernel
theorem d_L_set_4 : decode b_L_set 4 = .ok (.iload_n 1, 1) := by decide +kernel
theorem d_L_set_5 : decode b_L_set 5 = .ok (.lload_n 2, 1) := by decide +kernel
theorem d_L_set_6 : decode b_L_set 6 = .ok (.invokevirtual 21, 3) := by decide +kernel
theorem d_L_set_9 : decode b_L_set 9 = .ok (.ifCond .eq 7, 3) := by decide +kernel
theorem d_L_set_12 : decode b_L_set 12 = .ok (.lconst 1, 1) := by decide +kernel
theorem d_L_set_13 : decode b_L_set 13 = .ok (.goto 4, 3) := by decide +kernel
theorem d_L_set_16 : decode b_L_set 16 = .ok (.lconst 0, 1) := by decide +kernel
theorem d_L_set_17 : decode b_L_set 17 = .ok (.lastore, 1) := by decide +kernel
theorem d_L_set_18 : decode b_L_set 18 = .ok (.goto 7, 3) := by decide +kernel
theorem d_L_set_21 : decode b_L_set 21 = .ok (.astore 5, 2) := by decide +kernel
theorem d_L_set_23 : decode b_L_set 23 = .ok (.iconst 1, 1) := by decide +kernel
theorem d_L_set_24 : decode b_L_set 24 = .ok (.ireturn, 1) := by decide +kernel
theorem d_L_set_25 : decode b_L_set 25 = .ok (.iconst 0, 1) := by decide +kernel
theorem d_L_set_26 : decode b_L_set 26 = .ok (.ireturn, 1) := by decide +kernel
theorem d_L_put_0 : decode b_L_put 0 = .ok (.aload 4, 2) := by decide +kernel
theorem d_L_put_2 : decode b_L_put 2 = .ok (.iconst 0, 1) := by decide +kernel
theorem d_L_put_3 : decode b_L_put 3 = .ok (.aload_n 0, 1) := by decide +kernel
theorem d_L_put_4 : decode b_L_put 4 = .ok (.iload_n 1, 1) := by decide +kernel
theorem d_L_put_5 : decode b_L_put 5 = .ok (.iload_n 2, 1) := by decide +kernel
theorem d_L_put_6 : decode b_L_put 6 = .ok (.iload_n 3, 1) := by decide +kernel
theorem d_L_put_7 : decode b_L_put 7 = .ok (.invokevirtual 25, 3) := by decide +kernel
theorem d_L_put_10 : decode b_L_put 10 = .ok (.i2l, 1) := by decide +kernel
theorem d_L_put_11 : decode b_L_put 11 = .ok (.lastore, 1) := by decide +kernel
theorem d_L_put_12 : decode b_L_put 12 = .ok (.goto 7, 3) := by decide +kernel
theorem d_L_put_15 : decode b_L_put 15 = .ok (.astore 5, 2) := by decide +kernel
theorem d_L_put_17 : decode b_L_put 17 = .ok (.iconst 1, 1) := by decide +kernel
theorem d_L_put_18 : decode b_L_put 18 = .ok (.ireturn, 1) := by decide +kernel
theorem d_L_put_19 : decode b_L_put 19 = .ok (.iconst 0, 1) := by decide +kernel
theorem d_L_put_20 : decode b_L_put 20 = .ok (.ireturn, 1) := by decide +kernel
theorem d_L_limb_0 : decode b_L_limb 0 = .ok (.aload_n 3, 1) := by decide +kernel
theorem d_L_limb_1 : decode b_L_limb 1 = .ok (.iconst 0, 1) := by decide +kernel
theorem d_L_limb_2 : decode b_L_limb 2 = .ok (.aload_n 0, 1) := by decide +kernel
theorem d_L_limb_3 : decode b_L_limb 3 = .ok (.iload_n 1, 1) := by decide +kernel
theorem d_L_limb_4 : decode b_L_limb 4 = .ok (.iload_n 2, 1) := by decide +kernel
theorem d_L_limb_5 : decode b_L_limb 5 = .ok (.invokevirtual 29, 3) := by decide +kernel
theorem d_L_limb_8 : decode b_L_limb 8 = .ok (.i2l, 1) := by decide +kernel
theorem d_L_limb_9 : decode b_L_limb 9 = .ok (.lastore, 1) := by decide +kernel
theorem d_L_limb_10 : decode b_L_limb 10 = .ok (.goto 7, 3) := by decide +kernel
theorem d_L_limb_13 : decode b_L_limb 13 = .ok (.astore 4, 2) := by decide +kernel
theorem d_L_limb_15 : decode b_L_limb 15 = .ok (.iconst 1, 1) := by decide +kernel
theorem d_L_limb_16 : decode b_L_limb 16 = .ok (.ireturn, 1) := by decide +kernel
theorem d_L_limb_17 : decode b_L_limb 17 = .ok (.iconst 0, 1) := by decide +kernel
theorem d_L_limb_18 : decode b_L_limb 18 = .ok (.ireturn, 1) := by decide +kernel
theorem d_L_copy_0 : decode b_L_copy 0 = .ok (.aload_n 3, 1) := by decide +kernel
theorem d_L_copy_1 : decode b_L_copy 1 = .ok (.iconst 0, 1) := by decide +kernel
theorem d_L_copy_2 : decode b_L_copy 2 = .ok (.aload_n 0, 1) := by decide +kernel
theorem d_L_copy_3 : decode b_L_copy 3 = .ok (.iload_n 1, 1) := by decide +kernel
theorem d_L_copy_4 : decode b_L_copy 4 = .ok (.iload_n 2, 1) := by decide +kernel
theorem d_L_copy_5 : decode b_L_copy 5 = .ok (.invokevirtual 33, 3) := by decide +kernel
theorem d_L_copy_8 : decode b_L_copy 8 = .ok (.ifCond .eq 7, 3) := by decide +kernel
theorem d_L_copy_11 : decode b_L_copy 11 = .ok (.lconst 1, 1) := by decide +kernel
theorem d_L_copy_12 : decode b_L_copy 12 = .ok (.goto 4, 3) := by decide +kernel
theorem d_L_copy_15 : decode b_L_copy 15 = .ok (.lconst 0, 1) := by decide +kernel
theorem d_L_copy_16 : decode b_L_copy 16 = .ok (.lastore, 1) := by decide +kernel
theorem d_L_copy_17 : decode b_L_copy 17 = .ok (.goto 7, 3) := by decide +kernel
theorem d_L_copy_20 : decode b_L_copy 20 = .ok (.astore 4, 2) := by decide +kernel
theorem d_L_copy_22 : decode b_L_copy 22 = .ok (.iconst 1, 1) := by decide +kernel
theorem d_L_copy_23 : decode b_L_copy 23 = .ok (.ireturn, 1) := by decide +kernel
theorem d_L_copy_24 : decode b_L_copy 24 = .ok (.iconst 0, 1) := by decide +kernel
theorem d_L_copy_25 : decode b_L_copy 25 = .ok (.ireturn, 1) := by decide +kernel
theorem d_L_add_0 : decode b_L_add 0 = .ok (.aload_n 3, 1) := by decide +kernel
theorem d_L_add_1 : decode b_L_add 1 = .ok (.iconst 0, 1) := by decide +kernel
theorem d_L_add_2 : decode b_L_add 2 = .ok (.aload_n 0, 1) := by decide +kernel
theorem d_L_add_3 : decode b_L_add 3 = .ok (.iload_n 1, 1) := by decide +kernel
theorem d_L_add_4 : decode b_L_add 4 = .ok (.iload_n 2, 1) := by decide +kernel
theorem d_L_add_5 : decode b_L_add 5 = .ok (.invokevirtual 36, 3) := by decide +kernel
theorem d_L_add_8 : decode b_L_add 8 = .ok (.i2l, 1) := by decide +kernel
theorem d_L_add_9 : decode b_L_add 9 = .ok (.lastore, 1) := by decide +kernel
theorem d_L_add_10 : decode b_L_add 10 = .ok (.goto 7, 3) := by decide +kernel
theorem d_L_add_13 : decode b_L_add 13 = .ok (.astore 4, 2) := by decide +kernel
theorem d_L_add_15 : decode b_L_add 15 = .ok (.iconst 1, 1) := by decide +kernel
theorem d_L_add_16 : decode b_L_add 16 = .ok (.ireturn, 1) := by decide +kernel
theorem d_L_add_17 : decode b_L_add 17 = .ok (.iconst 0, 1) := by decide +kernel
theorem d_L_add_18 : decode b_L_add 18 = .ok (.ireturn, 1) := by decide +kernel
theorem d_L_subtract_0 : decode b_L_subtract 0 = .ok (.aload_n 3, 1) := by decide +kernel
theorem d_L_subtract_1 : decode b_L_subtract 1 = .ok (.iconst 0, 1) := by decide +kernel
theorem d_L_subtract_2 : decode b_L_subtract 2 = .ok (.aload_n 0, 1) := by decide +kernel
theorem d_L_subtract_3 : decode b_L_subtract 3 = .ok (.iload_n 1, 1) := by decide +kernel
theorem d_L_subtract_4 : decode b_L_subtract 4 = .ok (.iload_n 2, 1) := by decide +kernel
theorem d_L_subtract_5 : decode b_L_subtract 5 = .ok (.invokevirtual 39, 3) := by decide +kernel
theorem d_L_subtract_8 : decode b_L_subtract 8 = .ok (.i2l, 1) := by decide +kernel
theorem d_L_subtract_9 : decode b_L_subtract 9 = .ok (.lastore, 1) := by decide +kernel
theorem d_L_subtract_10 : decode b_L_subtract 10 = .ok (.goto 7, 3) := by decide +kernel
theorem d_L_subtract_13 : decode b_L_subtract 13 = .ok (.astore 4, 2) := by decide +kernel
theorem d_L_subtract_15 : decode b_L_subtract 15 = .ok (.iconst 1, 1) := by decide +kernel
theorem d_L_subtract_16 : decode b_L_subtract 16 = .ok (.ireturn, 1) := by decide +kernel
theorem d_L_subtract_17 : decode b_L_subtract 17 = .ok (.iconst 0, 1) := by decide +kernel
theorem d_L_subtract_18 : decode b_L_subtract 18 = .ok (.ireturn, 1) := by decide +kernel
theorem d_L_addProduct_0 : decode b_L_addProduct 0 = .ok (.aload 4, 2) := by decide +kernel
theorem d_L_addProduct_2 : decode b_L_addProduct 2 = .ok (.iconst 0, 1) := by decide +kernel
theorem d_L_addProduct_3 : decode b_L_addProduct 3 = .ok (.aload_n 0, 1) := by decide +kernel
theorem d_L_addProduct_4 : decode b_L_addProduct 4 = .ok (.iload_n 1, 1) := by decide +kernel
theorem d_L_addProduct_5 : decode b_L_addProduct 5 = .ok (.iload_n 2, 1) := by decide +kernel
theorem d_L_addProduct_6 : decode b_L_addProduct 6 = .ok (.iload_n 3, 1) := by decide +kernel
theorem d_L_addProduct_7 : decode b_L_addProduct 7 = .ok (.invokevirtual 42, 3) := by decide +kernel
theorem d_L_addProduct_10 : decode b_L_addProduct 10 = .ok (.i2l, 1) := by decide +kernel
theorem d_L_addProduct_11 : decode b_L_addProduct 11 = .ok (.lastore, 1) := by decide +kernel
theorem d_L_addProduct_12 : decode b_L_addProduct 12 = .ok (.goto 11, 3) := by decide +kernel
theorem d_L_addProduct_15 : decode b_L_addProduct 15 = .ok (.astore 5, 2) := by decide +kernel
theorem d_L_addProduct_17 : decode b_L_addProduct 17 = .ok (.iconst 1, 1) := by decide +kernel
theorem d_L_addProduct_18 : decode b_L_addProduct 18 = .ok (.ireturn, 1) := by decide +kernel
theorem d_L_addProduct_19 : decode b_L_addProduct 19 = .ok (.astore 5, 2) := by decide +kernel
theorem d_L_addProduct_21 : decode b_L_addProduct 21 = .ok (.iconst 2, 1) := by decide +kernel
theorem d_L_addProduct_22 : decode b_L_addProduct 22 = .ok (.ireturn, 1) := by decide +kernel
theorem d_L_addProduct_23 : decode b_L_addProduct 23 = .ok (.iconst 0, 1) := by decide +kernel
theorem d_L_addProduct_24 : decode b_L_addProduct 24 = .ok (.ireturn, 1) := by decide +kernel
theorem d_L_subtractProduct_0 : decode b_L_subtractProduct 0 = .ok (.aload 4, 2) := by decide +kernel
theorem d_L_subtractProduct_2 : decode b_L_subtractProduct 2 = .ok (.iconst 0, 1) := by decide +kernel
theorem d_L_subtractProduct_3 : decode b_L_subtractProduct 3 = .ok (.aload_n 0, 1) := by decide +kernel
theorem d_L_subtractProduct_4 : decode b_L_subtractProduct 4 = .ok (.iload_n 1, 1) := by decide +kernel
theorem d_L_subtractProduct_5 : decode b_L_subtractProduct 5 = .ok (.iload_n 2, 1) := by decide +kernel
theorem d_L_subtractProduct_6 : decode b_L_subtractProduct 6 = .ok (.iload_n 3, 1) := by decide +kernel
theorem d_L_subtractProduct_7 : decode b_L_subtractProduct 7 = .ok (.invokevirtual 45, 3) := by decide +kernel
theorem d_L_subtractProduct_10 : decode b_L_subtractProduct 10 = .ok (.i2l, 1) := by decide +kernel
theorem d_L_subtractProduct_11 : decode b_L_subtractProduct 11 = .ok (.lastore, 1) := by decide +kernel
theorem d_L_subtractProduct_12 : decode b_L_subtractProduct 12 = .ok (.goto 11, 3) := by decide +kernel
theorem d_L_subtractProduct_15 : decode b_L_subtractProduct 15 = .ok (.astore 5, 2) := by decide +kernel
theorem d_L_subtractProduct_17 : decode b_L_subtractProduct 17 = .ok (.iconst 1, 1) := by decide +kernel
theorem d_L_subtractProduct_18 : decode b_L_subtractProduct 18 = .ok (.ireturn, 1) := by decide +kernel
theorem d_L_subtractProduct_19 : decode b_L_subtractProduct 19 = .ok (.astore 5, 2) := by decide +kernel
theorem d_L_subtractProduct_21 : decode b_L_subtractProduct 21 = .ok (.iconst 2, 1) := by decide +kernel
theorem d_L_subtractProduct_22 : decode b_L_subtractProduct 22 = .ok (.ireturn, 1) := by decide +kernel
theorem d_L_subtractProduct_23 : decode b_L_subtractProduct 23 = .ok (.iconst 0, 1) := by decide +kernel
theorem d_L_subtractProduct_24 : decode b_L_subtractProduct 24 = .ok (.ireturn, 1) := by decide +kernel
theorem d_L_times_0 : decode b_L_times 0 = .ok (.aload 4, 2) := by decide +kernel
theorem d_L_times_2 : decode b_L_times 2 = .ok (.iconst 0, 1) := by decide +kernel
theorem d_L_times_3 : decode b_L_times 3 = .ok (.aload_n 0, 1) := by decide +kernel
theorem d_L_times_4 : decode b_L_times 4 = .ok (.iload_n 1, 1) := by decide +kernel
theorem d_L_times_5 : decode b_L_times 5 = .ok (.lload_n 2, 1) := by decide +kernel
theorem d_L_times_6 : decode b_L_times 6 = .ok (.invokevirtual 48, 3) := by decide +kernel
theorem d_L_times_9 : decode b_L_times 9 = .ok (.i2l, 1) := by decide +kernel
theorem d_L_times_10 : decode b_L_times 10 = .ok (.lastore, 1) := by decide +kernel
theorem d_L_times_11 : decode b_L_times 11 = .ok (.goto 7, 3) := by decide +kernel
theorem d_L_times_14 : decode b_L_times 14 = .ok (.astore 5, 2) := by decide +kernel
theorem d_L_times_16 : decode b_L_times 16 = .ok (.iconst 1, 1) := by decide +kernel
theorem d_L_times_17 : decode b_L_times 17 = .ok (.ireturn, 1) := by decide +kernel
theorem d_L_times_18 : decode b_L_times 18 = .ok (.iconst 0, 1) := by decide +kernel
theorem d_L_times_19 : decode b_L_times 19 = .ok (.ireturn, 1) := by decide +kernel
theorem d_L_negate_0 : decode b_L_negate 0 = .ok (.aload_n 2, 1) := by decide +kernel
theorem d_L_negate_1 : decode b_L_negate 1 = .ok (.iconst 0, 1) := by decide +kernel
theorem d_L_negate_2 : decode b_L_negate 2 = .ok (.aload_n 0, 1) := by decide +kernel
theorem d_L_negate_3 : decode b_L_negate 3 = .ok (.iload_n 1, 1) := by decide +kernel
theorem d_L_negate_4 : decode b_L_negate 4 = .ok (.invokevirtual 52, 3) := by decide +kernel
theorem d_L_negate_7 : decode b_L_negate 7 = .ok (.ifCond .eq 7, 3) := by decide +kernel
theorem d_L_negate_10 : decode b_L_negate 10 = .ok (.lconst 1, 1) := by decide +kernel
theorem d_L_negate_11 : decode b_L_negate 11 = .ok (.goto 4, 3) := by decide +kernel
theorem d_L_negate_14 : decode b_L_negate 14 = .ok (.lconst 0, 1) := by decide +kernel
theorem d_L_negate_15 : decode b_L_negate 15 = .ok (.lastore, 1) := by decide +kernel
theorem d_L_negate_16 : decode b_L_negate 16 = .ok (.goto 6, 3) := by decide +kernel
theorem d_L_negate_19 : decode b_L_negate 19 = .ok (.astore_n 3, 1) := by decide +kernel
theorem d_L_negate_20 : decode b_L_negate 20 = .ok (.iconst 1, 1) := by decide +kernel
theorem d_L_negate_21 : decode b_L_negate 21 = .ok (.ireturn, 1) := by decide +kernel
theorem d_L_negate_22 : decode b_L_negate 22 = .ok (.iconst 0, 1) := by decide +kernel
theorem d_L_negate_23 : decode b_L_negate 23 = .ok (.ireturn, 1) := by decide +kernel
theorem d_L_left_0 : decode b_L_left 0 = .ok (.aload_n 3, 1) := by decide +kernel
theorem d_L_left_1 : decode b_L_left 1 = .ok (.iconst 0, 1) := by decide +kernel
theorem d_L_left_2 : decode b_L_left 2 = .ok (.aload_n 0, 1) := by decide +kernel
theorem d_L_left_3 : decode b_L_left 3 = .ok (.iload_n 1, 1) := by decide +kernel
theorem d_L_left_4 : decode b_L_left 4 = .ok (.iload_n 2, 1) := by decide +kernel
theorem d_L_left_5 : decode b_L_left 5 = .ok (.invokevirtual 56, 3) := by decide +kernel
theorem d_L_left_8 : decode b_L_left 8 = .ok (.i2l, 1) := by decide +kernel
theorem d_L_left_9 : decode b_L_left 9 = .ok (.lastore, 1) := by decide +kernel
theorem d_L_left_10 : decode b_L_left 10 = .ok (.goto 11, 3) := by decide +kernel
theorem d_L_left_13 : decode b_L_left 13 = .ok (.astore 4, 2) := by decide +kernel
theorem d_L_left_15 : decode b_L_left 15 = .ok (.iconst 1, 1) := by decide +kernel
theorem d_L_left_16 : decode b_L_left 16 = .ok (.ireturn, 1) := by decide +kernel
theorem d_L_left_17 : decode b_L_left 17 = .ok (.astore 4, 2) := by decide +kernel
theorem d_L_left_19 : decode b_L_left 19 = .ok (.iconst 2, 1) := by decide +kernel
theorem d_L_left_20 : decode b_L_left 20 = .ok (.ireturn, 1) := by decide +kernel
theorem d_L_left_21 : decode b_L_left 21 = .ok (.iconst 0, 1) := by decide +kernel
theorem d_L_left_22 : decode b_L_left 22 = .ok (.ireturn, 1) := by decide +kernel
theorem d_L_right_0 : decode b_L_right 0 = .ok (.aload_n 3, 1) := by decide +kernel
theorem d_L_right_1 : decode b_L_right 1 = .ok (.iconst 0, 1) := by decide +kernel
theorem d_L_right_2 : decode b_L_right 2 = .ok (.aload_n 0, 1) := by decide +kernel
theorem d_L_right_3 : decode b_L_right 3 = .ok (.iload_n 1, 1) := by decide +kernel
theorem d_L_right_4 : decode b_L_right 4 = .ok (.iload_n 2, 1) := by decide +kernel
theorem d_L_right_5 : decode b_L_right 5 = .ok (.invokevirtual 59, 3) := by decide +kernel
theorem d_L_right_8 : decode b_L_right 8 = .ok (.i2l, 1) := by decide +kernel
theorem d_L_right_9 : decode b_L_right 9 = .ok (.lastore, 1) := by decide +kernel
theorem d_L_right_10 : decode b_L_right 10 = .ok (.goto 11, 3) := by decide +kernel
theorem d_L_right_13 : decode b_L_right 13 = .ok (.astore 4, 2) := by decide +kernel
theorem d_L_right_15 : decode b_L_right 15 = .ok (.iconst 1, 1) := by decide +kernel
theorem d_L_right_16 : decode b_L_right 16 = .ok (.ireturn, 1) := by decide +kernel
theorem d_L_right_17 : decode b_L_right 17 = .ok (.astore 4, 2) := by decide +kernel
theorem d_L_right_19 : decode b_L_right 19 = .ok (.iconst 2, 1) := by decide +kernel
theorem d_L_right_20 : decode b_L_right 20 = .ok (.ireturn, 1) := by decide +kernel
theorem d_L_right_21 : decode b_L_right 21 = .ok (.iconst 0, 1) := by decide +kernel
theorem d_L_right_22 : decode b_L_right 22 = .ok (.ireturn, 1) := by decide +kernel
theorem d_L_nearest_0 : decode b_L_nearest 0 = .ok (.aload_n 3, 1) := by decide +kernel
theorem d_L_nearest_1 : decode b_L_nearest 1 = .ok (.iconst 0, 1) := by decide +kernel
theorem d_L_nearest_2 : decode b_L_nearest 2 = .ok (.aload_n 0, 1) := by decide +kernel
theorem d_L_nearest_3 : decode b_L_nearest 3 = .ok (.iload_n 1, 1) := by decide +kernel
theorem d_L_nearest_4 : decode b_L_nearest 4 = .ok (.iload_n 2, 1) := by decide +kernel
theorem d_L_nearest_5 : decode b_L_nearest 5 = .ok (.invokevirtual 62, 3) := by decide +kernel
theorem d_L_nearest_8 : decode b_L_nearest 8 = .ok (.i2l, 1) := by decide +kernel
theorem d_L_nearest_9 : decode b_L_nearest 9 = .ok (.lastore, 1) := by decide +kernel
theorem d_L_nearest_10 : decode b_L_nearest 10 = .ok (.goto 11, 3) := by decide +kernel
theorem d_L_nearest_13 : decode b_L_nearest 13 = .ok (.astore 4, 2) := by decide +kernel
theorem d_L_nearest_15 : decode b_L_nearest 15 = .ok (.iconst 1, 1) := by decide +kernel
theorem d_L_nearest_16 : decode b_L_nearest 16 = .ok (.ireturn, 1) := by decide +kernel
theorem d_L_nearest_17 : decode b_L_nearest 17 = .ok (.astore 4, 2) := by decide +kernel
theorem d_L_nearest_19 : decode b_L_nearest 19 = .ok (.iconst 2, 1) := by decide +kernel
theorem d_L_nearest_20 : decode b_L_nearest 20 = .ok (.ireturn, 1) := by decide +kernel
theorem d_L_nearest_21 : decode b_L_nearest 21 = .ok (.iconst 0, 1) := by decide +kernel
theorem d_L_nearest_22 : decode b_L_nearest 22 = .ok (.ireturn, 1) := by decide +kernel
theorem d_L_divide_0 : decode b_L_divide 0 = .ok (.aload 4, 2) := by decide +kernel
theorem d_L_divide_2 : decode b_L_divide 2 = .ok (.iconst 0, 1) := by decide +kernel
theorem d_L_divide_3 : decode b_L_divide 3 = .ok (.aload_n 0, 1) := by decide +kernel
theorem d_L_divide_4 : decode b_L_divide 4 = .ok (.iload_n 1, 1) := by decide +kernel
theorem d_L_divide_5 : decode b_L_divide 5 = .ok (.lload_n 2, 1) := by decide +kernel
theorem d_L_divide_6 : decode b_L_divide 6 = .ok (.invokevirtual 65, 3) := by decide +kernel
theorem d_L_divide_9 : decode b_L_divide 9 = .ok (.lastore, 1) := by decide +kernel
theorem d_L_divide_10 : decode b_L_divide 10 = .ok (.goto 11, 3) := by decide +kernel
theorem d_L_divide_13 : decode b_L_divide 13 = .ok (.astore 5, 2) := by decide +kernel
theorem d_L_divide_15 : decode b_L_divide 15 = .ok (.iconst 1, 1) := by decide +kernel
theorem d_L_divide_16 : decode b_L_divide 16 = .ok (.ireturn, 1) := by decide +kernel
theorem d_L_divide_17 : decode b_L_divide 17 = .ok (.astore 5, 2) := by decide +kernel
theorem d_L_divide_19 : decode b_L_divide 19 = .ok (.iconst 2, 1) := by decide +kernel
theorem d_L_divide_20 : decode b_L_divide 20 = .ok (.ireturn, 1) := by decide +kernel
theorem d_L_divide_21 : decode b_L_divide 21 = .ok (.iconst 0, 1) := by decide +kernel
theorem d_L_divide_22 : decode b_L_divide 22 = .ok (.ireturn, 1) := by decide +kernel
theorem d_L_zeros_0 : decode b_L_zeros 0 = .ok (.aload_n 2, 1) := by decide +kernel
theorem d_L_zeros_1 : decode b_L_zeros 1 = .ok (.iconst 0, 1) := by decide +kernel
theorem d_L_zeros_2 : decode b_L_zeros 2 = .ok (.aload_n 0, 1) := by decide +kernel
theorem d_L_zeros_3 : decode b_L_zeros 3 = .ok (.iload_n 1, 1) := by decide +kernel
theorem d_L_zeros_4 : decode b_L_zeros 4 = .ok (.invokevirtual 69, 3) := by decide +kernel
theorem d_L_zeros_7 : decode b_L_zeros 7 = .ok (.i2l, 1) := by decide +kernel
theorem d_L_zeros_8 : decode b_L_zeros 8 = .ok (.lastore, 1) := by decide +kernel
theorem d_L_zeros_9 : decode b_L_zeros 9 = .ok (.goto 6, 3) := by decide +kernel
theorem d_L_zeros_12 : decode b_L_zeros 12 = .ok (.astore_n 3, 1) := by decide +kernel
theorem d_L_zeros_13 : decode b_L_zeros 13 = .ok (.iconst 1, 1) := by decide +kernel
theorem d_L_zeros_14 : decode b_L_zeros 14 = .ok (.ireturn, 1) := by decide +kernel
theorem d_L_zeros_15 : decode b_L_zeros 15 = .ok (.iconst 0, 1) := by decide +kernel
theorem d_L_zeros_16 : decode b_L_zeros 16 = .ok (.ireturn, 1) := by decide +kernel
theorem d_L_length_0 : decode b_L_length 0 = .ok (.aload_n 2, 1) := by decide +kernel
theorem d_L_length_1 : decode b_L_length 1 = .ok (.iconst 0, 1) := by decide +kernel
theorem d_L_length_2 : decode b_L_length 2 = .ok (.aload_n 0, 1) := by decide +kernel
theorem d_L_length_3 : decode b_L_length 3 = .ok (.iload_n 1, 1) := by decide +kernel
theorem d_L_length_4 : decode b_L_length 4 = .ok (.invokevirtual 72, 3) := by decide +kernel
theorem d_L_length_7 : decode b_L_length 7 = .ok (.i2l, 1) := by decide +kernel
theorem d_L_length_8 : decode b_L_length 8 = .ok (.lastore, 1) := by decide +kernel
theorem d_L_length_9 : decode b_L_length 9 = .ok (.goto 6, 3) := by decide +kernel
theorem d_L_length_12 : decode b_L_length 12 = .ok (.astore_n 3, 1) := by decide +kernel
theorem d_L_length_13 : decode b_L_length 13 = .ok (.iconst 1, 1) := by decide +kernel
theorem d_L_length_14 : decode b_L_length 14 = .ok (.ireturn, 1) := by decide +kernel
theorem d_L_length_15 : decode b_L_length 15 = .ok (.iconst 0, 1) := by decide +kernel
theorem d_L_length_16 : decode b_L_length 16 = .ok (.ireturn, 1) := by decide +kernel
theorem d_L_sign_0 : decode b_L_sign 0 = .ok (.aload_n 2, 1) := by decide +kernel
theorem d_L_sign_1 : decode b_L_sign 1 = .ok (.iconst 0, 1) := by decide +kernel
theorem d_L_sign_2 : decode b_L_sign 2 = .ok (.aload_n 0, 1) := by decide +kernel
theorem d_L_sign_3 : decode b_L_sign 3 = .ok (.iload_n 1, 1) := by decide +kernel
theorem d_L_sign_4 : decode b_L_sign 4 = .ok (.invokevirtual 75, 3) := by decide +kernel
theorem d_L_sign_7 : decode b_L_sign 7 = .ok (.i2l, 1) := by decide +kernel
theorem d_L_sign_8 : decode b_L_sign 8 = .ok (.lastore, 1) := by decide +kernel
theorem d_L_sign_9 : decode b_L_sign 9 = .ok (.goto 6, 3) := by decide +kernel
theorem d_L_sign_12 : decode b_L_sign 12 = .ok (.astore_n 3, 1) := by decide +kernel
theorem d_L_sign_13 : decode b_L_sign 13 = .ok (.iconst 1, 1) := by decide +kernel
theorem d_L_sign_14 : decode b_L_sign 14 = .ok (.ireturn, 1) := by decide +kernel
theorem d_L_sign_15 : decode b_L_sign 15 = .ok (.iconst 0, 1) := by decide +kernel
theorem d_L_sign_16 : decode b_L_sign 16 = .ok (.ireturn, 1) := by decide +kernel
theorem d_L_compare_0 : decode b_L_compare 0 = .ok (.aload_n 3, 1) := by decide +kernel
theorem d_L_compare_1 : decode b_L_compare 1 = .ok (.iconst 0, 1) := by decide +kernel
theorem d_L_compare_2 : decode b_L_compare 2 = .ok (.aload_n 0, 1) := by decide +kernel
theorem d_L_compare_3 : decode b_L_compare 3 = .ok (.iload_n 1, 1) := by decide +kernel
theorem d_L_compare_4 : decode b_L_compare 4 = .ok (.iload_n 2, 1) := by decide +kernel
theorem d_L_compare_5 : decode b_L_compare 5 = .ok (.invokevirtual 78, 3) := by decide +kernel
theorem d_L_compare_8 : decode b_L_compare 8 = .ok (.i2l, 1) := by decide +kernel
theorem d_L_compare_9 : decode b_L_compare 9 = .ok (.lastore, 1) := by decide +kernel
theorem d_L_compare_10 : decode b_L_compare 10 = .ok (.goto 7, 3) := by decide +kernel
theorem d_L_compare_13 : decode b_L_compare 13 = .ok (.astore 4, 2) := by decide +kernel
theorem d_L_compare_15 : decode b_L_compare 15 = .ok (.iconst 1, 1) := by decide +kernel
theorem d_L_compare_16 : decode b_L_compare 16 = .ok (.ireturn, 1) := by decide +kernel
theorem d_L_compare_17 : decode b_L_compare 17 = .ok (.iconst 0, 1) := by decide +kernel
theorem d_L_compare_18 : decode b_L_compare 18 = .ok (.ireturn, 1) := by decide +kernel
theorem d_L_law_0 : decode code 0 = .ok (.new 8, 3) := by decide +kernel
theorem d_L_law_3 : decode code 3 = .ok (.dup, 1) := by decide +kernel
theorem d_L_law_4 : decode code 4 = .ok (.invokespecial 81, 3) := by decide +kernel
theorem d_L_law_7 : decode code 7 = .ok (.astore_n 1, 1) := by decide +kernel
theorem d_L_law_8 : decode code 8 = .ok (.new 82, 3) := by decide +kernel
theorem d_L_law_11 : decode code 11 = .ok (.dup, 1) := by decide +kernel
theorem d_L_law_12 : decode code 12 = .ok (.invokespecial 84, 3) := by decide +kernel
theorem d_L_law_15 : decode code 15 = .ok (.astore_n 2, 1) := by decide +kernel
theorem d_L_law_16 : decode code 16 = .ok (.iconst 1, 1) := by decide +kernel
theorem d_L_law_17 : decode code 17 = .ok (.newarray .long, 2) := by decide +kernel
theorem d_L_law_19 : decode code 19 = .ok (.astore_n 3, 1) := by decide +kernel
theorem d_L_law_20 : decode code 20 = .ok (.iconst 0, 1) := by decide +kernel
theorem d_L_law_21 : decode code 21 = .ok (.istore 4, 2) := by decide +kernel
theorem d_L_law_23 : decode code 23 = .ok (.iload 4, 2) := by decide +kernel
theorem d_L_law_25 : decode code 25 = .ok (.aload_n 0, 1) := by decide +kernel
theorem d_L_law_26 : decode code 26 = .ok (.arraylength, 1) := by decide +kernel
theorem d_L_law_27 : decode code 27 = .ok (.iconst 4, 1) := by decide +kernel
theorem d_L_law_28 : decode code 28 = .ok (.isub, 1) := by decide +kernel
theorem d_L_law_29 : decode code 29 = .ok (.if_icmp .gt 1568, 3) := by decide +kernel
theorem d_L_law_32 : decode code 32 = .ok (.aload_n 0, 1) := by decide +kernel
theorem d_L_law_33 : decode code 33 = .ok (.iload 4, 2) := by decide +kernel
theorem d_L_law_35 : decode code 35 = .ok (.iaload, 1) := by decide +kernel
theorem d_L_law_36 : decode code 36 = .ok (.bipush 31, 2) := by decide +kernel
theorem d_L_law_38 : decode code 38 = .ok (.iand, 1) := by decide +kernel
theorem d_L_law_132 : decode code 132 = .ok (.aload_n 1, 1) := by decide +kernel
theorem d_L_law_133 : decode code 133 = .ok (.aload_n 0, 1) := by decide +kernel
theorem d_L_law_134 : decode code 134 = .ok (.iload 4, 2) := by decide +kernel
theorem d_L_law_136 : decode code 136 = .ok (.iconst 1, 1) := by decide +kernel
theorem d_L_law_137 : decode code 137 = .ok (.iadd, 1) := by decide +kernel
theorem d_L_law_138 : decode code 138 = .ok (.iaload, 1) := by decide +kernel
theorem d_L_law_139 : decode code 139 = .ok (.aload_n 0, 1) := by decide +kernel
theorem d_L_law_140 : decode code 140 = .ok (.iload 4, 2) := by decide +kernel
theorem d_L_law_142 : decode code 142 = .ok (.iconst 2, 1) := by decide +kernel
theorem d_L_law_143 : decode code 143 = .ok (.iadd, 1) := by decide +kernel
theorem d_L_law_144 : decode code 144 = .ok (.iaload, 1) := by decide +kernel
theorem d_L_law_145 : decode code 145 = .ok (.aload_n 3, 1) := by decide +kernel
theorem d_L_law_146 : decode code 146 = .ok (.invokestatic 85, 3) := by decide +kernel
theorem d_L_law_149 : decode code 149 = .ok (.istore 5, 2) := by decide +kernel
theorem d_L_law_151 : decode code 151 = .ok (.aload_n 2, 1) := by decide +kernel
theorem d_L_law_152 : decode code 152 = .ok (.aload_n 0, 1) := by decide +kernel
theorem d_L_law_153 : decode code 153 = .ok (.iload 4, 2) := by decide +kernel
theorem d_L_law_155 : decode code 155 = .ok (.iconst 1, 1) := by decide +kernel
theorem d_L_law_156 : decode code 156 = .ok (.iadd, 1) := by decide +kernel
theorem d_L_law_157 : decode code 157 = .ok (.iaload, 1) := by decide +kernel
theorem d_L_law_158 : decode code 158 = .ok (.aload_n 0, 1) := by decide +kernel
theorem d_L_law_159 : decode code 159 = .ok (.iload 4, 2) := by decide +kernel
theorem d_L_law_161 : decode code 161 = .ok (.iconst 2, 1) := by decide +kernel
theorem d_L_law_162 : decode code 162 = .ok (.iadd, 1) := by decide +kernel
theorem d_L_law_163 : decode code 163 = .ok (.iaload, 1) := by decide +kernel
theorem d_L_law_164 : decode code 164 = .ok (.invokevirtual 90, 3) := by decide +kernel
theorem d_L_law_167 : decode code 167 = .ok (.istore 6, 2) := by decide +kernel
theorem d_L_law_169 : decode code 169 = .ok (.aload_n 2, 1) := by decide +kernel
theorem d_L_law_170 : decode code 170 = .ok (.invokevirtual 91, 3) := by decide +kernel
theorem d_L_law_173 : decode code 173 = .ok (.iload 5, 2) := by decide +kernel
theorem d_L_law_175 : decode code 175 = .ok (.if_icmp .eq 5, 3) := by decide +kernel
theorem d_L_law_178 : decode code 178 = .ok (.iconst 0, 1) := by decide +kernel
theorem d_L_law_179 : decode code 179 = .ok (.ireturn, 1) := by decide +kernel
theorem d_L_law_180 : decode code 180 = .ok (.iload 5, 2) := by decide +kernel
theorem d_L_law_182 : decode code 182 = .ok (.ifCond .ne 22, 3) := by decide +kernel
theorem d_L_law_185 : decode code 185 = .ok (.aload_n 3, 1) := by decide +kernel
theorem d_L_law_186 : decode code 186 = .ok (.iconst 0, 1) := by decide +kernel
theorem d_L_law_187 : decode code 187 = .ok (.laload, 1) := by decide +kernel
theorem d_L_law_188 : decode code 188 = .ok (.iload 6, 2) := by decide +kernel
theorem d_L_law_190 : decode code 190 = .ok (.ifCond .eq 7, 3) := by decide +kernel
theorem d_L_law_193 : decode code 193 = .ok (.lconst 1, 1) := by decide +kernel
theorem d_L_law_194 : decode code 194 = .ok (.goto 4, 3) := by decide +kernel
theorem d_L_law_197 : decode code 197 = .ok (.lconst 0, 1) := by decide +kernel
theorem d_L_law_198 : decode code 198 = .ok (.lcmp, 1) := by decide +kernel
theorem d_L_law_199 : decode code 199 = .ok (.ifCond .eq 5, 3) := by decide +kernel
theorem d_L_law_202 : decode code 202 = .ok (.iconst 0, 1) := by decide +kernel
theorem d_L_law_203 : decode code 203 = .ok (.ireturn, 1) := by decide +kernel
theorem d_L_law_204 : decode code 204 = .ok (.goto 1387, 3) := by decide +kernel
theorem d_L_law_207 : decode code 207 = .ok (.aload_n 1, 1) := by decide +kernel
theorem d_L_law_208 : decode code 208 = .ok (.aload_n 0, 1) := by decide +kernel
theorem d_L_law_209 : decode code 209 = .ok (.iload 4, 2) := by decide +kernel
theorem d_L_law_211 : decode code 211 = .ok (.iconst 1, 1) := by decide +kernel
theorem d_L_law_212 : decode code 212 = .ok (.iadd, 1) := by decide +kernel
theorem d_L_law_213 : decode code 213 = .ok (.iaload, 1) := by decide +kernel
theorem d_L_law_214 : decode code 214 = .ok (.aload_n 3, 1) := by decide +kernel
theorem d_L_law_215 : decode code 215 = .ok (.invokestatic 95, 3) := by decide +kernel
theorem d_L_law_218 : decode code 218 = .ok (.istore 5, 2) := by decide +kernel
theorem d_L_law_220 : decode code 220 = .ok (.aload_n 2, 1) := by decide +kernel
theorem d_L_law_221 : decode code 221 = .ok (.aload_n 0, 1) := by decide +kernel
theorem d_L_law_222 : decode code 222 = .ok (.iload 4, 2) := by decide +kernel
theorem d_L_law_224 : decode code 224 = .ok (.iconst 1, 1) := by decide +kernel
theorem d_L_law_225 : decode code 225 = .ok (.iadd, 1) := by decide +kernel
theorem d_L_law_226 : decode code 226 = .ok (.iaload, 1) := by decide +kernel
theorem d_L_law_227 : decode code 227 = .ok (.invokevirtual 98, 3) := by decide +kernel
theorem d_L_law_230 : decode code 230 = .ok (.istore 6, 2) := by decide +kernel
theorem d_L_law_232 : decode code 232 = .ok (.aload_n 2, 1) := by decide +kernel
theorem d_L_law_233 : decode code 233 = .ok (.invokevirtual 91, 3) := by decide +kernel
theorem d_L_law_236 : decode code 236 = .ok (.iload 5, 2) := by decide +kernel
theorem d_L_law_238 : decode code 238 = .ok (.if_icmp .eq 5, 3) := by decide +kernel
theorem d_L_law_241 : decode code 241 = .ok (.iconst 0, 1) := by decide +kernel
theorem d_L_law_242 : decode code 242 = .ok (.ireturn, 1) := by decide +kernel
theorem d_L_law_243 : decode code 243 = .ok (.iload 5, 2) := by decide +kernel
theorem d_L_law_245 : decode code 245 = .ok (.ifCond .ne 15, 3) := by decide +kernel
theorem d_L_law_248 : decode code 248 = .ok (.aload_n 3, 1) := by decide +kernel
theorem d_L_law_249 : decode code 249 = .ok (.iconst 0, 1) := by decide +kernel
theorem d_L_law_250 : decode code 250 = .ok (.laload, 1) := by decide +kernel
theorem d_L_law_251 : decode code 251 = .ok (.iload 6, 2) := by decide +kernel
theorem d_L_law_253 : decode code 253 = .ok (.i2l, 1) := by decide +kernel
theorem d_L_law_254 : decode code 254 = .ok (.lcmp, 1) := by decide +kernel
theorem d_L_law_255 : decode code 255 = .ok (.ifCond .eq 5, 3) := by decide +kernel
theorem d_L_law_258 : decode code 258 = .ok (.iconst 0, 1) := by decide +kernel
theorem d_L_law_259 : decode code 259 = .ok (.ireturn, 1) := by decide +kernel
theorem d_L_law_260 : decode code 260 = .ok (.goto 1331, 3) := by decide +kernel
theorem d_L_law_263 : decode code 263 = .ok (.aload_n 1, 1) := by decide +kernel
theorem d_L_law_264 : decode code 264 = .ok (.aload_n 0, 1) := by decide +kernel
theorem d_L_law_265 : decode code 265 = .ok (.iload 4, 2) := by decide +kernel
end
section
theorem d_L_law_267 : decode code 267 = .ok (.iconst 1, 1) := by decide +kernel
theorem d_L_law_268 : decode code 268 = .ok (.iadd, 1) := by decide +kernel
theorem d_L_law_269 : decode code 269 = .ok (.iaload, 1) := by decide +kernel
theorem d_L_law_270 : decode code 270 = .ok (.aload_n 0, 1) := by decide +kernel
theorem d_L_law_271 : decode code 271 = .ok (.iload 4, 2) := by decide +kernel
theorem d_L_law_273 : decode code 273 = .ok (.iconst 2, 1) := by decide +kernel
theorem d_L_law_274 : decode code 274 = .ok (.iadd, 1) := by decide +kernel
theorem d_L_law_275 : decode code 275 = .ok (.iaload, 1) := by decide +kernel
theorem d_L_law_276 : decode code 276 = .ok (.i2l, 1) := by decide +kernel
theorem d_L_law_277 : decode code 277 = .ok (.bipush 32, 2) := by decide +kernel
theorem d_L_law_279 : decode code 279 = .ok (.lshl, 1) := by decide +kernel
theorem d_L_law_280 : decode code 280 = .ok (.aload_n 0, 1) := by decide +kernel
theorem d_L_law_281 : decode code 281 = .ok (.iload 4, 2) := by decide +kernel
theorem d_L_law_283 : decode code 283 = .ok (.iconst 3, 1) := by decide +kernel
theorem d_L_law_284 : decode code 284 = .ok (.iadd, 1) := by decide +kernel
theorem d_L_law_285 : decode code 285 = .ok (.iaload, 1) := by decide +kernel
theorem d_L_law_286 : decode code 286 = .ok (.i2l, 1) := by decide +kernel
theorem d_L_law_287 : decode code 287 = .ok (.ldc2_w 99, 3) := by decide +kernel
theorem d_L_law_290 : decode code 290 = .ok (.land, 1) := by decide +kernel
theorem d_L_law_291 : decode code 291 = .ok (.lor, 1) := by decide +kernel
theorem d_L_law_292 : decode code 292 = .ok (.aload_n 3, 1) := by decide +kernel
theorem d_L_law_293 : decode code 293 = .ok (.invokestatic 101, 3) := by decide +kernel
theorem d_L_law_296 : decode code 296 = .ok (.istore 5, 2) := by decide +kernel
theorem d_L_law_298 : decode code 298 = .ok (.aload_n 2, 1) := by decide +kernel
theorem d_L_law_299 : decode code 299 = .ok (.aload_n 0, 1) := by decide +kernel
theorem d_L_law_300 : decode code 300 = .ok (.iload 4, 2) := by decide +kernel
theorem d_L_law_302 : decode code 302 = .ok (.iconst 1, 1) := by decide +kernel
theorem d_L_law_303 : decode code 303 = .ok (.iadd, 1) := by decide +kernel
theorem d_L_law_304 : decode code 304 = .ok (.iaload, 1) := by decide +kernel
theorem d_L_law_305 : decode code 305 = .ok (.aload_n 0, 1) := by decide +kernel
theorem d_L_law_306 : decode code 306 = .ok (.iload 4, 2) := by decide +kernel
theorem d_L_law_308 : decode code 308 = .ok (.iconst 2, 1) := by decide +kernel
theorem d_L_law_309 : decode code 309 = .ok (.iadd, 1) := by decide +kernel
theorem d_L_law_310 : decode code 310 = .ok (.iaload, 1) := by decide +kernel
theorem d_L_law_311 : decode code 311 = .ok (.i2l, 1) := by decide +kernel
theorem d_L_law_312 : decode code 312 = .ok (.bipush 32, 2) := by decide +kernel
theorem d_L_law_314 : decode code 314 = .ok (.lshl, 1) := by decide +kernel
theorem d_L_law_315 : decode code 315 = .ok (.aload_n 0, 1) := by decide +kernel
theorem d_L_law_316 : decode code 316 = .ok (.iload 4, 2) := by decide +kernel
theorem d_L_law_318 : decode code 318 = .ok (.iconst 3, 1) := by decide +kernel
theorem d_L_law_319 : decode code 319 = .ok (.iadd, 1) := by decide +kernel
theorem d_L_law_320 : decode code 320 = .ok (.iaload, 1) := by decide +kernel
theorem d_L_law_321 : decode code 321 = .ok (.i2l, 1) := by decide +kernel
theorem d_L_law_322 : decode code 322 = .ok (.ldc2_w 99, 3) := by decide +kernel
theorem d_L_law_325 : decode code 325 = .ok (.land, 1) := by decide +kernel
theorem d_L_law_326 : decode code 326 = .ok (.lor, 1) := by decide +kernel
theorem d_L_law_327 : decode code 327 = .ok (.invokevirtual 104, 3) := by decide +kernel
theorem d_L_law_330 : decode code 330 = .ok (.istore 6, 2) := by decide +kernel
theorem d_L_law_332 : decode code 332 = .ok (.aload_n 2, 1) := by decide +kernel
theorem d_L_law_333 : decode code 333 = .ok (.invokevirtual 91, 3) := by decide +kernel
theorem d_L_law_336 : decode code 336 = .ok (.iload 5, 2) := by decide +kernel
theorem d_L_law_338 : decode code 338 = .ok (.if_icmp .eq 5, 3) := by decide +kernel
theorem d_L_law_341 : decode code 341 = .ok (.iconst 0, 1) := by decide +kernel
theorem d_L_law_342 : decode code 342 = .ok (.ireturn, 1) := by decide +kernel
theorem d_L_law_343 : decode code 343 = .ok (.iload 5, 2) := by decide +kernel
theorem d_L_law_345 : decode code 345 = .ok (.ifCond .ne 22, 3) := by decide +kernel
theorem d_L_law_348 : decode code 348 = .ok (.aload_n 3, 1) := by decide +kernel
theorem d_L_law_349 : decode code 349 = .ok (.iconst 0, 1) := by decide +kernel
theorem d_L_law_350 : decode code 350 = .ok (.laload, 1) := by decide +kernel
theorem d_L_law_351 : decode code 351 = .ok (.iload 6, 2) := by decide +kernel
theorem d_L_law_353 : decode code 353 = .ok (.ifCond .eq 7, 3) := by decide +kernel
theorem d_L_law_356 : decode code 356 = .ok (.lconst 1, 1) := by decide +kernel
theorem d_L_law_357 : decode code 357 = .ok (.goto 4, 3) := by decide +kernel
theorem d_L_law_360 : decode code 360 = .ok (.lconst 0, 1) := by decide +kernel
theorem d_L_law_361 : decode code 361 = .ok (.lcmp, 1) := by decide +kernel
theorem d_L_law_362 : decode code 362 = .ok (.ifCond .eq 5, 3) := by decide +kernel
theorem d_L_law_365 : decode code 365 = .ok (.iconst 0, 1) := by decide +kernel
theorem d_L_law_366 : decode code 366 = .ok (.ireturn, 1) := by decide +kernel
theorem d_L_law_367 : decode code 367 = .ok (.goto 1224, 3) := by decide +kernel
theorem d_L_law_370 : decode code 370 = .ok (.aload_n 1, 1) := by decide +kernel
theorem d_L_law_371 : decode code 371 = .ok (.aload_n 0, 1) := by decide +kernel
theorem d_L_law_372 : decode code 372 = .ok (.iload 4, 2) := by decide +kernel
theorem d_L_law_374 : decode code 374 = .ok (.iconst 1, 1) := by decide +kernel
theorem d_L_law_375 : decode code 375 = .ok (.iadd, 1) := by decide +kernel
theorem d_L_law_376 : decode code 376 = .ok (.iaload, 1) := by decide +kernel
theorem d_L_law_377 : decode code 377 = .ok (.aload_n 0, 1) := by decide +kernel
theorem d_L_law_378 : decode code 378 = .ok (.iload 4, 2) := by decide +kernel
theorem d_L_law_380 : decode code 380 = .ok (.iconst 2, 1) := by decide +kernel
theorem d_L_law_381 : decode code 381 = .ok (.iadd, 1) := by decide +kernel
theorem d_L_law_382 : decode code 382 = .ok (.iaload, 1) := by decide +kernel
theorem d_L_law_383 : decode code 383 = .ok (.aload_n 0, 1) := by decide +kernel
theorem d_L_law_384 : decode code 384 = .ok (.iload 4, 2) := by decide +kernel
theorem d_L_law_386 : decode code 386 = .ok (.iconst 3, 1) := by decide +kernel
theorem d_L_law_387 : decode code 387 = .ok (.iadd, 1) := by decide +kernel
theorem d_L_law_388 : decode code 388 = .ok (.iaload, 1) := by decide +kernel
theorem d_L_law_389 : decode code 389 = .ok (.aload_n 3, 1) := by decide +kernel
theorem d_L_law_390 : decode code 390 = .ok (.invokestatic 105, 3) := by decide +kernel
theorem d_L_law_393 : decode code 393 = .ok (.istore 5, 2) := by decide +kernel
theorem d_L_law_395 : decode code 395 = .ok (.aload_n 2, 1) := by decide +kernel
theorem d_L_law_396 : decode code 396 = .ok (.aload_n 0, 1) := by decide +kernel
theorem d_L_law_397 : decode code 397 = .ok (.iload 4, 2) := by decide +kernel
theorem d_L_law_399 : decode code 399 = .ok (.iconst 1, 1) := by decide +kernel
theorem d_L_law_400 : decode code 400 = .ok (.iadd, 1) := by decide +kernel
theorem d_L_law_401 : decode code 401 = .ok (.iaload, 1) := by decide +kernel
theorem d_L_law_402 : decode code 402 = .ok (.aload_n 0, 1) := by decide +kernel
theorem d_L_law_403 : decode code 403 = .ok (.iload 4, 2) := by decide +kernel
theorem d_L_law_405 : decode code 405 = .ok (.iconst 2, 1) := by decide +kernel
theorem d_L_law_406 : decode code 406 = .ok (.iadd, 1) := by decide +kernel
theorem d_L_law_407 : decode code 407 = .ok (.iaload, 1) := by decide +kernel
theorem d_L_law_408 : decode code 408 = .ok (.aload_n 0, 1) := by decide +kernel
theorem d_L_law_409 : decode code 409 = .ok (.iload 4, 2) := by decide +kernel
theorem d_L_law_411 : decode code 411 = .ok (.iconst 3, 1) := by decide +kernel
theorem d_L_law_412 : decode code 412 = .ok (.iadd, 1) := by decide +kernel
theorem d_L_law_413 : decode code 413 = .ok (.iaload, 1) := by decide +kernel
theorem d_L_law_414 : decode code 414 = .ok (.invokevirtual 108, 3) := by decide +kernel
theorem d_L_law_417 : decode code 417 = .ok (.istore 6, 2) := by decide +kernel
theorem d_L_law_419 : decode code 419 = .ok (.aload_n 2, 1) := by decide +kernel
theorem d_L_law_420 : decode code 420 = .ok (.invokevirtual 91, 3) := by decide +kernel
theorem d_L_law_423 : decode code 423 = .ok (.iload 5, 2) := by decide +kernel
theorem d_L_law_425 : decode code 425 = .ok (.if_icmp .eq 5, 3) := by decide +kernel
theorem d_L_law_428 : decode code 428 = .ok (.iconst 0, 1) := by decide +kernel
theorem d_L_law_429 : decode code 429 = .ok (.ireturn, 1) := by decide +kernel
theorem d_L_law_430 : decode code 430 = .ok (.iload 5, 2) := by decide +kernel
theorem d_L_law_432 : decode code 432 = .ok (.ifCond .ne 15, 3) := by decide +kernel
theorem d_L_law_435 : decode code 435 = .ok (.aload_n 3, 1) := by decide +kernel
theorem d_L_law_436 : decode code 436 = .ok (.iconst 0, 1) := by decide +kernel
theorem d_L_law_437 : decode code 437 = .ok (.laload, 1) := by decide +kernel
theorem d_L_law_438 : decode code 438 = .ok (.iload 6, 2) := by decide +kernel
theorem d_L_law_440 : decode code 440 = .ok (.i2l, 1) := by decide +kernel
theorem d_L_law_441 : decode code 441 = .ok (.lcmp, 1) := by decide +kernel
theorem d_L_law_442 : decode code 442 = .ok (.ifCond .eq 5, 3) := by decide +kernel
theorem d_L_law_445 : decode code 445 = .ok (.iconst 0, 1) := by decide +kernel
theorem d_L_law_446 : decode code 446 = .ok (.ireturn, 1) := by decide +kernel
theorem d_L_law_447 : decode code 447 = .ok (.goto 1144, 3) := by decide +kernel
theorem d_L_law_450 : decode code 450 = .ok (.aload_n 1, 1) := by decide +kernel
theorem d_L_law_451 : decode code 451 = .ok (.aload_n 0, 1) := by decide +kernel
theorem d_L_law_452 : decode code 452 = .ok (.iload 4, 2) := by decide +kernel
theorem d_L_law_454 : decode code 454 = .ok (.iconst 1, 1) := by decide +kernel
theorem d_L_law_455 : decode code 455 = .ok (.iadd, 1) := by decide +kernel
theorem d_L_law_456 : decode code 456 = .ok (.iaload, 1) := by decide +kernel
theorem d_L_law_457 : decode code 457 = .ok (.aload_n 0, 1) := by decide +kernel
theorem d_L_law_458 : decode code 458 = .ok (.iload 4, 2) := by decide +kernel
theorem d_L_law_460 : decode code 460 = .ok (.iconst 2, 1) := by decide +kernel
theorem d_L_law_461 : decode code 461 = .ok (.iadd, 1) := by decide +kernel
theorem d_L_law_462 : decode code 462 = .ok (.iaload, 1) := by decide +kernel
theorem d_L_law_463 : decode code 463 = .ok (.aload_n 3, 1) := by decide +kernel
theorem d_L_law_464 : decode code 464 = .ok (.invokestatic 109, 3) := by decide +kernel
theorem d_L_law_467 : decode code 467 = .ok (.istore 5, 2) := by decide +kernel
theorem d_L_law_469 : decode code 469 = .ok (.aload_n 2, 1) := by decide +kernel
theorem d_L_law_470 : decode code 470 = .ok (.aload_n 0, 1) := by decide +kernel
theorem d_L_law_471 : decode code 471 = .ok (.iload 4, 2) := by decide +kernel
theorem d_L_law_473 : decode code 473 = .ok (.iconst 1, 1) := by decide +kernel
theorem d_L_law_474 : decode code 474 = .ok (.iadd, 1) := by decide +kernel
theorem d_L_law_475 : decode code 475 = .ok (.iaload, 1) := by decide +kernel
theorem d_L_law_476 : decode code 476 = .ok (.aload_n 0, 1) := by decide +kernel
theorem d_L_law_477 : decode code 477 = .ok (.iload 4, 2) := by decide +kernel
theorem d_L_law_479 : decode code 479 = .ok (.iconst 2, 1) := by decide +kernel
theorem d_L_law_480 : decode code 480 = .ok (.iadd, 1) := by decide +kernel
theorem d_L_law_481 : decode code 481 = .ok (.iaload, 1) := by decide +kernel
theorem d_L_law_482 : decode code 482 = .ok (.invokevirtual 111, 3) := by decide +kernel
theorem d_L_law_485 : decode code 485 = .ok (.istore 6, 2) := by decide +kernel
theorem d_L_law_487 : decode code 487 = .ok (.aload_n 2, 1) := by decide +kernel
theorem d_L_law_488 : decode code 488 = .ok (.invokevirtual 91, 3) := by decide +kernel
theorem d_L_law_491 : decode code 491 = .ok (.iload 5, 2) := by decide +kernel
theorem d_L_law_493 : decode code 493 = .ok (.if_icmp .eq 5, 3) := by decide +kernel
theorem d_L_law_496 : decode code 496 = .ok (.iconst 0, 1) := by decide +kernel
theorem d_L_law_497 : decode code 497 = .ok (.ireturn, 1) := by decide +kernel
theorem d_L_law_498 : decode code 498 = .ok (.iload 5, 2) := by decide +kernel
theorem d_L_law_500 : decode code 500 = .ok (.ifCond .ne 15, 3) := by decide +kernel
theorem d_L_law_503 : decode code 503 = .ok (.aload_n 3, 1) := by decide +kernel
theorem d_L_law_504 : decode code 504 = .ok (.iconst 0, 1) := by decide +kernel
theorem d_L_law_505 : decode code 505 = .ok (.laload, 1) := by decide +kernel
theorem d_L_law_506 : decode code 506 = .ok (.iload 6, 2) := by decide +kernel
theorem d_L_law_508 : decode code 508 = .ok (.i2l, 1) := by decide +kernel
theorem d_L_law_509 : decode code 509 = .ok (.lcmp, 1) := by decide +kernel
theorem d_L_law_510 : decode code 510 = .ok (.ifCond .eq 5, 3) := by decide +kernel
theorem d_L_law_513 : decode code 513 = .ok (.iconst 0, 1) := by decide +kernel
theorem d_L_law_514 : decode code 514 = .ok (.ireturn, 1) := by decide +kernel
theorem d_L_law_515 : decode code 515 = .ok (.goto 1076, 3) := by decide +kernel
theorem d_L_law_518 : decode code 518 = .ok (.aload_n 1, 1) := by decide +kernel
theorem d_L_law_519 : decode code 519 = .ok (.aload_n 0, 1) := by decide +kernel
theorem d_L_law_520 : decode code 520 = .ok (.iload 4, 2) := by decide +kernel
theorem d_L_law_522 : decode code 522 = .ok (.iconst 1, 1) := by decide +kernel
theorem d_L_law_523 : decode code 523 = .ok (.iadd, 1) := by decide +kernel
theorem d_L_law_524 : decode code 524 = .ok (.iaload, 1) := by decide +kernel
theorem d_L_law_525 : decode code 525 = .ok (.aload_n 0, 1) := by decide +kernel
theorem d_L_law_526 : decode code 526 = .ok (.iload 4, 2) := by decide +kernel
theorem d_L_law_528 : decode code 528 = .ok (.iconst 2, 1) := by decide +kernel
theorem d_L_law_529 : decode code 529 = .ok (.iadd, 1) := by decide +kernel
theorem d_L_law_530 : decode code 530 = .ok (.iaload, 1) := by decide +kernel
theorem d_L_law_531 : decode code 531 = .ok (.aload_n 3, 1) := by decide +kernel
theorem d_L_law_532 : decode code 532 = .ok (.invokestatic 112, 3) := by decide +kernel
theorem d_L_law_535 : decode code 535 = .ok (.istore 5, 2) := by decide +kernel
theorem d_L_law_537 : decode code 537 = .ok (.aload_n 2, 1) := by decide +kernel
theorem d_L_law_538 : decode code 538 = .ok (.aload_n 0, 1) := by decide +kernel
theorem d_L_law_539 : decode code 539 = .ok (.iload 4, 2) := by decide +kernel
theorem d_L_law_541 : decode code 541 = .ok (.iconst 1, 1) := by decide +kernel
theorem d_L_law_542 : decode code 542 = .ok (.iadd, 1) := by decide +kernel
theorem d_L_law_543 : decode code 543 = .ok (.iaload, 1) := by decide +kernel
theorem d_L_law_544 : decode code 544 = .ok (.aload_n 0, 1) := by decide +kernel
theorem d_L_law_545 : decode code 545 = .ok (.iload 4, 2) := by decide +kernel
theorem d_L_law_547 : decode code 547 = .ok (.iconst 2, 1) := by decide +kernel
theorem d_L_law_548 : decode code 548 = .ok (.iadd, 1) := by decide +kernel
theorem d_L_law_549 : decode code 549 = .ok (.iaload, 1) := by decide +kernel
theorem d_L_law_550 : decode code 550 = .ok (.invokevirtual 114, 3) := by decide +kernel
theorem d_L_law_553 : decode code 553 = .ok (.istore 6, 2) := by decide +kernel
theorem d_L_law_555 : decode code 555 = .ok (.aload_n 2, 1) := by decide +kernel
theorem d_L_law_556 : decode code 556 = .ok (.invokevirtual 91, 3) := by decide +kernel
theorem d_L_law_559 : decode code 559 = .ok (.iload 5, 2) := by decide +kernel
theorem d_L_law_561 : decode code 561 = .ok (.if_icmp .eq 5, 3) := by decide +kernel
theorem d_L_law_564 : decode code 564 = .ok (.iconst 0, 1) := by decide +kernel
theorem d_L_law_565 : decode code 565 = .ok (.ireturn, 1) := by decide +kernel
theorem d_L_law_566 : decode code 566 = .ok (.iload 5, 2) := by decide +kernel
theorem d_L_law_568 : decode code 568 = .ok (.ifCond .ne 22, 3) := by decide +kernel
theorem d_L_law_571 : decode code 571 = .ok (.aload_n 3, 1) := by decide +kernel
theorem d_L_law_572 : decode code 572 = .ok (.iconst 0, 1) := by decide +kernel
theorem d_L_law_573 : decode code 573 = .ok (.laload, 1) := by decide +kernel
theorem d_L_law_574 : decode code 574 = .ok (.iload 6, 2) := by decide +kernel
theorem d_L_law_576 : decode code 576 = .ok (.ifCond .eq 7, 3) := by decide +kernel
theorem d_L_law_579 : decode code 579 = .ok (.lconst 1, 1) := by decide +kernel
theorem d_L_law_580 : decode code 580 = .ok (.goto 4, 3) := by decide +kernel
theorem d_L_law_583 : decode code 583 = .ok (.lconst 0, 1) := by decide +kernel
theorem d_L_law_584 : decode code 584 = .ok (.lcmp, 1) := by decide +kernel
theorem d_L_law_585 : decode code 585 = .ok (.ifCond .eq 5, 3) := by decide +kernel
theorem d_L_law_588 : decode code 588 = .ok (.iconst 0, 1) := by decide +kernel
theorem d_L_law_589 : decode code 589 = .ok (.ireturn, 1) := by decide +kernel
theorem d_L_law_590 : decode code 590 = .ok (.goto 1001, 3) := by decide +kernel
theorem d_L_law_593 : decode code 593 = .ok (.aload_n 1, 1) := by decide +kernel
theorem d_L_law_594 : decode code 594 = .ok (.aload_n 0, 1) := by decide +kernel
theorem d_L_law_595 : decode code 595 = .ok (.iload 4, 2) := by decide +kernel
theorem d_L_law_597 : decode code 597 = .ok (.iconst 1, 1) := by decide +kernel
theorem d_L_law_598 : decode code 598 = .ok (.iadd, 1) := by decide +kernel
theorem d_L_law_599 : decode code 599 = .ok (.iaload, 1) := by decide +kernel
theorem d_L_law_600 : decode code 600 = .ok (.aload_n 0, 1) := by decide +kernel
theorem d_L_law_601 : decode code 601 = .ok (.iload 4, 2) := by decide +kernel
theorem d_L_law_603 : decode code 603 = .ok (.iconst 2, 1) := by decide +kernel
theorem d_L_law_604 : decode code 604 = .ok (.iadd, 1) := by decide +kernel
theorem d_L_law_605 : decode code 605 = .ok (.iaload, 1) := by decide +kernel
theorem d_L_law_606 : decode code 606 = .ok (.aload_n 3, 1) := by decide +kernel
theorem d_L_law_607 : decode code 607 = .ok (.invokestatic 115, 3) := by decide +kernel
theorem d_L_law_610 : decode code 610 = .ok (.istore 5, 2) := by decide +kernel
theorem d_L_law_612 : decode code 612 = .ok (.aload_n 2, 1) := by decide +kernel
theorem d_L_law_613 : decode code 613 = .ok (.aload_n 0, 1) := by decide +kernel
theorem d_L_law_614 : decode code 614 = .ok (.iload 4, 2) := by decide +kernel
theorem d_L_law_616 : decode code 616 = .ok (.iconst 1, 1) := by decide +kernel
theorem d_L_law_617 : decode code 617 = .ok (.iadd, 1) := by decide +kernel
theorem d_L_law_618 : decode code 618 = .ok (.iaload, 1) := by decide +kernel
theorem d_L_law_619 : decode code 619 = .ok (.aload_n 0, 1) := by decide +kernel
theorem d_L_law_620 : decode code 620 = .ok (.iload 4, 2) := by decide +kernel
theorem d_L_law_622 : decode code 622 = .ok (.iconst 2, 1) := by decide +kernel
theorem d_L_law_623 : decode code 623 = .ok (.iadd, 1) := by decide +kernel
theorem d_L_law_624 : decode code 624 = .ok (.iaload, 1) := by decide +kernel
theorem d_L_law_625 : decode code 625 = .ok (.invokevirtual 117, 3) := by decide +kernel
theorem d_L_law_628 : decode code 628 = .ok (.istore 6, 2) := by decide +kernel
theorem d_L_law_630 : decode code 630 = .ok (.aload_n 2, 1) := by decide +kernel
theorem d_L_law_631 : decode code 631 = .ok (.invokevirtual 91, 3) := by decide +kernel
theorem d_L_law_634 : decode code 634 = .ok (.iload 5, 2) := by decide +kernel
theorem d_L_law_636 : decode code 636 = .ok (.if_icmp .eq 5, 3) := by decide +kernel
theorem d_L_law_639 : decode code 639 = .ok (.iconst 0, 1) := by decide +kernel
theorem d_L_law_640 : decode code 640 = .ok (.ireturn, 1) := by decide +kernel
theorem d_L_law_641 : decode code 641 = .ok (.iload 5, 2) := by decide +kernel
theorem d_L_law_643 : decode code 643 = .ok (.ifCond .ne 15, 3) := by decide +kernel
theorem d_L_law_646 : decode code 646 = .ok (.aload_n 3, 1) := by decide +kernel
theorem d_L_law_647 : decode code 647 = .ok (.iconst 0, 1) := by decide +kernel
theorem d_L_law_648 : decode code 648 = .ok (.laload, 1) := by decide +kernel
theorem d_L_law_649 : decode code 649 = .ok (.iload 6, 2) := by decide +kernel
theorem d_L_law_651 : decode code 651 = .ok (.i2l, 1) := by decide +kernel
theorem d_L_law_652 : decode code 652 = .ok (.lcmp, 1) := by decide +kernel
theorem d_L_law_653 : decode code 653 = .ok (.ifCond .eq 5, 3) := by decide +kernel
theorem d_L_law_656 : decode code 656 = .ok (.iconst 0, 1) := by decide +kernel
theorem d_L_law_657 : decode code 657 = .ok (.ireturn, 1) := by decide +kernel
theorem d_L_law_658 : decode code 658 = .ok (.goto 933, 3) := by decide +kernel
theorem d_L_law_661 : decode code 661 = .ok (.aload_n 1, 1) := by decide +kernel
theorem d_L_law_662 : decode code 662 = .ok (.aload_n 0, 1) := by decide +kernel
theorem d_L_law_663 : decode code 663 = .ok (.iload 4, 2) := by decide +kernel
theorem d_L_law_665 : decode code 665 = .ok (.iconst 1, 1) := by decide +kernel
theorem d_L_law_666 : decode code 666 = .ok (.iadd, 1) := by decide +kernel
theorem d_L_law_667 : decode code 667 = .ok (.iaload, 1) := by decide +kernel
theorem d_L_law_668 : decode code 668 = .ok (.aload_n 0, 1) := by decide +kernel
theorem d_L_law_669 : decode code 669 = .ok (.iload 4, 2) := by decide +kernel
theorem d_L_law_671 : decode code 671 = .ok (.iconst 2, 1) := by decide +kernel
theorem d_L_law_672 : decode code 672 = .ok (.iadd, 1) := by decide +kernel
theorem d_L_law_673 : decode code 673 = .ok (.iaload, 1) := by decide +kernel
theorem d_L_law_674 : decode code 674 = .ok (.aload_n 3, 1) := by decide +kernel
theorem d_L_law_675 : decode code 675 = .ok (.invokestatic 118, 3) := by decide +kernel
theorem d_L_law_678 : decode code 678 = .ok (.istore 5, 2) := by decide +kernel
theorem d_L_law_680 : decode code 680 = .ok (.aload_n 2, 1) := by decide +kernel
theorem d_L_law_681 : decode code 681 = .ok (.aload_n 0, 1) := by decide +kernel
theorem d_L_law_682 : decode code 682 = .ok (.iload 4, 2) := by decide +kernel
theorem d_L_law_684 : decode code 684 = .ok (.iconst 1, 1) := by decide +kernel
theorem d_L_law_685 : decode code 685 = .ok (.iadd, 1) := by decide +kernel
theorem d_L_law_686 : decode code 686 = .ok (.iaload, 1) := by decide +kernel
theorem d_L_law_687 : decode code 687 = .ok (.aload_n 0, 1) := by decide +kernel
theorem d_L_law_688 : decode code 688 = .ok (.iload 4, 2) := by decide +kernel
theorem d_L_law_690 : decode code 690 = .ok (.iconst 2, 1) := by decide +kernel
theorem d_L_law_691 : decode code 691 = .ok (.iadd, 1) := by decide +kernel
theorem d_L_law_692 : decode code 692 = .ok (.iaload, 1) := by decide +kernel
theorem d_L_law_693 : decode code 693 = .ok (.invokevirtual 120, 3) := by decide +kernel
theorem d_L_law_696 : decode code 696 = .ok (.istore 6, 2) := by decide +kernel
theorem d_L_law_698 : decode code 698 = .ok (.aload_n 2, 1) := by decide +kernel
theorem d_L_law_699 : decode code 699 = .ok (.invokevirtual 91, 3) := by decide +kernel
theorem d_L_law_702 : decode code 702 = .ok (.iload 5, 2) := by decide +kernel
theorem d_L_law_704 : decode code 704 = .ok (.if_icmp .eq 5, 3) := by decide +kernel
theorem d_L_law_707 : decode code 707 = .ok (.iconst 0, 1) := by decide +kernel
theorem d_L_law_708 : decode code 708 = .ok (.ireturn, 1) := by decide +kernel
theorem d_L_law_709 : decode code 709 = .ok (.iload 5, 2) := by decide +kernel
theorem d_L_law_711 : decode code 711 = .ok (.ifCond .ne 15, 3) := by decide +kernel
theorem d_L_law_714 : decode code 714 = .ok (.aload_n 3, 1) := by decide +kernel
theorem d_L_law_715 : decode code 715 = .ok (.iconst 0, 1) := by decide +kernel
theorem d_L_law_716 : decode code 716 = .ok (.laload, 1) := by decide +kernel
theorem d_L_law_717 : decode code 717 = .ok (.iload 6, 2) := by decide +kernel
theorem d_L_law_719 : decode code 719 = .ok (.i2l, 1) := by decide +kernel
theorem d_L_law_720 : decode code 720 = .ok (.lcmp, 1) := by decide +kernel
theorem d_L_law_721 : decode code 721 = .ok (.ifCond .eq 5, 3) := by decide +kernel
theorem d_L_law_724 : decode code 724 = .ok (.iconst 0, 1) := by decide +kernel
theorem d_L_law_725 : decode code 725 = .ok (.ireturn, 1) := by decide +kernel
theorem d_L_law_726 : decode code 726 = .ok (.goto 865, 3) := by decide +kernel
theorem d_L_law_729 : decode code 729 = .ok (.aload_n 1, 1) := by decide +kernel
theorem d_L_law_730 : decode code 730 = .ok (.aload_n 0, 1) := by decide +kernel
theorem d_L_law_731 : decode code 731 = .ok (.iload 4, 2) := by decide +kernel
theorem d_L_law_733 : decode code 733 = .ok (.iconst 1, 1) := by decide +kernel
theorem d_L_law_734 : decode code 734 = .ok (.iadd, 1) := by decide +kernel
theorem d_L_law_735 : decode code 735 = .ok (.iaload, 1) := by decide +kernel
theorem d_L_law_736 : decode code 736 = .ok (.aload_n 0, 1) := by decide +kernel
theorem d_L_law_737 : decode code 737 = .ok (.iload 4, 2) := by decide +kernel
theorem d_L_law_739 : decode code 739 = .ok (.iconst 2, 1) := by decide +kernel
theorem d_L_law_740 : decode code 740 = .ok (.iadd, 1) := by decide +kernel
theorem d_L_law_741 : decode code 741 = .ok (.iaload, 1) := by decide +kernel
theorem d_L_law_742 : decode code 742 = .ok (.aload_n 0, 1) := by decide +kernel
theorem d_L_law_743 : decode code 743 = .ok (.iload 4, 2) := by decide +kernel
theorem d_L_law_745 : decode code 745 = .ok (.iconst 3, 1) := by decide +kernel
theorem d_L_law_746 : decode code 746 = .ok (.iadd, 1) := by decide +kernel
theorem d_L_law_747 : decode code 747 = .ok (.iaload, 1) := by decide +kernel
theorem d_L_law_748 : decode code 748 = .ok (.aload_n 3, 1) := by decide +kernel
theorem d_L_law_749 : decode code 749 = .ok (.invokestatic 121, 3) := by decide +kernel
theorem d_L_law_752 : decode code 752 = .ok (.istore 5, 2) := by decide +kernel
theorem d_L_law_754 : decode code 754 = .ok (.aload_n 2, 1) := by decide +kernel
theorem d_L_law_755 : decode code 755 = .ok (.aload_n 0, 1) := by decide +kernel
theorem d_L_law_756 : decode code 756 = .ok (.iload 4, 2) := by decide +kernel
theorem d_L_law_758 : decode code 758 = .ok (.iconst 1, 1) := by decide +kernel
theorem d_L_law_759 : decode code 759 = .ok (.iadd, 1) := by decide +kernel
theorem d_L_law_760 : decode code 760 = .ok (.iaload, 1) := by decide +kernel
theorem d_L_law_761 : decode code 761 = .ok (.aload_n 0, 1) := by decide +kernel
theorem d_L_law_762 : decode code 762 = .ok (.iload 4, 2) := by decide +kernel
theorem d_L_law_764 : decode code 764 = .ok (.iconst 2, 1) := by decide +kernel
theorem d_L_law_765 : decode code 765 = .ok (.iadd, 1) := by decide +kernel
theorem d_L_law_766 : decode code 766 = .ok (.iaload, 1) := by decide +kernel
theorem d_L_law_767 : decode code 767 = .ok (.aload_n 0, 1) := by decide +kernel
theorem d_L_law_768 : decode code 768 = .ok (.iload 4, 2) := by decide +kernel
theorem d_L_law_770 : decode code 770 = .ok (.iconst 3, 1) := by decide +kernel
theorem d_L_law_771 : decode code 771 = .ok (.iadd, 1) := by decide +kernel
theorem d_L_law_772 : decode code 772 = .ok (.iaload, 1) := by decide +kernel
theorem d_L_law_773 : decode code 773 = .ok (.invokevirtual 123, 3) := by decide +kernel
theorem d_L_law_776 : decode code 776 = .ok (.istore 6, 2) := by decide +kernel
theorem d_L_law_778 : decode code 778 = .ok (.aload_n 2, 1) := by decide +kernel
theorem d_L_law_779 : decode code 779 = .ok (.invokevirtual 91, 3) := by decide +kernel
theorem d_L_law_782 : decode code 782 = .ok (.iload 5, 2) := by decide +kernel
theorem d_L_law_784 : decode code 784 = .ok (.if_icmp .eq 5, 3) := by decide +kernel
theorem d_L_law_787 : decode code 787 = .ok (.iconst 0, 1) := by decide +kernel
theorem d_L_law_788 : decode code 788 = .ok (.ireturn, 1) := by decide +kernel
theorem d_L_law_789 : decode code 789 = .ok (.iload 5, 2) := by decide +kernel
theorem d_L_law_791 : decode code 791 = .ok (.ifCond .ne 15, 3) := by decide +kernel
theorem d_L_law_794 : decode code 794 = .ok (.aload_n 3, 1) := by decide +kernel
theorem d_L_law_795 : decode code 795 = .ok (.iconst 0, 1) := by decide +kernel
theorem d_L_law_796 : decode code 796 = .ok (.laload, 1) := by decide +kernel
theorem d_L_law_797 : decode code 797 = .ok (.iload 6, 2) := by decide +kernel
theorem d_L_law_799 : decode code 799 = .ok (.i2l, 1) := by decide +kernel
theorem d_L_law_800 : decode code 800 = .ok (.lcmp, 1) := by decide +kernel
theorem d_L_law_801 : decode code 801 = .ok (.ifCond .eq 5, 3) := by decide +kernel
theorem d_L_law_804 : decode code 804 = .ok (.iconst 0, 1) := by decide +kernel
theorem d_L_law_805 : decode code 805 = .ok (.ireturn, 1) := by decide +kernel
theorem d_L_law_806 : decode code 806 = .ok (.goto 785, 3) := by decide +kernel
theorem d_L_law_809 : decode code 809 = .ok (.aload_n 1, 1) := by decide +kernel
theorem d_L_law_810 : decode code 810 = .ok (.aload_n 0, 1) := by decide +kernel
theorem d_L_law_811 : decode code 811 = .ok (.iload 4, 2) := by decide +kernel
theorem d_L_law_813 : decode code 813 = .ok (.iconst 1, 1) := by decide +kernel
theorem d_L_law_814 : decode code 814 = .ok (.iadd, 1) := by decide +kernel
theorem d_L_law_815 : decode code 815 = .ok (.iaload, 1) := by decide +kernel
theorem d_L_law_816 : decode code 816 = .ok (.aload_n 0, 1) := by decide +kernel
theorem d_L_law_817 : decode code 817 = .ok (.iload 4, 2) := by decide +kernel
theorem d_L_law_819 : decode code 819 = .ok (.iconst 2, 1) := by decide +kernel
theorem d_L_law_820 : decode code 820 = .ok (.iadd, 1) := by decide +kernel
theorem d_L_law_821 : decode code 821 = .ok (.iaload, 1) := by decide +kernel
theorem d_L_law_822 : decode code 822 = .ok (.aload_n 0, 1) := by decide +kernel
theorem d_L_law_823 : decode code 823 = .ok (.iload 4, 2) := by decide +kernel
theorem d_L_law_825 : decode code 825 = .ok (.iconst 3, 1) := by decide +kernel
theorem d_L_law_826 : decode code 826 = .ok (.iadd, 1) := by decide +kernel
theorem d_L_law_827 : decode code 827 = .ok (.iaload, 1) := by decide +kernel
theorem d_L_law_828 : decode code 828 = .ok (.aload_n 3, 1) := by decide +kernel
theorem d_L_law_829 : decode code 829 = .ok (.invokestatic 124, 3) := by decide +kernel
theorem d_L_law_832 : decode code 832 = .ok (.istore 5, 2) := by decide +kernel
theorem d_L_law_834 : decode code 834 = .ok (.aload_n 2, 1) := by decide +kernel
theorem d_L_law_835 : decode code 835 = .ok (.aload_n 0, 1) := by decide +kernel
theorem d_L_law_836 : decode code 836 = .ok (.iload 4, 2) := by decide +kernel
theorem d_L_law_838 : decode code 838 = .ok (.iconst 1, 1) := by decide +kernel
theorem d_L_law_839 : decode code 839 = .ok (.iadd, 1) := by decide +kernel
theorem d_L_law_840 : decode code 840 = .ok (.iaload, 1) := by decide +kernel
theorem d_L_law_841 : decode code 841 = .ok (.aload_n 0, 1) := by decide +kernel
theorem d_L_law_842 : decode code 842 = .ok (.iload 4, 2) := by decide +kernel
theorem d_L_law_844 : decode code 844 = .ok (.iconst 2, 1) := by decide +kernel
theorem d_L_law_845 : decode code 845 = .ok (.iadd, 1) := by decide +kernel
theorem d_L_law_846 : decode code 846 = .ok (.iaload, 1) := by decide +kernel
theorem d_L_law_847 : decode code 847 = .ok (.aload_n 0, 1) := by decide +kernel
theorem d_L_law_848 : decode code 848 = .ok (.iload 4, 2) := by decide +kernel
theorem d_L_law_850 : decode code 850 = .ok (.iconst 3, 1) := by decide +kernel
theorem d_L_law_851 : decode code 851 = .ok (.iadd, 1) := by decide +kernel
theorem d_L_law_852 : decode code 852 = .ok (.iaload, 1) := by decide +kernel
theorem d_L_law_853 : decode code 853 = .ok (.invokevirtual 126, 3) := by decide +kernel
theorem d_L_law_856 : decode code 856 = .ok (.istore 6, 2) := by decide +kernel
theorem d_L_law_858 : decode code 858 = .ok (.aload_n 2, 1) := by decide +kernel
theorem d_L_law_859 : decode code 859 = .ok (.invokevirtual 91, 3) := by decide +kernel
theorem d_L_law_862 : decode code 862 = .ok (.iload 5, 2) := by decide +kernel
theorem d_L_law_864 : decode code 864 = .ok (.if_icmp .eq 5, 3) := by decide +kernel
theorem d_L_law_867 : decode code 867 = .ok (.iconst 0, 1) := by decide +kernel
theorem d_L_law_868 : decode code 868 = .ok (.ireturn, 1) := by decide +kernel
theorem d_L_law_869 : decode code 869 = .ok (.iload 5, 2) := by decide +kernel
theorem d_L_law_871 : decode code 871 = .ok (.ifCond .ne 15, 3) := by decide +kernel
theorem d_L_law_874 : decode code 874 = .ok (.aload_n 3, 1) := by decide +kernel
theorem d_L_law_875 : decode code 875 = .ok (.iconst 0, 1) := by decide +kernel
theorem d_L_law_876 : decode code 876 = .ok (.laload, 1) := by decide +kernel
theorem d_L_law_877 : decode code 877 = .ok (.iload 6, 2) := by decide +kernel
theorem d_L_law_879 : decode code 879 = .ok (.i2l, 1) := by decide +kernel
theorem d_L_law_880 : decode code 880 = .ok (.lcmp, 1) := by decide +kernel
theorem d_L_law_881 : decode code 881 = .ok (.ifCond .eq 5, 3) := by decide +kernel
theorem d_L_law_884 : decode code 884 = .ok (.iconst 0, 1) := by decide +kernel
theorem d_L_law_885 : decode code 885 = .ok (.ireturn, 1) := by decide +kernel
theorem d_L_law_886 : decode code 886 = .ok (.goto 705, 3) := by decide +kernel
theorem d_L_law_889 : decode code 889 = .ok (.aload_n 1, 1) := by decide +kernel
theorem d_L_law_890 : decode code 890 = .ok (.aload_n 0, 1) := by decide +kernel
theorem d_L_law_891 : decode code 891 = .ok (.iload 4, 2) := by decide +kernel
end
section
theorem d_L_law_893 : decode code 893 = .ok (.iconst 1, 1) := by decide +kernel
theorem d_L_law_894 : decode code 894 = .ok (.iadd, 1) := by decide +kernel
theorem d_L_law_895 : decode code 895 = .ok (.iaload, 1) := by decide +kernel
theorem d_L_law_896 : decode code 896 = .ok (.aload_n 0, 1) := by decide +kernel
theorem d_L_law_897 : decode code 897 = .ok (.iload 4, 2) := by decide +kernel
theorem d_L_law_899 : decode code 899 = .ok (.iconst 2, 1) := by decide +kernel
theorem d_L_law_900 : decode code 900 = .ok (.iadd, 1) := by decide +kernel
theorem d_L_law_901 : decode code 901 = .ok (.iaload, 1) := by decide +kernel
theorem d_L_law_902 : decode code 902 = .ok (.i2l, 1) := by decide +kernel
theorem d_L_law_903 : decode code 903 = .ok (.bipush 32, 2) := by decide +kernel
theorem d_L_law_905 : decode code 905 = .ok (.lshl, 1) := by decide +kernel
theorem d_L_law_906 : decode code 906 = .ok (.aload_n 0, 1) := by decide +kernel
theorem d_L_law_907 : decode code 907 = .ok (.iload 4, 2) := by decide +kernel
theorem d_L_law_909 : decode code 909 = .ok (.iconst 3, 1) := by decide +kernel
theorem d_L_law_910 : decode code 910 = .ok (.iadd, 1) := by decide +kernel
theorem d_L_law_911 : decode code 911 = .ok (.iaload, 1) := by decide +kernel
theorem d_L_law_912 : decode code 912 = .ok (.i2l, 1) := by decide +kernel
theorem d_L_law_913 : decode code 913 = .ok (.ldc2_w 99, 3) := by decide +kernel
theorem d_L_law_916 : decode code 916 = .ok (.land, 1) := by decide +kernel
theorem d_L_law_917 : decode code 917 = .ok (.lor, 1) := by decide +kernel
theorem d_L_law_918 : decode code 918 = .ok (.aload_n 3, 1) := by decide +kernel
theorem d_L_law_919 : decode code 919 = .ok (.invokestatic 127, 3) := by decide +kernel
theorem d_L_law_922 : decode code 922 = .ok (.istore 5, 2) := by decide +kernel
theorem d_L_law_924 : decode code 924 = .ok (.aload_n 2, 1) := by decide +kernel
theorem d_L_law_925 : decode code 925 = .ok (.aload_n 0, 1) := by decide +kernel
theorem d_L_law_926 : decode code 926 = .ok (.iload 4, 2) := by decide +kernel
theorem d_L_law_928 : decode code 928 = .ok (.iconst 1, 1) := by decide +kernel
theorem d_L_law_929 : decode code 929 = .ok (.iadd, 1) := by decide +kernel
theorem d_L_law_930 : decode code 930 = .ok (.iaload, 1) := by decide +kernel
theorem d_L_law_931 : decode code 931 = .ok (.aload_n 0, 1) := by decide +kernel
theorem d_L_law_932 : decode code 932 = .ok (.iload 4, 2) := by decide +kernel
theorem d_L_law_934 : decode code 934 = .ok (.iconst 2, 1) := by decide +kernel
theorem d_L_law_935 : decode code 935 = .ok (.iadd, 1) := by decide +kernel
theorem d_L_law_936 : decode code 936 = .ok (.iaload, 1) := by decide +kernel
theorem d_L_law_937 : decode code 937 = .ok (.i2l, 1) := by decide +kernel
theorem d_L_law_938 : decode code 938 = .ok (.bipush 32, 2) := by decide +kernel
theorem d_L_law_940 : decode code 940 = .ok (.lshl, 1) := by decide +kernel
theorem d_L_law_941 : decode code 941 = .ok (.aload_n 0, 1) := by decide +kernel
theorem d_L_law_942 : decode code 942 = .ok (.iload 4, 2) := by decide +kernel
theorem d_L_law_944 : decode code 944 = .ok (.iconst 3, 1) := by decide +kernel
theorem d_L_law_945 : decode code 945 = .ok (.iadd, 1) := by decide +kernel
theorem d_L_law_946 : decode code 946 = .ok (.iaload, 1) := by decide +kernel
theorem d_L_law_947 : decode code 947 = .ok (.i2l, 1) := by decide +kernel
theorem d_L_law_948 : decode code 948 = .ok (.ldc2_w 99, 3) := by decide +kernel
theorem d_L_law_951 : decode code 951 = .ok (.land, 1) := by decide +kernel
theorem d_L_law_952 : decode code 952 = .ok (.lor, 1) := by decide +kernel
theorem d_L_law_953 : decode code 953 = .ok (.invokevirtual 129, 3) := by decide +kernel
theorem d_L_law_956 : decode code 956 = .ok (.istore 6, 2) := by decide +kernel
theorem d_L_law_958 : decode code 958 = .ok (.aload_n 2, 1) := by decide +kernel
theorem d_L_law_959 : decode code 959 = .ok (.invokevirtual 91, 3) := by decide +kernel
theorem d_L_law_962 : decode code 962 = .ok (.iload 5, 2) := by decide +kernel
theorem d_L_law_964 : decode code 964 = .ok (.if_icmp .eq 5, 3) := by decide +kernel
theorem d_L_law_967 : decode code 967 = .ok (.iconst 0, 1) := by decide +kernel
theorem d_L_law_968 : decode code 968 = .ok (.ireturn, 1) := by decide +kernel
theorem d_L_law_969 : decode code 969 = .ok (.iload 5, 2) := by decide +kernel
theorem d_L_law_971 : decode code 971 = .ok (.ifCond .ne 15, 3) := by decide +kernel
theorem d_L_law_974 : decode code 974 = .ok (.aload_n 3, 1) := by decide +kernel
theorem d_L_law_975 : decode code 975 = .ok (.iconst 0, 1) := by decide +kernel
theorem d_L_law_976 : decode code 976 = .ok (.laload, 1) := by decide +kernel
theorem d_L_law_977 : decode code 977 = .ok (.iload 6, 2) := by decide +kernel
theorem d_L_law_979 : decode code 979 = .ok (.i2l, 1) := by decide +kernel
theorem d_L_law_980 : decode code 980 = .ok (.lcmp, 1) := by decide +kernel
theorem d_L_law_981 : decode code 981 = .ok (.ifCond .eq 5, 3) := by decide +kernel
theorem d_L_law_984 : decode code 984 = .ok (.iconst 0, 1) := by decide +kernel
theorem d_L_law_985 : decode code 985 = .ok (.ireturn, 1) := by decide +kernel
theorem d_L_law_986 : decode code 986 = .ok (.goto 605, 3) := by decide +kernel
theorem d_L_law_989 : decode code 989 = .ok (.aload_n 1, 1) := by decide +kernel
theorem d_L_law_990 : decode code 990 = .ok (.aload_n 0, 1) := by decide +kernel
theorem d_L_law_991 : decode code 991 = .ok (.iload 4, 2) := by decide +kernel
theorem d_L_law_993 : decode code 993 = .ok (.iconst 1, 1) := by decide +kernel
theorem d_L_law_994 : decode code 994 = .ok (.iadd, 1) := by decide +kernel
theorem d_L_law_995 : decode code 995 = .ok (.iaload, 1) := by decide +kernel
theorem d_L_law_996 : decode code 996 = .ok (.aload_n 3, 1) := by decide +kernel
theorem d_L_law_997 : decode code 997 = .ok (.invokestatic 130, 3) := by decide +kernel
theorem d_L_law_1000 : decode code 1000 = .ok (.istore 5, 2) := by decide +kernel
theorem d_L_law_1002 : decode code 1002 = .ok (.aload_n 2, 1) := by decide +kernel
theorem d_L_law_1003 : decode code 1003 = .ok (.aload_n 0, 1) := by decide +kernel
theorem d_L_law_1004 : decode code 1004 = .ok (.iload 4, 2) := by decide +kernel
theorem d_L_law_1006 : decode code 1006 = .ok (.iconst 1, 1) := by decide +kernel
theorem d_L_law_1007 : decode code 1007 = .ok (.iadd, 1) := by decide +kernel
theorem d_L_law_1008 : decode code 1008 = .ok (.iaload, 1) := by decide +kernel
theorem d_L_law_1009 : decode code 1009 = .ok (.invokevirtual 132, 3) := by decide +kernel
theorem d_L_law_1012 : decode code 1012 = .ok (.istore 6, 2) := by decide +kernel
theorem d_L_law_1014 : decode code 1014 = .ok (.aload_n 2, 1) := by decide +kernel
theorem d_L_law_1015 : decode code 1015 = .ok (.invokevirtual 91, 3) := by decide +kernel
theorem d_L_law_1018 : decode code 1018 = .ok (.iload 5, 2) := by decide +kernel
theorem d_L_law_1020 : decode code 1020 = .ok (.if_icmp .eq 5, 3) := by decide +kernel
theorem d_L_law_1023 : decode code 1023 = .ok (.iconst 0, 1) := by decide +kernel
theorem d_L_law_1024 : decode code 1024 = .ok (.ireturn, 1) := by decide +kernel
theorem d_L_law_1025 : decode code 1025 = .ok (.iload 5, 2) := by decide +kernel
theorem d_L_law_1027 : decode code 1027 = .ok (.ifCond .ne 22, 3) := by decide +kernel
theorem d_L_law_1030 : decode code 1030 = .ok (.aload_n 3, 1) := by decide +kernel
theorem d_L_law_1031 : decode code 1031 = .ok (.iconst 0, 1) := by decide +kernel
theorem d_L_law_1032 : decode code 1032 = .ok (.laload, 1) := by decide +kernel
theorem d_L_law_1033 : decode code 1033 = .ok (.iload 6, 2) := by decide +kernel
theorem d_L_law_1035 : decode code 1035 = .ok (.ifCond .eq 7, 3) := by decide +kernel
theorem d_L_law_1038 : decode code 1038 = .ok (.lconst 1, 1) := by decide +kernel
theorem d_L_law_1039 : decode code 1039 = .ok (.goto 4, 3) := by decide +kernel
theorem d_L_law_1042 : decode code 1042 = .ok (.lconst 0, 1) := by decide +kernel
theorem d_L_law_1043 : decode code 1043 = .ok (.lcmp, 1) := by decide +kernel
theorem d_L_law_1044 : decode code 1044 = .ok (.ifCond .eq 5, 3) := by decide +kernel
theorem d_L_law_1047 : decode code 1047 = .ok (.iconst 0, 1) := by decide +kernel
theorem d_L_law_1048 : decode code 1048 = .ok (.ireturn, 1) := by decide +kernel
theorem d_L_law_1049 : decode code 1049 = .ok (.goto 542, 3) := by decide +kernel
theorem d_L_law_1052 : decode code 1052 = .ok (.aload_n 1, 1) := by decide +kernel
theorem d_L_law_1053 : decode code 1053 = .ok (.aload_n 0, 1) := by decide +kernel
theorem d_L_law_1054 : decode code 1054 = .ok (.iload 4, 2) := by decide +kernel
theorem d_L_law_1056 : decode code 1056 = .ok (.iconst 1, 1) := by decide +kernel
theorem d_L_law_1057 : decode code 1057 = .ok (.iadd, 1) := by decide +kernel
theorem d_L_law_1058 : decode code 1058 = .ok (.iaload, 1) := by decide +kernel
theorem d_L_law_1059 : decode code 1059 = .ok (.aload_n 0, 1) := by decide +kernel
theorem d_L_law_1060 : decode code 1060 = .ok (.iload 4, 2) := by decide +kernel
theorem d_L_law_1062 : decode code 1062 = .ok (.iconst 2, 1) := by decide +kernel
theorem d_L_law_1063 : decode code 1063 = .ok (.iadd, 1) := by decide +kernel
theorem d_L_law_1064 : decode code 1064 = .ok (.iaload, 1) := by decide +kernel
theorem d_L_law_1065 : decode code 1065 = .ok (.aload_n 3, 1) := by decide +kernel
theorem d_L_law_1066 : decode code 1066 = .ok (.invokestatic 133, 3) := by decide +kernel
theorem d_L_law_1069 : decode code 1069 = .ok (.istore 5, 2) := by decide +kernel
theorem d_L_law_1071 : decode code 1071 = .ok (.aload_n 2, 1) := by decide +kernel
theorem d_L_law_1072 : decode code 1072 = .ok (.aload_n 0, 1) := by decide +kernel
theorem d_L_law_1073 : decode code 1073 = .ok (.iload 4, 2) := by decide +kernel
theorem d_L_law_1075 : decode code 1075 = .ok (.iconst 1, 1) := by decide +kernel
theorem d_L_law_1076 : decode code 1076 = .ok (.iadd, 1) := by decide +kernel
theorem d_L_law_1077 : decode code 1077 = .ok (.iaload, 1) := by decide +kernel
theorem d_L_law_1078 : decode code 1078 = .ok (.aload_n 0, 1) := by decide +kernel
theorem d_L_law_1079 : decode code 1079 = .ok (.iload 4, 2) := by decide +kernel
theorem d_L_law_1081 : decode code 1081 = .ok (.iconst 2, 1) := by decide +kernel
theorem d_L_law_1082 : decode code 1082 = .ok (.iadd, 1) := by decide +kernel
theorem d_L_law_1083 : decode code 1083 = .ok (.iaload, 1) := by decide +kernel
theorem d_L_law_1084 : decode code 1084 = .ok (.invokevirtual 135, 3) := by decide +kernel
theorem d_L_law_1087 : decode code 1087 = .ok (.istore 6, 2) := by decide +kernel
theorem d_L_law_1089 : decode code 1089 = .ok (.aload_n 2, 1) := by decide +kernel
theorem d_L_law_1090 : decode code 1090 = .ok (.invokevirtual 91, 3) := by decide +kernel
theorem d_L_law_1093 : decode code 1093 = .ok (.iload 5, 2) := by decide +kernel
theorem d_L_law_1095 : decode code 1095 = .ok (.if_icmp .eq 5, 3) := by decide +kernel
theorem d_L_law_1098 : decode code 1098 = .ok (.iconst 0, 1) := by decide +kernel
theorem d_L_law_1099 : decode code 1099 = .ok (.ireturn, 1) := by decide +kernel
theorem d_L_law_1100 : decode code 1100 = .ok (.iload 5, 2) := by decide +kernel
theorem d_L_law_1102 : decode code 1102 = .ok (.ifCond .ne 15, 3) := by decide +kernel
theorem d_L_law_1105 : decode code 1105 = .ok (.aload_n 3, 1) := by decide +kernel
theorem d_L_law_1106 : decode code 1106 = .ok (.iconst 0, 1) := by decide +kernel
theorem d_L_law_1107 : decode code 1107 = .ok (.laload, 1) := by decide +kernel
theorem d_L_law_1108 : decode code 1108 = .ok (.iload 6, 2) := by decide +kernel
theorem d_L_law_1110 : decode code 1110 = .ok (.i2l, 1) := by decide +kernel
theorem d_L_law_1111 : decode code 1111 = .ok (.lcmp, 1) := by decide +kernel
theorem d_L_law_1112 : decode code 1112 = .ok (.ifCond .eq 5, 3) := by decide +kernel
theorem d_L_law_1115 : decode code 1115 = .ok (.iconst 0, 1) := by decide +kernel
theorem d_L_law_1116 : decode code 1116 = .ok (.ireturn, 1) := by decide +kernel
theorem d_L_law_1117 : decode code 1117 = .ok (.goto 474, 3) := by decide +kernel
theorem d_L_law_1120 : decode code 1120 = .ok (.aload_n 1, 1) := by decide +kernel
theorem d_L_law_1121 : decode code 1121 = .ok (.aload_n 0, 1) := by decide +kernel
theorem d_L_law_1122 : decode code 1122 = .ok (.iload 4, 2) := by decide +kernel
theorem d_L_law_1124 : decode code 1124 = .ok (.iconst 1, 1) := by decide +kernel
theorem d_L_law_1125 : decode code 1125 = .ok (.iadd, 1) := by decide +kernel
theorem d_L_law_1126 : decode code 1126 = .ok (.iaload, 1) := by decide +kernel
theorem d_L_law_1127 : decode code 1127 = .ok (.aload_n 0, 1) := by decide +kernel
theorem d_L_law_1128 : decode code 1128 = .ok (.iload 4, 2) := by decide +kernel
theorem d_L_law_1130 : decode code 1130 = .ok (.iconst 2, 1) := by decide +kernel
theorem d_L_law_1131 : decode code 1131 = .ok (.iadd, 1) := by decide +kernel
theorem d_L_law_1132 : decode code 1132 = .ok (.iaload, 1) := by decide +kernel
theorem d_L_law_1133 : decode code 1133 = .ok (.aload_n 3, 1) := by decide +kernel
theorem d_L_law_1134 : decode code 1134 = .ok (.invokestatic 136, 3) := by decide +kernel
theorem d_L_law_1137 : decode code 1137 = .ok (.istore 5, 2) := by decide +kernel
theorem d_L_law_1139 : decode code 1139 = .ok (.aload_n 2, 1) := by decide +kernel
theorem d_L_law_1140 : decode code 1140 = .ok (.aload_n 0, 1) := by decide +kernel
theorem d_L_law_1141 : decode code 1141 = .ok (.iload 4, 2) := by decide +kernel
theorem d_L_law_1143 : decode code 1143 = .ok (.iconst 1, 1) := by decide +kernel
theorem d_L_law_1144 : decode code 1144 = .ok (.iadd, 1) := by decide +kernel
theorem d_L_law_1145 : decode code 1145 = .ok (.iaload, 1) := by decide +kernel
theorem d_L_law_1146 : decode code 1146 = .ok (.aload_n 0, 1) := by decide +kernel
theorem d_L_law_1147 : decode code 1147 = .ok (.iload 4, 2) := by decide +kernel
theorem d_L_law_1149 : decode code 1149 = .ok (.iconst 2, 1) := by decide +kernel
theorem d_L_law_1150 : decode code 1150 = .ok (.iadd, 1) := by decide +kernel
theorem d_L_law_1151 : decode code 1151 = .ok (.iaload, 1) := by decide +kernel
theorem d_L_law_1152 : decode code 1152 = .ok (.invokevirtual 138, 3) := by decide +kernel
theorem d_L_law_1155 : decode code 1155 = .ok (.istore 6, 2) := by decide +kernel
theorem d_L_law_1157 : decode code 1157 = .ok (.aload_n 2, 1) := by decide +kernel
theorem d_L_law_1158 : decode code 1158 = .ok (.invokevirtual 91, 3) := by decide +kernel
theorem d_L_law_1161 : decode code 1161 = .ok (.iload 5, 2) := by decide +kernel
theorem d_L_law_1163 : decode code 1163 = .ok (.if_icmp .eq 5, 3) := by decide +kernel
theorem d_L_law_1166 : decode code 1166 = .ok (.iconst 0, 1) := by decide +kernel
theorem d_L_law_1167 : decode code 1167 = .ok (.ireturn, 1) := by decide +kernel
theorem d_L_law_1168 : decode code 1168 = .ok (.iload 5, 2) := by decide +kernel
theorem d_L_law_1170 : decode code 1170 = .ok (.ifCond .ne 15, 3) := by decide +kernel
theorem d_L_law_1173 : decode code 1173 = .ok (.aload_n 3, 1) := by decide +kernel
theorem d_L_law_1174 : decode code 1174 = .ok (.iconst 0, 1) := by decide +kernel
theorem d_L_law_1175 : decode code 1175 = .ok (.laload, 1) := by decide +kernel
theorem d_L_law_1176 : decode code 1176 = .ok (.iload 6, 2) := by decide +kernel
theorem d_L_law_1178 : decode code 1178 = .ok (.i2l, 1) := by decide +kernel
theorem d_L_law_1179 : decode code 1179 = .ok (.lcmp, 1) := by decide +kernel
theorem d_L_law_1180 : decode code 1180 = .ok (.ifCond .eq 5, 3) := by decide +kernel
theorem d_L_law_1183 : decode code 1183 = .ok (.iconst 0, 1) := by decide +kernel
theorem d_L_law_1184 : decode code 1184 = .ok (.ireturn, 1) := by decide +kernel
theorem d_L_law_1185 : decode code 1185 = .ok (.goto 406, 3) := by decide +kernel
theorem d_L_law_1188 : decode code 1188 = .ok (.aload_n 1, 1) := by decide +kernel
theorem d_L_law_1189 : decode code 1189 = .ok (.aload_n 0, 1) := by decide +kernel
theorem d_L_law_1190 : decode code 1190 = .ok (.iload 4, 2) := by decide +kernel
theorem d_L_law_1192 : decode code 1192 = .ok (.iconst 1, 1) := by decide +kernel
theorem d_L_law_1193 : decode code 1193 = .ok (.iadd, 1) := by decide +kernel
theorem d_L_law_1194 : decode code 1194 = .ok (.iaload, 1) := by decide +kernel
theorem d_L_law_1195 : decode code 1195 = .ok (.aload_n 0, 1) := by decide +kernel
theorem d_L_law_1196 : decode code 1196 = .ok (.iload 4, 2) := by decide +kernel
theorem d_L_law_1198 : decode code 1198 = .ok (.iconst 2, 1) := by decide +kernel
theorem d_L_law_1199 : decode code 1199 = .ok (.iadd, 1) := by decide +kernel
theorem d_L_law_1200 : decode code 1200 = .ok (.iaload, 1) := by decide +kernel
theorem d_L_law_1201 : decode code 1201 = .ok (.aload_n 3, 1) := by decide +kernel
theorem d_L_law_1202 : decode code 1202 = .ok (.invokestatic 139, 3) := by decide +kernel
theorem d_L_law_1205 : decode code 1205 = .ok (.istore 5, 2) := by decide +kernel
theorem d_L_law_1207 : decode code 1207 = .ok (.aload_n 2, 1) := by decide +kernel
theorem d_L_law_1208 : decode code 1208 = .ok (.aload_n 0, 1) := by decide +kernel
theorem d_L_law_1209 : decode code 1209 = .ok (.iload 4, 2) := by decide +kernel
theorem d_L_law_1211 : decode code 1211 = .ok (.iconst 1, 1) := by decide +kernel
theorem d_L_law_1212 : decode code 1212 = .ok (.iadd, 1) := by decide +kernel
theorem d_L_law_1213 : decode code 1213 = .ok (.iaload, 1) := by decide +kernel
theorem d_L_law_1214 : decode code 1214 = .ok (.aload_n 0, 1) := by decide +kernel
theorem d_L_law_1215 : decode code 1215 = .ok (.iload 4, 2) := by decide +kernel
theorem d_L_law_1217 : decode code 1217 = .ok (.iconst 2, 1) := by decide +kernel
theorem d_L_law_1218 : decode code 1218 = .ok (.iadd, 1) := by decide +kernel
theorem d_L_law_1219 : decode code 1219 = .ok (.iaload, 1) := by decide +kernel
theorem d_L_law_1220 : decode code 1220 = .ok (.invokevirtual 141, 3) := by decide +kernel
theorem d_L_law_1223 : decode code 1223 = .ok (.istore 6, 2) := by decide +kernel
theorem d_L_law_1225 : decode code 1225 = .ok (.aload_n 2, 1) := by decide +kernel
theorem d_L_law_1226 : decode code 1226 = .ok (.invokevirtual 91, 3) := by decide +kernel
theorem d_L_law_1229 : decode code 1229 = .ok (.iload 5, 2) := by decide +kernel
theorem d_L_law_1231 : decode code 1231 = .ok (.if_icmp .eq 5, 3) := by decide +kernel
theorem d_L_law_1234 : decode code 1234 = .ok (.iconst 0, 1) := by decide +kernel
theorem d_L_law_1235 : decode code 1235 = .ok (.ireturn, 1) := by decide +kernel
theorem d_L_law_1236 : decode code 1236 = .ok (.iload 5, 2) := by decide +kernel
theorem d_L_law_1238 : decode code 1238 = .ok (.ifCond .ne 15, 3) := by decide +kernel
theorem d_L_law_1241 : decode code 1241 = .ok (.aload_n 3, 1) := by decide +kernel
theorem d_L_law_1242 : decode code 1242 = .ok (.iconst 0, 1) := by decide +kernel
theorem d_L_law_1243 : decode code 1243 = .ok (.laload, 1) := by decide +kernel
theorem d_L_law_1244 : decode code 1244 = .ok (.iload 6, 2) := by decide +kernel
theorem d_L_law_1246 : decode code 1246 = .ok (.i2l, 1) := by decide +kernel
theorem d_L_law_1247 : decode code 1247 = .ok (.lcmp, 1) := by decide +kernel
theorem d_L_law_1248 : decode code 1248 = .ok (.ifCond .eq 5, 3) := by decide +kernel
theorem d_L_law_1251 : decode code 1251 = .ok (.iconst 0, 1) := by decide +kernel
theorem d_L_law_1252 : decode code 1252 = .ok (.ireturn, 1) := by decide +kernel
theorem d_L_law_1253 : decode code 1253 = .ok (.goto 338, 3) := by decide +kernel
theorem d_L_law_1256 : decode code 1256 = .ok (.aload_n 1, 1) := by decide +kernel
theorem d_L_law_1257 : decode code 1257 = .ok (.aload_n 0, 1) := by decide +kernel
theorem d_L_law_1258 : decode code 1258 = .ok (.iload 4, 2) := by decide +kernel
theorem d_L_law_1260 : decode code 1260 = .ok (.iconst 1, 1) := by decide +kernel
theorem d_L_law_1261 : decode code 1261 = .ok (.iadd, 1) := by decide +kernel
theorem d_L_law_1262 : decode code 1262 = .ok (.iaload, 1) := by decide +kernel
theorem d_L_law_1263 : decode code 1263 = .ok (.aload_n 0, 1) := by decide +kernel
theorem d_L_law_1264 : decode code 1264 = .ok (.iload 4, 2) := by decide +kernel
theorem d_L_law_1266 : decode code 1266 = .ok (.iconst 2, 1) := by decide +kernel
theorem d_L_law_1267 : decode code 1267 = .ok (.iadd, 1) := by decide +kernel
theorem d_L_law_1268 : decode code 1268 = .ok (.iaload, 1) := by decide +kernel
theorem d_L_law_1269 : decode code 1269 = .ok (.i2l, 1) := by decide +kernel
theorem d_L_law_1270 : decode code 1270 = .ok (.bipush 32, 2) := by decide +kernel
theorem d_L_law_1272 : decode code 1272 = .ok (.lshl, 1) := by decide +kernel
theorem d_L_law_1273 : decode code 1273 = .ok (.aload_n 0, 1) := by decide +kernel
theorem d_L_law_1274 : decode code 1274 = .ok (.iload 4, 2) := by decide +kernel
theorem d_L_law_1276 : decode code 1276 = .ok (.iconst 3, 1) := by decide +kernel
theorem d_L_law_1277 : decode code 1277 = .ok (.iadd, 1) := by decide +kernel
theorem d_L_law_1278 : decode code 1278 = .ok (.iaload, 1) := by decide +kernel
theorem d_L_law_1279 : decode code 1279 = .ok (.i2l, 1) := by decide +kernel
theorem d_L_law_1280 : decode code 1280 = .ok (.ldc2_w 99, 3) := by decide +kernel
theorem d_L_law_1283 : decode code 1283 = .ok (.land, 1) := by decide +kernel
theorem d_L_law_1284 : decode code 1284 = .ok (.lor, 1) := by decide +kernel
theorem d_L_law_1285 : decode code 1285 = .ok (.aload_n 3, 1) := by decide +kernel
theorem d_L_law_1286 : decode code 1286 = .ok (.invokestatic 142, 3) := by decide +kernel
theorem d_L_law_1289 : decode code 1289 = .ok (.istore 5, 2) := by decide +kernel
theorem d_L_law_1291 : decode code 1291 = .ok (.aload_n 2, 1) := by decide +kernel
theorem d_L_law_1292 : decode code 1292 = .ok (.aload_n 0, 1) := by decide +kernel
theorem d_L_law_1293 : decode code 1293 = .ok (.iload 4, 2) := by decide +kernel
theorem d_L_law_1295 : decode code 1295 = .ok (.iconst 1, 1) := by decide +kernel
theorem d_L_law_1296 : decode code 1296 = .ok (.iadd, 1) := by decide +kernel
theorem d_L_law_1297 : decode code 1297 = .ok (.iaload, 1) := by decide +kernel
theorem d_L_law_1298 : decode code 1298 = .ok (.aload_n 0, 1) := by decide +kernel
theorem d_L_law_1299 : decode code 1299 = .ok (.iload 4, 2) := by decide +kernel
theorem d_L_law_1301 : decode code 1301 = .ok (.iconst 2, 1) := by decide +kernel
theorem d_L_law_1302 : decode code 1302 = .ok (.iadd, 1) := by decide +kernel
theorem d_L_law_1303 : decode code 1303 = .ok (.iaload, 1) := by decide +kernel
theorem d_L_law_1304 : decode code 1304 = .ok (.i2l, 1) := by decide +kernel
theorem d_L_law_1305 : decode code 1305 = .ok (.bipush 32, 2) := by decide +kernel
theorem d_L_law_1307 : decode code 1307 = .ok (.lshl, 1) := by decide +kernel
theorem d_L_law_1308 : decode code 1308 = .ok (.aload_n 0, 1) := by decide +kernel
theorem d_L_law_1309 : decode code 1309 = .ok (.iload 4, 2) := by decide +kernel
theorem d_L_law_1311 : decode code 1311 = .ok (.iconst 3, 1) := by decide +kernel
theorem d_L_law_1312 : decode code 1312 = .ok (.iadd, 1) := by decide +kernel
theorem d_L_law_1313 : decode code 1313 = .ok (.iaload, 1) := by decide +kernel
theorem d_L_law_1314 : decode code 1314 = .ok (.i2l, 1) := by decide +kernel
theorem d_L_law_1315 : decode code 1315 = .ok (.ldc2_w 99, 3) := by decide +kernel
theorem d_L_law_1318 : decode code 1318 = .ok (.land, 1) := by decide +kernel
theorem d_L_law_1319 : decode code 1319 = .ok (.lor, 1) := by decide +kernel
theorem d_L_law_1320 : decode code 1320 = .ok (.invokevirtual 144, 3) := by decide +kernel
theorem d_L_law_1323 : decode code 1323 = .ok (.lstore 6, 2) := by decide +kernel
theorem d_L_law_1325 : decode code 1325 = .ok (.aload_n 2, 1) := by decide +kernel
theorem d_L_law_1326 : decode code 1326 = .ok (.invokevirtual 91, 3) := by decide +kernel
theorem d_L_law_1329 : decode code 1329 = .ok (.iload 5, 2) := by decide +kernel
theorem d_L_law_1331 : decode code 1331 = .ok (.if_icmp .eq 5, 3) := by decide +kernel
theorem d_L_law_1334 : decode code 1334 = .ok (.iconst 0, 1) := by decide +kernel
theorem d_L_law_1335 : decode code 1335 = .ok (.ireturn, 1) := by decide +kernel
theorem d_L_law_1336 : decode code 1336 = .ok (.iload 5, 2) := by decide +kernel
theorem d_L_law_1338 : decode code 1338 = .ok (.ifCond .ne 14, 3) := by decide +kernel
theorem d_L_law_1341 : decode code 1341 = .ok (.aload_n 3, 1) := by decide +kernel
theorem d_L_law_1342 : decode code 1342 = .ok (.iconst 0, 1) := by decide +kernel
theorem d_L_law_1343 : decode code 1343 = .ok (.laload, 1) := by decide +kernel
theorem d_L_law_1344 : decode code 1344 = .ok (.lload 6, 2) := by decide +kernel
theorem d_L_law_1346 : decode code 1346 = .ok (.lcmp, 1) := by decide +kernel
theorem d_L_law_1347 : decode code 1347 = .ok (.ifCond .eq 5, 3) := by decide +kernel
theorem d_L_law_1350 : decode code 1350 = .ok (.iconst 0, 1) := by decide +kernel
theorem d_L_law_1351 : decode code 1351 = .ok (.ireturn, 1) := by decide +kernel
theorem d_L_law_1352 : decode code 1352 = .ok (.goto 239, 3) := by decide +kernel
theorem d_L_law_1355 : decode code 1355 = .ok (.aload_n 1, 1) := by decide +kernel
theorem d_L_law_1356 : decode code 1356 = .ok (.aload_n 0, 1) := by decide +kernel
theorem d_L_law_1357 : decode code 1357 = .ok (.iload 4, 2) := by decide +kernel
theorem d_L_law_1359 : decode code 1359 = .ok (.iconst 1, 1) := by decide +kernel
theorem d_L_law_1360 : decode code 1360 = .ok (.iadd, 1) := by decide +kernel
theorem d_L_law_1361 : decode code 1361 = .ok (.iaload, 1) := by decide +kernel
theorem d_L_law_1362 : decode code 1362 = .ok (.aload_n 3, 1) := by decide +kernel
theorem d_L_law_1363 : decode code 1363 = .ok (.invokestatic 145, 3) := by decide +kernel
theorem d_L_law_1366 : decode code 1366 = .ok (.istore 5, 2) := by decide +kernel
theorem d_L_law_1368 : decode code 1368 = .ok (.aload_n 2, 1) := by decide +kernel
theorem d_L_law_1369 : decode code 1369 = .ok (.aload_n 0, 1) := by decide +kernel
theorem d_L_law_1370 : decode code 1370 = .ok (.iload 4, 2) := by decide +kernel
theorem d_L_law_1372 : decode code 1372 = .ok (.iconst 1, 1) := by decide +kernel
theorem d_L_law_1373 : decode code 1373 = .ok (.iadd, 1) := by decide +kernel
theorem d_L_law_1374 : decode code 1374 = .ok (.iaload, 1) := by decide +kernel
theorem d_L_law_1375 : decode code 1375 = .ok (.invokevirtual 147, 3) := by decide +kernel
theorem d_L_law_1378 : decode code 1378 = .ok (.istore 6, 2) := by decide +kernel
theorem d_L_law_1380 : decode code 1380 = .ok (.aload_n 2, 1) := by decide +kernel
theorem d_L_law_1381 : decode code 1381 = .ok (.invokevirtual 91, 3) := by decide +kernel
theorem d_L_law_1384 : decode code 1384 = .ok (.iload 5, 2) := by decide +kernel
theorem d_L_law_1386 : decode code 1386 = .ok (.if_icmp .eq 5, 3) := by decide +kernel
theorem d_L_law_1389 : decode code 1389 = .ok (.iconst 0, 1) := by decide +kernel
theorem d_L_law_1390 : decode code 1390 = .ok (.ireturn, 1) := by decide +kernel
theorem d_L_law_1391 : decode code 1391 = .ok (.iload 5, 2) := by decide +kernel
theorem d_L_law_1393 : decode code 1393 = .ok (.ifCond .ne 15, 3) := by decide +kernel
theorem d_L_law_1396 : decode code 1396 = .ok (.aload_n 3, 1) := by decide +kernel
theorem d_L_law_1397 : decode code 1397 = .ok (.iconst 0, 1) := by decide +kernel
theorem d_L_law_1398 : decode code 1398 = .ok (.laload, 1) := by decide +kernel
theorem d_L_law_1399 : decode code 1399 = .ok (.iload 6, 2) := by decide +kernel
theorem d_L_law_1401 : decode code 1401 = .ok (.i2l, 1) := by decide +kernel
theorem d_L_law_1402 : decode code 1402 = .ok (.lcmp, 1) := by decide +kernel
theorem d_L_law_1403 : decode code 1403 = .ok (.ifCond .eq 5, 3) := by decide +kernel
theorem d_L_law_1406 : decode code 1406 = .ok (.iconst 0, 1) := by decide +kernel
theorem d_L_law_1407 : decode code 1407 = .ok (.ireturn, 1) := by decide +kernel
theorem d_L_law_1408 : decode code 1408 = .ok (.goto 183, 3) := by decide +kernel
theorem d_L_law_1411 : decode code 1411 = .ok (.aload_n 1, 1) := by decide +kernel
theorem d_L_law_1412 : decode code 1412 = .ok (.aload_n 0, 1) := by decide +kernel
theorem d_L_law_1413 : decode code 1413 = .ok (.iload 4, 2) := by decide +kernel
theorem d_L_law_1415 : decode code 1415 = .ok (.iconst 1, 1) := by decide +kernel
theorem d_L_law_1416 : decode code 1416 = .ok (.iadd, 1) := by decide +kernel
theorem d_L_law_1417 : decode code 1417 = .ok (.iaload, 1) := by decide +kernel
theorem d_L_law_1418 : decode code 1418 = .ok (.aload_n 3, 1) := by decide +kernel
theorem d_L_law_1419 : decode code 1419 = .ok (.invokestatic 148, 3) := by decide +kernel
theorem d_L_law_1422 : decode code 1422 = .ok (.istore 5, 2) := by decide +kernel
theorem d_L_law_1424 : decode code 1424 = .ok (.aload_n 2, 1) := by decide +kernel
theorem d_L_law_1425 : decode code 1425 = .ok (.aload_n 0, 1) := by decide +kernel
theorem d_L_law_1426 : decode code 1426 = .ok (.iload 4, 2) := by decide +kernel
theorem d_L_law_1428 : decode code 1428 = .ok (.iconst 1, 1) := by decide +kernel
theorem d_L_law_1429 : decode code 1429 = .ok (.iadd, 1) := by decide +kernel
theorem d_L_law_1430 : decode code 1430 = .ok (.iaload, 1) := by decide +kernel
theorem d_L_law_1431 : decode code 1431 = .ok (.invokevirtual 150, 3) := by decide +kernel
theorem d_L_law_1434 : decode code 1434 = .ok (.istore 6, 2) := by decide +kernel
theorem d_L_law_1436 : decode code 1436 = .ok (.aload_n 2, 1) := by decide +kernel
theorem d_L_law_1437 : decode code 1437 = .ok (.invokevirtual 91, 3) := by decide +kernel
theorem d_L_law_1440 : decode code 1440 = .ok (.iload 5, 2) := by decide +kernel
theorem d_L_law_1442 : decode code 1442 = .ok (.if_icmp .eq 5, 3) := by decide +kernel
theorem d_L_law_1445 : decode code 1445 = .ok (.iconst 0, 1) := by decide +kernel
theorem d_L_law_1446 : decode code 1446 = .ok (.ireturn, 1) := by decide +kernel
theorem d_L_law_1447 : decode code 1447 = .ok (.iload 5, 2) := by decide +kernel
theorem d_L_law_1449 : decode code 1449 = .ok (.ifCond .ne 15, 3) := by decide +kernel
theorem d_L_law_1452 : decode code 1452 = .ok (.aload_n 3, 1) := by decide +kernel
theorem d_L_law_1453 : decode code 1453 = .ok (.iconst 0, 1) := by decide +kernel
theorem d_L_law_1454 : decode code 1454 = .ok (.laload, 1) := by decide +kernel
theorem d_L_law_1455 : decode code 1455 = .ok (.iload 6, 2) := by decide +kernel
theorem d_L_law_1457 : decode code 1457 = .ok (.i2l, 1) := by decide +kernel
theorem d_L_law_1458 : decode code 1458 = .ok (.lcmp, 1) := by decide +kernel
theorem d_L_law_1459 : decode code 1459 = .ok (.ifCond .eq 5, 3) := by decide +kernel
theorem d_L_law_1462 : decode code 1462 = .ok (.iconst 0, 1) := by decide +kernel
theorem d_L_law_1463 : decode code 1463 = .ok (.ireturn, 1) := by decide +kernel
theorem d_L_law_1464 : decode code 1464 = .ok (.goto 127, 3) := by decide +kernel
theorem d_L_law_1467 : decode code 1467 = .ok (.aload_n 1, 1) := by decide +kernel
theorem d_L_law_1468 : decode code 1468 = .ok (.aload_n 0, 1) := by decide +kernel
theorem d_L_law_1469 : decode code 1469 = .ok (.iload 4, 2) := by decide +kernel
theorem d_L_law_1471 : decode code 1471 = .ok (.iconst 1, 1) := by decide +kernel
theorem d_L_law_1472 : decode code 1472 = .ok (.iadd, 1) := by decide +kernel
theorem d_L_law_1473 : decode code 1473 = .ok (.iaload, 1) := by decide +kernel
theorem d_L_law_1474 : decode code 1474 = .ok (.aload_n 3, 1) := by decide +kernel
theorem d_L_law_1475 : decode code 1475 = .ok (.invokestatic 151, 3) := by decide +kernel
theorem d_L_law_1478 : decode code 1478 = .ok (.istore 5, 2) := by decide +kernel
theorem d_L_law_1480 : decode code 1480 = .ok (.aload_n 2, 1) := by decide +kernel
theorem d_L_law_1481 : decode code 1481 = .ok (.aload_n 0, 1) := by decide +kernel
theorem d_L_law_1482 : decode code 1482 = .ok (.iload 4, 2) := by decide +kernel
theorem d_L_law_1484 : decode code 1484 = .ok (.iconst 1, 1) := by decide +kernel
theorem d_L_law_1485 : decode code 1485 = .ok (.iadd, 1) := by decide +kernel
theorem d_L_law_1486 : decode code 1486 = .ok (.iaload, 1) := by decide +kernel
theorem d_L_law_1487 : decode code 1487 = .ok (.invokevirtual 153, 3) := by decide +kernel
theorem d_L_law_1490 : decode code 1490 = .ok (.istore 6, 2) := by decide +kernel
theorem d_L_law_1492 : decode code 1492 = .ok (.aload_n 2, 1) := by decide +kernel
theorem d_L_law_1493 : decode code 1493 = .ok (.invokevirtual 91, 3) := by decide +kernel
theorem d_L_law_1496 : decode code 1496 = .ok (.iload 5, 2) := by decide +kernel
theorem d_L_law_1498 : decode code 1498 = .ok (.if_icmp .eq 5, 3) := by decide +kernel
theorem d_L_law_1501 : decode code 1501 = .ok (.iconst 0, 1) := by decide +kernel
theorem d_L_law_1502 : decode code 1502 = .ok (.ireturn, 1) := by decide +kernel
theorem d_L_law_1503 : decode code 1503 = .ok (.iload 5, 2) := by decide +kernel
theorem d_L_law_1505 : decode code 1505 = .ok (.ifCond .ne 15, 3) := by decide +kernel
theorem d_L_law_1508 : decode code 1508 = .ok (.aload_n 3, 1) := by decide +kernel
theorem d_L_law_1509 : decode code 1509 = .ok (.iconst 0, 1) := by decide +kernel
theorem d_L_law_1510 : decode code 1510 = .ok (.laload, 1) := by decide +kernel
theorem d_L_law_1511 : decode code 1511 = .ok (.iload 6, 2) := by decide +kernel
theorem d_L_law_1513 : decode code 1513 = .ok (.i2l, 1) := by decide +kernel
theorem d_L_law_1514 : decode code 1514 = .ok (.lcmp, 1) := by decide +kernel
theorem d_L_law_1515 : decode code 1515 = .ok (.ifCond .eq 5, 3) := by decide +kernel
theorem d_L_law_1518 : decode code 1518 = .ok (.iconst 0, 1) := by decide +kernel
theorem d_L_law_1519 : decode code 1519 = .ok (.ireturn, 1) := by decide +kernel
theorem d_L_law_1520 : decode code 1520 = .ok (.goto 71, 3) := by decide +kernel
theorem d_L_law_1523 : decode code 1523 = .ok (.aload_n 1, 1) := by decide +kernel
theorem d_L_law_1524 : decode code 1524 = .ok (.aload_n 0, 1) := by decide +kernel
theorem d_L_law_1525 : decode code 1525 = .ok (.iload 4, 2) := by decide +kernel
theorem d_L_law_1527 : decode code 1527 = .ok (.iconst 1, 1) := by decide +kernel
theorem d_L_law_1528 : decode code 1528 = .ok (.iadd, 1) := by decide +kernel
theorem d_L_law_1529 : decode code 1529 = .ok (.iaload, 1) := by decide +kernel
theorem d_L_law_1530 : decode code 1530 = .ok (.aload_n 0, 1) := by decide +kernel
theorem d_L_law_1531 : decode code 1531 = .ok (.iload 4, 2) := by decide +kernel
end
section
theorem d_L_law_1533 : decode code 1533 = .ok (.iconst 2, 1) := by decide +kernel
theorem d_L_law_1534 : decode code 1534 = .ok (.iadd, 1) := by decide +kernel
theorem d_L_law_1535 : decode code 1535 = .ok (.iaload, 1) := by decide +kernel
theorem d_L_law_1536 : decode code 1536 = .ok (.aload_n 3, 1) := by decide +kernel
theorem d_L_law_1537 : decode code 1537 = .ok (.invokestatic 154, 3) := by decide +kernel
theorem d_L_law_1540 : decode code 1540 = .ok (.istore 5, 2) := by decide +kernel
theorem d_L_law_1542 : decode code 1542 = .ok (.aload_n 2, 1) := by decide +kernel
theorem d_L_law_1543 : decode code 1543 = .ok (.aload_n 0, 1) := by decide +kernel
theorem d_L_law_1544 : decode code 1544 = .ok (.iload 4, 2) := by decide +kernel
theorem d_L_law_1546 : decode code 1546 = .ok (.iconst 1, 1) := by decide +kernel
theorem d_L_law_1547 : decode code 1547 = .ok (.iadd, 1) := by decide +kernel
theorem d_L_law_1548 : decode code 1548 = .ok (.iaload, 1) := by decide +kernel
theorem d_L_law_1549 : decode code 1549 = .ok (.aload_n 0, 1) := by decide +kernel
theorem d_L_law_1550 : decode code 1550 = .ok (.iload 4, 2) := by decide +kernel
theorem d_L_law_1552 : decode code 1552 = .ok (.iconst 2, 1) := by decide +kernel
theorem d_L_law_1553 : decode code 1553 = .ok (.iadd, 1) := by decide +kernel
theorem d_L_law_1554 : decode code 1554 = .ok (.iaload, 1) := by decide +kernel
theorem d_L_law_1555 : decode code 1555 = .ok (.invokevirtual 156, 3) := by decide +kernel
theorem d_L_law_1558 : decode code 1558 = .ok (.istore 6, 2) := by decide +kernel
theorem d_L_law_1560 : decode code 1560 = .ok (.aload_n 2, 1) := by decide +kernel
theorem d_L_law_1561 : decode code 1561 = .ok (.invokevirtual 91, 3) := by decide +kernel
theorem d_L_law_1564 : decode code 1564 = .ok (.iload 5, 2) := by decide +kernel
theorem d_L_law_1566 : decode code 1566 = .ok (.if_icmp .eq 5, 3) := by decide +kernel
theorem d_L_law_1569 : decode code 1569 = .ok (.iconst 0, 1) := by decide +kernel
theorem d_L_law_1570 : decode code 1570 = .ok (.ireturn, 1) := by decide +kernel
theorem d_L_law_1571 : decode code 1571 = .ok (.iload 5, 2) := by decide +kernel
theorem d_L_law_1573 : decode code 1573 = .ok (.ifCond .ne 15, 3) := by decide +kernel
theorem d_L_law_1576 : decode code 1576 = .ok (.aload_n 3, 1) := by decide +kernel
theorem d_L_law_1577 : decode code 1577 = .ok (.iconst 0, 1) := by decide +kernel
theorem d_L_law_1578 : decode code 1578 = .ok (.laload, 1) := by decide +kernel
theorem d_L_law_1579 : decode code 1579 = .ok (.iload 6, 2) := by decide +kernel
theorem d_L_law_1581 : decode code 1581 = .ok (.i2l, 1) := by decide +kernel
theorem d_L_law_1582 : decode code 1582 = .ok (.lcmp, 1) := by decide +kernel
theorem d_L_law_1583 : decode code 1583 = .ok (.ifCond .eq 5, 3) := by decide +kernel
theorem d_L_law_1586 : decode code 1586 = .ok (.iconst 0, 1) := by decide +kernel
theorem d_L_law_1587 : decode code 1587 = .ok (.ireturn, 1) := by decide +kernel
theorem d_L_law_1588 : decode code 1588 = .ok (.goto 3, 3) := by decide +kernel
theorem d_L_law_1591 : decode code 1591 = .ok (.iinc 4 4, 3) := by decide +kernel
theorem d_L_law_1594 : decode code 1594 = .ok (.goto (-1571), 3) := by decide +kernel
theorem d_L_law_1597 : decode code 1597 = .ok (.iconst 1, 1) := by decide +kernel
theorem d_L_law_1598 : decode code 1598 = .ok (.ireturn, 1) := by decide +kernel
end
section
/-! The form of all contracts here: one answer, one set of worlds behind. -/
def xQ (r : Option Value) (B : State → Prop) (A : Nat → Prop) : Array Value → State → Outcome → State → Prop := fun _ st oc t => oc = .returned r ∧ B t ∧ va_F A st t
def xB (D : va_G) (cl : List vw_C) (A : Nat → Prop) (Y : va_W → Prop) (t : State) : Prop := ∃ w : va_W, Y w ∧ va_P D cl w t.heap ∧ va_D A w
def xP (D : va_G) (cl : List vw_C) (tys : List (ClassId × FieldType)) (w0 : va_W) (sz : Nat) (U : State) : Prop := U.heap.size = sz ∧ va_P D cl w0 U.heap ∧ va_K D cl tys U ∧ va_D (fun _ => True) w0
/-- THE CONTRACT: with the arguments as and the world w0 it answers r, and the world is one of Y -/
def xC (l : Launch) (y : MethodName) (ws : List Cond) (rm : Room) (D : va_G) (cl : List vw_C) (tys : List (ClassId × FieldType)) (as : List Value) (w0 : va_W) (r : Option Value) (Y : va_W → Prop) (mc ms : Nat) : Prop :=
  ∀ sz : Nat, Met l y ws rm (va_Pc as (xP D cl tys w0 sz)) (xQ r (xB D cl (va_A w0 sz) Y) (va_A w0 sz)) mc ms (va_A w0 sz)
theorem xC.ofW {l : Launch} {y : MethodName} {ws ws' : List Cond} {rm : Room} {D : va_G} {cl : List vw_C} {tys : List (ClassId × FieldType)} {as : List Value} {w0 : va_W} {r : Option Value} {Y : va_W → Prop} {mc ms : Nat} {cc : ByteArray} {maxL : Nat} {ret : Option FieldType}
    (hy : plainName y.cls = true) (hw : ws = Cond.code y cc maxL ret :: ws') (hlen : (lg_sl as).length ≤ maxL)
    (body : ∀ (p : Program) (e : Env) (s : State) (m : MethodId) (below : List Frame) (meth : Method) (c : Code) (A : Nat → Prop) (ls : Array Slot), l.admits e → meth.name = y.name →
      p.tables.exec = Jvm.exec → c.code = cc → meth.sig.returnType = ret → c.maxLocals = maxL → s.vm.findClass y.cls = some m.cls → (∀ w ∈ ws, w.before as.toArray s = true) → meth.locks = false → (∀ q : Nat, s.heap.size ≤ q → A q) →
      va_K D cl tys s → va_P D cl w0 s.heap → va_D A w0 → va_S A s.heap s.heap [] → lv_has ls maxL (lv_args 0 as) →
      W p l e rm s m as.toArray below meth c s.heap [] 0 0 (MQ below (xQ r (xB D cl A Y) A) as.toArray s mc ms A) (F0 m 0 ls [])) : xC l y ws rm D cl tys as w0 r Y mc ms := by
  intro sz
  refine Met.ofW (cc := cc) (maxL := maxL) (ret := ret) hy hw ?_
  intro p e s m args below meth c s₁ B hml hv
  obtain ⟨rfl, rfl, hP, hK, hD0⟩ := hv
  have hl := lv_entry as (n := maxL) hlen
  rw [lg_entry_eq]
  generalize (lg_sl as ++ List.replicate (maxL - (lg_sl as).length) Slot.unset).toArray = ls at hl ⊢
  exact body p e s m below meth c (va_A w0 s.heap.size) ls (Stand.of_body B).admits (name_of_methodNamed B.named B.method).1 B.exec B.bytes B.returns hml (findClass_of_methodNamed B.named) (atoms_spec (ws := ws) B.pre) B.notSynchronized (fun q h => Or.inr h) hK hP hD0.self va_S.rf hl
section XB
variable {p : Program} {l : Launch} {e : Env} {R : Room} {s : State} {m : MethodId} {args : Array Value} {below : List Frame} {meth : Method} {c : Code} {H : Heap} {locs : List Loc} {cells slots : Nat} {Q : State → Prop}
variable {cc : ByteArray} {pc : Nat} {ls : Array Slot} {rest st0 : List Value} {D : va_G} {cl : List vw_C} {tys : List (ClassId × FieldType)} {A : Nat → Prop} {w : va_W} {Y : va_W → Prop} {r : Option Value}
theorem x_iret {v : Int32} (hx : p.tables.exec = Jvm.exec) (hb : c.code = cc) (hr : meth.sig.returnType = some .int) (hlocks : meth.locks = false) (hP : va_P D cl w H) (hD : va_D A w) (hS : va_S A s.heap H locs) (hdg : decode cc pc = .ok (.ireturn, 1)) (hv : some (Value.int v) = r) (hY : Y w) :
    W p l e R s m args below meth c H locs cells slots (MQ below (xQ r (xB D cl A Y) A) args s cells slots A) (F0 m pc ls [.int v]) :=
  W.iret hx hb hr (fun t ht hW => ⟨by rw [hv], ⟨w, hY, by rw [ht]; exact hP, hD⟩, hS.F ht⟩) hS.2.2 hdg hlocks
theorem x_zret {v : Int32} (hx : p.tables.exec = Jvm.exec) (hb : c.code = cc) (hr : meth.sig.returnType = some .boolean) (hlocks : meth.locks = false) (hP : va_P D cl w H) (hD : va_D A w) (hS : va_S A s.heap H locs) (hdg : decode cc pc = .ok (.ireturn, 1)) (hn : narrow .boolean (.int v) = .int v) (hv : some (Value.int v) = r) (hY : Y w) :
    W p l e R s m args below meth c H locs cells slots (MQ below (xQ r (xB D cl A Y) A) args s cells slots A) (F0 m pc ls [.int v]) :=
  W.zret hx hb hr hn (fun t ht hW => ⟨by rw [hv], ⟨w, hY, by rw [ht]; exact hP, hD⟩, hS.F ht⟩) hS.2.2 hdg hlocks
theorem x_lret {v : Int64} (hx : p.tables.exec = Jvm.exec) (hb : c.code = cc) (hr : meth.sig.returnType = some .long) (hlocks : meth.locks = false) (hP : va_P D cl w H) (hD : va_D A w) (hS : va_S A s.heap H locs) (hdg : decode cc pc = .ok (.lreturn, 1)) (hv : some (Value.long v) = r) (hY : Y w) :
    W p l e R s m args below meth c H locs cells slots (MQ below (xQ r (xB D cl A Y) A) args s cells slots A) (F0 m pc ls [.long v]) :=
  W.lret hx hb hr (fun t ht hW => ⟨by rw [hv], ⟨w, hY, by rw [ht]; exact hP, hD⟩, hS.F ht⟩) hS.2.2 hdg hlocks
theorem x_vret (hx : p.tables.exec = Jvm.exec) (hb : c.code = cc) (hr : meth.sig.returnType = none) (hlocks : meth.locks = false) (hP : va_P D cl w H) (hD : va_D A w) (hS : va_S A s.heap H locs) (hdg : decode cc pc = .ok (.return_, 1)) (hv : (none : Option Value) = r) (hY : Y w) :
    W p l e R s m args below meth c H locs cells slots (MQ below (xQ r (xB D cl A Y) A) args s cells slots A) (F0 m pc ls []) :=
  W.vret hx hb hr (fun t ht hW => ⟨by rw [hv], ⟨w, hY, by rw [ht]; exact hP, hD⟩, hS.F ht⟩) hS.2.2 hdg hlocks
theorem x_aret {v : Nat} {rt : FieldType} (hx : p.tables.exec = Jvm.exec) (hb : c.code = cc) (hr : meth.sig.returnType = some rt) (hrt : (∃ n, rt = .object n) ∨ ∃ t, rt = .array t) (hlocks : meth.locks = false) (hP : va_P D cl w H) (hD : va_D A w) (hS : va_S A s.heap H locs) (hdg : decode cc pc = .ok (.areturn, 1)) (hv : some (Value.ref v) = r) (hY : Y w) :
    W p l e R s m args below meth c H locs cells slots (MQ below (xQ r (xB D cl A Y) A) args s cells slots A) (F0 m pc ls [.ref v]) :=
  W.aret hx hb hr hrt (Or.inr ⟨v, rfl⟩) (fun t ht hW => ⟨by rw [hv], ⟨w, hY, by rw [ht]; exact hP, hD⟩, hS.F ht⟩) hS.2.2 hdg hlocks
variable {mc ms : Nat} {a : Array Value} {free : Addr → Prop} {A0 A1 : Nat → Prop} {H0 : Heap}
theorem x_call (hr : va_Run p l e R s m args below meth c H locs cells slots mc ms (F0 m pc ls st0) rest (xQ r (xB D cl A1 Y) A1 a) free) (hS : va_S A0 H0 H locs) (hA : ∀ q, A1 q → A0 q) (hf : ∀ q, free q → A0 q) {st1 : List Value} (he : r.toList ++ rest = st1)
    (kk : ∀ (w1 : va_W) (H1 : Heap) (locs1 : List Loc), Y w1 → va_P D cl w1 H1 → va_D A0 w1 → va_S A0 H0 H1 locs1 → W p l e R s m args below meth c H1 locs1 (cells + mc) (slots + ms) Q (F0 m (pc + 3) ls st1)) : W p l e R s m args below meth c H locs cells slots Q (F0 m pc ls st0) := by
  subst he
  intro T hT X
  obtain ⟨v, st₀, t, T', L, h0, X', hL, e1, e2, ⟨hv, ⟨w1, hY, hP1, hD1⟩, hz, hk⟩, st⟩ := hr T hT X
  cases hv
  rw [h0] at hz hk
  obtain ⟨t2, a1, b1⟩ := kk w1 T'.heap (locs ++ L) hY (by rw [e1]; exact hP1) (hD1.weaken (fun _ q _ h => hA q.1 h))
    ⟨Nat.le_trans hS.1 (by rw [e1]; exact hz), fun q h1 h2 => by rw [e1, hk q (Nat.lt_of_lt_of_le h1 hS.1) (fun z => h2 (hA q z))]; exact hS.2.1 q h1 h2, fun q hq => by
      rcases List.mem_append.mp hq with h | h
      · exact hS.2.2 q h
      · exact hf _ (hL q h)⟩ T' rfl X'
  exact ⟨t2, st t2 a1, b1⟩
/-- reading alone: the heap stays as it is -/
def xRQ (r : Option Value) : Array Value → State → Outcome → State → Prop := fun _ st oc t => oc = .returned r ∧ t.heap = st.heap
theorem x_callR (hr : va_Run p l e R s m args below meth c H locs cells slots 0 0 (F0 m pc ls st0) rest (xRQ r a) (fun _ => False)) {st1 : List Value} (he : r.toList ++ rest = st1)
    (kk : W p l e R s m args below meth c H locs cells slots Q (F0 m (pc + 3) ls st1)) : W p l e R s m args below meth c H locs cells slots Q (F0 m pc ls st0) := by
  subst he
  intro T hT X
  obtain ⟨v, st₀, t, T', L, h0, X', hL, e1, e2, ⟨hv, hh⟩, st⟩ := hr T hT X
  cases hv
  obtain ⟨t2, a1, b1⟩ := kk T' (by rw [e1, hh, h0]) (Stand.forget X' (fun q h => (hL q h).elim))
  exact ⟨t2, st t2 a1, b1⟩
theorem xr_iret {v : Int32} (hx : p.tables.exec = Jvm.exec) (hb : c.code = cc) (hr : meth.sig.returnType = some .int) (hlocks : meth.locks = false) (hdg : decode cc pc = .ok (.ireturn, 1)) (hv : some (Value.int v) = r) :
    W p l e R s m args below meth c s.heap [] cells slots (MQ below (xRQ r) args s cells slots (fun _ => False)) (F0 m pc ls [.int v]) :=
  W.iret hx hb hr (fun t ht hW => ⟨by rw [hv], ht⟩) (fun q h => by cases h) hdg hlocks
theorem xr_zret {v : Int32} (hx : p.tables.exec = Jvm.exec) (hb : c.code = cc) (hr : meth.sig.returnType = some .boolean) (hlocks : meth.locks = false) (hdg : decode cc pc = .ok (.ireturn, 1)) (hn : narrow .boolean (.int v) = .int v) (hv : some (Value.int v) = r) :
    W p l e R s m args below meth c s.heap [] cells slots (MQ below (xRQ r) args s cells slots (fun _ => False)) (F0 m pc ls [.int v]) :=
  W.zret hx hb hr hn (fun t ht hW => ⟨by rw [hv], ht⟩) (fun q h => by cases h) hdg hlocks
theorem xr_lret {v : Int64} (hx : p.tables.exec = Jvm.exec) (hb : c.code = cc) (hr : meth.sig.returnType = some .long) (hlocks : meth.locks = false) (hdg : decode cc pc = .ok (.lreturn, 1)) (hv : some (Value.long v) = r) :
    W p l e R s m args below meth c s.heap [] cells slots (MQ below (xRQ r) args s cells slots (fun _ => False)) (F0 m pc ls [.long v]) :=
  W.lret hx hb hr (fun t ht hW => ⟨by rw [hv], ht⟩) (fun q h => by cases h) hdg hlocks
theorem xr_aret {v : Nat} {rt : FieldType} (hx : p.tables.exec = Jvm.exec) (hb : c.code = cc) (hr : meth.sig.returnType = some rt) (hrt : (∃ n, rt = .object n) ∨ ∃ t, rt = .array t) (hlocks : meth.locks = false) (hdg : decode cc pc = .ok (.areturn, 1)) (hv : some (Value.ref v) = r) :
    W p l e R s m args below meth c s.heap [] cells slots (MQ below (xRQ r) args s cells slots (fun _ => False)) (F0 m pc ls [.ref v]) :=
  W.aret hx hb hr hrt (Or.inr ⟨v, rfl⟩) (fun t ht hW => ⟨by rw [hv], ht⟩) (fun q h => by cases h) hdg hlocks
theorem xr_vret (hx : p.tables.exec = Jvm.exec) (hb : c.code = cc) (hr : meth.sig.returnType = none) (hlocks : meth.locks = false) (hdg : decode cc pc = .ok (.return_, 1)) (hv : (none : Option Value) = r) :
    W p l e R s m args below meth c s.heap [] cells slots (MQ below (xRQ r) args s cells slots (fun _ => False)) (F0 m pc ls []) :=
  W.vret hx hb hr (fun t ht hW => ⟨by rw [hv], ht⟩) (fun q h => by cases h) hdg hlocks
end XB
def xR (l : Launch) (y : MethodName) (ws : List Cond) (rm : Room) (D : va_G) (cl : List vw_C) (tys : List (ClassId × FieldType)) (as : List Value) (w0 : va_W) (r : Option Value) : Prop :=
  ∀ sz : Nat, Met l y ws rm (va_Pc as (xP D cl tys w0 sz)) (xRQ r) 0 0 (fun _ => False)
theorem xR.ofW {l : Launch} {y : MethodName} {ws ws' : List Cond} {rm : Room} {D : va_G} {cl : List vw_C} {tys : List (ClassId × FieldType)} {as : List Value} {w0 : va_W} {r : Option Value} {cc : ByteArray} {maxL : Nat} {ret : Option FieldType}
    (hy : plainName y.cls = true) (hw : ws = Cond.code y cc maxL ret :: ws') (hlen : (lg_sl as).length ≤ maxL)
    (body : ∀ (p : Program) (e : Env) (s : State) (m : MethodId) (below : List Frame) (meth : Method) (c : Code) (A : Nat → Prop) (ls : Array Slot), l.admits e → meth.name = y.name →
      p.tables.exec = Jvm.exec → c.code = cc → meth.sig.returnType = ret → c.maxLocals = maxL → s.vm.findClass y.cls = some m.cls → (∀ w ∈ ws, w.before as.toArray s = true) → meth.locks = false → (∀ q : Nat, s.heap.size ≤ q → A q) →
      va_K D cl tys s → va_P D cl w0 s.heap → va_D A w0 → va_S A s.heap s.heap [] → lv_has ls maxL (lv_args 0 as) →
      W p l e rm s m as.toArray below meth c s.heap [] 0 0 (MQ below (xRQ r) as.toArray s 0 0 (fun _ => False)) (F0 m 0 ls [])) : xR l y ws rm D cl tys as w0 r := by
  intro sz
  refine Met.ofW (cc := cc) (maxL := maxL) (ret := ret) hy hw ?_
  intro p e s m args below meth c s₁ B hml hv
  obtain ⟨rfl, rfl, hP, hK, hD0⟩ := hv
  have hl := lv_entry as (n := maxL) hlen
  rw [lg_entry_eq]
  generalize (lg_sl as ++ List.replicate (maxL - (lg_sl as).length) Slot.unset).toArray = ls at hl ⊢
  exact body p e s m below meth c (va_A w0 s.heap.size) ls (Stand.of_body B).admits (name_of_methodNamed B.named B.method).1 B.exec B.bytes B.returns hml (findClass_of_methodNamed B.named) (atoms_spec (ws := ws) B.pre) B.notSynchronized (fun q h => Or.inr h) hK hP hD0.self va_S.rf hl
section XR
variable {p : Program} {l : Launch} {e : Env} {R : Room} {s : State} {m : MethodId} {args : Array Value} {below : List Frame} {meth : Method} {c : Code} {H : Heap} {locs : List Loc} {cells slots : Nat} {Q : State → Prop}
variable {cc : ByteArray} {pc : Nat} {ls : Array Slot} {rest st0 : List Value} {D : va_G} {cl : List vw_C} {tys : List (ClassId × FieldType)} {A : Nat → Prop} {w0 : va_W} {Y : va_W → Prop} {r : Option Value}
variable {y : MethodName} {bytes : ByteArray} {maxL nL mc ms n index : Nat} {ret : Option FieldType} {ws : List Cond} {rm : Room} {Qc : Array Value → State → Outcome → State → Prop} {free : Addr → Prop} {Ts : List Cond} {own C : String} {b : Nat} {As : List Value}
theorem x_blind {as : List Value} {sz : Nat} : FrameBlind (va_Pc as (xP D cl tys w0 sz)) := fun a U g mk q => by
  obtain ⟨q0, q1, qP, qK, qD⟩ := q
  exact ⟨q0, q1, qP, va_K.moved (u := U) (U := U.calling g mk a) (Vm.Alike.refl U.vm) qK, qD⟩
theorem x_pre (hK : va_K D cl tys s) (hP : va_P D cl w0 H) (hD : va_D A w0) {as : List Value} : ∀ U : State, U.heap = H → s.WarmedH U.vm → va_Pc as (xP D cl tys w0 H.size) as.toArray U := fun U hU hW =>
  ⟨rfl, by rw [hU], by rw [hU]; exact hP, va_K.moved hW.alike hK, hD.weaken (fun _ _ _ _ => trivial)⟩
theorem x_runV (S : CallFix p m c cc nL s args Ts own) (hM : Met l y ws rm (va_Pc (.ref b :: As) (xP D cl tys w0 H.size)) Qc mc ms free) (cw : CallW R s args own C index y bytes maxL ret ws rm mc ms n) (hK : va_K D cl tys s) (hP : va_P D cl w0 H) (hD : va_D A w0)
    (q0 ci : Nat) {fs : List Value} {T : u_T} {NN : Nat} (he : w0[q0]? = some (b, .inr (ci, fs))) (hc : cl[ci]? = some (C, T, NN))
    (hn : As.length = n) (hsize : ls.size = nL) (hst : st0 = As.reverse ++ .ref b :: rest) (hW : (rest.map fun v => v.category).sum ≤ 8) (hdg : decode cc pc = .ok (.invokevirtual index, 3)) (hf : cells + mc ≤ R.cells ∧ slots + ms ≤ R.slots) :
    va_Run p l e R s m args below meth c H locs cells slots mc ms (F0 m pc ls st0) rest (Qc (Value.ref b :: As).toArray) free :=
  va_runV S hM cw ⟨x_blind, va_recv hK hP hc he, x_pre hK hP hD⟩ rfl hn hsize hst (lv_room hW) hdg hf
theorem x_runS (S : CallFix p m c cc nL s args Ts own) (hM : Met l y ws rm (va_Pc As (xP D cl tys w0 H.size)) Qc mc ms free) (cw : CallB R s args own index y bytes maxL ret ws rm mc ms n ∧ (Cond.static y).before args s = true) (hK : va_K D cl tys s) (hP : va_P D cl w0 H) (hD : va_D A w0)
    (hn : As.length = n) (hsize : ls.size = nL) (hst : st0 = As.reverse ++ rest) (hW : (rest.map fun v => v.category).sum ≤ 8) (hdg : decode cc pc = .ok (.invokestatic index, 3)) (hf : cells + mc ≤ R.cells ∧ slots + ms ≤ R.slots) :
    va_Run p l e R s m args below meth c H locs cells slots mc ms (F0 m pc ls st0) rest (Qc As.toArray) free :=
  va_runS S hM cw ⟨x_blind, x_pre hK hP hD⟩ rfl hn hsize hst (lv_room hW) hdg hf
end XR
theorem gw_V {own C : String} {idx : Nat} {y : MethodName} {b : ByteArray} {n : Nat} {ret : Option FieldType} (h1 : Cond.methodLink own idx y ∈ gw) (h2 : Cond.instanceMethod y ∈ gw) (h3 : Cond.selects C y y ∈ gw) (h4 : Cond.initialized C ∈ gw) (h5 : Cond.code y b n ret ∈ gw) : GoodIn gw (wsV own idx C y (.code y b n ret :: gw)) := fun w hw => by
  unfold wsV at hw
  rcases List.mem_append.mp hw with h | h
  · simp only [List.mem_cons, List.not_mem_nil, or_false] at h
    rcases h with rfl | rfl | rfl | rfl
    · exact gw_good _ h1
    · exact gw_good _ h2
    · exact gw_good _ h3
    · exact gw_good _ h4
  · exact gw_call h5 w h
theorem gw_S {own : String} {idx : Nat} {y : MethodName} {b : ByteArray} {n : Nat} {ret : Option FieldType} (h1 : Cond.methodLink own idx y ∈ gw) (h2 : Cond.static y ∈ gw) (h4 : Cond.initialized own ∈ gw) (h5 : Cond.code y b n ret ∈ gw) : GoodIn gw (wsS own idx y (.code y b n ret :: gw)) := fun w hw => by
  unfold wsS at hw
  rcases List.mem_append.mp hw with h | h
  · simp only [List.mem_cons, List.not_mem_nil, or_false] at h
    rcases h with rfl | rfl | rfl
    · exact gw_good _ h1
    · exact gw_good _ h2
    · exact gw_good _ h4
  · exact gw_call h5 w h
theorem x_sub {A : Nat → Prop} {w0 : va_W} {H0 H : Heap} {locs : List Loc} (hD : va_D A w0) (hS : va_S A H0 H locs) (hA : ∀ q : Nat, H0.size ≤ q → A q) : ∀ q : Nat, va_A w0 H.size q → A q := fun q h => h.elim (fun ⟨k, _, hk⟩ => hD.2 k _ hk) (fun h => hA q (Nat.le_trans hS.1 h))
end
section
/-! Rows for ints that are counted in Nat. -/
section XN
variable {p : Program} {l : Launch} {e : Env} {R : Room} {s : State} {m : MethodId} {args : Array Value} {below : List Frame} {meth : Method} {c : Code} {H : Heap} {locs : List Loc} {cells slots : Nat} {Q : State → Prop}
variable {cc : ByteArray} {pc : Nat} {ls : Array Slot} {rest : List Value}
theorem n_iadd (hx : p.tables.exec = Jvm.exec) (hb : c.code = cc) {a b : Nat} (hdg : decode cc pc = .ok (.iadd, 1)) 
    (k : W p l e R s m args below meth c H locs cells slots Q (F0 m (pc + 1) ls (.int (nI (a + b)) :: rest))) : W p l e R s m args below meth c H locs cells slots Q (F0 m pc ls (.int (nI b) :: .int (nI a) :: rest)) :=
  lv_iadd hx hb hdg (by rw [nI_add]; exact k)
theorem n_isub (hx : p.tables.exec = Jvm.exec) (hb : c.code = cc) {a b : Nat} (hdg : decode cc pc = .ok (.isub, 1)) (h : b ≤ a)
    (k : W p l e R s m args below meth c H locs cells slots Q (F0 m (pc + 1) ls (.int (nI (a - b)) :: rest))) : W p l e R s m args below meth c H locs cells slots Q (F0 m pc ls (.int (nI b) :: .int (nI a) :: rest)) :=
  lv_isub hx hb hdg (by rw [pk_sub h]; exact k)
theorem n_imul (hx : p.tables.exec = Jvm.exec) (hb : c.code = cc) {a b : Nat} (hdg : decode cc pc = .ok (.imul, 1)) 
    (k : W p l e R s m args below meth c H locs cells slots Q (F0 m (pc + 1) ls (.int (nI (a * b)) :: rest))) : W p l e R s m args below meth c H locs cells slots Q (F0 m pc ls (.int (nI b) :: .int (nI a) :: rest)) :=
  lv_imul hx hb hdg (by rw [pk_mul]; exact k)
theorem n_idiv (hx : p.tables.exec = Jvm.exec) (hb : c.code = cc) {a b : Nat} (hdg : decode cc pc = .ok (.idiv, 1)) (ha : a < 2 ^ 31) (h0 : 0 < b) (hb2 : b < 2 ^ 31)
    (k : W p l e R s m args below meth c H locs cells slots Q (F0 m (pc + 1) ls (.int (nI (a / b)) :: rest))) : W p l e R s m args below meth c H locs cells slots Q (F0 m pc ls (.int (nI b) :: .int (nI a) :: rest)) :=
  lv_idiv hx hb hdg (nI_ne0 h0 hb2) (by rw [pk_div ha h0 hb2]; exact k)
theorem n_irem (hx : p.tables.exec = Jvm.exec) (hb : c.code = cc) {a b : Nat} (hdg : decode cc pc = .ok (.irem, 1)) (ha : a < 2 ^ 31) (h0 : 0 < b) (hb2 : b < 2 ^ 31)
    (k : W p l e R s m args below meth c H locs cells slots Q (F0 m (pc + 1) ls (.int (nI (a % b)) :: rest))) : W p l e R s m args below meth c H locs cells slots Q (F0 m pc ls (.int (nI b) :: .int (nI a) :: rest)) :=
  lv_irem hx hb hdg (nI_ne0 h0 hb2) (by rw [pk_rem ha h0 hb2]; exact k)
theorem n_iinc (hx : p.tables.exec = Jvm.exec) (hb : c.code = cc) {i nL k a : Nat} {lv lv' : List (Nat × Value)} (hdg : decode cc pc = .ok (.iinc i 1, 3)) (h : lv_has ls nL lv) (hk : lv[k]? = some (i, .int (nI a))) (hn : i < nL) (hl : (i, Value.int (nI (a + 1))) :: lv.filter (fun q => !(q.1 == i) && !(q.1 + 1 == i && q.2.category == 2)) = lv')
    (kk : ∀ ls' : Array Slot, lv_has ls' nL lv' → W p l e R s m args below meth c H locs cells slots Q (F0 m (pc + 3) ls' rest)) : W p l e R s m args below meth c H locs cells slots Q (F0 m pc ls rest) :=
  lv_iinc (v := nI (a + 1)) hx hb hdg h hk (by rw [← nI_1]; rfl) hn hl kk
/-- a counter that goes down to -1: n - 1 -/
def nM (n : Nat) : Int32 := nI n + (-1)
theorem nM_succ (n : Nat) : nM (n + 1) = nI n := pk_m1 n
theorem nM_0 : nM 0 = -1 := by decide
theorem n_idec (hx : p.tables.exec = Jvm.exec) (hb : c.code = cc) {i nL k a : Nat} {lv lv' : List (Nat × Value)} (hdg : decode cc pc = .ok (.iinc i (-1), 3)) (h : lv_has ls nL lv) (hk : lv[k]? = some (i, .int (nI a))) (hn : i < nL) (hl : (i, Value.int (nM a)) :: lv.filter (fun q => !(q.1 == i) && !(q.1 + 1 == i && q.2.category == 2)) = lv')
    (kk : ∀ ls' : Array Slot, lv_has ls' nL lv' → W p l e R s m args below meth c H locs cells slots Q (F0 m (pc + 3) ls' rest)) : W p l e R s m args below meth c H locs cells slots Q (F0 m pc ls rest) :=
  lv_iinc (v := nM a) hx hb hdg h hk rfl hn hl kk
theorem n_icmp_eq (hx : p.tables.exec = Jvm.exec) (hb : c.code = cc) {a b : Nat} {off : Int} {tgt : Nat} (hdg : decode cc pc = .ok (.if_icmp .eq off, 3)) (ht : (pc : Int) + off = (tgt : Int)) (ha : a < 2 ^ 31) (hb2 : b < 2 ^ 31)
    (kt : a = b → W p l e R s m args below meth c H locs cells slots Q (F0 m tgt ls rest)) (kf : a ≠ b → W p l e R s m args below meth c H locs cells slots Q (F0 m (pc + 3) ls rest)) : W p l e R s m args below meth c H locs cells slots Q (F0 m pc ls (.int (nI b) :: .int (nI a) :: rest)) :=
  lv_icmp_eq hx hb hdg ht (fun q => kt ((nI_eq ha hb2).mp q)) (fun q => kf (fun z => q ((nI_eq ha hb2).mpr z)))
theorem n_icmp_ne (hx : p.tables.exec = Jvm.exec) (hb : c.code = cc) {a b : Nat} {off : Int} {tgt : Nat} (hdg : decode cc pc = .ok (.if_icmp .ne off, 3)) (ht : (pc : Int) + off = (tgt : Int)) (ha : a < 2 ^ 31) (hb2 : b < 2 ^ 31)
    (kt : a ≠ b → W p l e R s m args below meth c H locs cells slots Q (F0 m tgt ls rest)) (kf : a = b → W p l e R s m args below meth c H locs cells slots Q (F0 m (pc + 3) ls rest)) : W p l e R s m args below meth c H locs cells slots Q (F0 m pc ls (.int (nI b) :: .int (nI a) :: rest)) :=
  lv_icmp_ne hx hb hdg ht (fun q => kt (fun z => q ((nI_eq ha hb2).mpr z))) (fun q => kf ((nI_eq ha hb2).mp q))
theorem n_icmp_lt (hx : p.tables.exec = Jvm.exec) (hb : c.code = cc) {a b : Nat} {off : Int} {tgt : Nat} (hdg : decode cc pc = .ok (.if_icmp .lt off, 3)) (ht : (pc : Int) + off = (tgt : Int)) (ha : a < 2 ^ 31) (hb2 : b < 2 ^ 31)
    (kt : a < b → W p l e R s m args below meth c H locs cells slots Q (F0 m tgt ls rest)) (kf : b ≤ a → W p l e R s m args below meth c H locs cells slots Q (F0 m (pc + 3) ls rest)) : W p l e R s m args below meth c H locs cells slots Q (F0 m pc ls (.int (nI b) :: .int (nI a) :: rest)) :=
  lv_icmp_lt hx hb hdg ht (fun q => kt ((nI_ltI ha hb2).mp q)) (fun q => kf (Nat.le_of_not_lt (fun z => q ((nI_ltI ha hb2).mpr z))))
theorem n_icmp_ge (hx : p.tables.exec = Jvm.exec) (hb : c.code = cc) {a b : Nat} {off : Int} {tgt : Nat} (hdg : decode cc pc = .ok (.if_icmp .ge off, 3)) (ht : (pc : Int) + off = (tgt : Int)) (ha : a < 2 ^ 31) (hb2 : b < 2 ^ 31)
    (kt : b ≤ a → W p l e R s m args below meth c H locs cells slots Q (F0 m tgt ls rest)) (kf : a < b → W p l e R s m args below meth c H locs cells slots Q (F0 m (pc + 3) ls rest)) : W p l e R s m args below meth c H locs cells slots Q (F0 m pc ls (.int (nI b) :: .int (nI a) :: rest)) :=
  lv_icmp_ge hx hb hdg ht (fun q => kt ((nI_leI hb2 ha).mp q)) (fun q => kf (Nat.lt_of_not_le (fun z => q ((nI_leI hb2 ha).mpr z))))
theorem n_icmp_gt (hx : p.tables.exec = Jvm.exec) (hb : c.code = cc) {a b : Nat} {off : Int} {tgt : Nat} (hdg : decode cc pc = .ok (.if_icmp .gt off, 3)) (ht : (pc : Int) + off = (tgt : Int)) (ha : a < 2 ^ 31) (hb2 : b < 2 ^ 31)
    (kt : b < a → W p l e R s m args below meth c H locs cells slots Q (F0 m tgt ls rest)) (kf : a ≤ b → W p l e R s m args below meth c H locs cells slots Q (F0 m (pc + 3) ls rest)) : W p l e R s m args below meth c H locs cells slots Q (F0 m pc ls (.int (nI b) :: .int (nI a) :: rest)) :=
  lv_icmp_gt hx hb hdg ht (fun q => kt ((nI_ltI hb2 ha).mp q)) (fun q => kf (Nat.le_of_not_lt (fun z => q ((nI_ltI hb2 ha).mpr z))))
theorem n_icmp_le (hx : p.tables.exec = Jvm.exec) (hb : c.code = cc) {a b : Nat} {off : Int} {tgt : Nat} (hdg : decode cc pc = .ok (.if_icmp .le off, 3)) (ht : (pc : Int) + off = (tgt : Int)) (ha : a < 2 ^ 31) (hb2 : b < 2 ^ 31)
    (kt : a ≤ b → W p l e R s m args below meth c H locs cells slots Q (F0 m tgt ls rest)) (kf : b < a → W p l e R s m args below meth c H locs cells slots Q (F0 m (pc + 3) ls rest)) : W p l e R s m args below meth c H locs cells slots Q (F0 m pc ls (.int (nI b) :: .int (nI a) :: rest)) :=
  lv_icmp_le hx hb hdg ht (fun q => kt ((nI_leI ha hb2).mp q)) (fun q => kf (Nat.lt_of_not_le (fun z => q ((nI_leI ha hb2).mpr z))))
theorem nI_z {a : Nat} (ha : a < 2 ^ 31) : nI a = 0 ↔ a = 0 := by
  have := nI_eq (a := a) (b := 0) ha (by decide)
  rwa [nI_0] at this
theorem nI_p {a : Nat} (ha : a < 2 ^ 31) : 0 < nI a ↔ 0 < a := by
  have := nI_ltI (a := 0) (b := a) (by decide) ha
  rwa [nI_0] at this
theorem nI_q {a : Nat} (ha : a < 2 ^ 31) : nI a ≤ 0 ↔ a = 0 := by
  have := nI_leI (a := a) (b := 0) ha (by decide)
  rw [nI_0] at this
  rw [this]; omega
theorem n_if_eq (hx : p.tables.exec = Jvm.exec) (hb : c.code = cc) {a : Nat} {off : Int} {tgt : Nat} (hdg : decode cc pc = .ok (.ifCond .eq off, 3)) (ht : (pc : Int) + off = (tgt : Int)) (ha : a < 2 ^ 31)
    (kt : a = 0 → W p l e R s m args below meth c H locs cells slots Q (F0 m tgt ls rest)) (kf : a ≠ 0 → W p l e R s m args below meth c H locs cells slots Q (F0 m (pc + 3) ls rest)) : W p l e R s m args below meth c H locs cells slots Q (F0 m pc ls (.int (nI a) :: rest)) :=
  lv_if_eq hx hb hdg ht (fun q => kt ((nI_z ha).mp q)) (fun q => kf (fun z => q ((nI_z ha).mpr z)))
theorem n_if_ne (hx : p.tables.exec = Jvm.exec) (hb : c.code = cc) {a : Nat} {off : Int} {tgt : Nat} (hdg : decode cc pc = .ok (.ifCond .ne off, 3)) (ht : (pc : Int) + off = (tgt : Int)) (ha : a < 2 ^ 31)
    (kt : a ≠ 0 → W p l e R s m args below meth c H locs cells slots Q (F0 m tgt ls rest)) (kf : a = 0 → W p l e R s m args below meth c H locs cells slots Q (F0 m (pc + 3) ls rest)) : W p l e R s m args below meth c H locs cells slots Q (F0 m pc ls (.int (nI a) :: rest)) :=
  lv_if_ne hx hb hdg ht (fun q => kt (fun z => q ((nI_z ha).mpr z))) (fun q => kf ((nI_z ha).mp q))
theorem n_if_gt (hx : p.tables.exec = Jvm.exec) (hb : c.code = cc) {a : Nat} {off : Int} {tgt : Nat} (hdg : decode cc pc = .ok (.ifCond .gt off, 3)) (ht : (pc : Int) + off = (tgt : Int)) (ha : a < 2 ^ 31)
    (kt : 0 < a → W p l e R s m args below meth c H locs cells slots Q (F0 m tgt ls rest)) (kf : a = 0 → W p l e R s m args below meth c H locs cells slots Q (F0 m (pc + 3) ls rest)) : W p l e R s m args below meth c H locs cells slots Q (F0 m pc ls (.int (nI a) :: rest)) :=
  lv_if_gt hx hb hdg ht (fun q => kt ((nI_p ha).mp q)) (fun q => kf (Nat.eq_zero_of_not_pos (fun z => q ((nI_p ha).mpr z))))
theorem n_if_le (hx : p.tables.exec = Jvm.exec) (hb : c.code = cc) {a : Nat} {off : Int} {tgt : Nat} (hdg : decode cc pc = .ok (.ifCond .le off, 3)) (ht : (pc : Int) + off = (tgt : Int)) (ha : a < 2 ^ 31)
    (kt : a = 0 → W p l e R s m args below meth c H locs cells slots Q (F0 m tgt ls rest)) (kf : 0 < a → W p l e R s m args below meth c H locs cells slots Q (F0 m (pc + 3) ls rest)) : W p l e R s m args below meth c H locs cells slots Q (F0 m pc ls (.int (nI a) :: rest)) :=
  lv_if_le hx hb hdg ht (fun q => kt ((nI_q ha).mp q)) (fun q => kf (Nat.pos_of_ne_zero (fun z => q ((nI_q ha).mpr z))))
theorem n_if_lt (hx : p.tables.exec = Jvm.exec) (hb : c.code = cc) {a : Nat} {off : Int} {tgt : Nat} (hdg : decode cc pc = .ok (.ifCond .lt off, 3)) (ht : (pc : Int) + off = (tgt : Int)) (ha : a < 2 ^ 31)
    (kf : W p l e R s m args below meth c H locs cells slots Q (F0 m (pc + 3) ls rest)) : W p l e R s m args below meth c H locs cells slots Q (F0 m pc ls (.int (nI a) :: rest)) :=
  lv_if_lt hx hb hdg ht (fun q => absurd q (nI_pos ha)) (fun _ => kf)
theorem n_if_ge (hx : p.tables.exec = Jvm.exec) (hb : c.code = cc) {a : Nat} {off : Int} {tgt : Nat} (hdg : decode cc pc = .ok (.ifCond .ge off, 3)) (ht : (pc : Int) + off = (tgt : Int)) (ha : a < 2 ^ 31)
    (kt : W p l e R s m args below meth c H locs cells slots Q (F0 m tgt ls rest)) : W p l e R s m args below meth c H locs cells slots Q (F0 m pc ls (.int (nI a) :: rest)) :=
  lv_if_ge hx hb hdg ht (fun _ => kt) (fun q => absurd (nI_pos' ha) q)
end XN
end
section
/-! The classes, and the cells of the 64 rows. -/
def R_Row : String := "LimbRows$Row"
def T_Row : u_T := fun k => match k with
  | 0 => ("LimbRows$Row", "limbs", "[I", false)
  | _ => ("LimbRows$Row", "width", "I", false)
def t_Row : Nat → FieldType := fun k => match k with
  | 0 => .array .int
  | _ => .int
def R_LR : String := "LimbRows"
def T_LR : u_T := fun _ => ("LimbRows", "rows", "[LLimbRows$Row;", true)
def t_LR : Nat → FieldType := fun _ => .array (.object "LimbRows$Row")
def R_Md : String := "LimbRowsModel"
def T_Md : u_T := fun k => match k with
  | 0 => ("LimbRowsModel", "code", "I", false)
  | 1 => ("LimbRowsModel", "widths", "[I", true)
  | 2 => ("LimbRowsModel", "rows", "[I", true)
  | 3 => ("LimbRowsModel", "signs", "[I", true)
  | _ => ("LimbRowsModel", "sizes", "[I", true)
def t_Md : Nat → FieldType := fun k => match k with
  | 0 => .int
  | _ => .array .int
abbrev cls0 : List vw_C := [(R_Row, T_Row, 2), (R_LR, T_LR, 1), (R_Md, T_Md, 5)]
abbrev ty3 (cA cR cL : ClassId) : List (ClassId × FieldType) := [(cA, .int), (cR, .object "LimbRows$Row"), (cL, .long)]
theorem n_Row : ∀ a, a < 2 → ∀ b, b < 2 → a ≠ b → (T_Row a).2.1 ≠ (T_Row b).2.1 := by decide +kernel
theorem t_Row_ok : ∀ k, k < 2 → parseFieldDescriptor (T_Row k).2.2.1 = some (t_Row k) := by decide +kernel
theorem n_LR : ∀ a, a < 1 → ∀ b, b < 1 → a ≠ b → (T_LR a).2.1 ≠ (T_LR b).2.1 := by decide +kernel
theorem t_LR_ok : ∀ k, k < 1 → parseFieldDescriptor (T_LR k).2.2.1 = some (t_LR k) := by decide +kernel
theorem n_Md : ∀ a, a < 5 → ∀ b, b < 5 → a ≠ b → (T_Md a).2.1 ≠ (T_Md b).2.1 := by decide +kernel
theorem t_Md_ok : ∀ k, k < 5 → parseFieldDescriptor (T_Md k).2.2.1 = some (t_Md k) := by decide +kernel
/-- the rows and their limbs, behind any other cells -/
def rw (Rs : va_W) (cA : ClassId) (ro la cap wd : Nat → Nat) (F : Nat → Nat → Int32) : va_W :=
  Rs ++ ((List.range 64).map (fun i => (ro i, (.inr (0, [.ref (la i), .int (nI (wd i))]) : va_E))) ++ (List.range 64).map (fun i => (la i, (.inl (cA, cap i, .inl (F i)) : va_E))))
def rwOk (cap wd : Nat → Nat) : Prop := ∀ i, i < 64 → 1 ≤ wd i ∧ wd i ≤ cap i ∧ cap i ≤ 256
section RW
variable {Rs : va_W} {cA cR cL : ClassId} {ro la cap wd : Nat → Nat} {F : Nat → Nat → Int32}
theorem rw_row {i : Nat} (hi : i < 64) : (rw Rs cA ro la cap wd F)[Rs.length + i]? = some (ro i, .inr (0, [.ref (la i), .int (nI (wd i))])) := by
  unfold rw
  rw [List.getElem?_append_right (by omega), show Rs.length + i - Rs.length = i by omega, List.getElem?_append_left (by simpa using hi)]
  simp [hi]
theorem rw_lim {i : Nat} (hi : i < 64) : (rw Rs cA ro la cap wd F)[Rs.length + 64 + i]? = some (la i, .inl (cA, cap i, .inl (F i))) := by
  unfold rw
  rw [List.getElem?_append_right (by omega), show Rs.length + 64 + i - Rs.length = 64 + i by omega, List.getElem?_append_right (by simp)]
  simp [hi]
theorem rw_setF {i : Nat} (hi : i < 64) (g : Nat → Int32) : (rw Rs cA ro la cap wd F).set (Rs.length + 64 + i) (la i, .inl (cA, cap i, .inl g)) = rw Rs cA ro la cap wd (va_up F i g) := by
  unfold rw
  rw [List.set_append_right _ _ (by omega), show Rs.length + 64 + i - Rs.length = 64 + i by omega, List.set_append_right _ _ (by simp)]
  congr 2
  apply List.ext_getElem?
  intro j
  simp only [List.length_map, List.length_range, show 64 + i - 64 = i by omega, List.getElem?_set, List.getElem?_map]
  by_cases hj : i = j
  · subst hj
    simp [hi, va_up]
  · have hj' : j ≠ i := fun e => hj e.symm
    by_cases h6 : j < 64
    · simp [hj, va_up, hj', h6]
    · simp [hj, h6]
theorem rw_setW {i : Nat} (hi : i < 64) (n : Nat) : (rw Rs cA ro la cap wd F).set (Rs.length + i) (ro i, .inr (0, [.ref (la i), .int (nI n)])) = rw Rs cA ro la cap (va_up wd i n) F := by
  unfold rw
  rw [List.set_append_right _ _ (by omega), show Rs.length + i - Rs.length = i by omega, List.set_append_left _ _ (by simpa using hi)]
  congr 2
  apply List.ext_getElem?
  intro j
  simp only [List.getElem?_set, List.getElem?_map, List.length_map, List.length_range]
  by_cases hj : i = j
  · subst hj
    simp [hi, va_up]
  · have hj' : j ≠ i := fun e => hj e.symm
    by_cases h6 : j < 64
    · simp [hj, va_up, hj', h6]
    · simp [hj, h6]
variable {p : Program} {l : Launch} {e : Env} {R : Room} {s : State} {m : MethodId} {args : Array Value} {below : List Frame} {meth : Method} {c : Code} {H : Heap} {locs : List Loc} {cells slots : Nat} {Q : State → Prop}
variable {cc : ByteArray} {pc : Nat} {ls : Array Slot} {rest : List Value} {D : va_G} {A : Nat → Prop} {H0 : Heap}
theorem i_Row : ∀ w ∈ u_ws R_Row T_Row 2, w ∈ gw := List.forall_mem_cons.mpr ⟨k_82, List.forall_mem_cons.mpr ⟨k_84, fun _ h => absurd h List.not_mem_nil⟩⟩
theorem i_LR : ∀ w ∈ u_ws R_LR T_LR 1, w ∈ gw := List.forall_mem_cons.mpr ⟨k_89, fun _ h => absurd h List.not_mem_nil⟩
theorem i_Md : ∀ w ∈ u_ws R_Md T_Md 5, w ∈ gw := List.forall_mem_cons.mpr ⟨k_496, List.forall_mem_cons.mpr ⟨k_498, List.forall_mem_cons.mpr ⟨k_500, List.forall_mem_cons.mpr ⟨k_502, List.forall_mem_cons.mpr ⟨k_504, fun _ h => absurd h List.not_mem_nil⟩⟩⟩⟩⟩
/-- row i's limbs and width, read in its own class -/
theorem c_getL (hx : p.tables.exec = Jvm.exec) (hb : c.code = cc) (hts : ∀ w ∈ gw, w.before args s = true) (hown : s.vm.findClass R_Row = some m.cls) (hK : va_K D cls0 (ty3 cA cR cL) s) (hP : va_P D cls0 (rw Rs cA ro la cap wd F) H) {i : Nat} (hi : i < 64) (hdg : decode cc pc = .ok (.getfield 9, 3))
    (kk : W p l e R s m args below meth c H locs cells slots Q (F0 m (pc + 3) ls (.ref (la i) :: rest))) : W p l e R s m args below meth c H locs cells slots Q (F0 m pc ls (.ref (ro i) :: rest)) :=
  va_get (D := D) (ci := 0) (v := .ref (la i)) (C := R_Row) (T := T_Row) (N := 2) (own := R_Row) (ref := "LimbRows$Row") hx hb hts i_Row hown hK hP _ (rw_row hi) rfl 0 (by decide) (hts (.fieldLink R_Row 9 "LimbRows$Row" "limbs" "[I") k_78) (fun _ h9 => h9) rfl hdg kk
theorem c_getW (hx : p.tables.exec = Jvm.exec) (hb : c.code = cc) (hts : ∀ w ∈ gw, w.before args s = true) (hown : s.vm.findClass R_Row = some m.cls) (hK : va_K D cls0 (ty3 cA cR cL) s) (hP : va_P D cls0 (rw Rs cA ro la cap wd F) H) {i : Nat} (hi : i < 64) (hdg : decode cc pc = .ok (.getfield 15, 3))
    (kk : W p l e R s m args below meth c H locs cells slots Q (F0 m (pc + 3) ls (.int (nI (wd i)) :: rest))) : W p l e R s m args below meth c H locs cells slots Q (F0 m pc ls (.ref (ro i) :: rest)) :=
  va_get (D := D) (ci := 0) (v := .int (nI (wd i))) (C := R_Row) (T := T_Row) (N := 2) (own := R_Row) (ref := "LimbRows$Row") hx hb hts i_Row hown hK hP _ (rw_row hi) rfl 1 (by decide) (hts (.fieldLink R_Row 15 "LimbRows$Row" "width" "I") k_80) (fun _ h9 => h9) rfl hdg kk
theorem c_ald (hx : p.tables.exec = Jvm.exec) (hb : c.code = cc) (hK : va_K D cls0 (ty3 cA cR cL) s) (hP : va_P D cls0 (rw Rs cA ro la cap wd F) H) {i k : Nat} (hi : i < 64) (hk : k < cap i) (hc : cap i ≤ 256) (hdg : decode cc pc = .ok (.iaload, 1))
    (kk : W p l e R s m args below meth c H locs cells slots Q (F0 m (pc + 1) ls (.int (F i k) :: rest))) : W p l e R s m args below meth c H locs cells slots Q (F0 m pc ls (.int (nI k) :: .ref (la i) :: rest)) :=
  va_iald hx hb hK hP _ 0 (rw_lim hi) rfl (vp_in_nI hk (by omega)) hdg (by rw [nI_clamp (by omega)]; exact kk)
theorem c_ast (hx : p.tables.exec = Jvm.exec) (hb : c.code = cc) (hK : va_K D cls0 (ty3 cA cR cL) s) (hP : va_P D cls0 (rw Rs cA ro la cap wd F) H) (hD : va_D A (rw Rs cA ro la cap wd F)) (hS : va_S A H0 H locs) {i k : Nat} {x : Int32} (hi : i < 64) (hk : k < cap i) (hc : cap i ≤ 256) (hdg : decode cc pc = .ok (.iastore, 1))
    (kk : ∀ (H1 : Heap) (locs1 : List Loc), va_P D cls0 (rw Rs cA ro la cap wd (va_up F i (upd (F i) k x))) H1 → va_D A (rw Rs cA ro la cap wd (va_up F i (upd (F i) k x))) → va_S A H0 H1 locs1 → W p l e R s m args below meth c H1 locs1 cells slots Q (F0 m (pc + 1) ls rest)) : W p l e R s m args below meth c H locs cells slots Q (F0 m pc ls (.int x :: .int (nI k) :: .ref (la i) :: rest)) :=
  va_iast hx hb hK hP hD hS _ 0 (rw_lim hi) rfl (vp_in_nI hk (by omega)) hdg (fun H1 locs1 hP hD hS => by
    rw [nI_clamp (by omega), rw_setF hi] at hP hD
    exact kk H1 locs1 hP hD hS)
end RW
end
section
/-! Digits of a whole number in a base, by floor division; rows of digits that keep a number. -/
/-- digit k of x in base B -/
def lm_lb (B x : Int) (k : Nat) : Int := x / B ^ k % B
theorem lm_pw {B : Int} (hB : 0 < B) (k : Nat) : 0 < B ^ k := Int.pow_pos hB
theorem lm_uq {x m q r : Int} (hm : 0 < m) (h : r + m * q = x) (h0 : 0 ≤ r) (h1 : r < m) : x / m = q ∧ x % m = r := (Int.ediv_emod_unique hm).mpr ⟨h, h0, h1⟩
theorem lm_dm (x m : Int) : m * (x / m) + x % m = x := Int.mul_ediv_add_emod x m
theorem lm_lb0 {B : Int} (hB : 0 < B) (x : Int) (k : Nat) : 0 ≤ lm_lb B x k := Int.emod_nonneg _ (by omega)
theorem lm_lb1 {B : Int} (hB : 0 < B) (x : Int) (k : Nat) : lm_lb B x k < B := Int.emod_lt_of_pos _ hB
theorem lm_dd {B : Int} (hB : 0 < B) (x : Int) (k : Nat) : x / B ^ (k + 1) = x / B ^ k / B := by
  rw [Int.pow_succ, Int.ediv_ediv_of_nonneg (Int.le_of_lt (lm_pw hB k))]
theorem lm_dj {B : Int} (hB : 0 < B) (x : Int) (j k : Nat) : x / B ^ (j + k) = x / B ^ j / B ^ k := by
  rw [Int.pow_add, Int.ediv_ediv_of_nonneg (Int.le_of_lt (lm_pw hB j))]
/-- one digit more -/
theorem lm_md {B : Int} (hB : 0 < B) (x : Int) (k : Nat) : x % B ^ (k + 1) = x % B ^ k + B ^ k * lm_lb B x k := by
  have hp := lm_pw hB k
  have e1 := lm_dm x (B ^ k)
  have e2 := lm_dm (x / B ^ k) B
  have b0 := Int.emod_nonneg x (show B ^ k ≠ 0 by omega)
  have b1 := Int.emod_lt_of_pos x hp
  have d0 := lm_lb0 hB x k
  have d1 := lm_lb1 hB x k
  have hm : B ^ k * lm_lb B x k ≤ B ^ k * (B - 1) := Int.mul_le_mul_of_nonneg_left (by omega) (by omega)
  have hn : 0 ≤ B ^ k * lm_lb B x k := Int.mul_nonneg (by omega) d0
  refine (lm_uq (q := x / B ^ k / B) (lm_pw hB (k + 1)) ?_ (by omega) ?_).2
  · rw [Int.pow_succ]; unfold lm_lb; grind
  · rw [Int.pow_succ]; rw [Int.mul_sub, Int.mul_one] at hm; omega
/-- a digit depends on the number below the next power alone -/
theorem lm_lbm {B : Int} (hB : 0 < B) (x : Int) {k n : Nat} (h : k < n) : lm_lb B (x % B ^ n) k = lm_lb B x k := by
  obtain ⟨j, rfl⟩ : ∃ j, n = k + (1 + j) := ⟨n - k - 1, by omega⟩
  have e := lm_dm x (B ^ (k + (1 + j)))
  unfold lm_lb
  have h1 : x = x % B ^ (k + (1 + j)) + B ^ k * (B * (B ^ j * (x / B ^ (k + (1 + j))))) := by
    have : B ^ (k + (1 + j)) = B ^ k * (B * B ^ j) := by rw [Int.pow_add, Int.pow_add, Int.pow_one]
    grind
  conv => rhs; rw [h1]
  rw [Int.add_mul_ediv_left _ _ (by have := lm_pw hB k; omega), Int.add_mul_emod_self_left]
/-- all digits alike: alike below the power -/
theorem lm_ext {B : Int} (hB : 0 < B) {x y : Int} {n : Nat} (h : ∀ k, k < n → lm_lb B x k = lm_lb B y k) : x % B ^ n = y % B ^ n := by
  induction n with
  | zero => simp [Int.emod_one]
  | succ n ih => rw [lm_md hB, lm_md hB, ih (fun k hk => h k (by omega)), h n (by omega)]
theorem lm_ext' {B : Int} (hB : 0 < B) {x y : Int} {n : Nat} (h : x % B ^ n = y % B ^ n) : ∀ k, k < n → lm_lb B x k = lm_lb B y k := fun k hk => by
  rw [← lm_lbm hB x hk, ← lm_lbm hB y hk, h]
theorem lm_m3 (a b c n : Int) : (a % n + b % n + c) % n = (c + (a + b)) % n := by
  rw [show a % n + b % n + c = a % n + (b % n + c) by omega, Int.emod_add_emod, show a + (b % n + c) = b % n + (a + c) by omega, Int.emod_add_emod]
  congr 1
  omega
/-- the carry of a sum at digit k -/
theorem lm_add {B : Int} (hB : 0 < B) (x y c : Int) (k : Nat) :
    lm_lb B (x + y + c) k = (lm_lb B x k + lm_lb B y k + (x % B ^ k + y % B ^ k + c) / B ^ k) % B ∧
    (x % B ^ (k + 1) + y % B ^ (k + 1) + c) / B ^ (k + 1) = (lm_lb B x k + lm_lb B y k + (x % B ^ k + y % B ^ k + c) / B ^ k) / B := by
  have hp := lm_pw hB k
  constructor
  · unfold lm_lb
    have e1 := lm_dm x (B ^ k)
    have e2 := lm_dm y (B ^ k)
    have h1 : x + y + c = (x % B ^ k + y % B ^ k + c) + B ^ k * (x / B ^ k + y / B ^ k) := by grind
    rw [h1, Int.add_mul_ediv_left _ _ (by omega)]
    exact (lm_m3 _ _ _ B).symm
  · rw [lm_md hB, lm_md hB, Int.pow_succ, ← Int.ediv_ediv_of_nonneg (Int.le_of_lt hp)]
    congr 1
    have h1 : x % B ^ k + B ^ k * lm_lb B x k + (y % B ^ k + B ^ k * lm_lb B y k) + c = (x % B ^ k + y % B ^ k + c) + B ^ k * (lm_lb B x k + lm_lb B y k) := by grind
    rw [h1, Int.add_mul_ediv_left _ _ (by omega)]
    omega
/-- the number that a row of digits is -/
def lm_val (B : Int) (d : Nat → Int) : Nat → Int
  | 0 => 0
  | n + 1 => lm_val B d n + B ^ n * d n
theorem lm_val_congr {B : Int} {d e : Nat → Int} {n : Nat} (h : ∀ k, k < n → d k = e k) : lm_val B d n = lm_val B e n := by
  induction n with
  | zero => rfl
  | succ n ih =>
    show lm_val B d n + B ^ n * d n = lm_val B e n + B ^ n * e n
    rw [ih (fun k hk => h k (by omega)), h n (by omega)]
/-- digits of x make x, below the power -/
theorem lm_val_lb {B : Int} (hB : 0 < B) {d : Nat → Int} {x : Int} {n : Nat} (h : ∀ k, k < n → d k = lm_lb B x k) : lm_val B d n = x % B ^ n := by
  induction n with
  | zero => simp [lm_val, Int.emod_one]
  | succ n ih =>
    show lm_val B d n + B ^ n * d n = x % B ^ (n + 1)
    rw [lm_md hB, ih (fun k hk => h k (by omega)), h n (by omega)]
theorem lm_val_in {B : Int} (hB : 0 < B) {d : Nat → Int} {n : Nat} (h : ∀ k, k < n → 0 ≤ d k ∧ d k < B) : 0 ≤ lm_val B d n ∧ lm_val B d n < B ^ n := by
  induction n with
  | zero => simp [lm_val]
  | succ n ih =>
    obtain ⟨h1, h2⟩ := ih (fun k hk => h k (by omega))
    obtain ⟨h3, h4⟩ := h n (by omega)
    have hp := lm_pw hB n
    have h5 : B ^ n * d n ≤ B ^ n * (B - 1) := Int.mul_le_mul_of_nonneg_left (by omega) (by omega)
    have h6 : 0 ≤ B ^ n * d n := Int.mul_nonneg (by omega) h3
    rw [Int.mul_sub, Int.mul_one] at h5
    show 0 ≤ lm_val B d n + B ^ n * d n ∧ lm_val B d n + B ^ n * d n < B ^ (n + 1)
    rw [Int.pow_succ]
    omega
/-- ... and the number has these digits -/
theorem lm_lb_val {B : Int} (hB : 0 < B) {d : Nat → Int} {n : Nat} (h : ∀ k, k < n → 0 ≤ d k ∧ d k < B) : ∀ k, k < n → lm_lb B (lm_val B d n) k = d k := by
  induction n with
  | zero => intro k hk; omega
  | succ n ih =>
    intro k hk
    obtain ⟨h1, h2⟩ := lm_val_in hB (fun k hk => h k (by omega : k < n + 1)) (n := n)
    obtain ⟨h3, h4⟩ := h n (by omega)
    have hp := lm_pw hB n
    show lm_lb B (lm_val B d n + B ^ n * d n) k = d k
    by_cases hkn : k = n
    · subst hkn
      unfold lm_lb
      rw [Int.add_mul_ediv_left _ _ (by omega), Int.ediv_eq_zero_of_lt h1 h2, Int.zero_add, Int.emod_eq_of_lt h3 h4]
    · rw [← lm_lbm hB _ (show k < n by omega), Int.add_mul_emod_self_left, lm_lbm hB _ (show k < n by omega)]
      exact ih (fun k hk => h k (by omega)) k (by omega)
end
section
/-! What the methods of Row do, as functions. -/
abbrev j_iu (x y : Int32) : Int32 := (x.toUInt32 >>> (y.toUInt32 &&& Int32.toUInt32 31)).toInt32
abbrev j_lu (x : Int64) (y : Int32) : Int64 := (x.toUInt64 >>> (y.toInt64.toUInt64 &&& Int64.toUInt64 63)).toInt64
abbrev j_ll (x : Int64) (y : Int32) : Int64 := x <<< (y.toInt64 &&& 63)
abbrev j_lr (x : Int64) (y : Int32) : Int64 := x >>> (y.toInt64 &&& 63)
def rUn (x : Int32) : Int64 := x.toInt64 &&& 4294967295
def rNeg (w : Nat) (f : Nat → Int32) : Int32 := if f (w - 1) < 0 then nI 1 else nI 0
def rAt (w : Nat) (f : Nat → Int32) (x : Int32) : Int32 := if x < 0 then nI 0 else if x < nI w then f x.toNatClampNeg else f (w - 1) >>> (nI 31 &&& 31)
def rSgL (f : Nat → Int32) : Nat → Nat → Int32
  | 0, _ => nI 0
  | n + 1, k => if f k = 0 then rSgL f n (k + 1) else nI 1
def rSg (w : Nat) (f : Nat → Int32) : Int32 := if rNeg w f = 0 then rSgL f w 0 else -1
def rFitL (f : Nat → Int32) (a : Int32) : Nat → Nat → Int32
  | 0, _ => nI 1
  | n + 1, k => if f k = a then rFitL f a n (k + 1) else nI 0
def rFit (w : Nat) (f : Nat → Int32) (n : Nat) : Int32 := rFitL f (rAt w f (nI (n - 1)) >>> (nI 31 &&& 31)) (w - n) n
def rBit (w : Nat) (f : Nat → Int32) (x : Int32) : Int32 := j_iu (rAt w f (x >>> (nI 5 &&& 31))) (x &&& nI 31) &&& nI 1
def rPair (w : Nat) (f : Nat → Int32) (x : Int32) : Int64 := j_ll (rUn (rAt w f (x + nI 1))) (nI 32) ||| rUn (rAt w f x)
theorem rNeg_b (w : Nat) (f : Nat → Int32) : narrow .boolean (.int (rNeg w f)) = .int (rNeg w f) := by unfold rNeg; split <;> rfl
theorem rFitL_b (f : Nat → Int32) (a : Int32) : ∀ n k : Nat, narrow .boolean (.int (rFitL f a n k)) = .int (rFitL f a n k)
  | 0, _ => by unfold rFitL; rfl
  | n + 1, k => by
    unfold rFitL
    split
    · exact rFitL_b f a n (k + 1)
    · rfl
def gCpl (i : Nat) : Nat → Nat → (Nat → Nat → Int32) → Nat → Nat → Int32
  | 0, _, F => F
  | n + 1, k, F => gCpl i n (k + 1) (va_up F i (upd (F i) k (F i k ^^^ (-1))))
def gInc (i : Nat) : Nat → Nat → (Nat → Nat → Int32) → Nat → Nat → Int32
  | 0, _, F => F
  | n + 1, k, F => if va_up F i (upd (F i) k (F i k + nI 1)) i k = 0 then gInc i n (k + 1) (va_up F i (upd (F i) k (F i k + nI 1))) else va_up F i (upd (F i) k (F i k + nI 1))
def gSet (i : Nat) : Nat → Nat → Int64 → (Nat → Nat → Int32) → Nat → Nat → Int32
  | 0, _, _, F => F
  | n + 1, k, v, F => gSet i n (k + 1) (j_lr v (nI 32)) (va_up F i (upd (F i) k v.toInt32))
def gCopy (i j wj : Nat) : Nat → Nat → (Nat → Nat → Int32) → Nat → Nat → Int32
  | 0, _, F => F
  | n + 1, k, F => gCopy i j wj n (k + 1) (va_up F i (upd (F i) k (rAt wj (F j) (nI k))))
def sAdd (i j wj st : Nat) (fl : Int32) (k : Nat) (c : Int64) (F : Nat → Nat → Int32) : Int64 := rUn (F i k) + rUn (rAt wj (F j) (nI (k - st)) ^^^ fl) + c
def gAdd (i j wj st : Nat) (fl : Int32) : Nat → Nat → Int64 → (Nat → Nat → Int32) → Nat → Nat → Int32
  | 0, _, _, F => F
  | n + 1, k, c, F => gAdd i j wj st fl n (k + 1) (j_lu (sAdd i j wj st fl k c F) (nI 32)) (va_up F i (upd (F i) k (sAdd i j wj st fl k c F).toInt32))
def sMul (i j wj st : Nat) (dg : Int64) (k : Nat) (c : Int64) (F : Nat → Nat → Int32) : Int64 := dg * rUn (rAt wj (F j) (nI (k - st))) + rUn (F i k) + c
def gMul (i j wj st : Nat) (dg : Int64) : Nat → Nat → Int64 → (Nat → Nat → Int32) → Nat → Nat → Int32
  | 0, _, _, F => F
  | n + 1, k, c, F => gMul i j wj st dg n (k + 1) (j_lu (sMul i j wj st dg k c F) (nI 32)) (va_up F i (upd (F i) k (sMul i j wj st dg k c F).toInt32))
def rFitsL (w : Nat) (v : Int64) : Int32 := if 1 < w then nI 1 else if lg_cmp v v.toInt32.toInt64 = 0 then nI 1 else nI 0
end
section
abbrev w_X0_unsigned : List Cond := .code y_X0_unsigned b_X0_unsigned 1 (some .long) :: gw
set_option maxHeartbeats 800000 in
set_option maxRecDepth 100000 in
theorem c_X0_unsigned {l : Launch} {D : va_G} {Rs : va_W} {cA cR cL : ClassId} {ro la cap wd : Nat → Nat} {F : Nat → Nat → Int32} (hw : rwOk cap wd) (x : Int32) : xR l y_X0_unsigned w_X0_unsigned ({ frames := 0, cells := 0, slots := 0, locals := 0 }) D cls0 (ty3 cA cR cL) [.int x] (rw Rs cA ro la cap wd F) (some (.long (rUn x))) := by
  refine xR.ofW (cc := b_X0_unsigned) (maxL := 1) (ret := some .long) (by decide) rfl (Nat.le_of_ble_eq_true rfl) ?_
  intro p e s m below meth c A ls _ hin hx hb hr hml hown hts hlocks hA hK hP hD hS hl
  have hts : ∀ w ∈ gw, w.before ([.int x]).toArray s = true := fun w h => hts w (List.mem_cons_of_mem _ h)
  have hown : s.vm.findClass R_Row = some m.cls := hown
  have hl : lv_has ls 1 [(0, .int x)] := hl
  refine lv_iload_n hx hb d_X0_unsigned_0 rfl (lv_at hl 0 rfl) ?_
  refine lv_i2l (v := x.toInt64) hx hb d_X0_unsigned_1 rfl ?_
  refine lv_ldc2 (v := 4294967295) hx hb hown (hts (.constantLong "LimbRows$Row" 19 4294967295) k_279) d_X0_unsigned_2 ?_
  refine lv_land hx hb d_X0_unsigned_5 ?_
  exact xr_lret hx hb hr hlocks d_X0_unsigned_6 rfl
abbrev w_X0_isNegative : List Cond := .code y_X0_isNegative b_X0_isNegative 1 (some .boolean) :: gw
set_option maxHeartbeats 800000 in
set_option maxRecDepth 100000 in
theorem c_X0_isNegative {l : Launch} {D : va_G} {Rs : va_W} {cA cR cL : ClassId} {ro la cap wd : Nat → Nat} {F : Nat → Nat → Int32} (hw : rwOk cap wd) {i : Nat} (hi : i < 64) : xR l y_X0_isNegative w_X0_isNegative ({ frames := 0, cells := 0, slots := 0, locals := 0 }) D cls0 (ty3 cA cR cL) [.ref (ro i)] (rw Rs cA ro la cap wd F) (some (.int (rNeg (wd i) (F i)))) := by
  refine xR.ofW (cc := b_X0_isNegative) (maxL := 1) (ret := some .boolean) (by decide) rfl (Nat.le_of_ble_eq_true rfl) ?_
  intro p e s m below meth c A ls _ hin hx hb hr hml hown hts hlocks hA hK hP hD hS hl
  have hts : ∀ w ∈ gw, w.before ([.ref (ro i)]).toArray s = true := fun w h => hts w (List.mem_cons_of_mem _ h)
  have hown : s.vm.findClass R_Row = some m.cls := hown
  have hl : lv_has ls 1 [(0, .ref (ro i))] := hl
  have hwi := hw i hi
  refine lv_aload_n hx hb d_X0_isNegative_0 rfl (lv_at hl 0 rfl) ?_
  refine c_getL hx hb hts hown hK hP (i := i) hi d_X0_isNegative_1 ?_
  refine lv_aload_n hx hb d_X0_isNegative_4 rfl (lv_at hl 0 rfl) ?_
  refine c_getW hx hb hts hown hK hP (i := i) hi d_X0_isNegative_5 ?_
  refine lv_iconst (v := nI 1) hx hb d_X0_isNegative_8 (by decide) ?_
  refine n_isub hx hb d_X0_isNegative_9 (by omega) ?_
  have hq_10 := hw i hi
  refine c_ald hx hb hK hP (i := i) (k := (wd i) - 1) hi (by omega) (by omega) d_X0_isNegative_10 ?_
  refine lv_if_ge (tgt := 18) hx hb d_X0_isNegative_11 (by decide) (fun c_1 => ?_) (fun c_1 => ?_)
  · refine lv_iconst (v := nI 0) hx hb d_X0_isNegative_18 (by decide) ?_
    exact xr_zret hx hb hr hlocks d_X0_isNegative_19 (by decide) (by unfold rNeg; first | rw [if_neg (Int32.not_lt.mpr (by assumption))] | rw [if_pos (Int32.not_le.mp (by assumption))])
  · refine lv_iconst (v := nI 1) hx hb d_X0_isNegative_14 (by decide) ?_
    refine lv_goto (tgt := 19) hx hb d_X0_isNegative_15 (by decide) ?_
    exact xr_zret hx hb hr hlocks d_X0_isNegative_19 (by decide) (by unfold rNeg; first | rw [if_neg (Int32.not_lt.mpr (by assumption))] | rw [if_pos (Int32.not_le.mp (by assumption))])
abbrev w_X0_limbAt : List Cond := .code y_X0_limbAt b_X0_limbAt 2 (some .int) :: gw
set_option maxHeartbeats 800000 in
set_option maxRecDepth 100000 in
theorem c_X0_limbAt {l : Launch} {D : va_G} {Rs : va_W} {cA cR cL : ClassId} {ro la cap wd : Nat → Nat} {F : Nat → Nat → Int32} (hw : rwOk cap wd) {i : Nat} (hi : i < 64) (x : Int32) : xR l y_X0_limbAt w_X0_limbAt ({ frames := 0, cells := 0, slots := 0, locals := 0 }) D cls0 (ty3 cA cR cL) [.ref (ro i), .int x] (rw Rs cA ro la cap wd F) (some (.int (rAt (wd i) (F i) x))) := by
  refine xR.ofW (cc := b_X0_limbAt) (maxL := 2) (ret := some .int) (by decide) rfl (Nat.le_of_ble_eq_true rfl) ?_
  intro p e s m below meth c A ls _ hin hx hb hr hml hown hts hlocks hA hK hP hD hS hl
  have hts : ∀ w ∈ gw, w.before ([.ref (ro i), .int x]).toArray s = true := fun w h => hts w (List.mem_cons_of_mem _ h)
  have hown : s.vm.findClass R_Row = some m.cls := hown
  have hl : lv_has ls 2 [(0, .ref (ro i)), (1, .int x)] := hl
  have hwi := hw i hi
  refine lv_iload_n hx hb d_X0_limbAt_0 rfl (lv_at hl 1 rfl) ?_
  refine lv_if_ge (tgt := 6) hx hb d_X0_limbAt_1 (by decide) (fun c_1 => ?_) (fun c_1 => ?_)
  · refine lv_iload_n hx hb d_X0_limbAt_6 rfl (lv_at hl 1 rfl) ?_
    refine lv_aload_n hx hb d_X0_limbAt_7 rfl (lv_at hl 0 rfl) ?_
    refine c_getW hx hb hts hown hK hP (i := i) hi d_X0_limbAt_8 ?_
    refine lv_icmp_ge (tgt := 23) hx hb d_X0_limbAt_11 (by decide) (fun c_2 => ?_) (fun c_2 => ?_)
    · refine lv_aload_n hx hb d_X0_limbAt_23 rfl (lv_at hl 0 rfl) ?_
      refine c_getL hx hb hts hown hK hP (i := i) hi d_X0_limbAt_24 ?_
      refine lv_aload_n hx hb d_X0_limbAt_27 rfl (lv_at hl 0 rfl) ?_
      refine c_getW hx hb hts hown hK hP (i := i) hi d_X0_limbAt_28 ?_
      refine lv_iconst (v := nI 1) hx hb d_X0_limbAt_31 (by decide) ?_
      refine n_isub hx hb d_X0_limbAt_32 (by omega) ?_
      have hq_33 := hw i hi
      refine c_ald hx hb hK hP (i := i) (k := (wd i) - 1) hi (by omega) (by omega) d_X0_limbAt_33 ?_
      refine lv_bipush (v := nI 31) hx hb d_X0_limbAt_34 (by decide) ?_
      refine lv_ishr hx hb d_X0_limbAt_36 ?_
      exact xr_iret hx hb hr hlocks d_X0_limbAt_37 (by unfold rAt; rw [if_neg (Int32.not_lt.mpr (by assumption)), if_neg (Int32.not_lt.mpr (by assumption))])
    · obtain ⟨k, hk, rfl⟩ : ∃ k : Nat, k < wd i ∧ x = nI k := by
        rcases pk_ix x (n := wd i) (by omega) with h | h | h
        · exact absurd h (Int32.not_lt.mpr (by assumption))
        · exact absurd h (by assumption)
        · exact h
      refine lv_aload_n hx hb d_X0_limbAt_14 rfl (lv_at hl 0 rfl) ?_
      refine c_getL hx hb hts hown hK hP (i := i) hi d_X0_limbAt_15 ?_
      refine lv_iload_n hx hb d_X0_limbAt_18 rfl (lv_at hl 1 rfl) ?_
      have hq_19 := hw i hi
      refine c_ald hx hb hK hP (i := i) (k := k) hi (by omega) (by omega) d_X0_limbAt_19 ?_
      refine lv_goto (tgt := 37) hx hb d_X0_limbAt_20 (by decide) ?_
      exact xr_iret hx hb hr hlocks d_X0_limbAt_37 (by unfold rAt; rw [if_neg (nI_pos (by omega)), if_pos (nI_lt hk (by omega)), nI_clamp (by omega)])
  · refine lv_iconst (v := nI 0) hx hb d_X0_limbAt_4 (by decide) ?_
    exact xr_iret hx hb hr hlocks d_X0_limbAt_5 (by unfold rAt; rw [if_pos (Int32.not_le.mp (by assumption))])
end
section
set_option maxHeartbeats 800000 in
set_option maxRecDepth 100000 in
theorem lp_X0_signum {p : Program} {l : Launch} {e : Env} {s : State} {m : MethodId} {args : Array Value} {below : List Frame} {meth : Method} {c : Code} {D : va_G} {Rs : va_W} {cA cR cL : ClassId} {ro la cap wd : Nat → Nat} {A : Nat → Prop} {F : Nat → Nat → Int32} (hx : p.tables.exec = Jvm.exec) (hb : c.code = b_X0_signum) (hr : meth.sig.returnType = some .int) (hml : c.maxLocals = 2) (hown : s.vm.findClass R_Row = some m.cls) (hts : ∀ w ∈ gw, w.before args s = true) (hlocks : meth.locks = false) (hA : ∀ q : Nat, s.heap.size ≤ q → A q) (hK : va_K D cls0 (ty3 cA cR cL) s) (hw : rwOk cap wd) {i : Nat} (hi : i < 64) (hP : va_P D cls0 (rw Rs cA ro la cap wd F) s.heap) (hD : va_D A (rw Rs cA ro la cap wd F)) : ∀ (n : Nat) (k : Nat), n = wd i - k → k < 1000 → ∀ (ls : Array Slot), lv_has ls 2 [(0, .ref (ro i)), (1, .int (nI k))] → W p l e ({ frames := 1, cells := 0, slots := 0, locals := 20 }) s m args below meth c s.heap [] 0 0 (MQ below (xRQ (some (.int (rSgL (F i) n k)))) args s 0 0 (fun _ => False)) (F0 m 11 ls []) := by
  intro n
  induction n with
  | zero =>
    intro k hn hk ls hl
    have hwi := hw i hi
    refine lv_iload_n hx hb d_X0_signum_11 rfl (lv_at hl 1 rfl) ?_
    refine lv_aload_n hx hb d_X0_signum_12 rfl (lv_at hl 0 rfl) ?_
    refine c_getW hx hb hts hown hK hP (i := i) hi d_X0_signum_13 ?_
    refine n_icmp_ge (tgt := 36) hx hb d_X0_signum_16 (by decide) (by omega) (by omega) (fun c_1 => ?_) (fun c_1 => ?_)
    rotate_left
    · exact absurd c_1 (by omega)
    refine lv_iconst (v := nI 0) hx hb d_X0_signum_36 (by decide) ?_
    exact xr_iret hx hb hr hlocks d_X0_signum_37 rfl
  | succ n ih =>
    intro k hn hk ls hl
    have hwi := hw i hi
    refine lv_iload_n hx hb d_X0_signum_11 rfl (lv_at hl 1 rfl) ?_
    refine lv_aload_n hx hb d_X0_signum_12 rfl (lv_at hl 0 rfl) ?_
    refine c_getW hx hb hts hown hK hP (i := i) hi d_X0_signum_13 ?_
    refine n_icmp_ge (tgt := 36) hx hb d_X0_signum_16 (by decide) (by omega) (by omega) (fun c_1 => ?_) (fun c_1 => ?_)
    · exact absurd c_1 (by omega)
    refine lv_aload_n hx hb d_X0_signum_19 rfl (lv_at hl 0 rfl) ?_
    refine c_getL hx hb hts hown hK hP (i := i) hi d_X0_signum_20 ?_
    refine lv_iload_n hx hb d_X0_signum_23 rfl (lv_at hl 1 rfl) ?_
    have hq_24 := hw i hi
    refine c_ald hx hb hK hP (i := i) (k := k) hi (by omega) (by omega) d_X0_signum_24 ?_
    refine lv_if_eq (tgt := 30) hx hb d_X0_signum_25 (by decide) (fun c_2 => ?_) (fun c_2 => ?_)
    · refine n_iinc (lv' := [(1, .int (nI (k + 1))), (0, .ref (ro i))]) hx hb d_X0_signum_30 hl (k := 1) rfl (by decide) rfl (fun ls hl => ?_)
      refine lv_goto (tgt := 11) hx hb d_X0_signum_33 (by decide) ?_
      rw [show rSgL (F i) (n + 1) k = rSgL (F i) n (k + 1) from if_pos c_2]
      exact ih (k + 1) (by omega) (by omega) ls (lv_sub hl [1, 0] rfl)
    · refine lv_iconst (v := nI 1) hx hb d_X0_signum_28 (by decide) ?_
      exact xr_iret hx hb hr hlocks d_X0_signum_29 (by rw [show rSgL (F i) (n + 1) k = nI 1 from if_neg c_2])
abbrev w_X0_signum : List Cond := .code y_X0_signum b_X0_signum 2 (some .int) :: gw
set_option maxHeartbeats 800000 in
set_option maxRecDepth 100000 in
theorem c_X0_signum {l : Launch} {D : va_G} {Rs : va_W} {cA cR cL : ClassId} {ro la cap wd : Nat → Nat} {F : Nat → Nat → Int32} (hw : rwOk cap wd) {i : Nat} (hi : i < 64) : xR l y_X0_signum w_X0_signum ({ frames := 1, cells := 0, slots := 0, locals := 20 }) D cls0 (ty3 cA cR cL) [.ref (ro i)] (rw Rs cA ro la cap wd F) (some (.int (rSg (wd i) (F i)))) := by
  refine xR.ofW (cc := b_X0_signum) (maxL := 2) (ret := some .int) (by decide) rfl (Nat.le_of_ble_eq_true rfl) ?_
  intro p e s m below meth c A ls _ hin hx hb hr hml hown hts hlocks hA hK hP hD hS hl
  have hts : ∀ w ∈ gw, w.before ([.ref (ro i)]).toArray s = true := fun w h => hts w (List.mem_cons_of_mem _ h)
  have hown : s.vm.findClass R_Row = some m.cls := hown
  have hl : lv_has ls 2 [(0, .ref (ro i))] := hl
  have hwi := hw i hi
  refine lv_aload_n hx hb d_X0_signum_0 rfl (lv_at hl 0 rfl) ?_
  refine x_callR (st1 := [.int (rNeg (wd i) (F i))]) (x_runV (As := []) (rest := []) (nL := 2) ⟨hx, hb, hml, hown, hts⟩ (c_X0_isNegative hw hi _) (cwV 0 hts (gw_V k_284 k_286 k_10 k_51 k_287) rfl rfl rfl (by decide +kernel) ⟨Nat.le_of_ble_eq_true rfl, Nat.le_of_ble_eq_true rfl⟩) hK hP hD _ 0 (rw_row hi) rfl rfl hl.1 rfl (Nat.le_of_ble_eq_true rfl) d_X0_signum_1 ⟨Nat.zero_le _, Nat.zero_le _⟩) rfl ?_
  refine lv_if_eq (tgt := 9) hx hb d_X0_signum_4 (by decide) (fun c_1 => ?_) (fun c_1 => ?_)
  · refine lv_iconst (v := nI 0) hx hb d_X0_signum_9 (by decide) ?_
    refine lv_istore_n (lv' := [(1, .int (nI 0)), (0, .ref (ro i))]) hx hb d_X0_signum_10 rfl hl (by decide) rfl (fun ls hl => ?_)
    rw [show rSg (wd i) (F i) = rSgL (F i) (wd i) 0 from if_pos c_1]
    exact lp_X0_signum hx hb hr hml hown hts hlocks hA hK hw hi hP hD (wd i) 0 (by omega) (by omega) ls (lv_sub hl [1, 0] rfl)
  · refine lv_iconst (v := -1) hx hb d_X0_signum_7 (by decide) ?_
    exact xr_iret hx hb hr hlocks d_X0_signum_8 (by rw [show rSg (wd i) (F i) = -1 from if_neg c_1])
set_option maxHeartbeats 800000 in
set_option maxRecDepth 100000 in
theorem lp_X0_fitsIn {p : Program} {l : Launch} {e : Env} {s : State} {m : MethodId} {args : Array Value} {below : List Frame} {meth : Method} {c : Code} {D : va_G} {Rs : va_W} {cA cR cL : ClassId} {ro la cap wd : Nat → Nat} {A : Nat → Prop} {F : Nat → Nat → Int32} (hx : p.tables.exec = Jvm.exec) (hb : c.code = b_X0_fitsIn) (hr : meth.sig.returnType = some .boolean) (hml : c.maxLocals = 4) (hown : s.vm.findClass R_Row = some m.cls) (hts : ∀ w ∈ gw, w.before args s = true) (hlocks : meth.locks = false) (hA : ∀ q : Nat, s.heap.size ≤ q → A q) (hK : va_K D cls0 (ty3 cA cR cL) s) (hw : rwOk cap wd) {i z : Nat} (hi : i < 64) {a : Int32} (hP : va_P D cls0 (rw Rs cA ro la cap wd F) s.heap) (hD : va_D A (rw Rs cA ro la cap wd F)) : ∀ (n : Nat) (k : Nat), n = wd i - k → k < 1000 → ∀ (ls : Array Slot), lv_has ls 4 [(0, .ref (ro i)), (1, .int (nI z)), (2, .int a), (3, .int (nI k))] → W p l e ({ frames := 1, cells := 0, slots := 0, locals := 21 }) s m args below meth c s.heap [] 0 0 (MQ below (xRQ (some (.int (rFitL (F i) a n k)))) args s 0 0 (fun _ => False)) (F0 m 13 ls []) := by
  intro n
  induction n with
  | zero =>
    intro k hn hk ls hl
    have hwi := hw i hi
    refine lv_iload_n hx hb d_X0_fitsIn_13 rfl (lv_at hl 3 rfl) ?_
    refine lv_aload_n hx hb d_X0_fitsIn_14 rfl (lv_at hl 0 rfl) ?_
    refine c_getW hx hb hts hown hK hP (i := i) hi d_X0_fitsIn_15 ?_
    refine n_icmp_ge (tgt := 39) hx hb d_X0_fitsIn_18 (by decide) (by omega) (by omega) (fun c_1 => ?_) (fun c_1 => ?_)
    rotate_left
    · exact absurd c_1 (by omega)
    refine lv_iconst (v := nI 1) hx hb d_X0_fitsIn_39 (by decide) ?_
    exact xr_zret hx hb hr hlocks d_X0_fitsIn_40 (by decide) rfl
  | succ n ih =>
    intro k hn hk ls hl
    have hwi := hw i hi
    refine lv_iload_n hx hb d_X0_fitsIn_13 rfl (lv_at hl 3 rfl) ?_
    refine lv_aload_n hx hb d_X0_fitsIn_14 rfl (lv_at hl 0 rfl) ?_
    refine c_getW hx hb hts hown hK hP (i := i) hi d_X0_fitsIn_15 ?_
    refine n_icmp_ge (tgt := 39) hx hb d_X0_fitsIn_18 (by decide) (by omega) (by omega) (fun c_1 => ?_) (fun c_1 => ?_)
    · exact absurd c_1 (by omega)
    refine lv_aload_n hx hb d_X0_fitsIn_21 rfl (lv_at hl 0 rfl) ?_
    refine c_getL hx hb hts hown hK hP (i := i) hi d_X0_fitsIn_22 ?_
    refine lv_iload_n hx hb d_X0_fitsIn_25 rfl (lv_at hl 3 rfl) ?_
    have hq_26 := hw i hi
    refine c_ald hx hb hK hP (i := i) (k := k) hi (by omega) (by omega) d_X0_fitsIn_26 ?_
    refine lv_iload_n hx hb d_X0_fitsIn_27 rfl (lv_at hl 2 rfl) ?_
    refine lv_icmp_eq (tgt := 33) hx hb d_X0_fitsIn_28 (by decide) (fun c_2 => ?_) (fun c_2 => ?_)
    · refine n_iinc (lv' := [(3, .int (nI (k + 1))), (0, .ref (ro i)), (1, .int (nI z)), (2, .int a)]) hx hb d_X0_fitsIn_33 hl (k := 3) rfl (by decide) rfl (fun ls hl => ?_)
      refine lv_goto (tgt := 13) hx hb d_X0_fitsIn_36 (by decide) ?_
      rw [show rFitL (F i) a (n + 1) k = rFitL (F i) a n (k + 1) from if_pos c_2]
      exact ih (k + 1) (by omega) (by omega) ls (lv_sub hl [1, 2, 3, 0] rfl)
    · refine lv_iconst (v := nI 0) hx hb d_X0_fitsIn_31 (by decide) ?_
      exact xr_zret hx hb hr hlocks d_X0_fitsIn_32 (by decide) (by rw [show rFitL (F i) a (n + 1) k = nI 0 from if_neg c_2])
abbrev w_X0_fitsIn : List Cond := .code y_X0_fitsIn b_X0_fitsIn 4 (some .boolean) :: gw
set_option maxHeartbeats 800000 in
set_option maxRecDepth 100000 in
theorem c_X0_fitsIn {l : Launch} {D : va_G} {Rs : va_W} {cA cR cL : ClassId} {ro la cap wd : Nat → Nat} {F : Nat → Nat → Int32} (hw : rwOk cap wd) {i : Nat} (hi : i < 64) {z : Nat} (hz : 1 ≤ z ∧ z ≤ 256) : xR l y_X0_fitsIn w_X0_fitsIn ({ frames := 1, cells := 0, slots := 0, locals := 21 }) D cls0 (ty3 cA cR cL) [.ref (ro i), .int (nI z)] (rw Rs cA ro la cap wd F) (some (.int (rFit (wd i) (F i) z))) := by
  refine xR.ofW (cc := b_X0_fitsIn) (maxL := 4) (ret := some .boolean) (by decide) rfl (Nat.le_of_ble_eq_true rfl) ?_
  intro p e s m below meth c A ls _ hin hx hb hr hml hown hts hlocks hA hK hP hD hS hl
  have hts : ∀ w ∈ gw, w.before ([.ref (ro i), .int (nI z)]).toArray s = true := fun w h => hts w (List.mem_cons_of_mem _ h)
  have hown : s.vm.findClass R_Row = some m.cls := hown
  have hl : lv_has ls 4 [(0, .ref (ro i)), (1, .int (nI z))] := hl
  have hwi := hw i hi
  refine lv_aload_n hx hb d_X0_fitsIn_0 rfl (lv_at hl 0 rfl) ?_
  refine lv_iload_n hx hb d_X0_fitsIn_1 rfl (lv_at hl 1 rfl) ?_
  refine lv_iconst (v := nI 1) hx hb d_X0_fitsIn_2 (by decide) ?_
  refine n_isub hx hb d_X0_fitsIn_3 (by omega) ?_
  refine x_callR (st1 := [.int (rAt (wd i) (F i) (nI (z - 1)))]) (x_runV (As := [.int (nI (z - 1))]) (rest := []) (nL := 4) ⟨hx, hb, hml, hown, hts⟩ (c_X0_limbAt hw hi (nI (z - 1)) _) (cwV 1 hts (gw_V k_196 k_198 k_4 k_51 k_199) rfl rfl rfl (by decide +kernel) ⟨Nat.le_of_ble_eq_true rfl, Nat.le_of_ble_eq_true rfl⟩) hK hP hD _ 0 (rw_row hi) rfl rfl hl.1 rfl (Nat.le_of_ble_eq_true rfl) d_X0_fitsIn_4 ⟨Nat.zero_le _, Nat.zero_le _⟩) rfl ?_
  refine lv_bipush (v := nI 31) hx hb d_X0_fitsIn_7 (by decide) ?_
  refine lv_ishr hx hb d_X0_fitsIn_9 ?_
  refine lv_topi (fun v_1 ev_1 => ?_)
  refine lv_istore_n (lv' := [(2, .int v_1), (0, .ref (ro i)), (1, .int (nI z))]) hx hb d_X0_fitsIn_10 rfl hl (by decide) rfl (fun ls hl => ?_)
  refine lv_iload_n hx hb d_X0_fitsIn_11 rfl (lv_at hl 2 rfl) ?_
  refine lv_istore_n (lv' := [(3, .int (nI z)), (2, .int v_1), (0, .ref (ro i)), (1, .int (nI z))]) hx hb d_X0_fitsIn_12 rfl hl (by decide) rfl (fun ls hl => ?_)
  rw [show rFit (wd i) (F i) z = rFitL (F i) v_1 (wd i - z) z from by rw [ev_1]; rfl]
  exact lp_X0_fitsIn hx hb hr hml hown hts hlocks hA hK hw hi hP hD (wd i - z) z rfl (by omega) ls (lv_sub hl [2, 3, 1, 0] rfl)
set_option maxHeartbeats 800000 in
set_option maxRecDepth 100000 in
theorem lp_X0_complement {p : Program} {l : Launch} {e : Env} {s : State} {m : MethodId} {args : Array Value} {below : List Frame} {meth : Method} {c : Code} {D : va_G} {Rs : va_W} {cA cR cL : ClassId} {ro la cap wd : Nat → Nat} {A : Nat → Prop} (hx : p.tables.exec = Jvm.exec) (hb : c.code = b_X0_complement) (hr : meth.sig.returnType = none) (hml : c.maxLocals = 2) (hown : s.vm.findClass R_Row = some m.cls) (hts : ∀ w ∈ gw, w.before args s = true) (hlocks : meth.locks = false) (hA : ∀ q : Nat, s.heap.size ≤ q → A q) (hK : va_K D cls0 (ty3 cA cR cL) s) (hw : rwOk cap wd) {i : Nat} (hi : i < 64) : ∀ (n : Nat) (k : Nat) (F : Nat → Nat → Int32), n = wd i - k → k < 1000 → ∀ (H : Heap) (locs : List Loc), va_P D cls0 (rw Rs cA ro la cap wd F) H → va_D A (rw Rs cA ro la cap wd F) → va_S A s.heap H locs → ∀ (ls : Array Slot), lv_has ls 2 [(0, .ref (ro i)), (1, .int (nI k))] → W p l e ({ frames := 0, cells := 0, slots := 0, locals := 0 }) s m args below meth c H locs 0 0 (MQ below (xQ (none) (xB D cls0 A (fun w => w = rw Rs cA ro la cap wd (gCpl i n k F))) A) args s 0 0 A) (F0 m 2 ls []) := by
  intro n
  induction n with
  | zero =>
    intro k F hn hk H locs hP hD hS ls hl
    have hwi := hw i hi
    refine lv_iload_n hx hb d_X0_complement_2 rfl (lv_at hl 1 rfl) ?_
    refine lv_aload_n hx hb d_X0_complement_3 rfl (lv_at hl 0 rfl) ?_
    refine c_getW hx hb hts hown hK hP (i := i) hi d_X0_complement_4 ?_
    refine n_icmp_ge (tgt := 30) hx hb d_X0_complement_7 (by decide) (by omega) (by omega) (fun c_1 => ?_) (fun c_1 => ?_)
    rotate_left
    · exact absurd c_1 (by omega)
    exact x_vret hx hb hr hlocks hP hD hS d_X0_complement_30 rfl rfl
  | succ n ih =>
    intro k F hn hk H locs hP hD hS ls hl
    have hwi := hw i hi
    refine lv_iload_n hx hb d_X0_complement_2 rfl (lv_at hl 1 rfl) ?_
    refine lv_aload_n hx hb d_X0_complement_3 rfl (lv_at hl 0 rfl) ?_
    refine c_getW hx hb hts hown hK hP (i := i) hi d_X0_complement_4 ?_
    refine n_icmp_ge (tgt := 30) hx hb d_X0_complement_7 (by decide) (by omega) (by omega) (fun c_1 => ?_) (fun c_1 => ?_)
    · exact absurd c_1 (by omega)
    refine lv_aload_n hx hb d_X0_complement_10 rfl (lv_at hl 0 rfl) ?_
    refine c_getL hx hb hts hown hK hP (i := i) hi d_X0_complement_11 ?_
    refine lv_iload_n hx hb d_X0_complement_14 rfl (lv_at hl 1 rfl) ?_
    refine lv_aload_n hx hb d_X0_complement_15 rfl (lv_at hl 0 rfl) ?_
    refine c_getL hx hb hts hown hK hP (i := i) hi d_X0_complement_16 ?_
    refine lv_iload_n hx hb d_X0_complement_19 rfl (lv_at hl 1 rfl) ?_
    have hq_20 := hw i hi
    refine c_ald hx hb hK hP (i := i) (k := k) hi (by omega) (by omega) d_X0_complement_20 ?_
    refine lv_iconst (v := -1) hx hb d_X0_complement_21 (by decide) ?_
    refine lv_ixor hx hb d_X0_complement_22 ?_
    have hq_23 := hw i hi
    refine c_ast hx hb hK hP hD hS (i := i) (k := k) (x := (F i k) ^^^ (-1)) hi (by omega) (by omega) d_X0_complement_23 (fun H locs hP hD hS => ?_)
    refine n_iinc (lv' := [(1, .int (nI (k + 1))), (0, .ref (ro i))]) hx hb d_X0_complement_24 hl (k := 1) rfl (by decide) rfl (fun ls hl => ?_)
    refine lv_goto (tgt := 2) hx hb d_X0_complement_27 (by decide) ?_
    exact ih (k + 1) _ (by omega) (by omega) H locs hP hD hS ls (lv_sub hl [1, 0] rfl)
abbrev w_X0_complement : List Cond := .code y_X0_complement b_X0_complement 2 (none) :: gw
set_option maxHeartbeats 800000 in
set_option maxRecDepth 100000 in
theorem c_X0_complement {l : Launch} {D : va_G} {Rs : va_W} {cA cR cL : ClassId} {ro la cap wd : Nat → Nat} {F : Nat → Nat → Int32} (hw : rwOk cap wd) {i : Nat} (hi : i < 64) : xC l y_X0_complement w_X0_complement ({ frames := 0, cells := 0, slots := 0, locals := 0 }) D cls0 (ty3 cA cR cL) [.ref (ro i)] (rw Rs cA ro la cap wd F) (none) (fun w => w = rw Rs cA ro la cap wd (gCpl i (wd i) 0 F)) 0 0 := by
  refine xC.ofW (cc := b_X0_complement) (maxL := 2) (ret := none) (by decide) rfl (Nat.le_of_ble_eq_true rfl) ?_
  intro p e s m below meth c A ls _ hin hx hb hr hml hown hts hlocks hA hK hP hD hS hl
  have hts : ∀ w ∈ gw, w.before ([.ref (ro i)]).toArray s = true := fun w h => hts w (List.mem_cons_of_mem _ h)
  have hown : s.vm.findClass R_Row = some m.cls := hown
  have hl : lv_has ls 2 [(0, .ref (ro i))] := hl
  refine lv_iconst (v := nI 0) hx hb d_X0_complement_0 (by decide) ?_
  refine lv_istore_n (lv' := [(1, .int (nI 0)), (0, .ref (ro i))]) hx hb d_X0_complement_1 rfl hl (by decide) rfl (fun ls hl => ?_)
  exact lp_X0_complement hx hb hr hml hown hts hlocks hA hK hw hi (wd i) 0 F rfl (by omega) _ _ hP hD hS ls (lv_sub hl [1, 0] rfl)
end
section
set_option maxHeartbeats 800000 in
set_option maxRecDepth 100000 in
theorem lp_X0_increment {p : Program} {l : Launch} {e : Env} {s : State} {m : MethodId} {args : Array Value} {below : List Frame} {meth : Method} {c : Code} {D : va_G} {Rs : va_W} {cA cR cL : ClassId} {ro la cap wd : Nat → Nat} {A : Nat → Prop} (hx : p.tables.exec = Jvm.exec) (hb : c.code = b_X0_increment) (hr : meth.sig.returnType = none) (hml : c.maxLocals = 2) (hown : s.vm.findClass R_Row = some m.cls) (hts : ∀ w ∈ gw, w.before args s = true) (hlocks : meth.locks = false) (hA : ∀ q : Nat, s.heap.size ≤ q → A q) (hK : va_K D cls0 (ty3 cA cR cL) s) (hw : rwOk cap wd) {i : Nat} (hi : i < 64) : ∀ (n : Nat) (k : Nat) (F : Nat → Nat → Int32), n = wd i - k → k < 1000 → ∀ (H : Heap) (locs : List Loc), va_P D cls0 (rw Rs cA ro la cap wd F) H → va_D A (rw Rs cA ro la cap wd F) → va_S A s.heap H locs → ∀ (ls : Array Slot), lv_has ls 2 [(0, .ref (ro i)), (1, .int (nI k))] → W p l e ({ frames := 0, cells := 0, slots := 0, locals := 0 }) s m args below meth c H locs 0 0 (MQ below (xQ (none) (xB D cls0 A (fun w => w = rw Rs cA ro la cap wd (gInc i n k F))) A) args s 0 0 A) (F0 m 2 ls []) := by
  intro n
  induction n with
  | zero =>
    intro k F hn hk H locs hP hD hS ls hl
    have hwi := hw i hi
    refine lv_iload_n hx hb d_X0_increment_2 rfl (lv_at hl 1 rfl) ?_
    refine lv_aload_n hx hb d_X0_increment_3 rfl (lv_at hl 0 rfl) ?_
    refine c_getW hx hb hts hown hK hP (i := i) hi d_X0_increment_4 ?_
    refine n_icmp_ge (tgt := 36) hx hb d_X0_increment_7 (by decide) (by omega) (by omega) (fun c_1 => ?_) (fun c_1 => ?_)
    rotate_left
    · exact absurd c_1 (by omega)
    exact x_vret hx hb hr hlocks hP hD hS d_X0_increment_36 rfl rfl
  | succ n ih =>
    intro k F hn hk H locs hP hD hS ls hl
    have hwi := hw i hi
    refine lv_iload_n hx hb d_X0_increment_2 rfl (lv_at hl 1 rfl) ?_
    refine lv_aload_n hx hb d_X0_increment_3 rfl (lv_at hl 0 rfl) ?_
    refine c_getW hx hb hts hown hK hP (i := i) hi d_X0_increment_4 ?_
    refine n_icmp_ge (tgt := 36) hx hb d_X0_increment_7 (by decide) (by omega) (by omega) (fun c_1 => ?_) (fun c_1 => ?_)
    · exact absurd c_1 (by omega)
    refine lv_aload_n hx hb d_X0_increment_10 rfl (lv_at hl 0 rfl) ?_
    refine c_getL hx hb hts hown hK hP (i := i) hi d_X0_increment_11 ?_
    refine lv_iload_n hx hb d_X0_increment_14 rfl (lv_at hl 1 rfl) ?_
    refine lv_dup2_11 hx hb d_X0_increment_15 rfl rfl ?_
    have hq_16 := hw i hi
    refine c_ald hx hb hK hP (i := i) (k := k) hi (by omega) (by omega) d_X0_increment_16 ?_
    refine lv_iconst (v := nI 1) hx hb d_X0_increment_17 (by decide) ?_
    refine lv_iadd hx hb d_X0_increment_18 ?_
    have hq_19 := hw i hi
    refine c_ast hx hb hK hP hD hS (i := i) (k := k) (x := (F i k) + (nI 1)) hi (by omega) (by omega) d_X0_increment_19 (fun H locs hP hD hS => ?_)
    refine lv_aload_n hx hb d_X0_increment_20 rfl (lv_at hl 0 rfl) ?_
    refine c_getL hx hb hts hown hK hP (i := i) hi d_X0_increment_21 ?_
    refine lv_iload_n hx hb d_X0_increment_24 rfl (lv_at hl 1 rfl) ?_
    have hq_25 := hw i hi
    refine c_ald hx hb hK hP (i := i) (k := k) hi (by omega) (by omega) d_X0_increment_25 ?_
    refine lv_if_eq (tgt := 30) hx hb d_X0_increment_26 (by decide) (fun c_2 => ?_) (fun c_2 => ?_)
    · refine n_iinc (lv' := [(1, .int (nI (k + 1))), (0, .ref (ro i))]) hx hb d_X0_increment_30 hl (k := 1) rfl (by decide) rfl (fun ls hl => ?_)
      refine lv_goto (tgt := 2) hx hb d_X0_increment_33 (by decide) ?_
      rw [show gInc i (n + 1) k F = gInc i n (k + 1) (va_up F i (upd (F i) k (F i k + nI 1))) from if_pos c_2]
      exact ih (k + 1) _ (by omega) (by omega) H locs hP hD hS ls (lv_sub hl [1, 0] rfl)
    · exact x_vret hx hb hr hlocks hP hD hS d_X0_increment_29 rfl (by rw [show gInc i (n + 1) k F = va_up F i (upd (F i) k (F i k + nI 1)) from if_neg c_2])
abbrev w_X0_increment : List Cond := .code y_X0_increment b_X0_increment 2 (none) :: gw
set_option maxHeartbeats 800000 in
set_option maxRecDepth 100000 in
theorem c_X0_increment {l : Launch} {D : va_G} {Rs : va_W} {cA cR cL : ClassId} {ro la cap wd : Nat → Nat} {F : Nat → Nat → Int32} (hw : rwOk cap wd) {i : Nat} (hi : i < 64) : xC l y_X0_increment w_X0_increment ({ frames := 0, cells := 0, slots := 0, locals := 0 }) D cls0 (ty3 cA cR cL) [.ref (ro i)] (rw Rs cA ro la cap wd F) (none) (fun w => w = rw Rs cA ro la cap wd (gInc i (wd i) 0 F)) 0 0 := by
  refine xC.ofW (cc := b_X0_increment) (maxL := 2) (ret := none) (by decide) rfl (Nat.le_of_ble_eq_true rfl) ?_
  intro p e s m below meth c A ls _ hin hx hb hr hml hown hts hlocks hA hK hP hD hS hl
  have hts : ∀ w ∈ gw, w.before ([.ref (ro i)]).toArray s = true := fun w h => hts w (List.mem_cons_of_mem _ h)
  have hown : s.vm.findClass R_Row = some m.cls := hown
  have hl : lv_has ls 2 [(0, .ref (ro i))] := hl
  refine lv_iconst (v := nI 0) hx hb d_X0_increment_0 (by decide) ?_
  refine lv_istore_n (lv' := [(1, .int (nI 0)), (0, .ref (ro i))]) hx hb d_X0_increment_1 rfl hl (by decide) rfl (fun ls hl => ?_)
  exact lp_X0_increment hx hb hr hml hown hts hlocks hA hK hw hi (wd i) 0 F rfl (by omega) _ _ hP hD hS ls (lv_sub hl [1, 0] rfl)
set_option maxHeartbeats 800000 in
set_option maxRecDepth 100000 in
theorem lp_X0_keepLong {p : Program} {l : Launch} {e : Env} {s : State} {m : MethodId} {args : Array Value} {below : List Frame} {meth : Method} {c : Code} {D : va_G} {Rs : va_W} {cA cR cL : ClassId} {ro la cap wd : Nat → Nat} {A : Nat → Prop} (hx : p.tables.exec = Jvm.exec) (hb : c.code = b_X0_keepLong) (hr : meth.sig.returnType = some .boolean) (hml : c.maxLocals = 6) (hown : s.vm.findClass R_Row = some m.cls) (hts : ∀ w ∈ gw, w.before args s = true) (hlocks : meth.locks = false) (hA : ∀ q : Nat, s.heap.size ≤ q → A q) (hK : va_K D cls0 (ty3 cA cR cL) s) (hw : rwOk cap wd) {i : Nat} (hi : i < 64) {v : Int64} : ∀ (n : Nat) (k : Nat) (r : Int64) (F : Nat → Nat → Int32), n = wd i - k → k < 1000 → ∀ (H : Heap) (locs : List Loc), va_P D cls0 (rw Rs cA ro la cap wd F) H → va_D A (rw Rs cA ro la cap wd F) → va_S A s.heap H locs → ∀ (ls : Array Slot), lv_has ls 6 [(0, .ref (ro i)), (1, .long v), (3, .long r), (5, .int (nI k))] → W p l e ({ frames := 0, cells := 0, slots := 0, locals := 0 }) s m args below meth c H locs 0 0 (MQ below (xQ (some (.int (rFitsL (wd i) v))) (xB D cls0 A (fun w => w = rw Rs cA ro la cap wd (gSet i n k r F))) A) args s 0 0 A) (F0 m 5 ls []) := by
  intro n
  induction n with
  | zero =>
    intro k r F hn hk H locs hP hD hS ls hl
    have hwi := hw i hi
    refine lv_iload hx hb d_X0_keepLong_5 (lv_at hl 3 rfl) ?_
    refine lv_aload_n hx hb d_X0_keepLong_7 rfl (lv_at hl 0 rfl) ?_
    refine c_getW hx hb hts hown hK hP (i := i) hi d_X0_keepLong_8 ?_
    refine n_icmp_ge (tgt := 34) hx hb d_X0_keepLong_11 (by decide) (by omega) (by omega) (fun c_1 => ?_) (fun c_1 => ?_)
    rotate_left
    · exact absurd c_1 (by omega)
    refine lv_aload_n hx hb d_X0_keepLong_34 rfl (lv_at hl 0 rfl) ?_
    refine c_getW hx hb hts hown hK hP (i := i) hi d_X0_keepLong_35 ?_
    refine lv_iconst (v := nI 1) hx hb d_X0_keepLong_38 (by decide) ?_
    refine n_icmp_gt (tgt := 50) hx hb d_X0_keepLong_39 (by decide) (by omega) (by omega) (fun c_2 => ?_) (fun c_2 => ?_)
    · refine lv_iconst (v := nI 1) hx hb d_X0_keepLong_50 (by decide) ?_
      refine lv_goto (tgt := 55) hx hb d_X0_keepLong_51 (by decide) ?_
      exact x_zret hx hb hr hlocks hP hD hS d_X0_keepLong_55 (by decide) (by unfold rFitsL; first | rw [if_pos (by omega)] | rw [if_neg (by omega), if_pos (by assumption)] | rw [if_neg (by omega), if_neg (by assumption)]) rfl
    · refine lv_lload_n hx hb d_X0_keepLong_42 rfl (lv_at hl 1 rfl) ?_
      refine lv_lload_n hx hb d_X0_keepLong_43 rfl (lv_at hl 1 rfl) ?_
      refine lv_l2i (v := v.toInt32) hx hb d_X0_keepLong_44 rfl ?_
      refine lv_i2l (v := v.toInt32.toInt64) hx hb d_X0_keepLong_45 rfl ?_
      refine W.lcmp hx hb d_X0_keepLong_46 ?_
      refine lv_if_ne (tgt := 54) hx hb d_X0_keepLong_47 (by decide) (fun c_3 => ?_) (fun c_3 => ?_)
      · refine lv_iconst (v := nI 0) hx hb d_X0_keepLong_54 (by decide) ?_
        exact x_zret hx hb hr hlocks hP hD hS d_X0_keepLong_55 (by decide) (by unfold rFitsL; first | rw [if_pos (by omega)] | rw [if_neg (by omega), if_pos (by assumption)] | rw [if_neg (by omega), if_neg (by assumption)]) rfl
      · refine lv_iconst (v := nI 1) hx hb d_X0_keepLong_50 (by decide) ?_
        refine lv_goto (tgt := 55) hx hb d_X0_keepLong_51 (by decide) ?_
        exact x_zret hx hb hr hlocks hP hD hS d_X0_keepLong_55 (by decide) (by unfold rFitsL; first | rw [if_pos (by omega)] | rw [if_neg (by omega), if_pos (by assumption)] | rw [if_neg (by omega), if_neg (by assumption)]) rfl
  | succ n ih =>
    intro k r F hn hk H locs hP hD hS ls hl
    have hwi := hw i hi
    refine lv_iload hx hb d_X0_keepLong_5 (lv_at hl 3 rfl) ?_
    refine lv_aload_n hx hb d_X0_keepLong_7 rfl (lv_at hl 0 rfl) ?_
    refine c_getW hx hb hts hown hK hP (i := i) hi d_X0_keepLong_8 ?_
    refine n_icmp_ge (tgt := 34) hx hb d_X0_keepLong_11 (by decide) (by omega) (by omega) (fun c_1 => ?_) (fun c_1 => ?_)
    · exact absurd c_1 (by omega)
    refine lv_aload_n hx hb d_X0_keepLong_14 rfl (lv_at hl 0 rfl) ?_
    refine c_getL hx hb hts hown hK hP (i := i) hi d_X0_keepLong_15 ?_
    refine lv_iload hx hb d_X0_keepLong_18 (lv_at hl 3 rfl) ?_
    refine lv_lload_n hx hb d_X0_keepLong_20 rfl (lv_at hl 2 rfl) ?_
    refine lv_l2i (v := r.toInt32) hx hb d_X0_keepLong_21 rfl ?_
    have hq_22 := hw i hi
    refine c_ast hx hb hK hP hD hS (i := i) (k := k) (x := r.toInt32) hi (by omega) (by omega) d_X0_keepLong_22 (fun H locs hP hD hS => ?_)
    refine lv_lload_n hx hb d_X0_keepLong_23 rfl (lv_at hl 2 rfl) ?_
    refine lv_bipush (v := nI 32) hx hb d_X0_keepLong_24 (by decide) ?_
    refine lv_lshr (v := j_lr r (nI 32)) hx hb d_X0_keepLong_26 rfl ?_
    refine lv_topl (fun v_2 ev_2 => ?_)
    refine lv_lstore_n (lv' := [(3, .long v_2), (0, .ref (ro i)), (1, .long v), (5, .int (nI k))]) hx hb d_X0_keepLong_27 rfl hl (by decide) rfl (fun ls hl => ?_)
    refine n_iinc (lv' := [(5, .int (nI (k + 1))), (3, .long v_2), (0, .ref (ro i)), (1, .long v)]) hx hb d_X0_keepLong_28 hl (k := 3) rfl (by decide) rfl (fun ls hl => ?_)
    refine lv_goto (tgt := 5) hx hb d_X0_keepLong_31 (by decide) ?_
    subst ev_2
    exact ih (k + 1) _ _ (by omega) (by omega) H locs hP hD hS ls (lv_sub hl [2, 3, 1, 0] rfl)
abbrev w_X0_keepLong : List Cond := .code y_X0_keepLong b_X0_keepLong 6 (some .boolean) :: gw
set_option maxHeartbeats 800000 in
set_option maxRecDepth 100000 in
theorem c_X0_keepLong {l : Launch} {D : va_G} {Rs : va_W} {cA cR cL : ClassId} {ro la cap wd : Nat → Nat} {F : Nat → Nat → Int32} (hw : rwOk cap wd) {i : Nat} (hi : i < 64) (v : Int64) : xC l y_X0_keepLong w_X0_keepLong ({ frames := 0, cells := 0, slots := 0, locals := 0 }) D cls0 (ty3 cA cR cL) [.ref (ro i), .long v] (rw Rs cA ro la cap wd F) (some (.int (rFitsL (wd i) v))) (fun w => w = rw Rs cA ro la cap wd (gSet i (wd i) 0 v F)) 0 0 := by
  refine xC.ofW (cc := b_X0_keepLong) (maxL := 6) (ret := some .boolean) (by decide) rfl (Nat.le_of_ble_eq_true rfl) ?_
  intro p e s m below meth c A ls _ hin hx hb hr hml hown hts hlocks hA hK hP hD hS hl
  have hts : ∀ w ∈ gw, w.before ([.ref (ro i), .long v]).toArray s = true := fun w h => hts w (List.mem_cons_of_mem _ h)
  have hown : s.vm.findClass R_Row = some m.cls := hown
  have hl : lv_has ls 6 [(0, .ref (ro i)), (1, .long v)] := hl
  refine lv_lload_n hx hb d_X0_keepLong_0 rfl (lv_at hl 1 rfl) ?_
  refine lv_lstore_n (lv' := [(3, .long v), (0, .ref (ro i)), (1, .long v)]) hx hb d_X0_keepLong_1 rfl hl (by decide) rfl (fun ls hl => ?_)
  refine lv_iconst (v := nI 0) hx hb d_X0_keepLong_2 (by decide) ?_
  refine lv_istore (lv' := [(5, .int (nI 0)), (3, .long v), (0, .ref (ro i)), (1, .long v)]) hx hb d_X0_keepLong_3 hl (by decide) rfl (fun ls hl => ?_)
  exact lp_X0_keepLong hx hb hr hml hown hts hlocks hA hK hw hi (wd i) 0 v F rfl (by omega) _ _ hP hD hS ls (lv_sub hl [2, 3, 1, 0] rfl)
set_option maxHeartbeats 800000 in
set_option maxRecDepth 100000 in
theorem lp_X0_keepRow {p : Program} {l : Launch} {e : Env} {s : State} {m : MethodId} {args : Array Value} {below : List Frame} {meth : Method} {c : Code} {D : va_G} {Rs : va_W} {cA cR cL : ClassId} {ro la cap wd : Nat → Nat} {A : Nat → Prop} (hx : p.tables.exec = Jvm.exec) (hb : c.code = b_X0_keepRow) (hr : meth.sig.returnType = some .boolean) (hml : c.maxLocals = 4) (hown : s.vm.findClass R_Row = some m.cls) (hts : ∀ w ∈ gw, w.before args s = true) (hlocks : meth.locks = false) (hA : ∀ q : Nat, s.heap.size ≤ q → A q) (hK : va_K D cls0 (ty3 cA cR cL) s) (hw : rwOk cap wd) {i j : Nat} (hi : i < 64) (hj : j < 64) {b : Int32} (hbb : narrow .boolean (.int b) = .int b) : ∀ (n : Nat) (k : Nat) (F : Nat → Nat → Int32), n = wd i - k → k < 1000 → ∀ (H : Heap) (locs : List Loc), va_P D cls0 (rw Rs cA ro la cap wd F) H → va_D A (rw Rs cA ro la cap wd F) → va_S A s.heap H locs → ∀ (ls : Array Slot), lv_has ls 4 [(0, .ref (ro i)), (1, .ref (ro j)), (2, .int b), (3, .int (nI k))] → W p l e ({ frames := 2, cells := 0, slots := 0, locals := 44 }) s m args below meth c H locs 0 0 (MQ below (xQ (some (.int b)) (xB D cls0 A (fun w => w = rw Rs cA ro la cap wd (gCopy i j (wd j) n k F))) A) args s 0 0 A) (F0 m 11 ls []) := by
  intro n
  induction n with
  | zero =>
    intro k F hn hk H locs hP hD hS ls hl
    have hwi := hw i hi
    refine lv_iload_n hx hb d_X0_keepRow_11 rfl (lv_at hl 3 rfl) ?_
    refine lv_aload_n hx hb d_X0_keepRow_12 rfl (lv_at hl 0 rfl) ?_
    refine c_getW hx hb hts hown hK hP (i := i) hi d_X0_keepRow_13 ?_
    refine n_icmp_ge (tgt := 36) hx hb d_X0_keepRow_16 (by decide) (by omega) (by omega) (fun c_1 => ?_) (fun c_1 => ?_)
    rotate_left
    · exact absurd c_1 (by omega)
    refine lv_iload_n hx hb d_X0_keepRow_36 rfl (lv_at hl 2 rfl) ?_
    exact x_zret hx hb hr hlocks hP hD hS d_X0_keepRow_37 hbb rfl rfl
  | succ n ih =>
    intro k F hn hk H locs hP hD hS ls hl
    have hwi := hw i hi
    refine lv_iload_n hx hb d_X0_keepRow_11 rfl (lv_at hl 3 rfl) ?_
    refine lv_aload_n hx hb d_X0_keepRow_12 rfl (lv_at hl 0 rfl) ?_
    refine c_getW hx hb hts hown hK hP (i := i) hi d_X0_keepRow_13 ?_
    refine n_icmp_ge (tgt := 36) hx hb d_X0_keepRow_16 (by decide) (by omega) (by omega) (fun c_1 => ?_) (fun c_1 => ?_)
    · exact absurd c_1 (by omega)
    refine lv_aload_n hx hb d_X0_keepRow_19 rfl (lv_at hl 0 rfl) ?_
    refine c_getL hx hb hts hown hK hP (i := i) hi d_X0_keepRow_20 ?_
    refine lv_iload_n hx hb d_X0_keepRow_23 rfl (lv_at hl 3 rfl) ?_
    refine lv_aload_n hx hb d_X0_keepRow_24 rfl (lv_at hl 1 rfl) ?_
    refine lv_iload_n hx hb d_X0_keepRow_25 rfl (lv_at hl 3 rfl) ?_
    refine x_callR (st1 := [.int (rAt (wd j) (F j) (nI k)), .int (nI k), .ref (la i)]) (x_runV (As := [.int (nI k)]) (rest := [.int (nI k), .ref (la i)]) (nL := 4) ⟨hx, hb, hml, hown, hts⟩ (c_X0_limbAt hw hj (nI k) _) (cwV 1 hts (gw_V k_196 k_198 k_4 k_51 k_199) rfl rfl rfl (by decide +kernel) ⟨Nat.le_of_ble_eq_true rfl, Nat.le_of_ble_eq_true rfl⟩) hK hP hD _ 0 (rw_row hj) rfl rfl hl.1 rfl (Nat.le_of_ble_eq_true rfl) d_X0_keepRow_26 ⟨Nat.zero_le _, Nat.zero_le _⟩) rfl ?_
    have hq_29 := hw i hi
    refine c_ast hx hb hK hP hD hS (i := i) (k := k) (x := rAt (wd j) (F j) (nI k)) hi (by omega) (by omega) d_X0_keepRow_29 (fun H locs hP hD hS => ?_)
    refine n_iinc (lv' := [(3, .int (nI (k + 1))), (0, .ref (ro i)), (1, .ref (ro j)), (2, .int b)]) hx hb d_X0_keepRow_30 hl (k := 3) rfl (by decide) rfl (fun ls hl => ?_)
    refine lv_goto (tgt := 11) hx hb d_X0_keepRow_33 (by decide) ?_
    exact ih (k + 1) _ (by omega) (by omega) H locs hP hD hS ls (lv_sub hl [1, 2, 3, 0] rfl)
abbrev w_X0_keepRow : List Cond := .code y_X0_keepRow b_X0_keepRow 4 (some .boolean) :: gw
set_option maxHeartbeats 800000 in
set_option maxRecDepth 100000 in
theorem c_X0_keepRow {l : Launch} {D : va_G} {Rs : va_W} {cA cR cL : ClassId} {ro la cap wd : Nat → Nat} {F : Nat → Nat → Int32} (hw : rwOk cap wd) {i j : Nat} (hi : i < 64) (hj : j < 64) : xC l y_X0_keepRow w_X0_keepRow ({ frames := 2, cells := 0, slots := 0, locals := 44 }) D cls0 (ty3 cA cR cL) [.ref (ro i), .ref (ro j)] (rw Rs cA ro la cap wd F) (some (.int (rFit (wd j) (F j) (wd i)))) (fun w => w = rw Rs cA ro la cap wd (gCopy i j (wd j) (wd i) 0 F)) 0 0 := by
  refine xC.ofW (cc := b_X0_keepRow) (maxL := 4) (ret := some .boolean) (by decide) rfl (Nat.le_of_ble_eq_true rfl) ?_
  intro p e s m below meth c A ls _ hin hx hb hr hml hown hts hlocks hA hK hP hD hS hl
  have hts : ∀ w ∈ gw, w.before ([.ref (ro i), .ref (ro j)]).toArray s = true := fun w h => hts w (List.mem_cons_of_mem _ h)
  have hown : s.vm.findClass R_Row = some m.cls := hown
  have hl : lv_has ls 4 [(0, .ref (ro i)), (1, .ref (ro j))] := hl
  have hwi := hw i hi
  refine lv_aload_n hx hb d_X0_keepRow_0 rfl (lv_at hl 1 rfl) ?_
  refine lv_aload_n hx hb d_X0_keepRow_1 rfl (lv_at hl 0 rfl) ?_
  refine c_getW hx hb hts hown hK hP (i := i) hi d_X0_keepRow_2 ?_
  refine x_callR (st1 := [.int (rFit (wd j) (F j) (wd i))]) (x_runV (As := [.int (nI (wd i))]) (rest := []) (nL := 4) ⟨hx, hb, hml, hown, hts⟩ (c_X0_fitsIn hw hj (z := wd i) (by omega) _) (cwV 1 hts (gw_V k_192 k_194 k_3 k_51 k_195) rfl rfl rfl (by decide +kernel) ⟨Nat.le_of_ble_eq_true rfl, Nat.le_of_ble_eq_true rfl⟩) hK hP hD _ 0 (rw_row hj) rfl rfl hl.1 rfl (Nat.le_of_ble_eq_true rfl) d_X0_keepRow_5 ⟨Nat.zero_le _, Nat.zero_le _⟩) rfl ?_
  refine lv_topi (fun v_1 ev_1 => ?_)
  refine lv_istore_n (lv' := [(2, .int v_1), (0, .ref (ro i)), (1, .ref (ro j))]) hx hb d_X0_keepRow_8 rfl hl (by decide) rfl (fun ls hl => ?_)
  refine lv_iconst (v := nI 0) hx hb d_X0_keepRow_9 (by decide) ?_
  refine lv_istore_n (lv' := [(3, .int (nI 0)), (2, .int v_1), (0, .ref (ro i)), (1, .ref (ro j))]) hx hb d_X0_keepRow_10 rfl hl (by decide) rfl (fun ls hl => ?_)
  subst ev_1
  exact lp_X0_keepRow hx hb hr hml hown hts hlocks hA hK hw hi hj (rFitL_b _ _ _ _) (wd i) 0 F rfl (by omega) _ _ hP hD hS ls (lv_sub hl [2, 3, 1, 0] rfl)
set_option maxHeartbeats 800000 in
set_option maxRecDepth 100000 in
theorem lp_X0_addLimbs {p : Program} {l : Launch} {e : Env} {s : State} {m : MethodId} {args : Array Value} {below : List Frame} {meth : Method} {c : Code} {D : va_G} {Rs : va_W} {cA cR cL : ClassId} {ro la cap wd : Nat → Nat} {A : Nat → Prop} (hx : p.tables.exec = Jvm.exec) (hb : c.code = b_X0_addLimbs) (hr : meth.sig.returnType = none) (hml : c.maxLocals = 9) (hown : s.vm.findClass R_Row = some m.cls) (hts : ∀ w ∈ gw, w.before args s = true) (hlocks : meth.locks = false) (hA : ∀ q : Nat, s.heap.size ≤ q → A q) (hK : va_K D cls0 (ty3 cA cR cL) s) (hw : rwOk cap wd) {i j st : Nat} (hi : i < 64) (hj : j < 64) {fl : Int32} : ∀ (n : Nat) (k : Nat) (cy : Int64) (F : Nat → Nat → Int32), n = wd i - k → st ≤ k ∧ k < 1000 → ∀ (H : Heap) (locs : List Loc), va_P D cls0 (rw Rs cA ro la cap wd F) H → va_D A (rw Rs cA ro la cap wd F) → va_S A s.heap H locs → ∀ (ls : Array Slot), lv_has ls 9 [(0, .ref (ro i)), (1, .int (nI st)), (2, .ref (ro j)), (3, .int fl), (4, .long cy), (6, .int (nI k))] → W p l e ({ frames := 1, cells := 0, slots := 0, locals := 21 }) s m args below meth c H locs 0 0 (MQ below (xQ (none) (xB D cls0 A (fun w => w = rw Rs cA ro la cap wd (gAdd i j (wd j) st fl n k cy F))) A) args s 0 0 A) (F0 m 9 ls []) := by
  intro n
  induction n with
  | zero =>
    intro k cy F hn hk H locs hP hD hS ls hl
    have hwi := hw i hi
    refine lv_iload hx hb d_X0_addLimbs_9 (lv_at hl 5 rfl) ?_
    refine lv_aload_n hx hb d_X0_addLimbs_11 rfl (lv_at hl 0 rfl) ?_
    refine c_getW hx hb hts hown hK hP (i := i) hi d_X0_addLimbs_12 ?_
    refine n_icmp_ge (tgt := 70) hx hb d_X0_addLimbs_15 (by decide) (by omega) (by omega) (fun c_1 => ?_) (fun c_1 => ?_)
    rotate_left
    · exact absurd c_1 (by omega)
    exact x_vret hx hb hr hlocks hP hD hS d_X0_addLimbs_70 rfl rfl
  | succ n ih =>
    intro k cy F hn hk H locs hP hD hS ls hl
    have hwi := hw i hi
    refine lv_iload hx hb d_X0_addLimbs_9 (lv_at hl 5 rfl) ?_
    refine lv_aload_n hx hb d_X0_addLimbs_11 rfl (lv_at hl 0 rfl) ?_
    refine c_getW hx hb hts hown hK hP (i := i) hi d_X0_addLimbs_12 ?_
    refine n_icmp_ge (tgt := 70) hx hb d_X0_addLimbs_15 (by decide) (by omega) (by omega) (fun c_1 => ?_) (fun c_1 => ?_)
    · exact absurd c_1 (by omega)
    refine lv_aload_n hx hb d_X0_addLimbs_18 rfl (lv_at hl 0 rfl) ?_
    refine c_getL hx hb hts hown hK hP (i := i) hi d_X0_addLimbs_19 ?_
    refine lv_iload hx hb d_X0_addLimbs_22 (lv_at hl 5 rfl) ?_
    have hq_24 := hw i hi
    refine c_ald hx hb hK hP (i := i) (k := k) hi (by omega) (by omega) d_X0_addLimbs_24 ?_
    refine x_callR (st1 := [.long (rUn (F i k))]) (x_runS (As := [.int (F i k)]) (rest := []) (nL := 9) ⟨hx, hb, hml, hown, hts⟩ (c_X0_unsigned hw (F i k) _) (cwS 1 hts (gw_S k_276 k_277 k_51 k_278) rfl rfl rfl (by decide +kernel) ⟨Nat.le_of_ble_eq_true rfl, Nat.le_of_ble_eq_true rfl⟩) hK hP hD rfl hl.1 rfl (Nat.le_of_ble_eq_true rfl) d_X0_addLimbs_25 ⟨Nat.zero_le _, Nat.zero_le _⟩) rfl ?_
    refine lv_aload_n hx hb d_X0_addLimbs_28 rfl (lv_at hl 2 rfl) ?_
    refine lv_iload hx hb d_X0_addLimbs_29 (lv_at hl 5 rfl) ?_
    refine lv_iload_n hx hb d_X0_addLimbs_31 rfl (lv_at hl 1 rfl) ?_
    refine n_isub hx hb d_X0_addLimbs_32 (by omega) ?_
    refine x_callR (st1 := [.int (rAt (wd j) (F j) (nI (k - st))), .long (rUn (F i k))]) (x_runV (As := [.int (nI (k - st))]) (rest := [.long (rUn (F i k))]) (nL := 9) ⟨hx, hb, hml, hown, hts⟩ (c_X0_limbAt hw hj (nI (k - st)) _) (cwV 1 hts (gw_V k_196 k_198 k_4 k_51 k_199) rfl rfl rfl (by decide +kernel) ⟨Nat.le_of_ble_eq_true rfl, Nat.le_of_ble_eq_true rfl⟩) hK hP hD _ 0 (rw_row hj) rfl rfl hl.1 rfl (Nat.le_of_ble_eq_true rfl) d_X0_addLimbs_33 ⟨Nat.zero_le _, Nat.zero_le _⟩) rfl ?_
    refine lv_iload_n hx hb d_X0_addLimbs_36 rfl (lv_at hl 3 rfl) ?_
    refine lv_ixor hx hb d_X0_addLimbs_37 ?_
    refine x_callR (st1 := [.long (rUn ((rAt (wd j) (F j) (nI (k - st))) ^^^ fl)), .long (rUn (F i k))]) (x_runS (As := [.int ((rAt (wd j) (F j) (nI (k - st))) ^^^ fl)]) (rest := [.long (rUn (F i k))]) (nL := 9) ⟨hx, hb, hml, hown, hts⟩ (c_X0_unsigned hw ((rAt (wd j) (F j) (nI (k - st))) ^^^ fl) _) (cwS 1 hts (gw_S k_276 k_277 k_51 k_278) rfl rfl rfl (by decide +kernel) ⟨Nat.le_of_ble_eq_true rfl, Nat.le_of_ble_eq_true rfl⟩) hK hP hD rfl hl.1 rfl (Nat.le_of_ble_eq_true rfl) d_X0_addLimbs_38 ⟨Nat.zero_le _, Nat.zero_le _⟩) rfl ?_
    refine lv_ladd hx hb d_X0_addLimbs_41 ?_
    refine lv_lload hx hb d_X0_addLimbs_42 (lv_at hl 4 rfl) ?_
    refine lv_ladd hx hb d_X0_addLimbs_44 ?_
    refine lv_lstore (lv' := [(7, .long (sAdd i j (wd j) st fl k cy F)), (0, .ref (ro i)), (1, .int (nI st)), (2, .ref (ro j)), (3, .int fl), (4, .long cy), (6, .int (nI k))]) hx hb d_X0_addLimbs_45 hl (by decide) rfl (fun ls hl => ?_)
    refine lv_aload_n hx hb d_X0_addLimbs_47 rfl (lv_at hl 1 rfl) ?_
    refine c_getL hx hb hts hown hK hP (i := i) hi d_X0_addLimbs_48 ?_
    refine lv_iload hx hb d_X0_addLimbs_51 (lv_at hl 6 rfl) ?_
    refine lv_lload hx hb d_X0_addLimbs_53 (lv_at hl 0 rfl) ?_
    refine lv_l2i (v := (sAdd i j (wd j) st fl k cy F).toInt32) hx hb d_X0_addLimbs_55 rfl ?_
    have hq_56 := hw i hi
    refine c_ast hx hb hK hP hD hS (i := i) (k := k) (x := (sAdd i j (wd j) st fl k cy F).toInt32) hi (by omega) (by omega) d_X0_addLimbs_56 (fun H locs hP hD hS => ?_)
    refine lv_lload hx hb d_X0_addLimbs_57 (lv_at hl 0 rfl) ?_
    refine lv_bipush (v := nI 32) hx hb d_X0_addLimbs_59 (by decide) ?_
    refine lv_lushr (v := j_lu (sAdd i j (wd j) st fl k cy F) (nI 32)) hx hb d_X0_addLimbs_61 rfl ?_
    refine lv_lstore (lv' := [(4, .long (j_lu (sAdd i j (wd j) st fl k cy F) (nI 32))), (7, .long (sAdd i j (wd j) st fl k cy F)), (0, .ref (ro i)), (1, .int (nI st)), (2, .ref (ro j)), (3, .int fl), (6, .int (nI k))]) hx hb d_X0_addLimbs_62 hl (by decide) rfl (fun ls hl => ?_)
    refine n_iinc (lv' := [(6, .int (nI (k + 1))), (4, .long (j_lu (sAdd i j (wd j) st fl k cy F) (nI 32))), (7, .long (sAdd i j (wd j) st fl k cy F)), (0, .ref (ro i)), (1, .int (nI st)), (2, .ref (ro j)), (3, .int fl)]) hx hb d_X0_addLimbs_64 hl (k := 6) rfl (by decide) rfl (fun ls hl => ?_)
    refine lv_goto (tgt := 9) hx hb d_X0_addLimbs_67 (by decide) ?_
    exact ih (k + 1) _ _ (by omega) (by omega) H locs hP hD hS ls (lv_sub hl [3, 4, 5, 6, 1, 0] rfl)
abbrev w_X0_addLimbs : List Cond := .code y_X0_addLimbs b_X0_addLimbs 9 (none) :: gw
set_option maxHeartbeats 800000 in
set_option maxRecDepth 100000 in
theorem c_X0_addLimbs {l : Launch} {D : va_G} {Rs : va_W} {cA cR cL : ClassId} {ro la cap wd : Nat → Nat} {F : Nat → Nat → Int32} (hw : rwOk cap wd) {i j : Nat} (hi : i < 64) (hj : j < 64) {st : Nat} (hst : st < 1000) (fl : Int32) : xC l y_X0_addLimbs w_X0_addLimbs ({ frames := 1, cells := 0, slots := 0, locals := 21 }) D cls0 (ty3 cA cR cL) [.ref (ro i), .int (nI st), .ref (ro j), .int fl] (rw Rs cA ro la cap wd F) (none) (fun w => w = rw Rs cA ro la cap wd (gAdd i j (wd j) st fl (wd i - st) st (fl &&& nI 1).toInt64 F)) 0 0 := by
  refine xC.ofW (cc := b_X0_addLimbs) (maxL := 9) (ret := none) (by decide) rfl (Nat.le_of_ble_eq_true rfl) ?_
  intro p e s m below meth c A ls _ hin hx hb hr hml hown hts hlocks hA hK hP hD hS hl
  have hts : ∀ w ∈ gw, w.before ([.ref (ro i), .int (nI st), .ref (ro j), .int fl]).toArray s = true := fun w h => hts w (List.mem_cons_of_mem _ h)
  have hown : s.vm.findClass R_Row = some m.cls := hown
  have hl : lv_has ls 9 [(0, .ref (ro i)), (1, .int (nI st)), (2, .ref (ro j)), (3, .int fl)] := hl
  refine lv_iload_n hx hb d_X0_addLimbs_0 rfl (lv_at hl 3 rfl) ?_
  refine lv_iconst (v := nI 1) hx hb d_X0_addLimbs_1 (by decide) ?_
  refine lv_iand hx hb d_X0_addLimbs_2 ?_
  refine lv_i2l (v := (fl &&& (nI 1)).toInt64) hx hb d_X0_addLimbs_3 rfl ?_
  refine lv_lstore (lv' := [(4, .long ((fl &&& nI 1).toInt64)), (0, .ref (ro i)), (1, .int (nI st)), (2, .ref (ro j)), (3, .int fl)]) hx hb d_X0_addLimbs_4 hl (by decide) rfl (fun ls hl => ?_)
  refine lv_iload_n hx hb d_X0_addLimbs_6 rfl (lv_at hl 2 rfl) ?_
  refine lv_istore (lv' := [(6, .int (nI st)), (4, .long ((fl &&& nI 1).toInt64)), (0, .ref (ro i)), (1, .int (nI st)), (2, .ref (ro j)), (3, .int fl)]) hx hb d_X0_addLimbs_7 hl (by decide) rfl (fun ls hl => ?_)
  exact lp_X0_addLimbs hx hb hr hml hown hts hlocks hA hK hw hi hj (wd i - st) st _ F rfl (by omega) _ _ hP hD hS ls (lv_sub hl [2, 3, 4, 5, 1, 0] rfl)
end
section
/-! More of what the methods of Row do. -/
theorem nM_pred {n : Nat} (h : 1 ≤ n) : nM n = nI (n - 1) := by
  obtain ⟨k, rfl⟩ : ∃ k, n = k + 1 := ⟨n - 1, by omega⟩
  rw [nM_succ]
  rfl
section X24
variable {p : Program} {l : Launch} {e : Env} {R : Room} {s : State} {m : MethodId} {args : Array Value} {below : List Frame} {meth : Method} {c : Code} {H : Heap} {locs : List Loc} {cells slots : Nat} {Q : State → Prop}
variable {cc : ByteArray} {pc : Nat} {ls : Array Slot} {rest : List Value}
theorem n_shr5 (hx : p.tables.exec = Jvm.exec) (hb : c.code = cc) {a : Nat} (ha : a < 2 ^ 31) (hdg : decode cc pc = .ok (.ishr, 1)) (k : W p l e R s m args below meth c H locs cells slots Q (F0 m (pc + 1) ls (.int (nI (a / 32)) :: rest))) : W p l e R s m args below meth c H locs cells slots Q (F0 m pc ls (.int (nI 5) :: .int (nI a) :: rest)) :=
  lv_ishr hx hb hdg (by rw [pk_shrN ha _ 5 (by decide)]; exact k)
theorem n_and31 (hx : p.tables.exec = Jvm.exec) (hb : c.code = cc) {a : Nat} (ha : a < 2 ^ 31) (hdg : decode cc pc = .ok (.iand, 1)) (k : W p l e R s m args below meth c H locs cells slots Q (F0 m (pc + 1) ls (.int (nI (a % 32)) :: rest))) : W p l e R s m args below meth c H locs cells slots Q (F0 m pc ls (.int (nI 31) :: .int (nI a) :: rest)) :=
  lv_iand hx hb hdg (by rw [pk_andN (by omega) 5 (by decide)]; exact k)
end X24
def sTim (i : Nat) (lo : Int64) (k : Nat) (c : Int64) (F : Nat → Nat → Int32) : Int64 := rUn (F i k) * lo + (c &&& 4294967295)
def cTim (i : Nat) (lo hi : Int64) (k : Nat) (c : Int64) (F : Nat → Nat → Int32) : Int64 := rUn (F i k) * hi + j_lr c (nI 32) + j_lu (sTim i lo k c F) (nI 32)
def gTim (i : Nat) (lo hi : Int64) : Nat → Nat → Int64 → (Nat → Nat → Int32) → Nat → Nat → Int32
  | 0, _, _, F => F
  | n + 1, k, c, F => gTim i lo hi n (k + 1) (cTim i lo hi k c F) (va_up F i (upd (F i) k (sTim i lo k c F).toInt32))
def gShd (i w wh pt : Nat) : Nat → Nat → (Nat → Nat → Int32) → Nat → Nat → Int32
  | 0, _, F => F
  | n + 1, k, F => gShd i w wh pt n (k + 1) (va_up F i (upd (F i) k (j_lu (rPair w (F i) (nI (k + wh))) (nI pt)).toInt32))
def gShu (i w wh pt : Nat) : Nat → (Nat → Nat → Int32) → Nat → Nat → Int32
  | 0, F => F
  | n + 1, F => gShu i w wh pt n (va_up F i (upd (F i) n (j_lu (j_ll (rPair w (F i) (nI n - nI wh - nI 1)) (nI pt)) (nI 32)).toInt32))
def gTurn (i w : Nat) (F : Nat → Nat → Int32) : Nat → Nat → Int32 := gInc i w 0 (gCpl i w 0 F)
def rTurn (i w : Nat) (F : Nat → Nat → Int32) : Int32 := if rNeg w (F i) = 0 then nI 1 else if rNeg w (gTurn i w F i) = 0 then nI 1 else nI 0
def gDl (x : Int32) (d : Int64) : Nat → Int64 → Int32 → Int64 × Int32
  | 0, r, q => (r, q)
  | n + 1, r, q => if lg_cmp (j_ll r (nI 1) ||| (j_iu x (nI n) &&& nI 1).toInt64) d < 0 then gDl x d n (j_ll r (nI 1) ||| (j_iu x (nI n) &&& nI 1).toInt64) (q <<< (nI 1 &&& 31))
    else gDl x d n ((j_ll r (nI 1) ||| (j_iu x (nI n) &&& nI 1).toInt64) - d) (q <<< (nI 1 &&& 31) ||| nI 1)
def gDv (i : Nat) (d : Int64) : Nat → Int64 → (Nat → Nat → Int32) → Nat → Nat → Int32
  | 0, _, F => F
  | n + 1, r, F => gDv i d n (gDl (F i n) d 32 r (nI 0)).1 (va_up F i (upd (F i) n (gDl (F i n) d 32 r (nI 0)).2))
def rDv (i : Nat) (d : Int64) : Nat → Int64 → (Nat → Nat → Int32) → Int64
  | 0, r, _ => r
  | n + 1, r, F => rDv i d n (gDl (F i n) d 32 r (nI 0)).1 (va_up F i (upd (F i) n (gDl (F i n) d 32 r (nI 0)).2))
def gDivB (i w : Nat) (d : Int64) (F : Nat → Nat → Int32) : Nat → Nat → Int32 := if rNeg w (F i) = 0 then gDv i d w 0 F else gCpl i w 0 (gDv i d w 0 (gCpl i w 0 F))
def rDivB (i w : Nat) (d : Int64) (F : Nat → Nat → Int32) : Int64 := if rNeg w (F i) = 0 then rDv i d w 0 F else d - 1 - rDv i d w 0 (gCpl i w 0 F)
end
section
abbrev w_X0_addFrom : List Cond := .code y_X0_addFrom b_X0_addFrom 3 (none) :: gw
set_option maxHeartbeats 800000 in
set_option maxRecDepth 100000 in
theorem c_X0_addFrom {l : Launch} {D : va_G} {Rs : va_W} {cA cR cL : ClassId} {ro la cap wd : Nat → Nat} {F : Nat → Nat → Int32} (hw : rwOk cap wd) {i j : Nat} (hi : i < 64) (hj : j < 64) {st : Nat} (hst : st < 1000) : xC l y_X0_addFrom w_X0_addFrom ({ frames := 2, cells := 0, slots := 0, locals := 49 }) D cls0 (ty3 cA cR cL) [.ref (ro i), .int (nI st), .ref (ro j)] (rw Rs cA ro la cap wd F) (none) (fun w => w = rw Rs cA ro la cap wd (gAdd i j (wd j) st (nI 0) (wd i - st) st (nI 0 &&& nI 1).toInt64 F)) 0 0 := by
  refine xC.ofW (cc := b_X0_addFrom) (maxL := 3) (ret := none) (by decide) rfl (Nat.le_of_ble_eq_true rfl) ?_
  intro p e s m below meth c A ls _ hin hx hb hr hml hown hts hlocks hA hK hP hD hS hl
  have hts : ∀ w ∈ gw, w.before ([.ref (ro i), .int (nI st), .ref (ro j)]).toArray s = true := fun w h => hts w (List.mem_cons_of_mem _ h)
  have hown : s.vm.findClass R_Row = some m.cls := hown
  have hl : lv_has ls 3 [(0, .ref (ro i)), (1, .int (nI st)), (2, .ref (ro j))] := hl
  refine lv_aload_n hx hb d_X0_addFrom_0 rfl (lv_at hl 0 rfl) ?_
  refine lv_iload_n hx hb d_X0_addFrom_1 rfl (lv_at hl 1 rfl) ?_
  refine lv_aload_n hx hb d_X0_addFrom_2 rfl (lv_at hl 2 rfl) ?_
  refine lv_iconst (v := nI 0) hx hb d_X0_addFrom_3 (by decide) ?_
  refine x_call (st1 := []) (x_runV (As := [.int (nI st), .ref (ro j), .int (nI 0)]) (rest := []) (nL := 3) ⟨hx, hb, hml, hown, hts⟩ (c_X0_addLimbs hw hi hj hst (nI 0) _) (cwV 3 hts (gw_V k_272 k_274 k_8 k_51 k_275) rfl rfl rfl (by decide +kernel) ⟨Nat.le_of_ble_eq_true rfl, Nat.le_of_ble_eq_true rfl⟩) hK hP hD _ 0 (rw_row hi) rfl rfl hl.1 rfl (Nat.le_of_ble_eq_true rfl) d_X0_addFrom_4 ⟨Nat.zero_le _, Nat.zero_le _⟩) hS (x_sub hD hS hA) (x_sub hD hS hA) rfl (fun w1 H locs hY hP hD hS => ?_)
  subst hY
  exact x_vret hx hb hr hlocks hP hD hS d_X0_addFrom_7 rfl rfl
abbrev w_X0_subtractFrom : List Cond := .code y_X0_subtractFrom b_X0_subtractFrom 3 (none) :: gw
set_option maxHeartbeats 800000 in
set_option maxRecDepth 100000 in
theorem c_X0_subtractFrom {l : Launch} {D : va_G} {Rs : va_W} {cA cR cL : ClassId} {ro la cap wd : Nat → Nat} {F : Nat → Nat → Int32} (hw : rwOk cap wd) {i j : Nat} (hi : i < 64) (hj : j < 64) {st : Nat} (hst : st < 1000) : xC l y_X0_subtractFrom w_X0_subtractFrom ({ frames := 2, cells := 0, slots := 0, locals := 49 }) D cls0 (ty3 cA cR cL) [.ref (ro i), .int (nI st), .ref (ro j)] (rw Rs cA ro la cap wd F) (none) (fun w => w = rw Rs cA ro la cap wd (gAdd i j (wd j) st (-1) (wd i - st) st ((-1) &&& nI 1).toInt64 F)) 0 0 := by
  refine xC.ofW (cc := b_X0_subtractFrom) (maxL := 3) (ret := none) (by decide) rfl (Nat.le_of_ble_eq_true rfl) ?_
  intro p e s m below meth c A ls _ hin hx hb hr hml hown hts hlocks hA hK hP hD hS hl
  have hts : ∀ w ∈ gw, w.before ([.ref (ro i), .int (nI st), .ref (ro j)]).toArray s = true := fun w h => hts w (List.mem_cons_of_mem _ h)
  have hown : s.vm.findClass R_Row = some m.cls := hown
  have hl : lv_has ls 3 [(0, .ref (ro i)), (1, .int (nI st)), (2, .ref (ro j))] := hl
  refine lv_aload_n hx hb d_X0_subtractFrom_0 rfl (lv_at hl 0 rfl) ?_
  refine lv_iload_n hx hb d_X0_subtractFrom_1 rfl (lv_at hl 1 rfl) ?_
  refine lv_aload_n hx hb d_X0_subtractFrom_2 rfl (lv_at hl 2 rfl) ?_
  refine lv_iconst (v := -1) hx hb d_X0_subtractFrom_3 (by decide) ?_
  refine x_call (st1 := []) (x_runV (As := [.int (nI st), .ref (ro j), .int (-1)]) (rest := []) (nL := 3) ⟨hx, hb, hml, hown, hts⟩ (c_X0_addLimbs hw hi hj hst (-1) _) (cwV 3 hts (gw_V k_272 k_274 k_8 k_51 k_275) rfl rfl rfl (by decide +kernel) ⟨Nat.le_of_ble_eq_true rfl, Nat.le_of_ble_eq_true rfl⟩) hK hP hD _ 0 (rw_row hi) rfl rfl hl.1 rfl (Nat.le_of_ble_eq_true rfl) d_X0_subtractFrom_4 ⟨Nat.zero_le _, Nat.zero_le _⟩) hS (x_sub hD hS hA) (x_sub hD hS hA) rfl (fun w1 H locs hY hP hD hS => ?_)
  subst hY
  exact x_vret hx hb hr hlocks hP hD hS d_X0_subtractFrom_7 rfl rfl
set_option maxHeartbeats 800000 in
set_option maxRecDepth 100000 in
theorem lp_X0_addMultiple {p : Program} {l : Launch} {e : Env} {s : State} {m : MethodId} {args : Array Value} {below : List Frame} {meth : Method} {c : Code} {D : va_G} {Rs : va_W} {cA cR cL : ClassId} {ro la cap wd : Nat → Nat} {A : Nat → Prop} (hx : p.tables.exec = Jvm.exec) (hb : c.code = b_X0_addMultiple) (hr : meth.sig.returnType = none) (hml : c.maxLocals = 10) (hown : s.vm.findClass R_Row = some m.cls) (hts : ∀ w ∈ gw, w.before args s = true) (hlocks : meth.locks = false) (hA : ∀ q : Nat, s.heap.size ≤ q → A q) (hK : va_K D cls0 (ty3 cA cR cL) s) (hw : rwOk cap wd) {i j st : Nat} (hi : i < 64) (hj : j < 64) {dg : Int64} : ∀ (n : Nat) (k : Nat) (cy : Int64) (F : Nat → Nat → Int32), n = wd i - k → st ≤ k ∧ k < 1000 → ∀ (H : Heap) (locs : List Loc), va_P D cls0 (rw Rs cA ro la cap wd F) H → va_D A (rw Rs cA ro la cap wd F) → va_S A s.heap H locs → ∀ (ls : Array Slot), lv_has ls 10 [(0, .ref (ro i)), (1, .int (nI st)), (2, .long dg), (4, .ref (ro j)), (5, .long cy), (7, .int (nI k))] → W p l e ({ frames := 1, cells := 0, slots := 0, locals := 21 }) s m args below meth c H locs 0 0 (MQ below (xQ (none) (xB D cls0 A (fun w => w = rw Rs cA ro la cap wd (gMul i j (wd j) st dg n k cy F))) A) args s 0 0 A) (F0 m 6 ls []) := by
  intro n
  induction n with
  | zero =>
    intro k cy F hn hk H locs hP hD hS ls hl
    have hwi := hw i hi
    refine lv_iload hx hb d_X0_addMultiple_6 (lv_at hl 5 rfl) ?_
    refine lv_aload_n hx hb d_X0_addMultiple_8 rfl (lv_at hl 0 rfl) ?_
    refine c_getW hx hb hts hown hK hP (i := i) hi d_X0_addMultiple_9 ?_
    refine n_icmp_ge (tgt := 68) hx hb d_X0_addMultiple_12 (by decide) (by omega) (by omega) (fun c_1 => ?_) (fun c_1 => ?_)
    rotate_left
    · exact absurd c_1 (by omega)
    exact x_vret hx hb hr hlocks hP hD hS d_X0_addMultiple_68 rfl rfl
  | succ n ih =>
    intro k cy F hn hk H locs hP hD hS ls hl
    have hwi := hw i hi
    refine lv_iload hx hb d_X0_addMultiple_6 (lv_at hl 5 rfl) ?_
    refine lv_aload_n hx hb d_X0_addMultiple_8 rfl (lv_at hl 0 rfl) ?_
    refine c_getW hx hb hts hown hK hP (i := i) hi d_X0_addMultiple_9 ?_
    refine n_icmp_ge (tgt := 68) hx hb d_X0_addMultiple_12 (by decide) (by omega) (by omega) (fun c_1 => ?_) (fun c_1 => ?_)
    · exact absurd c_1 (by omega)
    refine lv_lload_n hx hb d_X0_addMultiple_15 rfl (lv_at hl 2 rfl) ?_
    refine lv_aload hx hb d_X0_addMultiple_16 (lv_at hl 3 rfl) ?_
    refine lv_iload hx hb d_X0_addMultiple_18 (lv_at hl 5 rfl) ?_
    refine lv_iload_n hx hb d_X0_addMultiple_20 rfl (lv_at hl 1 rfl) ?_
    refine n_isub hx hb d_X0_addMultiple_21 (by omega) ?_
    refine x_callR (st1 := [.int (rAt (wd j) (F j) (nI (k - st))), .long dg]) (x_runV (As := [.int (nI (k - st))]) (rest := [.long dg]) (nL := 10) ⟨hx, hb, hml, hown, hts⟩ (c_X0_limbAt hw hj (nI (k - st)) _) (cwV 1 hts (gw_V k_196 k_198 k_4 k_51 k_199) rfl rfl rfl (by decide +kernel) ⟨Nat.le_of_ble_eq_true rfl, Nat.le_of_ble_eq_true rfl⟩) hK hP hD _ 0 (rw_row hj) rfl rfl hl.1 rfl (Nat.le_of_ble_eq_true rfl) d_X0_addMultiple_22 ⟨Nat.zero_le _, Nat.zero_le _⟩) rfl ?_
    refine x_callR (st1 := [.long (rUn (rAt (wd j) (F j) (nI (k - st)))), .long dg]) (x_runS (As := [.int (rAt (wd j) (F j) (nI (k - st)))]) (rest := [.long dg]) (nL := 10) ⟨hx, hb, hml, hown, hts⟩ (c_X0_unsigned hw (rAt (wd j) (F j) (nI (k - st))) _) (cwS 1 hts (gw_S k_276 k_277 k_51 k_278) rfl rfl rfl (by decide +kernel) ⟨Nat.le_of_ble_eq_true rfl, Nat.le_of_ble_eq_true rfl⟩) hK hP hD rfl hl.1 rfl (Nat.le_of_ble_eq_true rfl) d_X0_addMultiple_25 ⟨Nat.zero_le _, Nat.zero_le _⟩) rfl ?_
    refine lv_lmul hx hb d_X0_addMultiple_28 ?_
    refine lv_aload_n hx hb d_X0_addMultiple_29 rfl (lv_at hl 0 rfl) ?_
    refine c_getL hx hb hts hown hK hP (i := i) hi d_X0_addMultiple_30 ?_
    refine lv_iload hx hb d_X0_addMultiple_33 (lv_at hl 5 rfl) ?_
    have hq_35 := hw i hi
    refine c_ald hx hb hK hP (i := i) (k := k) hi (by omega) (by omega) d_X0_addMultiple_35 ?_
    refine x_callR (st1 := [.long (rUn (F i k)), .long (dg * (rUn (rAt (wd j) (F j) (nI (k - st)))))]) (x_runS (As := [.int (F i k)]) (rest := [.long (dg * (rUn (rAt (wd j) (F j) (nI (k - st)))))]) (nL := 10) ⟨hx, hb, hml, hown, hts⟩ (c_X0_unsigned hw (F i k) _) (cwS 1 hts (gw_S k_276 k_277 k_51 k_278) rfl rfl rfl (by decide +kernel) ⟨Nat.le_of_ble_eq_true rfl, Nat.le_of_ble_eq_true rfl⟩) hK hP hD rfl hl.1 rfl (Nat.le_of_ble_eq_true rfl) d_X0_addMultiple_36 ⟨Nat.zero_le _, Nat.zero_le _⟩) rfl ?_
    refine lv_ladd hx hb d_X0_addMultiple_39 ?_
    refine lv_lload hx hb d_X0_addMultiple_40 (lv_at hl 4 rfl) ?_
    refine lv_ladd hx hb d_X0_addMultiple_42 ?_
    refine lv_lstore (lv' := [(8, .long (sMul i j (wd j) st dg k cy F)), (0, .ref (ro i)), (1, .int (nI st)), (2, .long dg), (4, .ref (ro j)), (5, .long cy), (7, .int (nI k))]) hx hb d_X0_addMultiple_43 hl (by decide) rfl (fun ls hl => ?_)
    refine lv_aload_n hx hb d_X0_addMultiple_45 rfl (lv_at hl 1 rfl) ?_
    refine c_getL hx hb hts hown hK hP (i := i) hi d_X0_addMultiple_46 ?_
    refine lv_iload hx hb d_X0_addMultiple_49 (lv_at hl 6 rfl) ?_
    refine lv_lload hx hb d_X0_addMultiple_51 (lv_at hl 0 rfl) ?_
    refine lv_l2i (v := (sMul i j (wd j) st dg k cy F).toInt32) hx hb d_X0_addMultiple_53 rfl ?_
    have hq_54 := hw i hi
    refine c_ast hx hb hK hP hD hS (i := i) (k := k) (x := (sMul i j (wd j) st dg k cy F).toInt32) hi (by omega) (by omega) d_X0_addMultiple_54 (fun H locs hP hD hS => ?_)
    refine lv_lload hx hb d_X0_addMultiple_55 (lv_at hl 0 rfl) ?_
    refine lv_bipush (v := nI 32) hx hb d_X0_addMultiple_57 (by decide) ?_
    refine lv_lushr (v := j_lu (sMul i j (wd j) st dg k cy F) (nI 32)) hx hb d_X0_addMultiple_59 rfl ?_
    refine lv_lstore (lv' := [(5, .long (j_lu (sMul i j (wd j) st dg k cy F) (nI 32))), (8, .long (sMul i j (wd j) st dg k cy F)), (0, .ref (ro i)), (1, .int (nI st)), (2, .long dg), (4, .ref (ro j)), (7, .int (nI k))]) hx hb d_X0_addMultiple_60 hl (by decide) rfl (fun ls hl => ?_)
    refine n_iinc (lv' := [(7, .int (nI (k + 1))), (5, .long (j_lu (sMul i j (wd j) st dg k cy F) (nI 32))), (8, .long (sMul i j (wd j) st dg k cy F)), (0, .ref (ro i)), (1, .int (nI st)), (2, .long dg), (4, .ref (ro j))]) hx hb d_X0_addMultiple_62 hl (k := 6) rfl (by decide) rfl (fun ls hl => ?_)
    refine lv_goto (tgt := 6) hx hb d_X0_addMultiple_65 (by decide) ?_
    exact ih (k + 1) _ _ (by omega) (by omega) H locs hP hD hS ls (lv_sub hl [3, 4, 5, 6, 1, 0] rfl)
abbrev w_X0_addMultiple : List Cond := .code y_X0_addMultiple b_X0_addMultiple 10 (none) :: gw
set_option maxHeartbeats 800000 in
set_option maxRecDepth 100000 in
theorem c_X0_addMultiple {l : Launch} {D : va_G} {Rs : va_W} {cA cR cL : ClassId} {ro la cap wd : Nat → Nat} {F : Nat → Nat → Int32} (hw : rwOk cap wd) {i j : Nat} (hi : i < 64) (hj : j < 64) {st : Nat} (hst : st < 1000) (dg : Int64) : xC l y_X0_addMultiple w_X0_addMultiple ({ frames := 1, cells := 0, slots := 0, locals := 21 }) D cls0 (ty3 cA cR cL) [.ref (ro i), .int (nI st), .long dg, .ref (ro j)] (rw Rs cA ro la cap wd F) (none) (fun w => w = rw Rs cA ro la cap wd (gMul i j (wd j) st dg (wd i - st) st 0 F)) 0 0 := by
  refine xC.ofW (cc := b_X0_addMultiple) (maxL := 10) (ret := none) (by decide) rfl (Nat.le_of_ble_eq_true rfl) ?_
  intro p e s m below meth c A ls _ hin hx hb hr hml hown hts hlocks hA hK hP hD hS hl
  have hts : ∀ w ∈ gw, w.before ([.ref (ro i), .int (nI st), .long dg, .ref (ro j)]).toArray s = true := fun w h => hts w (List.mem_cons_of_mem _ h)
  have hown : s.vm.findClass R_Row = some m.cls := hown
  have hl : lv_has ls 10 [(0, .ref (ro i)), (1, .int (nI st)), (2, .long dg), (4, .ref (ro j))] := hl
  refine lv_lconst (v := 0) hx hb d_X0_addMultiple_0 (by decide) ?_
  refine lv_lstore (lv' := [(5, .long 0), (0, .ref (ro i)), (1, .int (nI st)), (2, .long dg), (4, .ref (ro j))]) hx hb d_X0_addMultiple_1 hl (by decide) rfl (fun ls hl => ?_)
  refine lv_iload_n hx hb d_X0_addMultiple_3 rfl (lv_at hl 2 rfl) ?_
  refine lv_istore (lv' := [(7, .int (nI st)), (5, .long 0), (0, .ref (ro i)), (1, .int (nI st)), (2, .long dg), (4, .ref (ro j))]) hx hb d_X0_addMultiple_4 hl (by decide) rfl (fun ls hl => ?_)
  exact lp_X0_addMultiple hx hb hr hml hown hts hlocks hA hK hw hi hj (wd i - st) st _ F rfl (by omega) _ _ hP hD hS ls (lv_sub hl [2, 3, 4, 5, 1, 0] rfl)
set_option maxHeartbeats 800000 in
set_option maxRecDepth 100000 in
theorem lp_X0_multiplyBy {p : Program} {l : Launch} {e : Env} {s : State} {m : MethodId} {args : Array Value} {below : List Frame} {meth : Method} {c : Code} {D : va_G} {Rs : va_W} {cA cR cL : ClassId} {ro la cap wd : Nat → Nat} {A : Nat → Prop} (hx : p.tables.exec = Jvm.exec) (hb : c.code = b_X0_multiplyBy) (hr : meth.sig.returnType = none) (hml : c.maxLocals = 14) (hown : s.vm.findClass R_Row = some m.cls) (hts : ∀ w ∈ gw, w.before args s = true) (hlocks : meth.locks = false) (hA : ∀ q : Nat, s.heap.size ≤ q → A q) (hK : va_K D cls0 (ty3 cA cR cL) s) (hw : rwOk cap wd) {i : Nat} (hi : i < 64) {v lo hi2 : Int64} : ∀ (n : Nat) (k : Nat) (cy : Int64) (F : Nat → Nat → Int32), n = wd i - k → k < 1000 → ∀ (H : Heap) (locs : List Loc), va_P D cls0 (rw Rs cA ro la cap wd F) H → va_D A (rw Rs cA ro la cap wd F) → va_S A s.heap H locs → ∀ (ls : Array Slot), lv_has ls 14 [(0, .ref (ro i)), (1, .long v), (3, .long lo), (5, .long hi2), (7, .long cy), (9, .int (nI k))] → W p l e ({ frames := 1, cells := 0, slots := 0, locals := 20 }) s m args below meth c H locs 0 0 (MQ below (xQ (none) (xB D cls0 A (fun w => w = rw Rs cA ro la cap wd (gTim i lo hi2 n k cy F))) A) args s 0 0 A) (F0 m 18 ls []) := by
  intro n
  induction n with
  | zero =>
    intro k cy F hn hk H locs hP hD hS ls hl
    have hwi := hw i hi
    refine lv_iload hx hb d_X0_multiplyBy_18 (lv_at hl 5 rfl) ?_
    refine lv_aload_n hx hb d_X0_multiplyBy_20 rfl (lv_at hl 0 rfl) ?_
    refine c_getW hx hb hts hown hK hP (i := i) hi d_X0_multiplyBy_21 ?_
    refine n_icmp_ge (tgt := 87) hx hb d_X0_multiplyBy_24 (by decide) (by omega) (by omega) (fun c_1 => ?_) (fun c_1 => ?_)
    rotate_left
    · exact absurd c_1 (by omega)
    exact x_vret hx hb hr hlocks hP hD hS d_X0_multiplyBy_87 rfl rfl
  | succ n ih =>
    intro k cy F hn hk H locs hP hD hS ls hl
    have hwi := hw i hi
    refine lv_iload hx hb d_X0_multiplyBy_18 (lv_at hl 5 rfl) ?_
    refine lv_aload_n hx hb d_X0_multiplyBy_20 rfl (lv_at hl 0 rfl) ?_
    refine c_getW hx hb hts hown hK hP (i := i) hi d_X0_multiplyBy_21 ?_
    refine n_icmp_ge (tgt := 87) hx hb d_X0_multiplyBy_24 (by decide) (by omega) (by omega) (fun c_1 => ?_) (fun c_1 => ?_)
    · exact absurd c_1 (by omega)
    refine lv_aload_n hx hb d_X0_multiplyBy_27 rfl (lv_at hl 0 rfl) ?_
    refine c_getL hx hb hts hown hK hP (i := i) hi d_X0_multiplyBy_28 ?_
    refine lv_iload hx hb d_X0_multiplyBy_31 (lv_at hl 5 rfl) ?_
    have hq_33 := hw i hi
    refine c_ald hx hb hK hP (i := i) (k := k) hi (by omega) (by omega) d_X0_multiplyBy_33 ?_
    refine x_callR (st1 := [.long (rUn (F i k))]) (x_runS (As := [.int (F i k)]) (rest := []) (nL := 14) ⟨hx, hb, hml, hown, hts⟩ (c_X0_unsigned hw (F i k) _) (cwS 1 hts (gw_S k_276 k_277 k_51 k_278) rfl rfl rfl (by decide +kernel) ⟨Nat.le_of_ble_eq_true rfl, Nat.le_of_ble_eq_true rfl⟩) hK hP hD rfl hl.1 rfl (Nat.le_of_ble_eq_true rfl) d_X0_multiplyBy_34 ⟨Nat.zero_le _, Nat.zero_le _⟩) rfl ?_
    refine lv_lstore (lv' := [(10, .long (rUn (F i k))), (0, .ref (ro i)), (1, .long v), (3, .long lo), (5, .long hi2), (7, .long cy), (9, .int (nI k))]) hx hb d_X0_multiplyBy_37 hl (by decide) rfl (fun ls hl => ?_)
    refine lv_lload hx hb d_X0_multiplyBy_39 (lv_at hl 0 rfl) ?_
    refine lv_lload_n hx hb d_X0_multiplyBy_41 rfl (lv_at hl 3 rfl) ?_
    refine lv_lmul hx hb d_X0_multiplyBy_42 ?_
    refine lv_lload hx hb d_X0_multiplyBy_43 (lv_at hl 5 rfl) ?_
    refine lv_ldc2 (v := 4294967295) hx hb hown (hts (.constantLong "LimbRows$Row" 19 4294967295) k_279) d_X0_multiplyBy_45 ?_
    refine lv_land hx hb d_X0_multiplyBy_48 ?_
    refine lv_ladd hx hb d_X0_multiplyBy_49 ?_
    refine lv_lstore (lv' := [(12, .long (sTim i lo k cy F)), (10, .long (rUn (F i k))), (0, .ref (ro i)), (1, .long v), (3, .long lo), (5, .long hi2), (7, .long cy), (9, .int (nI k))]) hx hb d_X0_multiplyBy_50 hl (by decide) rfl (fun ls hl => ?_)
    refine lv_aload_n hx hb d_X0_multiplyBy_52 rfl (lv_at hl 2 rfl) ?_
    refine c_getL hx hb hts hown hK hP (i := i) hi d_X0_multiplyBy_53 ?_
    refine lv_iload hx hb d_X0_multiplyBy_56 (lv_at hl 7 rfl) ?_
    refine lv_lload hx hb d_X0_multiplyBy_58 (lv_at hl 0 rfl) ?_
    refine lv_l2i (v := (sTim i lo k cy F).toInt32) hx hb d_X0_multiplyBy_60 rfl ?_
    have hq_61 := hw i hi
    refine c_ast hx hb hK hP hD hS (i := i) (k := k) (x := (sTim i lo k cy F).toInt32) hi (by omega) (by omega) d_X0_multiplyBy_61 (fun H locs hP hD hS => ?_)
    refine lv_lload hx hb d_X0_multiplyBy_62 (lv_at hl 1 rfl) ?_
    refine lv_lload hx hb d_X0_multiplyBy_64 (lv_at hl 5 rfl) ?_
    refine lv_lmul hx hb d_X0_multiplyBy_66 ?_
    refine lv_lload hx hb d_X0_multiplyBy_67 (lv_at hl 6 rfl) ?_
    refine lv_bipush (v := nI 32) hx hb d_X0_multiplyBy_69 (by decide) ?_
    refine lv_lshr (v := j_lr cy (nI 32)) hx hb d_X0_multiplyBy_71 rfl ?_
    refine lv_ladd hx hb d_X0_multiplyBy_72 ?_
    refine lv_lload hx hb d_X0_multiplyBy_73 (lv_at hl 0 rfl) ?_
    refine lv_bipush (v := nI 32) hx hb d_X0_multiplyBy_75 (by decide) ?_
    refine lv_lushr (v := j_lu (sTim i lo k cy F) (nI 32)) hx hb d_X0_multiplyBy_77 rfl ?_
    refine lv_ladd hx hb d_X0_multiplyBy_78 ?_
    refine lv_lstore (lv' := [(7, .long (cTim i lo hi2 k cy F)), (12, .long (sTim i lo k cy F)), (10, .long (rUn (F i k))), (0, .ref (ro i)), (1, .long v), (3, .long lo), (5, .long hi2), (9, .int (nI k))]) hx hb d_X0_multiplyBy_79 hl (by decide) rfl (fun ls hl => ?_)
    refine n_iinc (lv' := [(9, .int (nI (k + 1))), (7, .long (cTim i lo hi2 k cy F)), (12, .long (sTim i lo k cy F)), (10, .long (rUn (F i k))), (0, .ref (ro i)), (1, .long v), (3, .long lo), (5, .long hi2)]) hx hb d_X0_multiplyBy_81 hl (k := 7) rfl (by decide) rfl (fun ls hl => ?_)
    refine lv_goto (tgt := 18) hx hb d_X0_multiplyBy_84 (by decide) ?_
    exact ih (k + 1) _ _ (by omega) (by omega) H locs hP hD hS ls (lv_sub hl [4, 5, 6, 7, 1, 0] rfl)
abbrev w_X0_multiplyBy : List Cond := .code y_X0_multiplyBy b_X0_multiplyBy 14 (none) :: gw
set_option maxHeartbeats 800000 in
set_option maxRecDepth 100000 in
theorem c_X0_multiplyBy {l : Launch} {D : va_G} {Rs : va_W} {cA cR cL : ClassId} {ro la cap wd : Nat → Nat} {F : Nat → Nat → Int32} (hw : rwOk cap wd) {i : Nat} (hi : i < 64) (v : Int64) : xC l y_X0_multiplyBy w_X0_multiplyBy ({ frames := 1, cells := 0, slots := 0, locals := 20 }) D cls0 (ty3 cA cR cL) [.ref (ro i), .long v] (rw Rs cA ro la cap wd F) (none) (fun w => w = rw Rs cA ro la cap wd (gTim i (v &&& 4294967295) (j_lr v (nI 32)) (wd i) 0 0 F)) 0 0 := by
  refine xC.ofW (cc := b_X0_multiplyBy) (maxL := 14) (ret := none) (by decide) rfl (Nat.le_of_ble_eq_true rfl) ?_
  intro p e s m below meth c A ls _ hin hx hb hr hml hown hts hlocks hA hK hP hD hS hl
  have hts : ∀ w ∈ gw, w.before ([.ref (ro i), .long v]).toArray s = true := fun w h => hts w (List.mem_cons_of_mem _ h)
  have hown : s.vm.findClass R_Row = some m.cls := hown
  have hl : lv_has ls 14 [(0, .ref (ro i)), (1, .long v)] := hl
  refine lv_lload_n hx hb d_X0_multiplyBy_0 rfl (lv_at hl 1 rfl) ?_
  refine lv_ldc2 (v := 4294967295) hx hb hown (hts (.constantLong "LimbRows$Row" 19 4294967295) k_279) d_X0_multiplyBy_1 ?_
  refine lv_land hx hb d_X0_multiplyBy_4 ?_
  refine lv_lstore_n (lv' := [(3, .long (v &&& 4294967295)), (0, .ref (ro i)), (1, .long v)]) hx hb d_X0_multiplyBy_5 rfl hl (by decide) rfl (fun ls hl => ?_)
  refine lv_lload_n hx hb d_X0_multiplyBy_6 rfl (lv_at hl 2 rfl) ?_
  refine lv_bipush (v := nI 32) hx hb d_X0_multiplyBy_7 (by decide) ?_
  refine lv_lshr (v := j_lr v (nI 32)) hx hb d_X0_multiplyBy_9 rfl ?_
  refine lv_lstore (lv' := [(5, .long (j_lr v (nI 32))), (3, .long (v &&& 4294967295)), (0, .ref (ro i)), (1, .long v)]) hx hb d_X0_multiplyBy_10 hl (by decide) rfl (fun ls hl => ?_)
  refine lv_lconst (v := 0) hx hb d_X0_multiplyBy_12 (by decide) ?_
  refine lv_lstore (lv' := [(7, .long 0), (5, .long (j_lr v (nI 32))), (3, .long (v &&& 4294967295)), (0, .ref (ro i)), (1, .long v)]) hx hb d_X0_multiplyBy_13 hl (by decide) rfl (fun ls hl => ?_)
  refine lv_iconst (v := nI 0) hx hb d_X0_multiplyBy_15 (by decide) ?_
  refine lv_istore (lv' := [(9, .int (nI 0)), (7, .long 0), (5, .long (j_lr v (nI 32))), (3, .long (v &&& 4294967295)), (0, .ref (ro i)), (1, .long v)]) hx hb d_X0_multiplyBy_16 hl (by decide) rfl (fun ls hl => ?_)
  exact lp_X0_multiplyBy hx hb hr hml hown hts hlocks hA hK hw hi (wd i) 0 0 F rfl (by omega) _ _ hP hD hS ls (lv_sub hl [4, 5, 3, 2, 1, 0] rfl)
abbrev w_X0_turnRound : List Cond := .code y_X0_turnRound b_X0_turnRound 2 (some .boolean) :: gw
set_option maxHeartbeats 800000 in
set_option maxRecDepth 100000 in
theorem c_X0_turnRound {l : Launch} {D : va_G} {Rs : va_W} {cA cR cL : ClassId} {ro la cap wd : Nat → Nat} {F : Nat → Nat → Int32} (hw : rwOk cap wd) {i : Nat} (hi : i < 64) : xC l y_X0_turnRound w_X0_turnRound ({ frames := 1, cells := 0, slots := 0, locals := 21 }) D cls0 (ty3 cA cR cL) [.ref (ro i)] (rw Rs cA ro la cap wd F) (some (.int (rTurn i (wd i) F))) (fun w => w = rw Rs cA ro la cap wd (gTurn i (wd i) F)) 0 0 := by
  refine xC.ofW (cc := b_X0_turnRound) (maxL := 2) (ret := some .boolean) (by decide) rfl (Nat.le_of_ble_eq_true rfl) ?_
  intro p e s m below meth c A ls _ hin hx hb hr hml hown hts hlocks hA hK hP hD hS hl
  have hts : ∀ w ∈ gw, w.before ([.ref (ro i)]).toArray s = true := fun w h => hts w (List.mem_cons_of_mem _ h)
  have hown : s.vm.findClass R_Row = some m.cls := hown
  have hl : lv_has ls 2 [(0, .ref (ro i))] := hl
  refine lv_aload_n hx hb d_X0_turnRound_0 rfl (lv_at hl 0 rfl) ?_
  refine x_callR (st1 := [.int (rNeg (wd i) (F i))]) (x_runV (As := []) (rest := []) (nL := 2) ⟨hx, hb, hml, hown, hts⟩ (c_X0_isNegative hw hi _) (cwV 0 hts (gw_V k_284 k_286 k_10 k_51 k_287) rfl rfl rfl (by decide +kernel) ⟨Nat.le_of_ble_eq_true rfl, Nat.le_of_ble_eq_true rfl⟩) hK hP hD _ 0 (rw_row hi) rfl rfl hl.1 rfl (Nat.le_of_ble_eq_true rfl) d_X0_turnRound_1 ⟨Nat.zero_le _, Nat.zero_le _⟩) rfl ?_
  refine lv_istore_n (lv' := [(1, .int (rNeg (wd i) (F i))), (0, .ref (ro i))]) hx hb d_X0_turnRound_4 rfl hl (by decide) rfl (fun ls hl => ?_)
  refine lv_aload_n hx hb d_X0_turnRound_5 rfl (lv_at hl 1 rfl) ?_
  refine x_call (st1 := []) (x_runV (As := []) (rest := []) (nL := 2) ⟨hx, hb, hml, hown, hts⟩ (c_X0_complement hw hi _) (cwV 0 hts (gw_V k_339 k_341 k_16 k_51 k_342) rfl rfl rfl (by decide +kernel) ⟨Nat.le_of_ble_eq_true rfl, Nat.le_of_ble_eq_true rfl⟩) hK hP hD _ 0 (rw_row hi) rfl rfl hl.1 rfl (Nat.le_of_ble_eq_true rfl) d_X0_turnRound_6 ⟨Nat.zero_le _, Nat.zero_le _⟩) hS (x_sub hD hS hA) (x_sub hD hS hA) rfl (fun w1 H locs hY hP hD hS => ?_)
  subst hY
  refine lv_aload_n hx hb d_X0_turnRound_9 rfl (lv_at hl 1 rfl) ?_
  refine x_call (st1 := []) (x_runV (As := []) (rest := []) (nL := 2) ⟨hx, hb, hml, hown, hts⟩ (c_X0_increment hw hi _) (cwV 0 hts (gw_V k_366 k_368 k_19 k_51 k_369) rfl rfl rfl (by decide +kernel) ⟨Nat.le_of_ble_eq_true rfl, Nat.le_of_ble_eq_true rfl⟩) hK hP hD _ 0 (rw_row hi) rfl rfl hl.1 rfl (Nat.le_of_ble_eq_true rfl) d_X0_turnRound_10 ⟨Nat.zero_le _, Nat.zero_le _⟩) hS (x_sub hD hS hA) (x_sub hD hS hA) rfl (fun w1 H locs hY hP hD hS => ?_)
  subst hY
  refine lv_iload_n hx hb d_X0_turnRound_13 rfl (lv_at hl 0 rfl) ?_
  refine lv_if_eq (tgt := 24) hx hb d_X0_turnRound_14 (by decide) (fun c_1 => ?_) (fun c_1 => ?_)
  · refine lv_iconst (v := nI 1) hx hb d_X0_turnRound_24 (by decide) ?_
    refine lv_goto (tgt := 29) hx hb d_X0_turnRound_25 (by decide) ?_
    exact x_zret hx hb hr hlocks hP hD hS d_X0_turnRound_29 (by decide) (by unfold rTurn gTurn; first | rw [if_pos (by assumption)] | rw [if_neg (by assumption), if_pos (by assumption)] | rw [if_neg (by assumption), if_neg (by assumption)]) rfl
  · refine lv_aload_n hx hb d_X0_turnRound_17 rfl (lv_at hl 1 rfl) ?_
    refine x_callR (st1 := [.int (rNeg (wd i) ((gInc i (wd i) 0 (gCpl i (wd i) 0 F)) i))]) (x_runV (As := []) (rest := []) (nL := 2) ⟨hx, hb, hml, hown, hts⟩ (c_X0_isNegative hw hi _) (cwV 0 hts (gw_V k_284 k_286 k_10 k_51 k_287) rfl rfl rfl (by decide +kernel) ⟨Nat.le_of_ble_eq_true rfl, Nat.le_of_ble_eq_true rfl⟩) hK hP hD _ 0 (rw_row hi) rfl rfl hl.1 rfl (Nat.le_of_ble_eq_true rfl) d_X0_turnRound_18 ⟨Nat.zero_le _, Nat.zero_le _⟩) rfl ?_
    refine lv_if_ne (tgt := 28) hx hb d_X0_turnRound_21 (by decide) (fun c_2 => ?_) (fun c_2 => ?_)
    · refine lv_iconst (v := nI 0) hx hb d_X0_turnRound_28 (by decide) ?_
      exact x_zret hx hb hr hlocks hP hD hS d_X0_turnRound_29 (by decide) (by unfold rTurn gTurn; first | rw [if_pos (by assumption)] | rw [if_neg (by assumption), if_pos (by assumption)] | rw [if_neg (by assumption), if_neg (by assumption)]) rfl
    · refine lv_iconst (v := nI 1) hx hb d_X0_turnRound_24 (by decide) ?_
      refine lv_goto (tgt := 29) hx hb d_X0_turnRound_25 (by decide) ?_
      exact x_zret hx hb hr hlocks hP hD hS d_X0_turnRound_29 (by decide) (by unfold rTurn gTurn; first | rw [if_pos (by assumption)] | rw [if_neg (by assumption), if_pos (by assumption)] | rw [if_neg (by assumption), if_neg (by assumption)]) rfl
abbrev w_X0_bitAt : List Cond := .code y_X0_bitAt b_X0_bitAt 2 (some .int) :: gw
set_option maxHeartbeats 800000 in
set_option maxRecDepth 100000 in
theorem c_X0_bitAt {l : Launch} {D : va_G} {Rs : va_W} {cA cR cL : ClassId} {ro la cap wd : Nat → Nat} {F : Nat → Nat → Int32} (hw : rwOk cap wd) {i : Nat} (hi : i < 64) (x : Int32) : xR l y_X0_bitAt w_X0_bitAt ({ frames := 1, cells := 0, slots := 0, locals := 21 }) D cls0 (ty3 cA cR cL) [.ref (ro i), .int x] (rw Rs cA ro la cap wd F) (some (.int (rBit (wd i) (F i) x))) := by
  refine xR.ofW (cc := b_X0_bitAt) (maxL := 2) (ret := some .int) (by decide) rfl (Nat.le_of_ble_eq_true rfl) ?_
  intro p e s m below meth c A ls _ hin hx hb hr hml hown hts hlocks hA hK hP hD hS hl
  have hts : ∀ w ∈ gw, w.before ([.ref (ro i), .int x]).toArray s = true := fun w h => hts w (List.mem_cons_of_mem _ h)
  have hown : s.vm.findClass R_Row = some m.cls := hown
  have hl : lv_has ls 2 [(0, .ref (ro i)), (1, .int x)] := hl
  refine lv_aload_n hx hb d_X0_bitAt_0 rfl (lv_at hl 0 rfl) ?_
  refine lv_iload_n hx hb d_X0_bitAt_1 rfl (lv_at hl 1 rfl) ?_
  refine lv_iconst (v := nI 5) hx hb d_X0_bitAt_2 (by decide) ?_
  refine lv_ishr hx hb d_X0_bitAt_3 ?_
  refine x_callR (st1 := [.int (rAt (wd i) (F i) (x >>> ((nI 5) &&& 31)))]) (x_runV (As := [.int (x >>> ((nI 5) &&& 31))]) (rest := []) (nL := 2) ⟨hx, hb, hml, hown, hts⟩ (c_X0_limbAt hw hi (x >>> ((nI 5) &&& 31)) _) (cwV 1 hts (gw_V k_196 k_198 k_4 k_51 k_199) rfl rfl rfl (by decide +kernel) ⟨Nat.le_of_ble_eq_true rfl, Nat.le_of_ble_eq_true rfl⟩) hK hP hD _ 0 (rw_row hi) rfl rfl hl.1 rfl (Nat.le_of_ble_eq_true rfl) d_X0_bitAt_4 ⟨Nat.zero_le _, Nat.zero_le _⟩) rfl ?_
  refine lv_iload_n hx hb d_X0_bitAt_7 rfl (lv_at hl 1 rfl) ?_
  refine lv_bipush (v := nI 31) hx hb d_X0_bitAt_8 (by decide) ?_
  refine lv_iand hx hb d_X0_bitAt_10 ?_
  refine lv_iushr (v := j_iu (rAt (wd i) (F i) (x >>> ((nI 5) &&& 31))) (x &&& (nI 31))) hx hb d_X0_bitAt_11 rfl ?_
  refine lv_iconst (v := nI 1) hx hb d_X0_bitAt_12 (by decide) ?_
  refine lv_iand hx hb d_X0_bitAt_13 ?_
  exact xr_iret hx hb hr hlocks d_X0_bitAt_14 rfl
abbrev w_X0_pairAt : List Cond := .code y_X0_pairAt b_X0_pairAt 2 (some .long) :: gw
set_option maxHeartbeats 800000 in
set_option maxRecDepth 100000 in
theorem c_X0_pairAt {l : Launch} {D : va_G} {Rs : va_W} {cA cR cL : ClassId} {ro la cap wd : Nat → Nat} {F : Nat → Nat → Int32} (hw : rwOk cap wd) {i : Nat} (hi : i < 64) (x : Int32) : xR l y_X0_pairAt w_X0_pairAt ({ frames := 1, cells := 0, slots := 0, locals := 21 }) D cls0 (ty3 cA cR cL) [.ref (ro i), .int x] (rw Rs cA ro la cap wd F) (some (.long (rPair (wd i) (F i) x))) := by
  refine xR.ofW (cc := b_X0_pairAt) (maxL := 2) (ret := some .long) (by decide) rfl (Nat.le_of_ble_eq_true rfl) ?_
  intro p e s m below meth c A ls _ hin hx hb hr hml hown hts hlocks hA hK hP hD hS hl
  have hts : ∀ w ∈ gw, w.before ([.ref (ro i), .int x]).toArray s = true := fun w h => hts w (List.mem_cons_of_mem _ h)
  have hown : s.vm.findClass R_Row = some m.cls := hown
  have hl : lv_has ls 2 [(0, .ref (ro i)), (1, .int x)] := hl
  refine lv_aload_n hx hb d_X0_pairAt_0 rfl (lv_at hl 0 rfl) ?_
  refine lv_iload_n hx hb d_X0_pairAt_1 rfl (lv_at hl 1 rfl) ?_
  refine lv_iconst (v := nI 1) hx hb d_X0_pairAt_2 (by decide) ?_
  refine lv_iadd hx hb d_X0_pairAt_3 ?_
  refine x_callR (st1 := [.int (rAt (wd i) (F i) (x + (nI 1)))]) (x_runV (As := [.int (x + (nI 1))]) (rest := []) (nL := 2) ⟨hx, hb, hml, hown, hts⟩ (c_X0_limbAt hw hi (x + (nI 1)) _) (cwV 1 hts (gw_V k_196 k_198 k_4 k_51 k_199) rfl rfl rfl (by decide +kernel) ⟨Nat.le_of_ble_eq_true rfl, Nat.le_of_ble_eq_true rfl⟩) hK hP hD _ 0 (rw_row hi) rfl rfl hl.1 rfl (Nat.le_of_ble_eq_true rfl) d_X0_pairAt_4 ⟨Nat.zero_le _, Nat.zero_le _⟩) rfl ?_
  refine x_callR (st1 := [.long (rUn (rAt (wd i) (F i) (x + (nI 1))))]) (x_runS (As := [.int (rAt (wd i) (F i) (x + (nI 1)))]) (rest := []) (nL := 2) ⟨hx, hb, hml, hown, hts⟩ (c_X0_unsigned hw (rAt (wd i) (F i) (x + (nI 1))) _) (cwS 1 hts (gw_S k_276 k_277 k_51 k_278) rfl rfl rfl (by decide +kernel) ⟨Nat.le_of_ble_eq_true rfl, Nat.le_of_ble_eq_true rfl⟩) hK hP hD rfl hl.1 rfl (Nat.le_of_ble_eq_true rfl) d_X0_pairAt_7 ⟨Nat.zero_le _, Nat.zero_le _⟩) rfl ?_
  refine lv_bipush (v := nI 32) hx hb d_X0_pairAt_10 (by decide) ?_
  refine lv_lshl (v := j_ll (rUn (rAt (wd i) (F i) (x + (nI 1)))) (nI 32)) hx hb d_X0_pairAt_12 rfl ?_
  refine lv_aload_n hx hb d_X0_pairAt_13 rfl (lv_at hl 0 rfl) ?_
  refine lv_iload_n hx hb d_X0_pairAt_14 rfl (lv_at hl 1 rfl) ?_
  refine x_callR (st1 := [.int (rAt (wd i) (F i) x), .long (j_ll (rUn (rAt (wd i) (F i) (x + (nI 1)))) (nI 32))]) (x_runV (As := [.int x]) (rest := [.long (j_ll (rUn (rAt (wd i) (F i) (x + (nI 1)))) (nI 32))]) (nL := 2) ⟨hx, hb, hml, hown, hts⟩ (c_X0_limbAt hw hi x _) (cwV 1 hts (gw_V k_196 k_198 k_4 k_51 k_199) rfl rfl rfl (by decide +kernel) ⟨Nat.le_of_ble_eq_true rfl, Nat.le_of_ble_eq_true rfl⟩) hK hP hD _ 0 (rw_row hi) rfl rfl hl.1 rfl (Nat.le_of_ble_eq_true rfl) d_X0_pairAt_15 ⟨Nat.zero_le _, Nat.zero_le _⟩) rfl ?_
  refine x_callR (st1 := [.long (rUn (rAt (wd i) (F i) x)), .long (j_ll (rUn (rAt (wd i) (F i) (x + (nI 1)))) (nI 32))]) (x_runS (As := [.int (rAt (wd i) (F i) x)]) (rest := [.long (j_ll (rUn (rAt (wd i) (F i) (x + (nI 1)))) (nI 32))]) (nL := 2) ⟨hx, hb, hml, hown, hts⟩ (c_X0_unsigned hw (rAt (wd i) (F i) x) _) (cwS 1 hts (gw_S k_276 k_277 k_51 k_278) rfl rfl rfl (by decide +kernel) ⟨Nat.le_of_ble_eq_true rfl, Nat.le_of_ble_eq_true rfl⟩) hK hP hD rfl hl.1 rfl (Nat.le_of_ble_eq_true rfl) d_X0_pairAt_18 ⟨Nat.zero_le _, Nat.zero_le _⟩) rfl ?_
  refine lv_lor hx hb d_X0_pairAt_21 ?_
  exact xr_lret hx hb hr hlocks d_X0_pairAt_22 rfl
set_option maxHeartbeats 800000 in
set_option maxRecDepth 100000 in
theorem lp_X0_shiftDown {p : Program} {l : Launch} {e : Env} {s : State} {m : MethodId} {args : Array Value} {below : List Frame} {meth : Method} {c : Code} {D : va_G} {Rs : va_W} {cA cR cL : ClassId} {ro la cap wd : Nat → Nat} {A : Nat → Prop} (hx : p.tables.exec = Jvm.exec) (hb : c.code = b_X0_shiftDown) (hr : meth.sig.returnType = none) (hml : c.maxLocals = 5) (hown : s.vm.findClass R_Row = some m.cls) (hts : ∀ w ∈ gw, w.before args s = true) (hlocks : meth.locks = false) (hA : ∀ q : Nat, s.heap.size ≤ q → A q) (hK : va_K D cls0 (ty3 cA cR cL) s) (hw : rwOk cap wd) {i bs wh pt : Nat} (hi : i < 64) (hwh : wh < 1000) : ∀ (n : Nat) (k : Nat) (F : Nat → Nat → Int32), n = wd i - k → k < 1000 → ∀ (H : Heap) (locs : List Loc), va_P D cls0 (rw Rs cA ro la cap wd F) H → va_D A (rw Rs cA ro la cap wd F) → va_S A s.heap H locs → ∀ (ls : Array Slot), lv_has ls 5 [(0, .ref (ro i)), (1, .int (nI bs)), (2, .int (nI wh)), (3, .int (nI pt)), (4, .int (nI k))] → W p l e ({ frames := 2, cells := 0, slots := 0, locals := 42 }) s m args below meth c H locs 0 0 (MQ below (xQ (none) (xB D cls0 A (fun w => w = rw Rs cA ro la cap wd (gShd i (wd i) wh pt n k F))) A) args s 0 0 A) (F0 m 12 ls []) := by
  intro n
  induction n with
  | zero =>
    intro k F hn hk H locs hP hD hS ls hl
    have hwi := hw i hi
    refine lv_iload hx hb d_X0_shiftDown_12 (lv_at hl 4 rfl) ?_
    refine lv_aload_n hx hb d_X0_shiftDown_14 rfl (lv_at hl 0 rfl) ?_
    refine c_getW hx hb hts hown hK hP (i := i) hi d_X0_shiftDown_15 ?_
    refine n_icmp_ge (tgt := 45) hx hb d_X0_shiftDown_18 (by decide) (by omega) (by omega) (fun c_1 => ?_) (fun c_1 => ?_)
    rotate_left
    · exact absurd c_1 (by omega)
    exact x_vret hx hb hr hlocks hP hD hS d_X0_shiftDown_45 rfl rfl
  | succ n ih =>
    intro k F hn hk H locs hP hD hS ls hl
    have hwi := hw i hi
    refine lv_iload hx hb d_X0_shiftDown_12 (lv_at hl 4 rfl) ?_
    refine lv_aload_n hx hb d_X0_shiftDown_14 rfl (lv_at hl 0 rfl) ?_
    refine c_getW hx hb hts hown hK hP (i := i) hi d_X0_shiftDown_15 ?_
    refine n_icmp_ge (tgt := 45) hx hb d_X0_shiftDown_18 (by decide) (by omega) (by omega) (fun c_1 => ?_) (fun c_1 => ?_)
    · exact absurd c_1 (by omega)
    refine lv_aload_n hx hb d_X0_shiftDown_21 rfl (lv_at hl 0 rfl) ?_
    refine c_getL hx hb hts hown hK hP (i := i) hi d_X0_shiftDown_22 ?_
    refine lv_iload hx hb d_X0_shiftDown_25 (lv_at hl 4 rfl) ?_
    refine lv_aload_n hx hb d_X0_shiftDown_27 rfl (lv_at hl 0 rfl) ?_
    refine lv_iload hx hb d_X0_shiftDown_28 (lv_at hl 4 rfl) ?_
    refine lv_iload_n hx hb d_X0_shiftDown_30 rfl (lv_at hl 2 rfl) ?_
    refine n_iadd hx hb d_X0_shiftDown_31 ?_
    refine x_callR (st1 := [.long (rPair (wd i) (F i) (nI (k + wh))), .int (nI k), .ref (la i)]) (x_runV (As := [.int (nI (k + wh))]) (rest := [.int (nI k), .ref (la i)]) (nL := 5) ⟨hx, hb, hml, hown, hts⟩ (c_X0_pairAt hw hi (nI (k + wh)) _) (cwV 1 hts (gw_V k_385 k_387 k_21 k_51 k_388) rfl rfl rfl (by decide +kernel) ⟨Nat.le_of_ble_eq_true rfl, Nat.le_of_ble_eq_true rfl⟩) hK hP hD _ 0 (rw_row hi) rfl rfl hl.1 rfl (Nat.le_of_ble_eq_true rfl) d_X0_shiftDown_32 ⟨Nat.zero_le _, Nat.zero_le _⟩) rfl ?_
    refine lv_iload_n hx hb d_X0_shiftDown_35 rfl (lv_at hl 3 rfl) ?_
    refine lv_lushr (v := j_lu (rPair (wd i) (F i) (nI (k + wh))) (nI pt)) hx hb d_X0_shiftDown_36 rfl ?_
    refine lv_l2i (v := (j_lu (rPair (wd i) (F i) (nI (k + wh))) (nI pt)).toInt32) hx hb d_X0_shiftDown_37 rfl ?_
    have hq_38 := hw i hi
    refine c_ast hx hb hK hP hD hS (i := i) (k := k) (x := (j_lu (rPair (wd i) (F i) (nI (k + wh))) (nI pt)).toInt32) hi (by omega) (by omega) d_X0_shiftDown_38 (fun H locs hP hD hS => ?_)
    refine n_iinc (lv' := [(4, .int (nI (k + 1))), (0, .ref (ro i)), (1, .int (nI bs)), (2, .int (nI wh)), (3, .int (nI pt))]) hx hb d_X0_shiftDown_39 hl (k := 4) rfl (by decide) rfl (fun ls hl => ?_)
    refine lv_goto (tgt := 12) hx hb d_X0_shiftDown_42 (by decide) ?_
    exact ih (k + 1) _ (by omega) (by omega) H locs hP hD hS ls (lv_sub hl [1, 2, 3, 4, 0] rfl)
abbrev w_X0_shiftDown : List Cond := .code y_X0_shiftDown b_X0_shiftDown 5 (none) :: gw
set_option maxHeartbeats 800000 in
set_option maxRecDepth 100000 in
theorem c_X0_shiftDown {l : Launch} {D : va_G} {Rs : va_W} {cA cR cL : ClassId} {ro la cap wd : Nat → Nat} {F : Nat → Nat → Int32} (hw : rwOk cap wd) {i : Nat} (hi : i < 64) {bs : Nat} (hbs : bs ≤ 8192) : xC l y_X0_shiftDown w_X0_shiftDown ({ frames := 2, cells := 0, slots := 0, locals := 42 }) D cls0 (ty3 cA cR cL) [.ref (ro i), .int (nI bs)] (rw Rs cA ro la cap wd F) (none) (fun w => w = rw Rs cA ro la cap wd (gShd i (wd i) (bs / 32) (bs % 32) (wd i) 0 F)) 0 0 := by
  refine xC.ofW (cc := b_X0_shiftDown) (maxL := 5) (ret := none) (by decide) rfl (Nat.le_of_ble_eq_true rfl) ?_
  intro p e s m below meth c A ls _ hin hx hb hr hml hown hts hlocks hA hK hP hD hS hl
  have hts : ∀ w ∈ gw, w.before ([.ref (ro i), .int (nI bs)]).toArray s = true := fun w h => hts w (List.mem_cons_of_mem _ h)
  have hown : s.vm.findClass R_Row = some m.cls := hown
  have hl : lv_has ls 5 [(0, .ref (ro i)), (1, .int (nI bs))] := hl
  refine lv_iload_n hx hb d_X0_shiftDown_0 rfl (lv_at hl 1 rfl) ?_
  refine lv_iconst (v := nI 5) hx hb d_X0_shiftDown_1 (by decide) ?_
  refine n_shr5 hx hb (by omega) d_X0_shiftDown_2 ?_
  refine lv_istore_n (lv' := [(2, .int (nI (bs / 32))), (0, .ref (ro i)), (1, .int (nI bs))]) hx hb d_X0_shiftDown_3 rfl hl (by decide) rfl (fun ls hl => ?_)
  refine lv_iload_n hx hb d_X0_shiftDown_4 rfl (lv_at hl 2 rfl) ?_
  refine lv_bipush (v := nI 31) hx hb d_X0_shiftDown_5 (by decide) ?_
  refine n_and31 hx hb (by omega) d_X0_shiftDown_7 ?_
  refine lv_istore_n (lv' := [(3, .int (nI (bs % 32))), (2, .int (nI (bs / 32))), (0, .ref (ro i)), (1, .int (nI bs))]) hx hb d_X0_shiftDown_8 rfl hl (by decide) rfl (fun ls hl => ?_)
  refine lv_iconst (v := nI 0) hx hb d_X0_shiftDown_9 (by decide) ?_
  refine lv_istore (lv' := [(4, .int (nI 0)), (3, .int (nI (bs % 32))), (2, .int (nI (bs / 32))), (0, .ref (ro i)), (1, .int (nI bs))]) hx hb d_X0_shiftDown_10 hl (by decide) rfl (fun ls hl => ?_)
  exact lp_X0_shiftDown hx hb hr hml hown hts hlocks hA hK hw hi (by omega) (wd i) 0 F rfl (by omega) _ _ hP hD hS ls (lv_sub hl [3, 4, 2, 1, 0] rfl)
set_option maxHeartbeats 800000 in
set_option maxRecDepth 100000 in
theorem lp_X0_shiftUp {p : Program} {l : Launch} {e : Env} {s : State} {m : MethodId} {args : Array Value} {below : List Frame} {meth : Method} {c : Code} {D : va_G} {Rs : va_W} {cA cR cL : ClassId} {ro la cap wd : Nat → Nat} {A : Nat → Prop} (hx : p.tables.exec = Jvm.exec) (hb : c.code = b_X0_shiftUp) (hr : meth.sig.returnType = none) (hml : c.maxLocals = 5) (hown : s.vm.findClass R_Row = some m.cls) (hts : ∀ w ∈ gw, w.before args s = true) (hlocks : meth.locks = false) (hA : ∀ q : Nat, s.heap.size ≤ q → A q) (hK : va_K D cls0 (ty3 cA cR cL) s) (hw : rwOk cap wd) {i bs wh pt : Nat} (hi : i < 64) : ∀ (n : Nat) (F : Nat → Nat → Int32), n ≤ wd i → ∀ (H : Heap) (locs : List Loc), va_P D cls0 (rw Rs cA ro la cap wd F) H → va_D A (rw Rs cA ro la cap wd F) → va_S A s.heap H locs → ∀ (ls : Array Slot), lv_has ls 5 [(0, .ref (ro i)), (1, .int (nI bs)), (2, .int (nI wh)), (3, .int (nI pt)), (4, .int (nM n))] → W p l e ({ frames := 2, cells := 0, slots := 0, locals := 42 }) s m args below meth c H locs 0 0 (MQ below (xQ (none) (xB D cls0 A (fun w => w = rw Rs cA ro la cap wd (gShu i (wd i) wh pt n F))) A) args s 0 0 A) (F0 m 17 ls []) := by
  intro n
  induction n with
  | zero =>
    intro  F hn H locs hP hD hS ls hl
    have hwi := hw i hi
    rw [nM_0] at hl
    refine lv_iload hx hb d_X0_shiftUp_17 (lv_at hl 4 rfl) ?_
    refine lv_if_lt (tgt := 51) hx hb d_X0_shiftUp_19 (by decide) (fun c_1 => ?_) (fun c_1 => ?_)
    rotate_left
    · exact absurd (by decide) c_1
    exact x_vret hx hb hr hlocks hP hD hS d_X0_shiftUp_51 rfl rfl
  | succ n ih =>
    intro  F hn H locs hP hD hS ls hl
    rw [nM_succ] at hl
    have hwi := hw i hi
    refine lv_iload hx hb d_X0_shiftUp_17 (lv_at hl 4 rfl) ?_
    refine n_if_lt (tgt := 51) hx hb d_X0_shiftUp_19 (by decide) (by omega) ?_
    refine lv_aload_n hx hb d_X0_shiftUp_22 rfl (lv_at hl 0 rfl) ?_
    refine c_getL hx hb hts hown hK hP (i := i) hi d_X0_shiftUp_23 ?_
    refine lv_iload hx hb d_X0_shiftUp_26 (lv_at hl 4 rfl) ?_
    refine lv_aload_n hx hb d_X0_shiftUp_28 rfl (lv_at hl 0 rfl) ?_
    refine lv_iload hx hb d_X0_shiftUp_29 (lv_at hl 4 rfl) ?_
    refine lv_iload_n hx hb d_X0_shiftUp_31 rfl (lv_at hl 2 rfl) ?_
    refine lv_isub hx hb d_X0_shiftUp_32 ?_
    refine lv_iconst (v := nI 1) hx hb d_X0_shiftUp_33 (by decide) ?_
    refine lv_isub hx hb d_X0_shiftUp_34 ?_
    refine x_callR (st1 := [.long (rPair (wd i) (F i) (nI n - nI wh - (nI 1))), .int (nI n), .ref (la i)]) (x_runV (As := [.int (nI n - nI wh - (nI 1))]) (rest := [.int (nI n), .ref (la i)]) (nL := 5) ⟨hx, hb, hml, hown, hts⟩ (c_X0_pairAt hw hi (nI n - nI wh - (nI 1)) _) (cwV 1 hts (gw_V k_385 k_387 k_21 k_51 k_388) rfl rfl rfl (by decide +kernel) ⟨Nat.le_of_ble_eq_true rfl, Nat.le_of_ble_eq_true rfl⟩) hK hP hD _ 0 (rw_row hi) rfl rfl hl.1 rfl (Nat.le_of_ble_eq_true rfl) d_X0_shiftUp_35 ⟨Nat.zero_le _, Nat.zero_le _⟩) rfl ?_
    refine lv_iload_n hx hb d_X0_shiftUp_38 rfl (lv_at hl 3 rfl) ?_
    refine lv_lshl (v := j_ll (rPair (wd i) (F i) (nI n - nI wh - (nI 1))) (nI pt)) hx hb d_X0_shiftUp_39 rfl ?_
    refine lv_bipush (v := nI 32) hx hb d_X0_shiftUp_40 (by decide) ?_
    refine lv_lushr (v := j_lu (j_ll (rPair (wd i) (F i) (nI n - nI wh - (nI 1))) (nI pt)) (nI 32)) hx hb d_X0_shiftUp_42 rfl ?_
    refine lv_l2i (v := (j_lu (j_ll (rPair (wd i) (F i) (nI n - nI wh - (nI 1))) (nI pt)) (nI 32)).toInt32) hx hb d_X0_shiftUp_43 rfl ?_
    have hq_44 := hw i hi
    refine c_ast hx hb hK hP hD hS (i := i) (k := n) (x := (j_lu (j_ll (rPair (wd i) (F i) (nI n - nI wh - (nI 1))) (nI pt)) (nI 32)).toInt32) hi (by omega) (by omega) d_X0_shiftUp_44 (fun H locs hP hD hS => ?_)
    refine n_idec (lv' := [(4, .int (nM n)), (0, .ref (ro i)), (1, .int (nI bs)), (2, .int (nI wh)), (3, .int (nI pt))]) hx hb d_X0_shiftUp_45 hl (k := 4) rfl (by decide) rfl (fun ls hl => ?_)
    refine lv_goto (tgt := 17) hx hb d_X0_shiftUp_48 (by decide) ?_
    exact ih _ (by omega) H locs hP hD hS ls (lv_sub hl [1, 2, 3, 4, 0] rfl)
abbrev w_X0_shiftUp : List Cond := .code y_X0_shiftUp b_X0_shiftUp 5 (none) :: gw
set_option maxHeartbeats 800000 in
set_option maxRecDepth 100000 in
theorem c_X0_shiftUp {l : Launch} {D : va_G} {Rs : va_W} {cA cR cL : ClassId} {ro la cap wd : Nat → Nat} {F : Nat → Nat → Int32} (hw : rwOk cap wd) {i : Nat} (hi : i < 64) {bs : Nat} (hbs : bs ≤ 8192) : xC l y_X0_shiftUp w_X0_shiftUp ({ frames := 2, cells := 0, slots := 0, locals := 42 }) D cls0 (ty3 cA cR cL) [.ref (ro i), .int (nI bs)] (rw Rs cA ro la cap wd F) (none) (fun w => w = rw Rs cA ro la cap wd (gShu i (wd i) (bs / 32) (bs % 32) (wd i) F)) 0 0 := by
  refine xC.ofW (cc := b_X0_shiftUp) (maxL := 5) (ret := none) (by decide) rfl (Nat.le_of_ble_eq_true rfl) ?_
  intro p e s m below meth c A ls _ hin hx hb hr hml hown hts hlocks hA hK hP hD hS hl
  have hts : ∀ w ∈ gw, w.before ([.ref (ro i), .int (nI bs)]).toArray s = true := fun w h => hts w (List.mem_cons_of_mem _ h)
  have hown : s.vm.findClass R_Row = some m.cls := hown
  have hl : lv_has ls 5 [(0, .ref (ro i)), (1, .int (nI bs))] := hl
  have hwi := hw i hi
  refine lv_iload_n hx hb d_X0_shiftUp_0 rfl (lv_at hl 1 rfl) ?_
  refine lv_iconst (v := nI 5) hx hb d_X0_shiftUp_1 (by decide) ?_
  refine n_shr5 hx hb (by omega) d_X0_shiftUp_2 ?_
  refine lv_istore_n (lv' := [(2, .int (nI (bs / 32))), (0, .ref (ro i)), (1, .int (nI bs))]) hx hb d_X0_shiftUp_3 rfl hl (by decide) rfl (fun ls hl => ?_)
  refine lv_iload_n hx hb d_X0_shiftUp_4 rfl (lv_at hl 2 rfl) ?_
  refine lv_bipush (v := nI 31) hx hb d_X0_shiftUp_5 (by decide) ?_
  refine n_and31 hx hb (by omega) d_X0_shiftUp_7 ?_
  refine lv_istore_n (lv' := [(3, .int (nI (bs % 32))), (2, .int (nI (bs / 32))), (0, .ref (ro i)), (1, .int (nI bs))]) hx hb d_X0_shiftUp_8 rfl hl (by decide) rfl (fun ls hl => ?_)
  refine lv_aload_n hx hb d_X0_shiftUp_9 rfl (lv_at hl 2 rfl) ?_
  refine c_getW hx hb hts hown hK hP (i := i) hi d_X0_shiftUp_10 ?_
  refine lv_iconst (v := nI 1) hx hb d_X0_shiftUp_13 (by decide) ?_
  refine n_isub hx hb d_X0_shiftUp_14 (by omega) ?_
  refine lv_istore (lv' := [(4, .int (nI ((wd i) - 1))), (3, .int (nI (bs % 32))), (2, .int (nI (bs / 32))), (0, .ref (ro i)), (1, .int (nI bs))]) hx hb d_X0_shiftUp_15 hl (by decide) rfl (fun ls hl => ?_)
  rw [← nM_pred hwi.1] at hl
  exact lp_X0_shiftUp hx hb hr hml hown hts hlocks hA hK hw hi (wd i) F (Nat.le_refl _) _ _ hP hD hS ls (lv_sub hl [3, 4, 2, 1, 0] rfl)
end
section
set_option maxHeartbeats 800000 in
set_option maxRecDepth 100000 in
theorem lp_X0_divideLimb {p : Program} {l : Launch} {e : Env} {s : State} {m : MethodId} {args : Array Value} {below : List Frame} {meth : Method} {c : Code} {D : va_G} {Rs : va_W} {cA cR cL : ClassId} {ro la cap wd : Nat → Nat} {A : Nat → Prop} (hx : p.tables.exec = Jvm.exec) (hb : c.code = b_X0_divideLimb) (hr : meth.sig.returnType = some .long) (hml : c.maxLocals = 10) (hown : s.vm.findClass R_Row = some m.cls) (hts : ∀ w ∈ gw, w.before args s = true) (hlocks : meth.locks = false) (hA : ∀ q : Nat, s.heap.size ≤ q → A q) (hK : va_K D cls0 (ty3 cA cR cL) s) (hw : rwOk cap wd) {i k : Nat} (hi : i < 64) (hk : k < wd i) {ab d : Int64} : ∀ (n : Nat) (r : Int64) (q : Int32) (F : Nat → Nat → Int32), n ≤ 32 → ∀ (H : Heap) (locs : List Loc), va_P D cls0 (rw Rs cA ro la cap wd F) H → va_D A (rw Rs cA ro la cap wd F) → va_S A s.heap H locs → ∀ (ls : Array Slot), lv_has ls 10 [(0, .ref (ro i)), (1, .int (nI k)), (2, .long ab), (4, .long d), (6, .long r), (8, .int q), (9, .int (nM n))] → W p l e ({ frames := 0, cells := 0, slots := 0, locals := 0 }) s m args below meth c H locs 0 0 (MQ below (xQ (some (.long (gDl (F i k) d n r q).1)) (xB D cls0 A (fun w => w = rw Rs cA ro la cap wd (va_up F i (upd (F i) k (gDl (F i k) d n r q).2)))) A) args s 0 0 A) (F0 m 10 ls []) := by
  intro n
  induction n with
  | zero =>
    intro r q F hn H locs hP hD hS ls hl
    have hwi := hw i hi
    rw [nM_0] at hl
    refine lv_iload hx hb d_X0_divideLimb_10 (lv_at hl 6 rfl) ?_
    refine lv_if_lt (tgt := 67) hx hb d_X0_divideLimb_12 (by decide) (fun c_1 => ?_) (fun c_1 => ?_)
    rotate_left
    · exact absurd (by decide) c_1
    refine lv_aload_n hx hb d_X0_divideLimb_67 rfl (lv_at hl 0 rfl) ?_
    refine c_getL hx hb hts hown hK hP (i := i) hi d_X0_divideLimb_68 ?_
    refine lv_iload_n hx hb d_X0_divideLimb_71 rfl (lv_at hl 1 rfl) ?_
    refine lv_iload hx hb d_X0_divideLimb_72 (lv_at hl 5 rfl) ?_
    have hq_74 := hw i hi
    refine c_ast hx hb hK hP hD hS (i := i) (k := k) (x := q) hi (by omega) (by omega) d_X0_divideLimb_74 (fun H locs hP hD hS => ?_)
    refine lv_lload hx hb d_X0_divideLimb_75 (lv_at hl 4 rfl) ?_
    exact x_lret hx hb hr hlocks hP hD hS d_X0_divideLimb_77 rfl rfl
  | succ n ih =>
    intro r q F hn H locs hP hD hS ls hl
    rw [nM_succ] at hl
    have hwi := hw i hi
    refine lv_iload hx hb d_X0_divideLimb_10 (lv_at hl 6 rfl) ?_
    refine n_if_lt (tgt := 67) hx hb d_X0_divideLimb_12 (by decide) (by omega) ?_
    refine lv_lload hx hb d_X0_divideLimb_15 (lv_at hl 4 rfl) ?_
    refine lv_iconst (v := nI 1) hx hb d_X0_divideLimb_17 (by decide) ?_
    refine lv_lshl (v := j_ll r (nI 1)) hx hb d_X0_divideLimb_18 rfl ?_
    refine lv_aload_n hx hb d_X0_divideLimb_19 rfl (lv_at hl 0 rfl) ?_
    refine c_getL hx hb hts hown hK hP (i := i) hi d_X0_divideLimb_20 ?_
    refine lv_iload_n hx hb d_X0_divideLimb_23 rfl (lv_at hl 1 rfl) ?_
    have hq_24 := hw i hi
    refine c_ald hx hb hK hP (i := i) (k := k) hi (by omega) (by omega) d_X0_divideLimb_24 ?_
    refine lv_iload hx hb d_X0_divideLimb_25 (lv_at hl 6 rfl) ?_
    refine lv_iushr (v := j_iu (F i k) (nI n)) hx hb d_X0_divideLimb_27 rfl ?_
    refine lv_iconst (v := nI 1) hx hb d_X0_divideLimb_28 (by decide) ?_
    refine lv_iand hx hb d_X0_divideLimb_29 ?_
    refine lv_i2l (v := ((j_iu (F i k) (nI n)) &&& (nI 1)).toInt64) hx hb d_X0_divideLimb_30 rfl ?_
    refine lv_lor hx hb d_X0_divideLimb_31 ?_
    refine lv_lstore (lv' := [(6, .long (j_ll r (nI 1) ||| (j_iu (F i k) (nI n) &&& nI 1).toInt64)), (0, .ref (ro i)), (1, .int (nI k)), (2, .long ab), (4, .long d), (8, .int q), (9, .int (nI n))]) hx hb d_X0_divideLimb_32 hl (by decide) rfl (fun ls hl => ?_)
    refine lv_iload hx hb d_X0_divideLimb_34 (lv_at hl 5 rfl) ?_
    refine lv_iconst (v := nI 1) hx hb d_X0_divideLimb_36 (by decide) ?_
    refine lv_ishl hx hb d_X0_divideLimb_37 ?_
    refine lv_istore (lv' := [(8, .int (q <<< (nI 1 &&& 31))), (6, .long (j_ll r (nI 1) ||| (j_iu (F i k) (nI n) &&& nI 1).toInt64)), (0, .ref (ro i)), (1, .int (nI k)), (2, .long ab), (4, .long d), (9, .int (nI n))]) hx hb d_X0_divideLimb_38 hl (by decide) rfl (fun ls hl => ?_)
    refine lv_lload hx hb d_X0_divideLimb_40 (lv_at hl 1 rfl) ?_
    refine lv_lload hx hb d_X0_divideLimb_42 (lv_at hl 5 rfl) ?_
    refine W.lcmp hx hb d_X0_divideLimb_44 ?_
    refine lv_if_lt (tgt := 61) hx hb d_X0_divideLimb_45 (by decide) (fun c_1 => ?_) (fun c_1 => ?_)
    · refine n_idec (lv' := [(9, .int (nM n)), (8, .int (q <<< (nI 1 &&& 31))), (6, .long (j_ll r (nI 1) ||| (j_iu (F i k) (nI n) &&& nI 1).toInt64)), (0, .ref (ro i)), (1, .int (nI k)), (2, .long ab), (4, .long d)]) hx hb d_X0_divideLimb_61 hl (k := 6) rfl (by decide) rfl (fun ls hl => ?_)
      refine lv_goto (tgt := 10) hx hb d_X0_divideLimb_64 (by decide) ?_
      rw [show gDl (F i k) d (n + 1) r q = gDl (F i k) d n (j_ll r (nI 1) ||| (j_iu (F i k) (nI n) &&& nI 1).toInt64) (q <<< (nI 1 &&& 31)) from if_pos c_1]
      exact ih _ _ F (by omega) H locs hP hD hS ls (lv_sub hl [3, 4, 5, 6, 2, 1, 0] rfl)
    · refine lv_lload hx hb d_X0_divideLimb_48 (lv_at hl 1 rfl) ?_
      refine lv_lload hx hb d_X0_divideLimb_50 (lv_at hl 5 rfl) ?_
      refine lv_lsub hx hb d_X0_divideLimb_52 ?_
      refine lv_lstore (lv' := [(6, .long ((j_ll r (nI 1) ||| (j_iu (F i k) (nI n) &&& nI 1).toInt64) - d)), (8, .int (q <<< (nI 1 &&& 31))), (0, .ref (ro i)), (1, .int (nI k)), (2, .long ab), (4, .long d), (9, .int (nI n))]) hx hb d_X0_divideLimb_53 hl (by decide) rfl (fun ls hl => ?_)
      refine lv_iload hx hb d_X0_divideLimb_55 (lv_at hl 1 rfl) ?_
      refine lv_iconst (v := nI 1) hx hb d_X0_divideLimb_57 (by decide) ?_
      refine lv_ior hx hb d_X0_divideLimb_58 ?_
      refine lv_istore (lv' := [(8, .int (q <<< (nI 1 &&& 31) ||| nI 1)), (6, .long ((j_ll r (nI 1) ||| (j_iu (F i k) (nI n) &&& nI 1).toInt64) - d)), (0, .ref (ro i)), (1, .int (nI k)), (2, .long ab), (4, .long d), (9, .int (nI n))]) hx hb d_X0_divideLimb_59 hl (by decide) rfl (fun ls hl => ?_)
      refine n_idec (lv' := [(9, .int (nM n)), (8, .int (q <<< (nI 1 &&& 31) ||| nI 1)), (6, .long ((j_ll r (nI 1) ||| (j_iu (F i k) (nI n) &&& nI 1).toInt64) - d)), (0, .ref (ro i)), (1, .int (nI k)), (2, .long ab), (4, .long d)]) hx hb d_X0_divideLimb_61 hl (k := 6) rfl (by decide) rfl (fun ls hl => ?_)
      refine lv_goto (tgt := 10) hx hb d_X0_divideLimb_64 (by decide) ?_
      rw [show gDl (F i k) d (n + 1) r q = gDl (F i k) d n ((j_ll r (nI 1) ||| (j_iu (F i k) (nI n) &&& nI 1).toInt64) - d) (q <<< (nI 1 &&& 31) ||| nI 1) from if_neg c_1]
      exact ih _ _ F (by omega) H locs hP hD hS ls (lv_sub hl [3, 4, 5, 6, 2, 1, 0] rfl)
abbrev w_X0_divideLimb : List Cond := .code y_X0_divideLimb b_X0_divideLimb 10 (some .long) :: gw
set_option maxHeartbeats 800000 in
set_option maxRecDepth 100000 in
theorem c_X0_divideLimb {l : Launch} {D : va_G} {Rs : va_W} {cA cR cL : ClassId} {ro la cap wd : Nat → Nat} {F : Nat → Nat → Int32} (hw : rwOk cap wd) {i : Nat} (hi : i < 64) {k : Nat} (hk : k < wd i) (ab d : Int64) : xC l y_X0_divideLimb w_X0_divideLimb ({ frames := 0, cells := 0, slots := 0, locals := 0 }) D cls0 (ty3 cA cR cL) [.ref (ro i), .int (nI k), .long ab, .long d] (rw Rs cA ro la cap wd F) (some (.long (gDl (F i k) d 32 ab (nI 0)).1)) (fun w => w = rw Rs cA ro la cap wd (va_up F i (upd (F i) k (gDl (F i k) d 32 ab (nI 0)).2))) 0 0 := by
  refine xC.ofW (cc := b_X0_divideLimb) (maxL := 10) (ret := some .long) (by decide) rfl (Nat.le_of_ble_eq_true rfl) ?_
  intro p e s m below meth c A ls _ hin hx hb hr hml hown hts hlocks hA hK hP hD hS hl
  have hts : ∀ w ∈ gw, w.before ([.ref (ro i), .int (nI k), .long ab, .long d]).toArray s = true := fun w h => hts w (List.mem_cons_of_mem _ h)
  have hown : s.vm.findClass R_Row = some m.cls := hown
  have hl : lv_has ls 10 [(0, .ref (ro i)), (1, .int (nI k)), (2, .long ab), (4, .long d)] := hl
  have hwi := hw i hi
  refine lv_lload_n hx hb d_X0_divideLimb_0 rfl (lv_at hl 2 rfl) ?_
  refine lv_lstore (lv' := [(6, .long ab), (0, .ref (ro i)), (1, .int (nI k)), (2, .long ab), (4, .long d)]) hx hb d_X0_divideLimb_1 hl (by decide) rfl (fun ls hl => ?_)
  refine lv_iconst (v := nI 0) hx hb d_X0_divideLimb_3 (by decide) ?_
  refine lv_istore (lv' := [(8, .int (nI 0)), (6, .long ab), (0, .ref (ro i)), (1, .int (nI k)), (2, .long ab), (4, .long d)]) hx hb d_X0_divideLimb_4 hl (by decide) rfl (fun ls hl => ?_)
  refine lv_bipush (v := nI 31) hx hb d_X0_divideLimb_6 (by decide) ?_
  refine lv_istore (lv' := [(9, .int (nI 31)), (8, .int (nI 0)), (6, .long ab), (0, .ref (ro i)), (1, .int (nI k)), (2, .long ab), (4, .long d)]) hx hb d_X0_divideLimb_8 hl (by decide) rfl (fun ls hl => ?_)
  rw [show nI 31 = nM 32 from (nM_succ 31).symm] at hl
  exact lp_X0_divideLimb hx hb hr hml hown hts hlocks hA hK hw hi hk 32 ab (nI 0) F (Nat.le_refl _) _ _ hP hD hS ls (lv_sub hl [3, 4, 5, 6, 2, 1, 0] rfl)
set_option maxHeartbeats 800000 in
set_option maxRecDepth 100000 in
theorem lp_X0_divideLimbs {p : Program} {l : Launch} {e : Env} {s : State} {m : MethodId} {args : Array Value} {below : List Frame} {meth : Method} {c : Code} {D : va_G} {Rs : va_W} {cA cR cL : ClassId} {ro la cap wd : Nat → Nat} {A : Nat → Prop} (hx : p.tables.exec = Jvm.exec) (hb : c.code = b_X0_divideLimbs) (hr : meth.sig.returnType = some .long) (hml : c.maxLocals = 6) (hown : s.vm.findClass R_Row = some m.cls) (hts : ∀ w ∈ gw, w.before args s = true) (hlocks : meth.locks = false) (hA : ∀ q : Nat, s.heap.size ≤ q → A q) (hK : va_K D cls0 (ty3 cA cR cL) s) (hw : rwOk cap wd) {i : Nat} (hi : i < 64) {d : Int64} : ∀ (n : Nat) (r : Int64) (F : Nat → Nat → Int32), n ≤ wd i → ∀ (H : Heap) (locs : List Loc), va_P D cls0 (rw Rs cA ro la cap wd F) H → va_D A (rw Rs cA ro la cap wd F) → va_S A s.heap H locs → ∀ (ls : Array Slot), lv_has ls 6 [(0, .ref (ro i)), (1, .long d), (3, .long r), (5, .int (nM n))] → W p l e ({ frames := 1, cells := 0, slots := 0, locals := 29 }) s m args below meth c H locs 0 0 (MQ below (xQ (some (.long (rDv i d n r F))) (xB D cls0 A (fun w => w = rw Rs cA ro la cap wd (gDv i d n r F))) A) args s 0 0 A) (F0 m 10 ls []) := by
  intro n
  induction n with
  | zero =>
    intro r F hn H locs hP hD hS ls hl
    have hwi := hw i hi
    rw [nM_0] at hl
    refine lv_iload hx hb d_X0_divideLimbs_10 (lv_at hl 3 rfl) ?_
    refine lv_if_lt (tgt := 30) hx hb d_X0_divideLimbs_12 (by decide) (fun c_1 => ?_) (fun c_1 => ?_)
    rotate_left
    · exact absurd (by decide) c_1
    refine lv_lload_n hx hb d_X0_divideLimbs_30 rfl (lv_at hl 2 rfl) ?_
    exact x_lret hx hb hr hlocks hP hD hS d_X0_divideLimbs_31 rfl rfl
  | succ n ih =>
    intro r F hn H locs hP hD hS ls hl
    rw [nM_succ] at hl
    have hwi := hw i hi
    refine lv_iload hx hb d_X0_divideLimbs_10 (lv_at hl 3 rfl) ?_
    refine n_if_lt (tgt := 30) hx hb d_X0_divideLimbs_12 (by decide) (by omega) ?_
    refine lv_aload_n hx hb d_X0_divideLimbs_15 rfl (lv_at hl 0 rfl) ?_
    refine lv_iload hx hb d_X0_divideLimbs_16 (lv_at hl 3 rfl) ?_
    refine lv_lload_n hx hb d_X0_divideLimbs_18 rfl (lv_at hl 2 rfl) ?_
    refine lv_lload_n hx hb d_X0_divideLimbs_19 rfl (lv_at hl 1 rfl) ?_
    refine x_call (st1 := [.long ((gDl (F i n) d 32 r (nI 0)).1)]) (x_runV (As := [.int (nI n), .long r, .long d]) (rest := []) (nL := 6) ⟨hx, hb, hml, hown, hts⟩ (c_X0_divideLimb hw hi (k := n) (by omega) r d _) (cwV 3 hts (gw_V k_440 k_442 k_28 k_51 k_443) rfl rfl rfl (by decide +kernel) ⟨Nat.le_of_ble_eq_true rfl, Nat.le_of_ble_eq_true rfl⟩) hK hP hD _ 0 (rw_row hi) rfl rfl hl.1 rfl (Nat.le_of_ble_eq_true rfl) d_X0_divideLimbs_20 ⟨Nat.zero_le _, Nat.zero_le _⟩) hS (x_sub hD hS hA) (x_sub hD hS hA) rfl (fun w1 H locs hY hP hD hS => ?_)
    subst hY
    refine lv_lstore_n (lv' := [(3, .long ((gDl (F i n) d 32 r (nI 0)).1)), (0, .ref (ro i)), (1, .long d), (5, .int (nI n))]) hx hb d_X0_divideLimbs_23 rfl hl (by decide) rfl (fun ls hl => ?_)
    refine n_idec (lv' := [(5, .int (nM n)), (3, .long ((gDl (F i n) d 32 r (nI 0)).1)), (0, .ref (ro i)), (1, .long d)]) hx hb d_X0_divideLimbs_24 hl (k := 3) rfl (by decide) rfl (fun ls hl => ?_)
    refine lv_goto (tgt := 10) hx hb d_X0_divideLimbs_27 (by decide) ?_
    exact ih _ _ (by omega) H locs hP hD hS ls (lv_sub hl [2, 3, 1, 0] rfl)
abbrev w_X0_divideLimbs : List Cond := .code y_X0_divideLimbs b_X0_divideLimbs 6 (some .long) :: gw
set_option maxHeartbeats 800000 in
set_option maxRecDepth 100000 in
theorem c_X0_divideLimbs {l : Launch} {D : va_G} {Rs : va_W} {cA cR cL : ClassId} {ro la cap wd : Nat → Nat} {F : Nat → Nat → Int32} (hw : rwOk cap wd) {i : Nat} (hi : i < 64) (d : Int64) : xC l y_X0_divideLimbs w_X0_divideLimbs ({ frames := 1, cells := 0, slots := 0, locals := 29 }) D cls0 (ty3 cA cR cL) [.ref (ro i), .long d] (rw Rs cA ro la cap wd F) (some (.long (rDv i d (wd i) 0 F))) (fun w => w = rw Rs cA ro la cap wd (gDv i d (wd i) 0 F)) 0 0 := by
  refine xC.ofW (cc := b_X0_divideLimbs) (maxL := 6) (ret := some .long) (by decide) rfl (Nat.le_of_ble_eq_true rfl) ?_
  intro p e s m below meth c A ls _ hin hx hb hr hml hown hts hlocks hA hK hP hD hS hl
  have hts : ∀ w ∈ gw, w.before ([.ref (ro i), .long d]).toArray s = true := fun w h => hts w (List.mem_cons_of_mem _ h)
  have hown : s.vm.findClass R_Row = some m.cls := hown
  have hl : lv_has ls 6 [(0, .ref (ro i)), (1, .long d)] := hl
  have hwi := hw i hi
  refine lv_lconst (v := 0) hx hb d_X0_divideLimbs_0 (by decide) ?_
  refine lv_lstore_n (lv' := [(3, .long 0), (0, .ref (ro i)), (1, .long d)]) hx hb d_X0_divideLimbs_1 rfl hl (by decide) rfl (fun ls hl => ?_)
  refine lv_aload_n hx hb d_X0_divideLimbs_2 rfl (lv_at hl 1 rfl) ?_
  refine c_getW hx hb hts hown hK hP (i := i) hi d_X0_divideLimbs_3 ?_
  refine lv_iconst (v := nI 1) hx hb d_X0_divideLimbs_6 (by decide) ?_
  refine n_isub hx hb d_X0_divideLimbs_7 (by omega) ?_
  refine lv_istore (lv' := [(5, .int (nI ((wd i) - 1))), (3, .long 0), (0, .ref (ro i)), (1, .long d)]) hx hb d_X0_divideLimbs_8 hl (by decide) rfl (fun ls hl => ?_)
  rw [← nM_pred hwi.1] at hl
  exact lp_X0_divideLimbs hx hb hr hml hown hts hlocks hA hK hw hi (wd i) 0 F (Nat.le_refl _) _ _ hP hD hS ls (lv_sub hl [2, 3, 1, 0] rfl)
abbrev w_X0_divideBy : List Cond := .code y_X0_divideBy b_X0_divideBy 5 (some .long) :: gw
set_option maxHeartbeats 800000 in
set_option maxRecDepth 100000 in
theorem c_X0_divideBy {l : Launch} {D : va_G} {Rs : va_W} {cA cR cL : ClassId} {ro la cap wd : Nat → Nat} {F : Nat → Nat → Int32} (hw : rwOk cap wd) {i : Nat} (hi : i < 64) (d : Int64) : xC l y_X0_divideBy w_X0_divideBy ({ frames := 2, cells := 0, slots := 0, locals := 54 }) D cls0 (ty3 cA cR cL) [.ref (ro i), .long d] (rw Rs cA ro la cap wd F) (some (.long (rDivB i (wd i) d F))) (fun w => w = rw Rs cA ro la cap wd (gDivB i (wd i) d F)) 0 0 := by
  refine xC.ofW (cc := b_X0_divideBy) (maxL := 5) (ret := some .long) (by decide) rfl (Nat.le_of_ble_eq_true rfl) ?_
  intro p e s m below meth c A ls _ hin hx hb hr hml hown hts hlocks hA hK hP hD hS hl
  have hts : ∀ w ∈ gw, w.before ([.ref (ro i), .long d]).toArray s = true := fun w h => hts w (List.mem_cons_of_mem _ h)
  have hown : s.vm.findClass R_Row = some m.cls := hown
  have hl : lv_has ls 5 [(0, .ref (ro i)), (1, .long d)] := hl
  refine lv_aload_n hx hb d_X0_divideBy_0 rfl (lv_at hl 0 rfl) ?_
  refine x_callR (st1 := [.int (rNeg (wd i) (F i))]) (x_runV (As := []) (rest := []) (nL := 5) ⟨hx, hb, hml, hown, hts⟩ (c_X0_isNegative hw hi _) (cwV 0 hts (gw_V k_284 k_286 k_10 k_51 k_287) rfl rfl rfl (by decide +kernel) ⟨Nat.le_of_ble_eq_true rfl, Nat.le_of_ble_eq_true rfl⟩) hK hP hD _ 0 (rw_row hi) rfl rfl hl.1 rfl (Nat.le_of_ble_eq_true rfl) d_X0_divideBy_1 ⟨Nat.zero_le _, Nat.zero_le _⟩) rfl ?_
  refine lv_if_ne (tgt := 13) hx hb d_X0_divideBy_4 (by decide) (fun c_1 => ?_) (fun c_1 => ?_)
  · refine lv_aload_n hx hb d_X0_divideBy_13 rfl (lv_at hl 0 rfl) ?_
    refine x_call (st1 := []) (x_runV (As := []) (rest := []) (nL := 5) ⟨hx, hb, hml, hown, hts⟩ (c_X0_complement hw hi _) (cwV 0 hts (gw_V k_339 k_341 k_16 k_51 k_342) rfl rfl rfl (by decide +kernel) ⟨Nat.le_of_ble_eq_true rfl, Nat.le_of_ble_eq_true rfl⟩) hK hP hD _ 0 (rw_row hi) rfl rfl hl.1 rfl (Nat.le_of_ble_eq_true rfl) d_X0_divideBy_14 ⟨Nat.zero_le _, Nat.zero_le _⟩) hS (x_sub hD hS hA) (x_sub hD hS hA) rfl (fun w1 H locs hY hP hD hS => ?_)
    subst hY
    refine lv_aload_n hx hb d_X0_divideBy_17 rfl (lv_at hl 0 rfl) ?_
    refine lv_lload_n hx hb d_X0_divideBy_18 rfl (lv_at hl 1 rfl) ?_
    refine x_call (st1 := [.long (rDv i d (wd i) 0 (gCpl i (wd i) 0 F))]) (x_runV (As := [.long d]) (rest := []) (nL := 5) ⟨hx, hb, hml, hown, hts⟩ (c_X0_divideLimbs hw hi d _) (cwV 1 hts (gw_V k_436 k_438 k_27 k_51 k_439) rfl rfl rfl (by decide +kernel) ⟨Nat.le_of_ble_eq_true rfl, Nat.le_of_ble_eq_true rfl⟩) hK hP hD _ 0 (rw_row hi) rfl rfl hl.1 rfl (Nat.le_of_ble_eq_true rfl) d_X0_divideBy_19 ⟨Nat.zero_le _, Nat.zero_le _⟩) hS (x_sub hD hS hA) (x_sub hD hS hA) rfl (fun w1 H locs hY hP hD hS => ?_)
    subst hY
    refine lv_lstore_n (lv' := [(3, .long (rDv i d (wd i) 0 (gCpl i (wd i) 0 F))), (0, .ref (ro i)), (1, .long d)]) hx hb d_X0_divideBy_22 rfl hl (by decide) rfl (fun ls hl => ?_)
    refine lv_aload_n hx hb d_X0_divideBy_23 rfl (lv_at hl 1 rfl) ?_
    refine x_call (st1 := []) (x_runV (As := []) (rest := []) (nL := 5) ⟨hx, hb, hml, hown, hts⟩ (c_X0_complement hw hi _) (cwV 0 hts (gw_V k_339 k_341 k_16 k_51 k_342) rfl rfl rfl (by decide +kernel) ⟨Nat.le_of_ble_eq_true rfl, Nat.le_of_ble_eq_true rfl⟩) hK hP hD _ 0 (rw_row hi) rfl rfl hl.1 rfl (Nat.le_of_ble_eq_true rfl) d_X0_divideBy_24 ⟨Nat.zero_le _, Nat.zero_le _⟩) hS (x_sub hD hS hA) (x_sub hD hS hA) rfl (fun w1 H locs hY hP hD hS => ?_)
    subst hY
    refine lv_lload_n hx hb d_X0_divideBy_27 rfl (lv_at hl 2 rfl) ?_
    refine lv_lconst (v := 1) hx hb d_X0_divideBy_28 (by decide) ?_
    refine lv_lsub hx hb d_X0_divideBy_29 ?_
    refine lv_lload_n hx hb d_X0_divideBy_30 rfl (lv_at hl 0 rfl) ?_
    refine lv_lsub hx hb d_X0_divideBy_31 ?_
    exact x_lret hx hb hr hlocks hP hD hS d_X0_divideBy_32 (by unfold rDivB; rw [if_neg c_1]) (by unfold gDivB; rw [if_neg c_1])
  · refine lv_aload_n hx hb d_X0_divideBy_7 rfl (lv_at hl 0 rfl) ?_
    refine lv_lload_n hx hb d_X0_divideBy_8 rfl (lv_at hl 1 rfl) ?_
    refine x_call (st1 := [.long (rDv i d (wd i) 0 F)]) (x_runV (As := [.long d]) (rest := []) (nL := 5) ⟨hx, hb, hml, hown, hts⟩ (c_X0_divideLimbs hw hi d _) (cwV 1 hts (gw_V k_436 k_438 k_27 k_51 k_439) rfl rfl rfl (by decide +kernel) ⟨Nat.le_of_ble_eq_true rfl, Nat.le_of_ble_eq_true rfl⟩) hK hP hD _ 0 (rw_row hi) rfl rfl hl.1 rfl (Nat.le_of_ble_eq_true rfl) d_X0_divideBy_9 ⟨Nat.zero_le _, Nat.zero_le _⟩) hS (x_sub hD hS hA) (x_sub hD hS hA) rfl (fun w1 H locs hY hP hD hS => ?_)
    subst hY
    exact x_lret hx hb hr hlocks hP hD hS d_X0_divideBy_12 (by unfold rDivB; rw [if_pos c_1]) (by unfold gDivB; rw [if_pos c_1])
end
section
theorem d_JI_numberOfLeadingZeros_0 : decode b_JI_numberOfLeadingZeros 0 = .ok (.iload_n 0, 1) := by decide +kernel
theorem d_JI_numberOfLeadingZeros_1 : decode b_JI_numberOfLeadingZeros 1 = .ok (.ifCond .gt 14, 3) := by decide +kernel
theorem d_JI_numberOfLeadingZeros_4 : decode b_JI_numberOfLeadingZeros 4 = .ok (.iload_n 0, 1) := by decide +kernel
theorem d_JI_numberOfLeadingZeros_5 : decode b_JI_numberOfLeadingZeros 5 = .ok (.ifCond .ne 8, 3) := by decide +kernel
theorem d_JI_numberOfLeadingZeros_8 : decode b_JI_numberOfLeadingZeros 8 = .ok (.bipush 32, 2) := by decide +kernel
theorem d_JI_numberOfLeadingZeros_10 : decode b_JI_numberOfLeadingZeros 10 = .ok (.goto 4, 3) := by decide +kernel
theorem d_JI_numberOfLeadingZeros_13 : decode b_JI_numberOfLeadingZeros 13 = .ok (.iconst 0, 1) := by decide +kernel
theorem d_JI_numberOfLeadingZeros_14 : decode b_JI_numberOfLeadingZeros 14 = .ok (.ireturn, 1) := by decide +kernel
theorem d_JI_numberOfLeadingZeros_15 : decode b_JI_numberOfLeadingZeros 15 = .ok (.bipush 31, 2) := by decide +kernel
theorem d_JI_numberOfLeadingZeros_17 : decode b_JI_numberOfLeadingZeros 17 = .ok (.istore_n 1, 1) := by decide +kernel
theorem d_JI_numberOfLeadingZeros_18 : decode b_JI_numberOfLeadingZeros 18 = .ok (.iload_n 0, 1) := by decide +kernel
theorem d_JI_numberOfLeadingZeros_19 : decode b_JI_numberOfLeadingZeros 19 = .ok (.ldc_w 264, 3) := by decide +kernel
theorem d_JI_numberOfLeadingZeros_22 : decode b_JI_numberOfLeadingZeros 22 = .ok (.if_icmp .lt 11, 3) := by decide +kernel
theorem d_JI_numberOfLeadingZeros_25 : decode b_JI_numberOfLeadingZeros 25 = .ok (.iinc 1 (-16), 3) := by decide +kernel
theorem d_JI_numberOfLeadingZeros_28 : decode b_JI_numberOfLeadingZeros 28 = .ok (.iload_n 0, 1) := by decide +kernel
theorem d_JI_numberOfLeadingZeros_29 : decode b_JI_numberOfLeadingZeros 29 = .ok (.bipush 16, 2) := by decide +kernel
theorem d_JI_numberOfLeadingZeros_31 : decode b_JI_numberOfLeadingZeros 31 = .ok (.iushr, 1) := by decide +kernel
theorem d_JI_numberOfLeadingZeros_32 : decode b_JI_numberOfLeadingZeros 32 = .ok (.istore_n 0, 1) := by decide +kernel
theorem d_JI_numberOfLeadingZeros_33 : decode b_JI_numberOfLeadingZeros 33 = .ok (.iload_n 0, 1) := by decide +kernel
theorem d_JI_numberOfLeadingZeros_34 : decode b_JI_numberOfLeadingZeros 34 = .ok (.sipush 256, 3) := by decide +kernel
theorem d_JI_numberOfLeadingZeros_37 : decode b_JI_numberOfLeadingZeros 37 = .ok (.if_icmp .lt 11, 3) := by decide +kernel
theorem d_JI_numberOfLeadingZeros_40 : decode b_JI_numberOfLeadingZeros 40 = .ok (.iinc 1 (-8), 3) := by decide +kernel
theorem d_JI_numberOfLeadingZeros_43 : decode b_JI_numberOfLeadingZeros 43 = .ok (.iload_n 0, 1) := by decide +kernel
theorem d_JI_numberOfLeadingZeros_44 : decode b_JI_numberOfLeadingZeros 44 = .ok (.bipush 8, 2) := by decide +kernel
theorem d_JI_numberOfLeadingZeros_46 : decode b_JI_numberOfLeadingZeros 46 = .ok (.iushr, 1) := by decide +kernel
theorem d_JI_numberOfLeadingZeros_47 : decode b_JI_numberOfLeadingZeros 47 = .ok (.istore_n 0, 1) := by decide +kernel
theorem d_JI_numberOfLeadingZeros_48 : decode b_JI_numberOfLeadingZeros 48 = .ok (.iload_n 0, 1) := by decide +kernel
theorem d_JI_numberOfLeadingZeros_49 : decode b_JI_numberOfLeadingZeros 49 = .ok (.bipush 16, 2) := by decide +kernel
theorem d_JI_numberOfLeadingZeros_51 : decode b_JI_numberOfLeadingZeros 51 = .ok (.if_icmp .lt 10, 3) := by decide +kernel
theorem d_JI_numberOfLeadingZeros_54 : decode b_JI_numberOfLeadingZeros 54 = .ok (.iinc 1 (-4), 3) := by decide +kernel
theorem d_JI_numberOfLeadingZeros_57 : decode b_JI_numberOfLeadingZeros 57 = .ok (.iload_n 0, 1) := by decide +kernel
theorem d_JI_numberOfLeadingZeros_58 : decode b_JI_numberOfLeadingZeros 58 = .ok (.iconst 4, 1) := by decide +kernel
theorem d_JI_numberOfLeadingZeros_59 : decode b_JI_numberOfLeadingZeros 59 = .ok (.iushr, 1) := by decide +kernel
theorem d_JI_numberOfLeadingZeros_60 : decode b_JI_numberOfLeadingZeros 60 = .ok (.istore_n 0, 1) := by decide +kernel
theorem d_JI_numberOfLeadingZeros_61 : decode b_JI_numberOfLeadingZeros 61 = .ok (.iload_n 0, 1) := by decide +kernel
theorem d_JI_numberOfLeadingZeros_62 : decode b_JI_numberOfLeadingZeros 62 = .ok (.iconst 4, 1) := by decide +kernel
theorem d_JI_numberOfLeadingZeros_63 : decode b_JI_numberOfLeadingZeros 63 = .ok (.if_icmp .lt 10, 3) := by decide +kernel
theorem d_JI_numberOfLeadingZeros_66 : decode b_JI_numberOfLeadingZeros 66 = .ok (.iinc 1 (-2), 3) := by decide +kernel
theorem d_JI_numberOfLeadingZeros_69 : decode b_JI_numberOfLeadingZeros 69 = .ok (.iload_n 0, 1) := by decide +kernel
theorem d_JI_numberOfLeadingZeros_70 : decode b_JI_numberOfLeadingZeros 70 = .ok (.iconst 2, 1) := by decide +kernel
theorem d_JI_numberOfLeadingZeros_71 : decode b_JI_numberOfLeadingZeros 71 = .ok (.iushr, 1) := by decide +kernel
theorem d_JI_numberOfLeadingZeros_72 : decode b_JI_numberOfLeadingZeros 72 = .ok (.istore_n 0, 1) := by decide +kernel
theorem d_JI_numberOfLeadingZeros_73 : decode b_JI_numberOfLeadingZeros 73 = .ok (.iload_n 1, 1) := by decide +kernel
theorem d_JI_numberOfLeadingZeros_74 : decode b_JI_numberOfLeadingZeros 74 = .ok (.iload_n 0, 1) := by decide +kernel
theorem d_JI_numberOfLeadingZeros_75 : decode b_JI_numberOfLeadingZeros 75 = .ok (.iconst 1, 1) := by decide +kernel
theorem d_JI_numberOfLeadingZeros_76 : decode b_JI_numberOfLeadingZeros 76 = .ok (.iushr, 1) := by decide +kernel
theorem d_JI_numberOfLeadingZeros_77 : decode b_JI_numberOfLeadingZeros 77 = .ok (.isub, 1) := by decide +kernel
theorem d_JI_numberOfLeadingZeros_78 : decode b_JI_numberOfLeadingZeros 78 = .ok (.ireturn, 1) := by decide +kernel
theorem d_JI_numberOfTrailingZeros_0 : decode b_JI_numberOfTrailingZeros 0 = .ok (.iload_n 0, 1) := by decide +kernel
theorem d_JI_numberOfTrailingZeros_1 : decode b_JI_numberOfTrailingZeros 1 = .ok (.iconst (-1), 1) := by decide +kernel
theorem d_JI_numberOfTrailingZeros_2 : decode b_JI_numberOfTrailingZeros 2 = .ok (.ixor, 1) := by decide +kernel
theorem d_JI_numberOfTrailingZeros_3 : decode b_JI_numberOfTrailingZeros 3 = .ok (.iload_n 0, 1) := by decide +kernel
theorem d_JI_numberOfTrailingZeros_4 : decode b_JI_numberOfTrailingZeros 4 = .ok (.iconst 1, 1) := by decide +kernel
theorem d_JI_numberOfTrailingZeros_5 : decode b_JI_numberOfTrailingZeros 5 = .ok (.isub, 1) := by decide +kernel
theorem d_JI_numberOfTrailingZeros_6 : decode b_JI_numberOfTrailingZeros 6 = .ok (.iand, 1) := by decide +kernel
theorem d_JI_numberOfTrailingZeros_7 : decode b_JI_numberOfTrailingZeros 7 = .ok (.istore_n 0, 1) := by decide +kernel
theorem d_JI_numberOfTrailingZeros_8 : decode b_JI_numberOfTrailingZeros 8 = .ok (.iload_n 0, 1) := by decide +kernel
theorem d_JI_numberOfTrailingZeros_9 : decode b_JI_numberOfTrailingZeros 9 = .ok (.ifCond .gt 8, 3) := by decide +kernel
theorem d_JI_numberOfTrailingZeros_12 : decode b_JI_numberOfTrailingZeros 12 = .ok (.iload_n 0, 1) := by decide +kernel
theorem d_JI_numberOfTrailingZeros_13 : decode b_JI_numberOfTrailingZeros 13 = .ok (.bipush 32, 2) := by decide +kernel
theorem d_JI_numberOfTrailingZeros_15 : decode b_JI_numberOfTrailingZeros 15 = .ok (.iand, 1) := by decide +kernel
theorem d_JI_numberOfTrailingZeros_16 : decode b_JI_numberOfTrailingZeros 16 = .ok (.ireturn, 1) := by decide +kernel
theorem d_JI_numberOfTrailingZeros_17 : decode b_JI_numberOfTrailingZeros 17 = .ok (.iconst 1, 1) := by decide +kernel
theorem d_JI_numberOfTrailingZeros_18 : decode b_JI_numberOfTrailingZeros 18 = .ok (.istore_n 1, 1) := by decide +kernel
theorem d_JI_numberOfTrailingZeros_19 : decode b_JI_numberOfTrailingZeros 19 = .ok (.iload_n 0, 1) := by decide +kernel
theorem d_JI_numberOfTrailingZeros_20 : decode b_JI_numberOfTrailingZeros 20 = .ok (.ldc_w 264, 3) := by decide +kernel
theorem d_JI_numberOfTrailingZeros_23 : decode b_JI_numberOfTrailingZeros 23 = .ok (.if_icmp .le 11, 3) := by decide +kernel
theorem d_JI_numberOfTrailingZeros_26 : decode b_JI_numberOfTrailingZeros 26 = .ok (.iinc 1 16, 3) := by decide +kernel
theorem d_JI_numberOfTrailingZeros_29 : decode b_JI_numberOfTrailingZeros 29 = .ok (.iload_n 0, 1) := by decide +kernel
theorem d_JI_numberOfTrailingZeros_30 : decode b_JI_numberOfTrailingZeros 30 = .ok (.bipush 16, 2) := by decide +kernel
theorem d_JI_numberOfTrailingZeros_32 : decode b_JI_numberOfTrailingZeros 32 = .ok (.iushr, 1) := by decide +kernel
theorem d_JI_numberOfTrailingZeros_33 : decode b_JI_numberOfTrailingZeros 33 = .ok (.istore_n 0, 1) := by decide +kernel
theorem d_JI_numberOfTrailingZeros_34 : decode b_JI_numberOfTrailingZeros 34 = .ok (.iload_n 0, 1) := by decide +kernel
theorem d_JI_numberOfTrailingZeros_35 : decode b_JI_numberOfTrailingZeros 35 = .ok (.sipush 256, 3) := by decide +kernel
theorem d_JI_numberOfTrailingZeros_38 : decode b_JI_numberOfTrailingZeros 38 = .ok (.if_icmp .le 11, 3) := by decide +kernel
theorem d_JI_numberOfTrailingZeros_41 : decode b_JI_numberOfTrailingZeros 41 = .ok (.iinc 1 8, 3) := by decide +kernel
theorem d_JI_numberOfTrailingZeros_44 : decode b_JI_numberOfTrailingZeros 44 = .ok (.iload_n 0, 1) := by decide +kernel
theorem d_JI_numberOfTrailingZeros_45 : decode b_JI_numberOfTrailingZeros 45 = .ok (.bipush 8, 2) := by decide +kernel
theorem d_JI_numberOfTrailingZeros_47 : decode b_JI_numberOfTrailingZeros 47 = .ok (.iushr, 1) := by decide +kernel
theorem d_JI_numberOfTrailingZeros_48 : decode b_JI_numberOfTrailingZeros 48 = .ok (.istore_n 0, 1) := by decide +kernel
theorem d_JI_numberOfTrailingZeros_49 : decode b_JI_numberOfTrailingZeros 49 = .ok (.iload_n 0, 1) := by decide +kernel
theorem d_JI_numberOfTrailingZeros_50 : decode b_JI_numberOfTrailingZeros 50 = .ok (.bipush 16, 2) := by decide +kernel
theorem d_JI_numberOfTrailingZeros_52 : decode b_JI_numberOfTrailingZeros 52 = .ok (.if_icmp .le 10, 3) := by decide +kernel
theorem d_JI_numberOfTrailingZeros_55 : decode b_JI_numberOfTrailingZeros 55 = .ok (.iinc 1 4, 3) := by decide +kernel
theorem d_JI_numberOfTrailingZeros_58 : decode b_JI_numberOfTrailingZeros 58 = .ok (.iload_n 0, 1) := by decide +kernel
theorem d_JI_numberOfTrailingZeros_59 : decode b_JI_numberOfTrailingZeros 59 = .ok (.iconst 4, 1) := by decide +kernel
theorem d_JI_numberOfTrailingZeros_60 : decode b_JI_numberOfTrailingZeros 60 = .ok (.iushr, 1) := by decide +kernel
theorem d_JI_numberOfTrailingZeros_61 : decode b_JI_numberOfTrailingZeros 61 = .ok (.istore_n 0, 1) := by decide +kernel
theorem d_JI_numberOfTrailingZeros_62 : decode b_JI_numberOfTrailingZeros 62 = .ok (.iload_n 0, 1) := by decide +kernel
theorem d_JI_numberOfTrailingZeros_63 : decode b_JI_numberOfTrailingZeros 63 = .ok (.iconst 4, 1) := by decide +kernel
theorem d_JI_numberOfTrailingZeros_64 : decode b_JI_numberOfTrailingZeros 64 = .ok (.if_icmp .le 10, 3) := by decide +kernel
theorem d_JI_numberOfTrailingZeros_67 : decode b_JI_numberOfTrailingZeros 67 = .ok (.iinc 1 2, 3) := by decide +kernel
theorem d_JI_numberOfTrailingZeros_70 : decode b_JI_numberOfTrailingZeros 70 = .ok (.iload_n 0, 1) := by decide +kernel
theorem d_JI_numberOfTrailingZeros_71 : decode b_JI_numberOfTrailingZeros 71 = .ok (.iconst 2, 1) := by decide +kernel
theorem d_JI_numberOfTrailingZeros_72 : decode b_JI_numberOfTrailingZeros 72 = .ok (.iushr, 1) := by decide +kernel
theorem d_JI_numberOfTrailingZeros_73 : decode b_JI_numberOfTrailingZeros 73 = .ok (.istore_n 0, 1) := by decide +kernel
theorem d_JI_numberOfTrailingZeros_74 : decode b_JI_numberOfTrailingZeros 74 = .ok (.iload_n 1, 1) := by decide +kernel
theorem d_JI_numberOfTrailingZeros_75 : decode b_JI_numberOfTrailingZeros 75 = .ok (.iload_n 0, 1) := by decide +kernel
theorem d_JI_numberOfTrailingZeros_76 : decode b_JI_numberOfTrailingZeros 76 = .ok (.iconst 1, 1) := by decide +kernel
theorem d_JI_numberOfTrailingZeros_77 : decode b_JI_numberOfTrailingZeros 77 = .ok (.iushr, 1) := by decide +kernel
theorem d_JI_numberOfTrailingZeros_78 : decode b_JI_numberOfTrailingZeros 78 = .ok (.iadd, 1) := by decide +kernel
theorem d_JI_numberOfTrailingZeros_79 : decode b_JI_numberOfTrailingZeros 79 = .ok (.ireturn, 1) := by decide +kernel
theorem d_JL_compare_0 : decode b_JL_compare 0 = .ok (.lload_n 0, 1) := by decide +kernel
theorem d_JL_compare_1 : decode b_JL_compare 1 = .ok (.lload_n 2, 1) := by decide +kernel
theorem d_JL_compare_2 : decode b_JL_compare 2 = .ok (.lcmp, 1) := by decide +kernel
theorem d_JL_compare_3 : decode b_JL_compare 3 = .ok (.ifCond .ge 7, 3) := by decide +kernel
theorem d_JL_compare_6 : decode b_JL_compare 6 = .ok (.iconst (-1), 1) := by decide +kernel
theorem d_JL_compare_7 : decode b_JL_compare 7 = .ok (.goto 14, 3) := by decide +kernel
theorem d_JL_compare_10 : decode b_JL_compare 10 = .ok (.lload_n 0, 1) := by decide +kernel
theorem d_JL_compare_11 : decode b_JL_compare 11 = .ok (.lload_n 2, 1) := by decide +kernel
theorem d_JL_compare_12 : decode b_JL_compare 12 = .ok (.lcmp, 1) := by decide +kernel
theorem d_JL_compare_13 : decode b_JL_compare 13 = .ok (.ifCond .ne 7, 3) := by decide +kernel
theorem d_JL_compare_16 : decode b_JL_compare 16 = .ok (.iconst 0, 1) := by decide +kernel
theorem d_JL_compare_17 : decode b_JL_compare 17 = .ok (.goto 4, 3) := by decide +kernel
theorem d_JL_compare_20 : decode b_JL_compare 20 = .ok (.iconst 1, 1) := by decide +kernel
theorem d_JL_compare_21 : decode b_JL_compare 21 = .ok (.ireturn, 1) := by decide +kernel
/-! Integer.numberOfLeadingZeros, numberOfTrailingZeros, Long.compare: as their code does it -/
def jz4 (x n : Int32) : Int32 := n - j_iu x (nI 1)
def jz3 (x n : Int32) : Int32 := if x < nI 4 then jz4 x n else jz4 (j_iu x (nI 2)) (n + Int32.ofInt (-2))
def jz2 (x n : Int32) : Int32 := if x < nI 16 then jz3 x n else jz3 (j_iu x (nI 4)) (n + Int32.ofInt (-4))
def jz1 (x n : Int32) : Int32 := if x < nI 256 then jz2 x n else jz2 (j_iu x (nI 8)) (n + Int32.ofInt (-8))
def jz0 (x n : Int32) : Int32 := if x < 65536 then jz1 x n else jz1 (j_iu x (nI 16)) (n + Int32.ofInt (-16))
def jNlz (x : Int32) : Int32 := if 0 < x then jz0 x (nI 31) else if x = 0 then nI 32 else nI 0
def jt4 (x n : Int32) : Int32 := n + j_iu x (nI 1)
def jt3 (x n : Int32) : Int32 := if x ≤ nI 4 then jt4 x n else jt4 (j_iu x (nI 2)) (n + Int32.ofInt 2)
def jt2 (x n : Int32) : Int32 := if x ≤ nI 16 then jt3 x n else jt3 (j_iu x (nI 4)) (n + Int32.ofInt 4)
def jt1 (x n : Int32) : Int32 := if x ≤ nI 256 then jt2 x n else jt2 (j_iu x (nI 8)) (n + Int32.ofInt 8)
def jt0 (x n : Int32) : Int32 := if x ≤ 65536 then jt1 x n else jt1 (j_iu x (nI 16)) (n + Int32.ofInt 16)
def jNtz (x : Int32) : Int32 := if 0 < (x ^^^ (-1)) &&& (x - nI 1) then jt0 ((x ^^^ (-1)) &&& (x - nI 1)) (nI 1) else ((x ^^^ (-1)) &&& (x - nI 1)) &&& nI 32
def jCmp (x y : Int64) : Int32 := if 0 ≤ lg_cmp x y then (if lg_cmp x y = 0 then nI 0 else nI 1) else -1
theorem xR.ofWF {l : Launch} {y : MethodName} {ws ws' : List Cond} {rm : Room} {D : va_G} {cl : List vw_C} {tys : List (ClassId × FieldType)} {as : List Value} {w0 : va_W} {r : Option Value} {cc : ByteArray} {maxL : Nat} {ret : Option FieldType}
    (hy : plainFor y = true) (hw : ws = Cond.code y cc maxL ret :: ws') (hlen : (lg_sl as).length ≤ maxL)
    (body : ∀ (p : Program) (e : Env) (s : State) (m : MethodId) (below : List Frame) (meth : Method) (c : Code) (ls : Array Slot),
      p.tables.exec = Jvm.exec → c.code = cc → meth.sig.returnType = ret → c.maxLocals = maxL → s.vm.findClass y.cls = some m.cls → (∀ w ∈ ws, w.before as.toArray s = true) → meth.locks = false →
      va_K D cl tys s → va_P D cl w0 s.heap → lv_has ls maxL (lv_args 0 as) →
      W p l e rm s m as.toArray below meth c s.heap [] 0 0 (MQ below (xRQ r) as.toArray s 0 0 (fun _ => False)) (F0 m 0 ls [])) : xR l y ws rm D cl tys as w0 r := by
  intro sz
  refine va_MetF (cc := cc) (maxL := maxL) (ret := ret) hy hw ?_
  intro p e s m args below meth c s₁ B hml hv
  obtain ⟨rfl, rfl, hP, hK, hD0⟩ := hv
  have hl := lv_entry as (n := maxL) hlen
  rw [lg_entry_eq]
  generalize (lg_sl as ++ List.replicate (maxL - (lg_sl as).length) Slot.unset).toArray = ls at hl ⊢
  exact body p e s m below meth c ls B.exec B.bytes B.returns hml (findClass_of_methodNamed B.named) (atoms_spec (ws := ws) B.pre) B.notSynchronized hK hP hl
theorem gw_SW {own : String} {idx : Nat} {y : MethodName} {b : ByteArray} {n : Nat} {ret : Option FieldType} (h1 : Cond.methodLink own idx y ∈ gw) (h2 : Cond.static y ∈ gw) (h4 : Cond.initialized y.cls ∈ gw) (h5 : Cond.code y b n ret ∈ gw) : GoodIn gw (va_wsS own idx y (.code y b n ret :: gw)) := fun w hw => by
  unfold va_wsS at hw
  rcases List.mem_append.mp hw with h | h
  · simp only [List.mem_cons, List.not_mem_nil, or_false] at h
    rcases h with rfl | rfl | rfl
    · exact gw_good _ h1
    · exact gw_good _ h2
    · exact gw_good _ h4
  · exact gw_call h5 w h
set_option maxHeartbeats 800000 in
set_option maxRecDepth 100000 in
theorem js_JI_numberOfLeadingZeros_73 {p : Program} {l : Launch} {e : Env} {s : State} {m : MethodId} {args : Array Value} {below : List Frame} {meth : Method} {c : Code} (hx : p.tables.exec = Jvm.exec) (hb : c.code = b_JI_numberOfLeadingZeros) (hr : meth.sig.returnType = some .int) (hown : s.vm.findClass "java/lang/Integer" = some m.cls) (hts : ∀ w ∈ gw, w.before args s = true) (hlocks : meth.locks = false) (x n : Int32) (ls : Array Slot) (hl : lv_has ls 2 [(0, .int x), (1, .int n)]) : W p l e ({ frames := 0, cells := 0, slots := 0, locals := 0 }) s m args below meth c s.heap [] 0 0 (MQ below (xRQ (some (.int (jz4 x n)))) args s 0 0 (fun _ => False)) (F0 m 73 ls []) := by
  refine lv_iload_n hx hb d_JI_numberOfLeadingZeros_73 rfl (lv_at hl 1 rfl) ?_
  refine lv_iload_n hx hb d_JI_numberOfLeadingZeros_74 rfl (lv_at hl 0 rfl) ?_
  refine lv_iconst (v := nI 1) hx hb d_JI_numberOfLeadingZeros_75 (by decide) ?_
  refine lv_iushr (v := j_iu x (nI 1)) hx hb d_JI_numberOfLeadingZeros_76 rfl ?_
  refine lv_isub hx hb d_JI_numberOfLeadingZeros_77 ?_
  exact xr_iret hx hb hr hlocks d_JI_numberOfLeadingZeros_78 rfl
set_option maxHeartbeats 800000 in
set_option maxRecDepth 100000 in
theorem js_JI_numberOfLeadingZeros_61 {p : Program} {l : Launch} {e : Env} {s : State} {m : MethodId} {args : Array Value} {below : List Frame} {meth : Method} {c : Code} (hx : p.tables.exec = Jvm.exec) (hb : c.code = b_JI_numberOfLeadingZeros) (hr : meth.sig.returnType = some .int) (hown : s.vm.findClass "java/lang/Integer" = some m.cls) (hts : ∀ w ∈ gw, w.before args s = true) (hlocks : meth.locks = false) (x n : Int32) (ls : Array Slot) (hl : lv_has ls 2 [(0, .int x), (1, .int n)]) : W p l e ({ frames := 0, cells := 0, slots := 0, locals := 0 }) s m args below meth c s.heap [] 0 0 (MQ below (xRQ (some (.int (jz3 x n)))) args s 0 0 (fun _ => False)) (F0 m 61 ls []) := by
  refine lv_iload_n hx hb d_JI_numberOfLeadingZeros_61 rfl (lv_at hl 0 rfl) ?_
  refine lv_iconst (v := nI 4) hx hb d_JI_numberOfLeadingZeros_62 (by decide) ?_
  refine lv_icmp_lt (tgt := 73) hx hb d_JI_numberOfLeadingZeros_63 (by decide) (fun c_1 => ?_) (fun c_1 => ?_)
  · rw [show jz3 x n = jz4 x n from if_pos c_1]
    exact js_JI_numberOfLeadingZeros_73 hx hb hr hown hts hlocks _ _ ls (lv_sub hl [0, 1] rfl)
  · refine lv_iinc (v := n + Int32.ofInt (-2)) (lv' := [(1, .int (n + Int32.ofInt (-2))), (0, .int x)]) hx hb d_JI_numberOfLeadingZeros_66 hl (k := 1) rfl rfl (by decide) rfl (fun ls hl => ?_)
    refine lv_iload_n hx hb d_JI_numberOfLeadingZeros_69 rfl (lv_at hl 1 rfl) ?_
    refine lv_iconst (v := nI 2) hx hb d_JI_numberOfLeadingZeros_70 (by decide) ?_
    refine lv_iushr (v := j_iu x (nI 2)) hx hb d_JI_numberOfLeadingZeros_71 rfl ?_
    refine lv_istore_n (lv' := [(0, .int (j_iu x (nI 2))), (1, .int (n + Int32.ofInt (-2)))]) hx hb d_JI_numberOfLeadingZeros_72 rfl hl (by decide) rfl (fun ls hl => ?_)
    rw [show jz3 x n = jz4 (j_iu x (nI 2)) (n + Int32.ofInt (-2)) from if_neg c_1]
    exact js_JI_numberOfLeadingZeros_73 hx hb hr hown hts hlocks _ _ ls (lv_sub hl [0, 1] rfl)
set_option maxHeartbeats 800000 in
set_option maxRecDepth 100000 in
theorem js_JI_numberOfLeadingZeros_48 {p : Program} {l : Launch} {e : Env} {s : State} {m : MethodId} {args : Array Value} {below : List Frame} {meth : Method} {c : Code} (hx : p.tables.exec = Jvm.exec) (hb : c.code = b_JI_numberOfLeadingZeros) (hr : meth.sig.returnType = some .int) (hown : s.vm.findClass "java/lang/Integer" = some m.cls) (hts : ∀ w ∈ gw, w.before args s = true) (hlocks : meth.locks = false) (x n : Int32) (ls : Array Slot) (hl : lv_has ls 2 [(0, .int x), (1, .int n)]) : W p l e ({ frames := 0, cells := 0, slots := 0, locals := 0 }) s m args below meth c s.heap [] 0 0 (MQ below (xRQ (some (.int (jz2 x n)))) args s 0 0 (fun _ => False)) (F0 m 48 ls []) := by
  refine lv_iload_n hx hb d_JI_numberOfLeadingZeros_48 rfl (lv_at hl 0 rfl) ?_
  refine lv_bipush (v := nI 16) hx hb d_JI_numberOfLeadingZeros_49 (by decide) ?_
  refine lv_icmp_lt (tgt := 61) hx hb d_JI_numberOfLeadingZeros_51 (by decide) (fun c_1 => ?_) (fun c_1 => ?_)
  · rw [show jz2 x n = jz3 x n from if_pos c_1]
    exact js_JI_numberOfLeadingZeros_61 hx hb hr hown hts hlocks _ _ ls (lv_sub hl [0, 1] rfl)
  · refine lv_iinc (v := n + Int32.ofInt (-4)) (lv' := [(1, .int (n + Int32.ofInt (-4))), (0, .int x)]) hx hb d_JI_numberOfLeadingZeros_54 hl (k := 1) rfl rfl (by decide) rfl (fun ls hl => ?_)
    refine lv_iload_n hx hb d_JI_numberOfLeadingZeros_57 rfl (lv_at hl 1 rfl) ?_
    refine lv_iconst (v := nI 4) hx hb d_JI_numberOfLeadingZeros_58 (by decide) ?_
    refine lv_iushr (v := j_iu x (nI 4)) hx hb d_JI_numberOfLeadingZeros_59 rfl ?_
    refine lv_istore_n (lv' := [(0, .int (j_iu x (nI 4))), (1, .int (n + Int32.ofInt (-4)))]) hx hb d_JI_numberOfLeadingZeros_60 rfl hl (by decide) rfl (fun ls hl => ?_)
    rw [show jz2 x n = jz3 (j_iu x (nI 4)) (n + Int32.ofInt (-4)) from if_neg c_1]
    exact js_JI_numberOfLeadingZeros_61 hx hb hr hown hts hlocks _ _ ls (lv_sub hl [0, 1] rfl)
set_option maxHeartbeats 800000 in
set_option maxRecDepth 100000 in
theorem js_JI_numberOfLeadingZeros_33 {p : Program} {l : Launch} {e : Env} {s : State} {m : MethodId} {args : Array Value} {below : List Frame} {meth : Method} {c : Code} (hx : p.tables.exec = Jvm.exec) (hb : c.code = b_JI_numberOfLeadingZeros) (hr : meth.sig.returnType = some .int) (hown : s.vm.findClass "java/lang/Integer" = some m.cls) (hts : ∀ w ∈ gw, w.before args s = true) (hlocks : meth.locks = false) (x n : Int32) (ls : Array Slot) (hl : lv_has ls 2 [(0, .int x), (1, .int n)]) : W p l e ({ frames := 0, cells := 0, slots := 0, locals := 0 }) s m args below meth c s.heap [] 0 0 (MQ below (xRQ (some (.int (jz1 x n)))) args s 0 0 (fun _ => False)) (F0 m 33 ls []) := by
  refine lv_iload_n hx hb d_JI_numberOfLeadingZeros_33 rfl (lv_at hl 0 rfl) ?_
  refine lv_sipush (v := nI 256) hx hb d_JI_numberOfLeadingZeros_34 (by decide) ?_
  refine lv_icmp_lt (tgt := 48) hx hb d_JI_numberOfLeadingZeros_37 (by decide) (fun c_1 => ?_) (fun c_1 => ?_)
  · rw [show jz1 x n = jz2 x n from if_pos c_1]
    exact js_JI_numberOfLeadingZeros_48 hx hb hr hown hts hlocks _ _ ls (lv_sub hl [0, 1] rfl)
  · refine lv_iinc (v := n + Int32.ofInt (-8)) (lv' := [(1, .int (n + Int32.ofInt (-8))), (0, .int x)]) hx hb d_JI_numberOfLeadingZeros_40 hl (k := 1) rfl rfl (by decide) rfl (fun ls hl => ?_)
    refine lv_iload_n hx hb d_JI_numberOfLeadingZeros_43 rfl (lv_at hl 1 rfl) ?_
    refine lv_bipush (v := nI 8) hx hb d_JI_numberOfLeadingZeros_44 (by decide) ?_
    refine lv_iushr (v := j_iu x (nI 8)) hx hb d_JI_numberOfLeadingZeros_46 rfl ?_
    refine lv_istore_n (lv' := [(0, .int (j_iu x (nI 8))), (1, .int (n + Int32.ofInt (-8)))]) hx hb d_JI_numberOfLeadingZeros_47 rfl hl (by decide) rfl (fun ls hl => ?_)
    rw [show jz1 x n = jz2 (j_iu x (nI 8)) (n + Int32.ofInt (-8)) from if_neg c_1]
    exact js_JI_numberOfLeadingZeros_48 hx hb hr hown hts hlocks _ _ ls (lv_sub hl [0, 1] rfl)
set_option maxHeartbeats 800000 in
set_option maxRecDepth 100000 in
theorem js_JI_numberOfLeadingZeros_18 {p : Program} {l : Launch} {e : Env} {s : State} {m : MethodId} {args : Array Value} {below : List Frame} {meth : Method} {c : Code} (hx : p.tables.exec = Jvm.exec) (hb : c.code = b_JI_numberOfLeadingZeros) (hr : meth.sig.returnType = some .int) (hown : s.vm.findClass "java/lang/Integer" = some m.cls) (hts : ∀ w ∈ gw, w.before args s = true) (hlocks : meth.locks = false) (x n : Int32) (ls : Array Slot) (hl : lv_has ls 2 [(0, .int x), (1, .int n)]) : W p l e ({ frames := 0, cells := 0, slots := 0, locals := 0 }) s m args below meth c s.heap [] 0 0 (MQ below (xRQ (some (.int (jz0 x n)))) args s 0 0 (fun _ => False)) (F0 m 18 ls []) := by
  refine lv_iload_n hx hb d_JI_numberOfLeadingZeros_18 rfl (lv_at hl 0 rfl) ?_
  refine lv_ldcw (v := 65536) hx hb hown (hts (.constant "java/lang/Integer" 264 65536) k_321) d_JI_numberOfLeadingZeros_19 ?_
  refine lv_icmp_lt (tgt := 33) hx hb d_JI_numberOfLeadingZeros_22 (by decide) (fun c_1 => ?_) (fun c_1 => ?_)
  · rw [show jz0 x n = jz1 x n from if_pos c_1]
    exact js_JI_numberOfLeadingZeros_33 hx hb hr hown hts hlocks _ _ ls (lv_sub hl [0, 1] rfl)
  · refine lv_iinc (v := n + Int32.ofInt (-16)) (lv' := [(1, .int (n + Int32.ofInt (-16))), (0, .int x)]) hx hb d_JI_numberOfLeadingZeros_25 hl (k := 1) rfl rfl (by decide) rfl (fun ls hl => ?_)
    refine lv_iload_n hx hb d_JI_numberOfLeadingZeros_28 rfl (lv_at hl 1 rfl) ?_
    refine lv_bipush (v := nI 16) hx hb d_JI_numberOfLeadingZeros_29 (by decide) ?_
    refine lv_iushr (v := j_iu x (nI 16)) hx hb d_JI_numberOfLeadingZeros_31 rfl ?_
    refine lv_istore_n (lv' := [(0, .int (j_iu x (nI 16))), (1, .int (n + Int32.ofInt (-16)))]) hx hb d_JI_numberOfLeadingZeros_32 rfl hl (by decide) rfl (fun ls hl => ?_)
    rw [show jz0 x n = jz1 (j_iu x (nI 16)) (n + Int32.ofInt (-16)) from if_neg c_1]
    exact js_JI_numberOfLeadingZeros_33 hx hb hr hown hts hlocks _ _ ls (lv_sub hl [0, 1] rfl)
set_option maxHeartbeats 800000 in
set_option maxRecDepth 100000 in
theorem js_JI_numberOfTrailingZeros_74 {p : Program} {l : Launch} {e : Env} {s : State} {m : MethodId} {args : Array Value} {below : List Frame} {meth : Method} {c : Code} (hx : p.tables.exec = Jvm.exec) (hb : c.code = b_JI_numberOfTrailingZeros) (hr : meth.sig.returnType = some .int) (hown : s.vm.findClass "java/lang/Integer" = some m.cls) (hts : ∀ w ∈ gw, w.before args s = true) (hlocks : meth.locks = false) (x n : Int32) (ls : Array Slot) (hl : lv_has ls 2 [(0, .int x), (1, .int n)]) : W p l e ({ frames := 0, cells := 0, slots := 0, locals := 0 }) s m args below meth c s.heap [] 0 0 (MQ below (xRQ (some (.int (jt4 x n)))) args s 0 0 (fun _ => False)) (F0 m 74 ls []) := by
  refine lv_iload_n hx hb d_JI_numberOfTrailingZeros_74 rfl (lv_at hl 1 rfl) ?_
  refine lv_iload_n hx hb d_JI_numberOfTrailingZeros_75 rfl (lv_at hl 0 rfl) ?_
  refine lv_iconst (v := nI 1) hx hb d_JI_numberOfTrailingZeros_76 (by decide) ?_
  refine lv_iushr (v := j_iu x (nI 1)) hx hb d_JI_numberOfTrailingZeros_77 rfl ?_
  refine lv_iadd hx hb d_JI_numberOfTrailingZeros_78 ?_
  exact xr_iret hx hb hr hlocks d_JI_numberOfTrailingZeros_79 rfl
set_option maxHeartbeats 800000 in
set_option maxRecDepth 100000 in
theorem js_JI_numberOfTrailingZeros_62 {p : Program} {l : Launch} {e : Env} {s : State} {m : MethodId} {args : Array Value} {below : List Frame} {meth : Method} {c : Code} (hx : p.tables.exec = Jvm.exec) (hb : c.code = b_JI_numberOfTrailingZeros) (hr : meth.sig.returnType = some .int) (hown : s.vm.findClass "java/lang/Integer" = some m.cls) (hts : ∀ w ∈ gw, w.before args s = true) (hlocks : meth.locks = false) (x n : Int32) (ls : Array Slot) (hl : lv_has ls 2 [(0, .int x), (1, .int n)]) : W p l e ({ frames := 0, cells := 0, slots := 0, locals := 0 }) s m args below meth c s.heap [] 0 0 (MQ below (xRQ (some (.int (jt3 x n)))) args s 0 0 (fun _ => False)) (F0 m 62 ls []) := by
  refine lv_iload_n hx hb d_JI_numberOfTrailingZeros_62 rfl (lv_at hl 0 rfl) ?_
  refine lv_iconst (v := nI 4) hx hb d_JI_numberOfTrailingZeros_63 (by decide) ?_
  refine lv_icmp_le (tgt := 74) hx hb d_JI_numberOfTrailingZeros_64 (by decide) (fun c_1 => ?_) (fun c_1 => ?_)
  · rw [show jt3 x n = jt4 x n from if_pos c_1]
    exact js_JI_numberOfTrailingZeros_74 hx hb hr hown hts hlocks _ _ ls (lv_sub hl [0, 1] rfl)
  · refine lv_iinc (v := n + Int32.ofInt 2) (lv' := [(1, .int (n + Int32.ofInt 2)), (0, .int x)]) hx hb d_JI_numberOfTrailingZeros_67 hl (k := 1) rfl rfl (by decide) rfl (fun ls hl => ?_)
    refine lv_iload_n hx hb d_JI_numberOfTrailingZeros_70 rfl (lv_at hl 1 rfl) ?_
    refine lv_iconst (v := nI 2) hx hb d_JI_numberOfTrailingZeros_71 (by decide) ?_
    refine lv_iushr (v := j_iu x (nI 2)) hx hb d_JI_numberOfTrailingZeros_72 rfl ?_
    refine lv_istore_n (lv' := [(0, .int (j_iu x (nI 2))), (1, .int (n + Int32.ofInt 2))]) hx hb d_JI_numberOfTrailingZeros_73 rfl hl (by decide) rfl (fun ls hl => ?_)
    rw [show jt3 x n = jt4 (j_iu x (nI 2)) (n + Int32.ofInt 2) from if_neg c_1]
    exact js_JI_numberOfTrailingZeros_74 hx hb hr hown hts hlocks _ _ ls (lv_sub hl [0, 1] rfl)
set_option maxHeartbeats 800000 in
set_option maxRecDepth 100000 in
theorem js_JI_numberOfTrailingZeros_49 {p : Program} {l : Launch} {e : Env} {s : State} {m : MethodId} {args : Array Value} {below : List Frame} {meth : Method} {c : Code} (hx : p.tables.exec = Jvm.exec) (hb : c.code = b_JI_numberOfTrailingZeros) (hr : meth.sig.returnType = some .int) (hown : s.vm.findClass "java/lang/Integer" = some m.cls) (hts : ∀ w ∈ gw, w.before args s = true) (hlocks : meth.locks = false) (x n : Int32) (ls : Array Slot) (hl : lv_has ls 2 [(0, .int x), (1, .int n)]) : W p l e ({ frames := 0, cells := 0, slots := 0, locals := 0 }) s m args below meth c s.heap [] 0 0 (MQ below (xRQ (some (.int (jt2 x n)))) args s 0 0 (fun _ => False)) (F0 m 49 ls []) := by
  refine lv_iload_n hx hb d_JI_numberOfTrailingZeros_49 rfl (lv_at hl 0 rfl) ?_
  refine lv_bipush (v := nI 16) hx hb d_JI_numberOfTrailingZeros_50 (by decide) ?_
  refine lv_icmp_le (tgt := 62) hx hb d_JI_numberOfTrailingZeros_52 (by decide) (fun c_1 => ?_) (fun c_1 => ?_)
  · rw [show jt2 x n = jt3 x n from if_pos c_1]
    exact js_JI_numberOfTrailingZeros_62 hx hb hr hown hts hlocks _ _ ls (lv_sub hl [0, 1] rfl)
  · refine lv_iinc (v := n + Int32.ofInt 4) (lv' := [(1, .int (n + Int32.ofInt 4)), (0, .int x)]) hx hb d_JI_numberOfTrailingZeros_55 hl (k := 1) rfl rfl (by decide) rfl (fun ls hl => ?_)
    refine lv_iload_n hx hb d_JI_numberOfTrailingZeros_58 rfl (lv_at hl 1 rfl) ?_
    refine lv_iconst (v := nI 4) hx hb d_JI_numberOfTrailingZeros_59 (by decide) ?_
    refine lv_iushr (v := j_iu x (nI 4)) hx hb d_JI_numberOfTrailingZeros_60 rfl ?_
    refine lv_istore_n (lv' := [(0, .int (j_iu x (nI 4))), (1, .int (n + Int32.ofInt 4))]) hx hb d_JI_numberOfTrailingZeros_61 rfl hl (by decide) rfl (fun ls hl => ?_)
    rw [show jt2 x n = jt3 (j_iu x (nI 4)) (n + Int32.ofInt 4) from if_neg c_1]
    exact js_JI_numberOfTrailingZeros_62 hx hb hr hown hts hlocks _ _ ls (lv_sub hl [0, 1] rfl)
set_option maxHeartbeats 800000 in
set_option maxRecDepth 100000 in
theorem js_JI_numberOfTrailingZeros_34 {p : Program} {l : Launch} {e : Env} {s : State} {m : MethodId} {args : Array Value} {below : List Frame} {meth : Method} {c : Code} (hx : p.tables.exec = Jvm.exec) (hb : c.code = b_JI_numberOfTrailingZeros) (hr : meth.sig.returnType = some .int) (hown : s.vm.findClass "java/lang/Integer" = some m.cls) (hts : ∀ w ∈ gw, w.before args s = true) (hlocks : meth.locks = false) (x n : Int32) (ls : Array Slot) (hl : lv_has ls 2 [(0, .int x), (1, .int n)]) : W p l e ({ frames := 0, cells := 0, slots := 0, locals := 0 }) s m args below meth c s.heap [] 0 0 (MQ below (xRQ (some (.int (jt1 x n)))) args s 0 0 (fun _ => False)) (F0 m 34 ls []) := by
  refine lv_iload_n hx hb d_JI_numberOfTrailingZeros_34 rfl (lv_at hl 0 rfl) ?_
  refine lv_sipush (v := nI 256) hx hb d_JI_numberOfTrailingZeros_35 (by decide) ?_
  refine lv_icmp_le (tgt := 49) hx hb d_JI_numberOfTrailingZeros_38 (by decide) (fun c_1 => ?_) (fun c_1 => ?_)
  · rw [show jt1 x n = jt2 x n from if_pos c_1]
    exact js_JI_numberOfTrailingZeros_49 hx hb hr hown hts hlocks _ _ ls (lv_sub hl [0, 1] rfl)
  · refine lv_iinc (v := n + Int32.ofInt 8) (lv' := [(1, .int (n + Int32.ofInt 8)), (0, .int x)]) hx hb d_JI_numberOfTrailingZeros_41 hl (k := 1) rfl rfl (by decide) rfl (fun ls hl => ?_)
    refine lv_iload_n hx hb d_JI_numberOfTrailingZeros_44 rfl (lv_at hl 1 rfl) ?_
    refine lv_bipush (v := nI 8) hx hb d_JI_numberOfTrailingZeros_45 (by decide) ?_
    refine lv_iushr (v := j_iu x (nI 8)) hx hb d_JI_numberOfTrailingZeros_47 rfl ?_
    refine lv_istore_n (lv' := [(0, .int (j_iu x (nI 8))), (1, .int (n + Int32.ofInt 8))]) hx hb d_JI_numberOfTrailingZeros_48 rfl hl (by decide) rfl (fun ls hl => ?_)
    rw [show jt1 x n = jt2 (j_iu x (nI 8)) (n + Int32.ofInt 8) from if_neg c_1]
    exact js_JI_numberOfTrailingZeros_49 hx hb hr hown hts hlocks _ _ ls (lv_sub hl [0, 1] rfl)
set_option maxHeartbeats 800000 in
set_option maxRecDepth 100000 in
theorem js_JI_numberOfTrailingZeros_19 {p : Program} {l : Launch} {e : Env} {s : State} {m : MethodId} {args : Array Value} {below : List Frame} {meth : Method} {c : Code} (hx : p.tables.exec = Jvm.exec) (hb : c.code = b_JI_numberOfTrailingZeros) (hr : meth.sig.returnType = some .int) (hown : s.vm.findClass "java/lang/Integer" = some m.cls) (hts : ∀ w ∈ gw, w.before args s = true) (hlocks : meth.locks = false) (x n : Int32) (ls : Array Slot) (hl : lv_has ls 2 [(0, .int x), (1, .int n)]) : W p l e ({ frames := 0, cells := 0, slots := 0, locals := 0 }) s m args below meth c s.heap [] 0 0 (MQ below (xRQ (some (.int (jt0 x n)))) args s 0 0 (fun _ => False)) (F0 m 19 ls []) := by
  refine lv_iload_n hx hb d_JI_numberOfTrailingZeros_19 rfl (lv_at hl 0 rfl) ?_
  refine lv_ldcw (v := 65536) hx hb hown (hts (.constant "java/lang/Integer" 264 65536) k_321) d_JI_numberOfTrailingZeros_20 ?_
  refine lv_icmp_le (tgt := 34) hx hb d_JI_numberOfTrailingZeros_23 (by decide) (fun c_1 => ?_) (fun c_1 => ?_)
  · rw [show jt0 x n = jt1 x n from if_pos c_1]
    exact js_JI_numberOfTrailingZeros_34 hx hb hr hown hts hlocks _ _ ls (lv_sub hl [0, 1] rfl)
  · refine lv_iinc (v := n + Int32.ofInt 16) (lv' := [(1, .int (n + Int32.ofInt 16)), (0, .int x)]) hx hb d_JI_numberOfTrailingZeros_26 hl (k := 1) rfl rfl (by decide) rfl (fun ls hl => ?_)
    refine lv_iload_n hx hb d_JI_numberOfTrailingZeros_29 rfl (lv_at hl 1 rfl) ?_
    refine lv_bipush (v := nI 16) hx hb d_JI_numberOfTrailingZeros_30 (by decide) ?_
    refine lv_iushr (v := j_iu x (nI 16)) hx hb d_JI_numberOfTrailingZeros_32 rfl ?_
    refine lv_istore_n (lv' := [(0, .int (j_iu x (nI 16))), (1, .int (n + Int32.ofInt 16))]) hx hb d_JI_numberOfTrailingZeros_33 rfl hl (by decide) rfl (fun ls hl => ?_)
    rw [show jt0 x n = jt1 (j_iu x (nI 16)) (n + Int32.ofInt 16) from if_neg c_1]
    exact js_JI_numberOfTrailingZeros_34 hx hb hr hown hts hlocks _ _ ls (lv_sub hl [0, 1] rfl)
abbrev w_JI_numberOfLeadingZeros : List Cond := .code y_JI_numberOfLeadingZeros b_JI_numberOfLeadingZeros 2 (some .int) :: gw
set_option maxHeartbeats 800000 in
set_option maxRecDepth 100000 in
theorem c_JI_numberOfLeadingZeros {l : Launch} {D : va_G} {tys : List (ClassId × FieldType)} {w0 : va_W} (x : Int32) : xR l y_JI_numberOfLeadingZeros w_JI_numberOfLeadingZeros ({ frames := 0, cells := 0, slots := 0, locals := 0 }) D cls0 tys [.int x] w0 (some (.int (jNlz x))) := by
  refine xR.ofWF (cc := b_JI_numberOfLeadingZeros) (maxL := 2) (ret := some .int) (by decide +kernel) rfl (Nat.le_of_ble_eq_true rfl) ?_
  intro p e s m below meth c ls hx hb hr hml hown hts hlocks hK hP hl
  have hts : ∀ w ∈ gw, w.before ([.int x]).toArray s = true := fun w h => hts w (List.mem_cons_of_mem _ h)
  have hown : s.vm.findClass "java/lang/Integer" = some m.cls := hown
  have hl : lv_has ls 2 [(0, .int x)] := hl
  refine lv_iload_n hx hb d_JI_numberOfLeadingZeros_0 rfl (lv_at hl 0 rfl) ?_
  refine lv_if_gt (tgt := 15) hx hb d_JI_numberOfLeadingZeros_1 (by decide) (fun c_1 => ?_) (fun c_1 => ?_)
  · refine lv_bipush (v := nI 31) hx hb d_JI_numberOfLeadingZeros_15 (by decide) ?_
    refine lv_istore_n (lv' := [(1, .int (nI 31)), (0, .int x)]) hx hb d_JI_numberOfLeadingZeros_17 rfl hl (by decide) rfl (fun ls hl => ?_)
    rw [show jNlz x = jz0 x (nI 31) from if_pos c_1]
    exact js_JI_numberOfLeadingZeros_18 hx hb hr hown hts hlocks _ _ ls (lv_sub hl [1, 0] rfl)
  · refine lv_iload_n hx hb d_JI_numberOfLeadingZeros_4 rfl (lv_at hl 0 rfl) ?_
    refine lv_if_ne (tgt := 13) hx hb d_JI_numberOfLeadingZeros_5 (by decide) (fun c_2 => ?_) (fun c_2 => ?_)
    · refine lv_iconst (v := nI 0) hx hb d_JI_numberOfLeadingZeros_13 (by decide) ?_
      exact xr_iret hx hb hr hlocks d_JI_numberOfLeadingZeros_14 (by unfold jNlz; first | rw [if_neg (by assumption), if_pos (by assumption)] | rw [if_neg (by assumption), if_neg (by assumption)])
    · refine lv_bipush (v := nI 32) hx hb d_JI_numberOfLeadingZeros_8 (by decide) ?_
      refine lv_goto (tgt := 14) hx hb d_JI_numberOfLeadingZeros_10 (by decide) ?_
      exact xr_iret hx hb hr hlocks d_JI_numberOfLeadingZeros_14 (by unfold jNlz; first | rw [if_neg (by assumption), if_pos (by assumption)] | rw [if_neg (by assumption), if_neg (by assumption)])
abbrev w_JI_numberOfTrailingZeros : List Cond := .code y_JI_numberOfTrailingZeros b_JI_numberOfTrailingZeros 2 (some .int) :: gw
set_option maxHeartbeats 800000 in
set_option maxRecDepth 100000 in
theorem c_JI_numberOfTrailingZeros {l : Launch} {D : va_G} {tys : List (ClassId × FieldType)} {w0 : va_W} (x : Int32) : xR l y_JI_numberOfTrailingZeros w_JI_numberOfTrailingZeros ({ frames := 0, cells := 0, slots := 0, locals := 0 }) D cls0 tys [.int x] w0 (some (.int (jNtz x))) := by
  refine xR.ofWF (cc := b_JI_numberOfTrailingZeros) (maxL := 2) (ret := some .int) (by decide +kernel) rfl (Nat.le_of_ble_eq_true rfl) ?_
  intro p e s m below meth c ls hx hb hr hml hown hts hlocks hK hP hl
  have hts : ∀ w ∈ gw, w.before ([.int x]).toArray s = true := fun w h => hts w (List.mem_cons_of_mem _ h)
  have hown : s.vm.findClass "java/lang/Integer" = some m.cls := hown
  have hl : lv_has ls 2 [(0, .int x)] := hl
  refine lv_iload_n hx hb d_JI_numberOfTrailingZeros_0 rfl (lv_at hl 0 rfl) ?_
  refine lv_iconst (v := -1) hx hb d_JI_numberOfTrailingZeros_1 (by decide) ?_
  refine lv_ixor hx hb d_JI_numberOfTrailingZeros_2 ?_
  refine lv_iload_n hx hb d_JI_numberOfTrailingZeros_3 rfl (lv_at hl 0 rfl) ?_
  refine lv_iconst (v := nI 1) hx hb d_JI_numberOfTrailingZeros_4 (by decide) ?_
  refine lv_isub hx hb d_JI_numberOfTrailingZeros_5 ?_
  refine lv_iand hx hb d_JI_numberOfTrailingZeros_6 ?_
  refine lv_istore_n (lv' := [(0, .int ((x ^^^ (-1)) &&& (x - (nI 1))))]) hx hb d_JI_numberOfTrailingZeros_7 rfl hl (by decide) rfl (fun ls hl => ?_)
  refine lv_iload_n hx hb d_JI_numberOfTrailingZeros_8 rfl (lv_at hl 0 rfl) ?_
  refine lv_if_gt (tgt := 17) hx hb d_JI_numberOfTrailingZeros_9 (by decide) (fun c_1 => ?_) (fun c_1 => ?_)
  · refine lv_iconst (v := nI 1) hx hb d_JI_numberOfTrailingZeros_17 (by decide) ?_
    refine lv_istore_n (lv' := [(1, .int (nI 1)), (0, .int ((x ^^^ (-1)) &&& (x - (nI 1))))]) hx hb d_JI_numberOfTrailingZeros_18 rfl hl (by decide) rfl (fun ls hl => ?_)
    rw [show jNtz x = jt0 ((x ^^^ (-1)) &&& (x - nI 1)) (nI 1) from if_pos c_1]
    exact js_JI_numberOfTrailingZeros_19 hx hb hr hown hts hlocks _ _ ls (lv_sub hl [1, 0] rfl)
  · refine lv_iload_n hx hb d_JI_numberOfTrailingZeros_12 rfl (lv_at hl 0 rfl) ?_
    refine lv_bipush (v := nI 32) hx hb d_JI_numberOfTrailingZeros_13 (by decide) ?_
    refine lv_iand hx hb d_JI_numberOfTrailingZeros_15 ?_
    exact xr_iret hx hb hr hlocks d_JI_numberOfTrailingZeros_16 (by rw [show jNtz x = ((x ^^^ (-1)) &&& (x - nI 1)) &&& nI 32 from if_neg c_1])
abbrev w_JL_compare : List Cond := .code y_JL_compare b_JL_compare 4 (some .int) :: gw
set_option maxHeartbeats 800000 in
set_option maxRecDepth 100000 in
theorem c_JL_compare {l : Launch} {D : va_G} {tys : List (ClassId × FieldType)} {w0 : va_W} (x y : Int64) : xR l y_JL_compare w_JL_compare ({ frames := 0, cells := 0, slots := 0, locals := 0 }) D cls0 tys [.long x, .long y] w0 (some (.int (jCmp x y))) := by
  refine xR.ofWF (cc := b_JL_compare) (maxL := 4) (ret := some .int) (by decide +kernel) rfl (Nat.le_of_ble_eq_true rfl) ?_
  intro p e s m below meth c ls hx hb hr hml hown hts hlocks hK hP hl
  have hts : ∀ w ∈ gw, w.before ([.long x, .long y]).toArray s = true := fun w h => hts w (List.mem_cons_of_mem _ h)
  have hown : s.vm.findClass "java/lang/Long" = some m.cls := hown
  have hl : lv_has ls 4 [(0, .long x), (2, .long y)] := hl
  refine lv_lload_n hx hb d_JL_compare_0 rfl (lv_at hl 0 rfl) ?_
  refine lv_lload_n hx hb d_JL_compare_1 rfl (lv_at hl 1 rfl) ?_
  refine W.lcmp hx hb d_JL_compare_2 ?_
  refine lv_if_ge (tgt := 10) hx hb d_JL_compare_3 (by decide) (fun c_1 => ?_) (fun c_1 => ?_)
  · refine lv_lload_n hx hb d_JL_compare_10 rfl (lv_at hl 0 rfl) ?_
    refine lv_lload_n hx hb d_JL_compare_11 rfl (lv_at hl 1 rfl) ?_
    refine W.lcmp hx hb d_JL_compare_12 ?_
    refine lv_if_ne (tgt := 20) hx hb d_JL_compare_13 (by decide) (fun c_2 => ?_) (fun c_2 => ?_)
    · refine lv_iconst (v := nI 1) hx hb d_JL_compare_20 (by decide) ?_
      exact xr_iret hx hb hr hlocks d_JL_compare_21 (by unfold jCmp; first | rw [if_neg (by assumption)] | rw [if_pos (by assumption), if_pos (by assumption)] | rw [if_pos (by assumption), if_neg (by assumption)])
    · refine lv_iconst (v := nI 0) hx hb d_JL_compare_16 (by decide) ?_
      refine lv_goto (tgt := 21) hx hb d_JL_compare_17 (by decide) ?_
      exact xr_iret hx hb hr hlocks d_JL_compare_21 (by unfold jCmp; first | rw [if_neg (by assumption)] | rw [if_pos (by assumption), if_pos (by assumption)] | rw [if_pos (by assumption), if_neg (by assumption)])
  · refine lv_iconst (v := -1) hx hb d_JL_compare_6 (by decide) ?_
    refine lv_goto (tgt := 21) hx hb d_JL_compare_7 (by decide) ?_
    exact xr_iret hx hb hr hlocks d_JL_compare_21 (by unfold jCmp; first | rw [if_neg (by assumption)] | rw [if_pos (by assumption), if_pos (by assumption)] | rw [if_pos (by assumption), if_neg (by assumption)])
end
section
def rTzL (w : Nat) (f : Nat → Int32) : Nat → Nat → Int32
  | 0, _ => nI (32 * w)
  | n + 1, k => if f k = 0 then rTzL w f n (k + 1) else nI (32 * k) + jNtz (f k)
def rTz (w : Nat) (f : Nat → Int32) : Int32 := rTzL w f w 0
def rBlL (f : Nat → Int32) (a : Int32) : Nat → Int32
  | 0 => nI 0
  | n + 1 => if f n = a then rBlL f a n else nI (32 * n + 32) - jNlz (f n ^^^ a)
def rBl (w : Nat) (f : Nat → Int32) : Int32 := rBlL f (rAt w f (nI w)) w
def rOrdL (wi wj : Nat) (fi fj : Nat → Int32) : Nat → Int32
  | 0 => nI 0
  | n + 1 => if jCmp (rUn (rAt wi fi (nI n))) (rUn (rAt wj fj (nI n))) = 0 then rOrdL wi wj fi fj n else jCmp (rUn (rAt wi fi (nI n))) (rUn (rAt wj fj (nI n)))
def rOrd (wi wj : Nat) (fi fj : Nat → Int32) : Int32 := if rNeg wi fi = rNeg wj fj then rOrdL wi wj fi fj (max wi wj) else if rNeg wi fi = 0 then nI 1 else -1
def rUp (w : Nat) (f : Nat → Int32) (b : Nat) : Int32 := if b = 0 then nI 0 else if rBit w f (nI (b - 1)) = 0 then nI 0 else if rTz w f = nI (b - 1) then (if rBit w f (nI b) = nI 1 then nI 1 else nI 0) else nI 1
theorem n_max {a b : Nat} (ha : a < 2 ^ 31) (hb : b < 2 ^ 31) : (if nI a < nI b then nI b else nI a) = nI (max a b) := by
  by_cases h : a < b
  · rw [if_pos (nI_lt h hb), Nat.max_eq_right (by omega)]
  · rw [if_neg (nI_nlt (by omega) ha), Nat.max_eq_left (by omega)]
theorem n_min {a b : Nat} (ha : a < 2 ^ 31) (hb : b < 2 ^ 31) : (if nI b < nI a then nI b else nI a) = nI (min a b) := by
  by_cases h : b < a
  · rw [if_pos (nI_lt h ha), Nat.min_eq_right (by omega)]
  · rw [if_neg (nI_nlt (by omega) hb), Nat.min_eq_left (by omega)]
end
section
set_option maxHeartbeats 800000 in
set_option maxRecDepth 100000 in
theorem lp_X0_trailingZeros {p : Program} {l : Launch} {e : Env} {s : State} {m : MethodId} {args : Array Value} {below : List Frame} {meth : Method} {c : Code} {D : va_G} {Rs : va_W} {cA cR cL : ClassId} {ro la cap wd : Nat → Nat} {A : Nat → Prop} {F : Nat → Nat → Int32} (hx : p.tables.exec = Jvm.exec) (hb : c.code = b_X0_trailingZeros) (hr : meth.sig.returnType = some .int) (hml : c.maxLocals = 2) (hown : s.vm.findClass R_Row = some m.cls) (hts : ∀ w ∈ gw, w.before args s = true) (hlocks : meth.locks = false) (hA : ∀ q : Nat, s.heap.size ≤ q → A q) (hK : va_K D cls0 (ty3 cA cR cL) s) (hw : rwOk cap wd) {i : Nat} (hi : i < 64) (hP : va_P D cls0 (rw Rs cA ro la cap wd F) s.heap) (hD : va_D A (rw Rs cA ro la cap wd F)) : ∀ (n : Nat) (k : Nat), n = wd i - k → k < 1000 → ∀ (ls : Array Slot), lv_has ls 2 [(0, .ref (ro i)), (1, .int (nI k))] → W p l e ({ frames := 1, cells := 0, slots := 0, locals := 21 }) s m args below meth c s.heap [] 0 0 (MQ below (xRQ (some (.int (rTzL (wd i) (F i) n k)))) args s 0 0 (fun _ => False)) (F0 m 2 ls []) := by
  intro n
  induction n with
  | zero =>
    intro k hn hk ls hl
    have hwi := hw i hi
    refine lv_iload_n hx hb d_X0_trailingZeros_2 rfl (lv_at hl 1 rfl) ?_
    refine lv_aload_n hx hb d_X0_trailingZeros_3 rfl (lv_at hl 0 rfl) ?_
    refine c_getW hx hb hts hown hK hP (i := i) hi d_X0_trailingZeros_4 ?_
    refine n_icmp_ge (tgt := 40) hx hb d_X0_trailingZeros_7 (by decide) (by omega) (by omega) (fun c_1 => ?_) (fun c_1 => ?_)
    rotate_left
    · exact absurd c_1 (by omega)
    refine lv_bipush (v := nI 32) hx hb d_X0_trailingZeros_40 (by decide) ?_
    refine lv_aload_n hx hb d_X0_trailingZeros_42 rfl (lv_at hl 0 rfl) ?_
    refine c_getW hx hb hts hown hK hP (i := i) hi d_X0_trailingZeros_43 ?_
    refine n_imul hx hb d_X0_trailingZeros_46 ?_
    exact xr_iret hx hb hr hlocks d_X0_trailingZeros_47 rfl
  | succ n ih =>
    intro k hn hk ls hl
    have hwi := hw i hi
    refine lv_iload_n hx hb d_X0_trailingZeros_2 rfl (lv_at hl 1 rfl) ?_
    refine lv_aload_n hx hb d_X0_trailingZeros_3 rfl (lv_at hl 0 rfl) ?_
    refine c_getW hx hb hts hown hK hP (i := i) hi d_X0_trailingZeros_4 ?_
    refine n_icmp_ge (tgt := 40) hx hb d_X0_trailingZeros_7 (by decide) (by omega) (by omega) (fun c_1 => ?_) (fun c_1 => ?_)
    · exact absurd c_1 (by omega)
    refine lv_aload_n hx hb d_X0_trailingZeros_10 rfl (lv_at hl 0 rfl) ?_
    refine c_getL hx hb hts hown hK hP (i := i) hi d_X0_trailingZeros_11 ?_
    refine lv_iload_n hx hb d_X0_trailingZeros_14 rfl (lv_at hl 1 rfl) ?_
    have hq_15 := hw i hi
    refine c_ald hx hb hK hP (i := i) (k := k) hi (by omega) (by omega) d_X0_trailingZeros_15 ?_
    refine lv_if_eq (tgt := 34) hx hb d_X0_trailingZeros_16 (by decide) (fun c_2 => ?_) (fun c_2 => ?_)
    · refine n_iinc (lv' := [(1, .int (nI (k + 1))), (0, .ref (ro i))]) hx hb d_X0_trailingZeros_34 hl (k := 1) rfl (by decide) rfl (fun ls hl => ?_)
      refine lv_goto (tgt := 2) hx hb d_X0_trailingZeros_37 (by decide) ?_
      rw [show rTzL (wd i) (F i) (n + 1) k = rTzL (wd i) (F i) n (k + 1) from if_pos c_2]
      exact ih (k + 1) (by omega) (by omega) ls (lv_sub hl [1, 0] rfl)
    · refine lv_bipush (v := nI 32) hx hb d_X0_trailingZeros_19 (by decide) ?_
      refine lv_iload_n hx hb d_X0_trailingZeros_21 rfl (lv_at hl 1 rfl) ?_
      refine n_imul hx hb d_X0_trailingZeros_22 ?_
      refine lv_aload_n hx hb d_X0_trailingZeros_23 rfl (lv_at hl 0 rfl) ?_
      refine c_getL hx hb hts hown hK hP (i := i) hi d_X0_trailingZeros_24 ?_
      refine lv_iload_n hx hb d_X0_trailingZeros_27 rfl (lv_at hl 1 rfl) ?_
      have hq_28 := hw i hi
      refine c_ald hx hb hK hP (i := i) (k := k) hi (by omega) (by omega) d_X0_trailingZeros_28 ?_
      refine x_callR (st1 := [.int (jNtz (F i k)), .int (nI (32 * k))]) (x_runS (As := [.int (F i k)]) (rest := [.int (nI (32 * k))]) (nL := 2) ⟨hx, hb, hml, hown, hts⟩ (c_JI_numberOfTrailingZeros (F i k) _) (va_cwS 1 hts (gw_SW k_419 k_420 k_61 k_421) rfl rfl rfl (by decide +kernel) ⟨Nat.le_of_ble_eq_true rfl, Nat.le_of_ble_eq_true rfl⟩) hK hP hD rfl hl.1 rfl (Nat.le_of_ble_eq_true rfl) d_X0_trailingZeros_29 ⟨Nat.zero_le _, Nat.zero_le _⟩) rfl ?_
      refine lv_iadd hx hb d_X0_trailingZeros_32 ?_
      exact xr_iret hx hb hr hlocks d_X0_trailingZeros_33 (by rw [show rTzL (wd i) (F i) (n + 1) k = nI (32 * k) + jNtz (F i k) from if_neg c_2])
abbrev w_X0_trailingZeros : List Cond := .code y_X0_trailingZeros b_X0_trailingZeros 2 (some .int) :: gw
set_option maxHeartbeats 800000 in
set_option maxRecDepth 100000 in
theorem c_X0_trailingZeros {l : Launch} {D : va_G} {Rs : va_W} {cA cR cL : ClassId} {ro la cap wd : Nat → Nat} {F : Nat → Nat → Int32} (hw : rwOk cap wd) {i : Nat} (hi : i < 64) : xR l y_X0_trailingZeros w_X0_trailingZeros ({ frames := 1, cells := 0, slots := 0, locals := 21 }) D cls0 (ty3 cA cR cL) [.ref (ro i)] (rw Rs cA ro la cap wd F) (some (.int (rTz (wd i) (F i)))) := by
  refine xR.ofW (cc := b_X0_trailingZeros) (maxL := 2) (ret := some .int) (by decide) rfl (Nat.le_of_ble_eq_true rfl) ?_
  intro p e s m below meth c A ls _ hin hx hb hr hml hown hts hlocks hA hK hP hD hS hl
  have hts : ∀ w ∈ gw, w.before ([.ref (ro i)]).toArray s = true := fun w h => hts w (List.mem_cons_of_mem _ h)
  have hown : s.vm.findClass R_Row = some m.cls := hown
  have hl : lv_has ls 2 [(0, .ref (ro i))] := hl
  refine lv_iconst (v := nI 0) hx hb d_X0_trailingZeros_0 (by decide) ?_
  refine lv_istore_n (lv' := [(1, .int (nI 0)), (0, .ref (ro i))]) hx hb d_X0_trailingZeros_1 rfl hl (by decide) rfl (fun ls hl => ?_)
  exact lp_X0_trailingZeros hx hb hr hml hown hts hlocks hA hK hw hi hP hD (wd i) 0 rfl (by omega) ls (lv_sub hl [1, 0] rfl)
set_option maxHeartbeats 800000 in
set_option maxRecDepth 100000 in
theorem lp_X0_bitLength {p : Program} {l : Launch} {e : Env} {s : State} {m : MethodId} {args : Array Value} {below : List Frame} {meth : Method} {c : Code} {D : va_G} {Rs : va_W} {cA cR cL : ClassId} {ro la cap wd : Nat → Nat} {A : Nat → Prop} {F : Nat → Nat → Int32} (hx : p.tables.exec = Jvm.exec) (hb : c.code = b_X0_bitLength) (hr : meth.sig.returnType = some .int) (hml : c.maxLocals = 3) (hown : s.vm.findClass R_Row = some m.cls) (hts : ∀ w ∈ gw, w.before args s = true) (hlocks : meth.locks = false) (hA : ∀ q : Nat, s.heap.size ≤ q → A q) (hK : va_K D cls0 (ty3 cA cR cL) s) (hw : rwOk cap wd) {i : Nat} (hi : i < 64) {a : Int32} (hP : va_P D cls0 (rw Rs cA ro la cap wd F) s.heap) (hD : va_D A (rw Rs cA ro la cap wd F)) : ∀ (n : Nat), n ≤ wd i → ∀ (ls : Array Slot), lv_has ls 3 [(0, .ref (ro i)), (1, .int a), (2, .int (nM n))] → W p l e ({ frames := 1, cells := 0, slots := 0, locals := 21 }) s m args below meth c s.heap [] 0 0 (MQ below (xRQ (some (.int (rBlL (F i) a n)))) args s 0 0 (fun _ => False)) (F0 m 16 ls []) := by
  intro n
  induction n with
  | zero =>
    intro  hn ls hl
    have hwi := hw i hi
    rw [nM_0] at hl
    refine lv_iload_n hx hb d_X0_bitLength_16 rfl (lv_at hl 2 rfl) ?_
    refine lv_if_lt (tgt := 56) hx hb d_X0_bitLength_17 (by decide) (fun c_1 => ?_) (fun c_1 => ?_)
    rotate_left
    · exact absurd (by decide) c_1
    refine lv_iconst (v := nI 0) hx hb d_X0_bitLength_56 (by decide) ?_
    exact xr_iret hx hb hr hlocks d_X0_bitLength_57 rfl
  | succ n ih =>
    intro  hn ls hl
    rw [nM_succ] at hl
    have hwi := hw i hi
    refine lv_iload_n hx hb d_X0_bitLength_16 rfl (lv_at hl 2 rfl) ?_
    refine n_if_lt (tgt := 56) hx hb d_X0_bitLength_17 (by decide) (by omega) ?_
    refine lv_aload_n hx hb d_X0_bitLength_20 rfl (lv_at hl 0 rfl) ?_
    refine c_getL hx hb hts hown hK hP (i := i) hi d_X0_bitLength_21 ?_
    refine lv_iload_n hx hb d_X0_bitLength_24 rfl (lv_at hl 2 rfl) ?_
    have hq_25 := hw i hi
    refine c_ald hx hb hK hP (i := i) (k := n) hi (by omega) (by omega) d_X0_bitLength_25 ?_
    refine lv_iload_n hx hb d_X0_bitLength_26 rfl (lv_at hl 1 rfl) ?_
    refine lv_icmp_eq (tgt := 50) hx hb d_X0_bitLength_27 (by decide) (fun c_1 => ?_) (fun c_1 => ?_)
    · refine n_idec (lv' := [(2, .int (nM n)), (0, .ref (ro i)), (1, .int a)]) hx hb d_X0_bitLength_50 hl (k := 2) rfl (by decide) rfl (fun ls hl => ?_)
      refine lv_goto (tgt := 16) hx hb d_X0_bitLength_53 (by decide) ?_
      rw [show rBlL (F i) a (n + 1) = rBlL (F i) a n from if_pos c_1]
      exact ih (by omega) ls (lv_sub hl [1, 2, 0] rfl)
    · refine lv_bipush (v := nI 32) hx hb d_X0_bitLength_30 (by decide) ?_
      refine lv_iload_n hx hb d_X0_bitLength_32 rfl (lv_at hl 2 rfl) ?_
      refine n_imul hx hb d_X0_bitLength_33 ?_
      refine lv_bipush (v := nI 32) hx hb d_X0_bitLength_34 (by decide) ?_
      refine n_iadd hx hb d_X0_bitLength_36 ?_
      refine lv_aload_n hx hb d_X0_bitLength_37 rfl (lv_at hl 0 rfl) ?_
      refine c_getL hx hb hts hown hK hP (i := i) hi d_X0_bitLength_38 ?_
      refine lv_iload_n hx hb d_X0_bitLength_41 rfl (lv_at hl 2 rfl) ?_
      have hq_42 := hw i hi
      refine c_ald hx hb hK hP (i := i) (k := n) hi (by omega) (by omega) d_X0_bitLength_42 ?_
      refine lv_iload_n hx hb d_X0_bitLength_43 rfl (lv_at hl 1 rfl) ?_
      refine lv_ixor hx hb d_X0_bitLength_44 ?_
      refine x_callR (st1 := [.int (jNlz ((F i n) ^^^ a)), .int (nI ((32 * n) + 32))]) (x_runS (As := [.int ((F i n) ^^^ a)]) (rest := [.int (nI ((32 * n) + 32))]) (nL := 3) ⟨hx, hb, hml, hown, hts⟩ (c_JI_numberOfLeadingZeros ((F i n) ^^^ a) _) (va_cwS 1 hts (gw_SW k_318 k_319 k_61 k_320) rfl rfl rfl (by decide +kernel) ⟨Nat.le_of_ble_eq_true rfl, Nat.le_of_ble_eq_true rfl⟩) hK hP hD rfl hl.1 rfl (Nat.le_of_ble_eq_true rfl) d_X0_bitLength_45 ⟨Nat.zero_le _, Nat.zero_le _⟩) rfl ?_
      refine lv_isub hx hb d_X0_bitLength_48 ?_
      exact xr_iret hx hb hr hlocks d_X0_bitLength_49 (by rw [show rBlL (F i) a (n + 1) = nI (32 * n + 32) - jNlz (F i n ^^^ a) from if_neg c_1])
abbrev w_X0_bitLength : List Cond := .code y_X0_bitLength b_X0_bitLength 3 (some .int) :: gw
set_option maxHeartbeats 800000 in
set_option maxRecDepth 100000 in
theorem c_X0_bitLength {l : Launch} {D : va_G} {Rs : va_W} {cA cR cL : ClassId} {ro la cap wd : Nat → Nat} {F : Nat → Nat → Int32} (hw : rwOk cap wd) {i : Nat} (hi : i < 64) : xR l y_X0_bitLength w_X0_bitLength ({ frames := 1, cells := 0, slots := 0, locals := 21 }) D cls0 (ty3 cA cR cL) [.ref (ro i)] (rw Rs cA ro la cap wd F) (some (.int (rBl (wd i) (F i)))) := by
  refine xR.ofW (cc := b_X0_bitLength) (maxL := 3) (ret := some .int) (by decide) rfl (Nat.le_of_ble_eq_true rfl) ?_
  intro p e s m below meth c A ls _ hin hx hb hr hml hown hts hlocks hA hK hP hD hS hl
  have hts : ∀ w ∈ gw, w.before ([.ref (ro i)]).toArray s = true := fun w h => hts w (List.mem_cons_of_mem _ h)
  have hown : s.vm.findClass R_Row = some m.cls := hown
  have hl : lv_has ls 3 [(0, .ref (ro i))] := hl
  have hwi := hw i hi
  refine lv_aload_n hx hb d_X0_bitLength_0 rfl (lv_at hl 0 rfl) ?_
  refine lv_aload_n hx hb d_X0_bitLength_1 rfl (lv_at hl 0 rfl) ?_
  refine c_getW hx hb hts hown hK hP (i := i) hi d_X0_bitLength_2 ?_
  refine x_callR (st1 := [.int (rAt (wd i) (F i) (nI (wd i)))]) (x_runV (As := [.int (nI (wd i))]) (rest := []) (nL := 3) ⟨hx, hb, hml, hown, hts⟩ (c_X0_limbAt hw hi (nI (wd i)) _) (cwV 1 hts (gw_V k_196 k_198 k_4 k_51 k_199) rfl rfl rfl (by decide +kernel) ⟨Nat.le_of_ble_eq_true rfl, Nat.le_of_ble_eq_true rfl⟩) hK hP hD _ 0 (rw_row hi) rfl rfl hl.1 rfl (Nat.le_of_ble_eq_true rfl) d_X0_bitLength_5 ⟨Nat.zero_le _, Nat.zero_le _⟩) rfl ?_
  refine lv_istore_n (lv' := [(1, .int (rAt (wd i) (F i) (nI (wd i)))), (0, .ref (ro i))]) hx hb d_X0_bitLength_8 rfl hl (by decide) rfl (fun ls hl => ?_)
  refine lv_aload_n hx hb d_X0_bitLength_9 rfl (lv_at hl 1 rfl) ?_
  refine c_getW hx hb hts hown hK hP (i := i) hi d_X0_bitLength_10 ?_
  refine lv_iconst (v := nI 1) hx hb d_X0_bitLength_13 (by decide) ?_
  refine n_isub hx hb d_X0_bitLength_14 (by omega) ?_
  refine lv_istore_n (lv' := [(2, .int (nI ((wd i) - 1))), (1, .int (rAt (wd i) (F i) (nI (wd i)))), (0, .ref (ro i))]) hx hb d_X0_bitLength_15 rfl hl (by decide) rfl (fun ls hl => ?_)
  rw [← nM_pred hwi.1] at hl
  exact lp_X0_bitLength hx hb hr hml hown hts hlocks hA hK hw hi hP hD (wd i) (Nat.le_refl _) ls (lv_sub hl [2, 1, 0] rfl)
set_option maxHeartbeats 800000 in
set_option maxRecDepth 100000 in
theorem lp_X0_order {p : Program} {l : Launch} {e : Env} {s : State} {m : MethodId} {args : Array Value} {below : List Frame} {meth : Method} {c : Code} {D : va_G} {Rs : va_W} {cA cR cL : ClassId} {ro la cap wd : Nat → Nat} {A : Nat → Prop} {F : Nat → Nat → Int32} (hx : p.tables.exec = Jvm.exec) (hb : c.code = b_X0_order) (hr : meth.sig.returnType = some .int) (hml : c.maxLocals = 4) (hown : s.vm.findClass R_Row = some m.cls) (hts : ∀ w ∈ gw, w.before args s = true) (hlocks : meth.locks = false) (hA : ∀ q : Nat, s.heap.size ≤ q → A q) (hK : va_K D cls0 (ty3 cA cR cL) s) (hw : rwOk cap wd) {i j : Nat} (hi : i < 64) (hj : j < 64) (hP : va_P D cls0 (rw Rs cA ro la cap wd F) s.heap) (hD : va_D A (rw Rs cA ro la cap wd F)) : ∀ (n : Nat), n ≤ 256 → ∀ (ls : Array Slot), lv_has ls 4 [(0, .ref (ro i)), (1, .ref (ro j)), (2, .int (nM n))] → W p l e ({ frames := 1, cells := 0, slots := 0, locals := 23 }) s m args below meth c s.heap [] 0 0 (MQ below (xRQ (some (.int (rOrdL (wd i) (wd j) (F i) (F j) n)))) args s 0 0 (fun _ => False)) (F0 m 38 ls []) := by
  intro n
  induction n with
  | zero =>
    intro  hn ls hl
    have hwi := hw i hi
    rw [nM_0] at hl
    refine lv_iload_n hx hb d_X0_order_38 rfl (lv_at hl 2 rfl) ?_
    refine lv_if_lt (tgt := 74) hx hb d_X0_order_39 (by decide) (fun c_1 => ?_) (fun c_1 => ?_)
    rotate_left
    · exact absurd (by decide) c_1
    refine lv_iconst (v := nI 0) hx hb d_X0_order_74 (by decide) ?_
    exact xr_iret hx hb hr hlocks d_X0_order_75 rfl
  | succ n ih =>
    intro  hn ls hl
    rw [nM_succ] at hl
    have hwi := hw i hi
    refine lv_iload_n hx hb d_X0_order_38 rfl (lv_at hl 2 rfl) ?_
    refine n_if_lt (tgt := 74) hx hb d_X0_order_39 (by decide) (by omega) ?_
    refine lv_aload_n hx hb d_X0_order_42 rfl (lv_at hl 0 rfl) ?_
    refine lv_iload_n hx hb d_X0_order_43 rfl (lv_at hl 2 rfl) ?_
    refine x_callR (st1 := [.int (rAt (wd i) (F i) (nI n))]) (x_runV (As := [.int (nI n)]) (rest := []) (nL := 4) ⟨hx, hb, hml, hown, hts⟩ (c_X0_limbAt hw hi (nI n) _) (cwV 1 hts (gw_V k_196 k_198 k_4 k_51 k_199) rfl rfl rfl (by decide +kernel) ⟨Nat.le_of_ble_eq_true rfl, Nat.le_of_ble_eq_true rfl⟩) hK hP hD _ 0 (rw_row hi) rfl rfl hl.1 rfl (Nat.le_of_ble_eq_true rfl) d_X0_order_44 ⟨Nat.zero_le _, Nat.zero_le _⟩) rfl ?_
    refine x_callR (st1 := [.long (rUn (rAt (wd i) (F i) (nI n)))]) (x_runS (As := [.int (rAt (wd i) (F i) (nI n))]) (rest := []) (nL := 4) ⟨hx, hb, hml, hown, hts⟩ (c_X0_unsigned hw (rAt (wd i) (F i) (nI n)) _) (cwS 1 hts (gw_S k_276 k_277 k_51 k_278) rfl rfl rfl (by decide +kernel) ⟨Nat.le_of_ble_eq_true rfl, Nat.le_of_ble_eq_true rfl⟩) hK hP hD rfl hl.1 rfl (Nat.le_of_ble_eq_true rfl) d_X0_order_47 ⟨Nat.zero_le _, Nat.zero_le _⟩) rfl ?_
    refine lv_aload_n hx hb d_X0_order_50 rfl (lv_at hl 1 rfl) ?_
    refine lv_iload_n hx hb d_X0_order_51 rfl (lv_at hl 2 rfl) ?_
    refine x_callR (st1 := [.int (rAt (wd j) (F j) (nI n)), .long (rUn (rAt (wd i) (F i) (nI n)))]) (x_runV (As := [.int (nI n)]) (rest := [.long (rUn (rAt (wd i) (F i) (nI n)))]) (nL := 4) ⟨hx, hb, hml, hown, hts⟩ (c_X0_limbAt hw hj (nI n) _) (cwV 1 hts (gw_V k_196 k_198 k_4 k_51 k_199) rfl rfl rfl (by decide +kernel) ⟨Nat.le_of_ble_eq_true rfl, Nat.le_of_ble_eq_true rfl⟩) hK hP hD _ 0 (rw_row hj) rfl rfl hl.1 rfl (Nat.le_of_ble_eq_true rfl) d_X0_order_52 ⟨Nat.zero_le _, Nat.zero_le _⟩) rfl ?_
    refine x_callR (st1 := [.long (rUn (rAt (wd j) (F j) (nI n))), .long (rUn (rAt (wd i) (F i) (nI n)))]) (x_runS (As := [.int (rAt (wd j) (F j) (nI n))]) (rest := [.long (rUn (rAt (wd i) (F i) (nI n)))]) (nL := 4) ⟨hx, hb, hml, hown, hts⟩ (c_X0_unsigned hw (rAt (wd j) (F j) (nI n)) _) (cwS 1 hts (gw_S k_276 k_277 k_51 k_278) rfl rfl rfl (by decide +kernel) ⟨Nat.le_of_ble_eq_true rfl, Nat.le_of_ble_eq_true rfl⟩) hK hP hD rfl hl.1 rfl (Nat.le_of_ble_eq_true rfl) d_X0_order_55 ⟨Nat.zero_le _, Nat.zero_le _⟩) rfl ?_
    refine x_callR (st1 := [.int (jCmp (rUn (rAt (wd i) (F i) (nI n))) (rUn (rAt (wd j) (F j) (nI n))))]) (x_runS (As := [.long (rUn (rAt (wd i) (F i) (nI n))), .long (rUn (rAt (wd j) (F j) (nI n)))]) (rest := []) (nL := 4) ⟨hx, hb, hml, hown, hts⟩ (c_JL_compare (rUn (rAt (wd i) (F i) (nI n))) (rUn (rAt (wd j) (F j) (nI n))) _) (va_cwS 2 hts (gw_SW k_481 k_482 k_62 k_483) rfl rfl rfl (by decide +kernel) ⟨Nat.le_of_ble_eq_true rfl, Nat.le_of_ble_eq_true rfl⟩) hK hP hD rfl hl.1 rfl (Nat.le_of_ble_eq_true rfl) d_X0_order_58 ⟨Nat.zero_le _, Nat.zero_le _⟩) rfl ?_
    refine lv_istore_n (lv' := [(3, .int (jCmp (rUn (rAt (wd i) (F i) (nI n))) (rUn (rAt (wd j) (F j) (nI n))))), (0, .ref (ro i)), (1, .ref (ro j)), (2, .int (nI n))]) hx hb d_X0_order_61 rfl hl (by decide) rfl (fun ls hl => ?_)
    refine lv_iload_n hx hb d_X0_order_62 rfl (lv_at hl 0 rfl) ?_
    refine lv_if_eq (tgt := 68) hx hb d_X0_order_63 (by decide) (fun c_1 => ?_) (fun c_1 => ?_)
    · refine n_idec (lv' := [(2, .int (nM n)), (3, .int (jCmp (rUn (rAt (wd i) (F i) (nI n))) (rUn (rAt (wd j) (F j) (nI n))))), (0, .ref (ro i)), (1, .ref (ro j))]) hx hb d_X0_order_68 hl (k := 3) rfl (by decide) rfl (fun ls hl => ?_)
      refine lv_goto (tgt := 38) hx hb d_X0_order_71 (by decide) ?_
      rw [show rOrdL (wd i) (wd j) (F i) (F j) (n + 1) = rOrdL (wd i) (wd j) (F i) (F j) n from if_pos c_1]
      exact ih (by omega) ls (lv_sub hl [2, 3, 0] rfl)
    · refine lv_iload_n hx hb d_X0_order_66 rfl (lv_at hl 0 rfl) ?_
      exact xr_iret hx hb hr hlocks d_X0_order_67 (by rw [show rOrdL (wd i) (wd j) (F i) (F j) (n + 1) = jCmp (rUn (rAt (wd i) (F i) (nI n))) (rUn (rAt (wd j) (F j) (nI n))) from if_neg c_1])
abbrev w_X0_order : List Cond := .code y_X0_order b_X0_order 4 (some .int) :: gw
set_option maxHeartbeats 800000 in
set_option maxRecDepth 100000 in
theorem c_X0_order {l : Launch} {D : va_G} {Rs : va_W} {cA cR cL : ClassId} {ro la cap wd : Nat → Nat} {F : Nat → Nat → Int32} (hw : rwOk cap wd) {i j : Nat} (hi : i < 64) (hj : j < 64) : xR l y_X0_order w_X0_order ({ frames := 1, cells := 0, slots := 0, locals := 23 }) D cls0 (ty3 cA cR cL) [.ref (ro i), .ref (ro j)] (rw Rs cA ro la cap wd F) (some (.int (rOrd (wd i) (wd j) (F i) (F j)))) := by
  refine xR.ofW (cc := b_X0_order) (maxL := 4) (ret := some .int) (by decide) rfl (Nat.le_of_ble_eq_true rfl) ?_
  intro p e s m below meth c A ls _ hin hx hb hr hml hown hts hlocks hA hK hP hD hS hl
  have hts : ∀ w ∈ gw, w.before ([.ref (ro i), .ref (ro j)]).toArray s = true := fun w h => hts w (List.mem_cons_of_mem _ h)
  have hown : s.vm.findClass R_Row = some m.cls := hown
  have hl : lv_has ls 4 [(0, .ref (ro i)), (1, .ref (ro j))] := hl
  have hwi := hw i hi
  have hwj := hw j hj
  refine lv_aload_n hx hb d_X0_order_0 rfl (lv_at hl 0 rfl) ?_
  refine x_callR (st1 := [.int (rNeg (wd i) (F i))]) (x_runV (As := []) (rest := []) (nL := 4) ⟨hx, hb, hml, hown, hts⟩ (c_X0_isNegative hw hi _) (cwV 0 hts (gw_V k_284 k_286 k_10 k_51 k_287) rfl rfl rfl (by decide +kernel) ⟨Nat.le_of_ble_eq_true rfl, Nat.le_of_ble_eq_true rfl⟩) hK hP hD _ 0 (rw_row hi) rfl rfl hl.1 rfl (Nat.le_of_ble_eq_true rfl) d_X0_order_1 ⟨Nat.zero_le _, Nat.zero_le _⟩) rfl ?_
  refine lv_aload_n hx hb d_X0_order_4 rfl (lv_at hl 1 rfl) ?_
  refine x_callR (st1 := [.int (rNeg (wd j) (F j)), .int (rNeg (wd i) (F i))]) (x_runV (As := []) (rest := [.int (rNeg (wd i) (F i))]) (nL := 4) ⟨hx, hb, hml, hown, hts⟩ (c_X0_isNegative hw hj _) (cwV 0 hts (gw_V k_284 k_286 k_10 k_51 k_287) rfl rfl rfl (by decide +kernel) ⟨Nat.le_of_ble_eq_true rfl, Nat.le_of_ble_eq_true rfl⟩) hK hP hD _ 0 (rw_row hj) rfl rfl hl.1 rfl (Nat.le_of_ble_eq_true rfl) d_X0_order_5 ⟨Nat.zero_le _, Nat.zero_le _⟩) rfl ?_
  refine lv_icmp_eq (tgt := 24) hx hb d_X0_order_8 (by decide) (fun c_1 => ?_) (fun c_1 => ?_)
  · refine lv_aload_n hx hb d_X0_order_24 rfl (lv_at hl 0 rfl) ?_
    refine c_getW hx hb hts hown hK hP (i := i) hi d_X0_order_25 ?_
    refine lv_aload_n hx hb d_X0_order_28 rfl (lv_at hl 1 rfl) ?_
    refine c_getW hx hb hts hown hK hP (i := j) hj d_X0_order_29 ?_
    refine va_mmax hx hb (hml.trans hl.1.symm) hown (hts _ (show Cond.methodLink "LimbRows$Row" 100 Lib.Math.max.name ∈ gw from k_478)) (hts _ (show Cond.static Lib.Math.max.name ∈ gw from k_479)) (hts _ k_59) (hts _ (show Cond.code Lib.Math.max.name Lib.Math.max.code 2 (some .int) ∈ gw from k_480)) (Nat.le_of_ble_eq_true rfl) (Nat.le_of_ble_eq_true rfl) (Nat.zero_le _) (Nat.zero_le _) d_X0_order_32 ?_
    rw [n_max (by omega) (by omega)]
    refine lv_iconst (v := nI 1) hx hb d_X0_order_35 (by decide) ?_
    refine n_isub hx hb d_X0_order_36 (by omega) ?_
    refine lv_istore_n (lv' := [(2, .int (nI ((max (wd i) (wd j)) - 1))), (0, .ref (ro i)), (1, .ref (ro j))]) hx hb d_X0_order_37 rfl hl (by decide) rfl (fun ls hl => ?_)
    rw [← nM_pred (show 1 ≤ max (wd i) (wd j) by omega)] at hl
    rw [show rOrd (wd i) (wd j) (F i) (F j) = rOrdL (wd i) (wd j) (F i) (F j) (max (wd i) (wd j)) from if_pos c_1]
    exact lp_X0_order hx hb hr hml hown hts hlocks hA hK hw hi hj hP hD (max (wd i) (wd j)) (by omega) ls (lv_sub hl [1, 2, 0] rfl)
  · refine lv_aload_n hx hb d_X0_order_11 rfl (lv_at hl 0 rfl) ?_
    refine x_callR (st1 := [.int (rNeg (wd i) (F i))]) (x_runV (As := []) (rest := []) (nL := 4) ⟨hx, hb, hml, hown, hts⟩ (c_X0_isNegative hw hi _) (cwV 0 hts (gw_V k_284 k_286 k_10 k_51 k_287) rfl rfl rfl (by decide +kernel) ⟨Nat.le_of_ble_eq_true rfl, Nat.le_of_ble_eq_true rfl⟩) hK hP hD _ 0 (rw_row hi) rfl rfl hl.1 rfl (Nat.le_of_ble_eq_true rfl) d_X0_order_12 ⟨Nat.zero_le _, Nat.zero_le _⟩) rfl ?_
    refine lv_if_eq (tgt := 22) hx hb d_X0_order_15 (by decide) (fun c_2 => ?_) (fun c_2 => ?_)
    · refine lv_iconst (v := nI 1) hx hb d_X0_order_22 (by decide) ?_
      exact xr_iret hx hb hr hlocks d_X0_order_23 (by unfold rOrd; first | rw [if_neg (by assumption), if_pos (by assumption)] | rw [if_neg (by assumption), if_neg (by assumption)])
    · refine lv_iconst (v := -1) hx hb d_X0_order_18 (by decide) ?_
      refine lv_goto (tgt := 23) hx hb d_X0_order_19 (by decide) ?_
      exact xr_iret hx hb hr hlocks d_X0_order_23 (by unfold rOrd; first | rw [if_neg (by assumption), if_pos (by assumption)] | rw [if_neg (by assumption), if_neg (by assumption)])
abbrev w_X0_roundsUp : List Cond := .code y_X0_roundsUp b_X0_roundsUp 3 (some .boolean) :: gw
set_option maxHeartbeats 800000 in
set_option maxRecDepth 100000 in
theorem c_X0_roundsUp {l : Launch} {D : va_G} {Rs : va_W} {cA cR cL : ClassId} {ro la cap wd : Nat → Nat} {F : Nat → Nat → Int32} (hw : rwOk cap wd) {i : Nat} (hi : i < 64) {bs : Nat} (hbs : bs ≤ 8192) : xR l y_X0_roundsUp w_X0_roundsUp ({ frames := 2, cells := 0, slots := 0, locals := 42 }) D cls0 (ty3 cA cR cL) [.ref (ro i), .int (nI bs)] (rw Rs cA ro la cap wd F) (some (.int (rUp (wd i) (F i) bs))) := by
  refine xR.ofW (cc := b_X0_roundsUp) (maxL := 3) (ret := some .boolean) (by decide) rfl (Nat.le_of_ble_eq_true rfl) ?_
  intro p e s m below meth c A ls _ hin hx hb hr hml hown hts hlocks hA hK hP hD hS hl
  have hts : ∀ w ∈ gw, w.before ([.ref (ro i), .int (nI bs)]).toArray s = true := fun w h => hts w (List.mem_cons_of_mem _ h)
  have hown : s.vm.findClass R_Row = some m.cls := hown
  have hl : lv_has ls 3 [(0, .ref (ro i)), (1, .int (nI bs))] := hl
  refine lv_iload_n hx hb d_X0_roundsUp_0 rfl (lv_at hl 1 rfl) ?_
  refine n_if_eq (tgt := 14) hx hb d_X0_roundsUp_1 (by decide) (by omega) (fun c_1 => ?_) (fun c_1 => ?_)
  · refine lv_iconst (v := nI 0) hx hb d_X0_roundsUp_14 (by decide) ?_
    exact xr_zret hx hb hr hlocks d_X0_roundsUp_15 (by decide) (by unfold rUp; first | rw [if_pos (by assumption)] | rw [if_neg (by assumption), if_pos (by assumption)] | rw [if_neg (by assumption), if_neg (by assumption), if_neg (by assumption)] | rw [if_neg (by assumption), if_neg (by assumption), if_pos (by assumption), if_pos (by assumption)] | rw [if_neg (by assumption), if_neg (by assumption), if_pos (by assumption), if_neg (by assumption)])
  · refine lv_aload_n hx hb d_X0_roundsUp_4 rfl (lv_at hl 0 rfl) ?_
    refine lv_iload_n hx hb d_X0_roundsUp_5 rfl (lv_at hl 1 rfl) ?_
    refine lv_iconst (v := nI 1) hx hb d_X0_roundsUp_6 (by decide) ?_
    refine n_isub hx hb d_X0_roundsUp_7 (by omega) ?_
    refine x_callR (st1 := [.int (rBit (wd i) (F i) (nI (bs - 1)))]) (x_runV (As := [.int (nI (bs - 1))]) (rest := []) (nL := 3) ⟨hx, hb, hml, hown, hts⟩ (c_X0_bitAt hw hi (nI (bs - 1)) _) (cwV 1 hts (gw_V k_411 k_413 k_24 k_51 k_414) rfl rfl rfl (by decide +kernel) ⟨Nat.le_of_ble_eq_true rfl, Nat.le_of_ble_eq_true rfl⟩) hK hP hD _ 0 (rw_row hi) rfl rfl hl.1 rfl (Nat.le_of_ble_eq_true rfl) d_X0_roundsUp_8 ⟨Nat.zero_le _, Nat.zero_le _⟩) rfl ?_
    refine lv_if_ne (tgt := 16) hx hb d_X0_roundsUp_11 (by decide) (fun c_2 => ?_) (fun c_2 => ?_)
    · refine lv_aload_n hx hb d_X0_roundsUp_16 rfl (lv_at hl 0 rfl) ?_
      refine x_callR (st1 := [.int (rTz (wd i) (F i))]) (x_runV (As := []) (rest := []) (nL := 3) ⟨hx, hb, hml, hown, hts⟩ (c_X0_trailingZeros hw hi _) (cwV 0 hts (gw_V k_415 k_417 k_25 k_51 k_418) rfl rfl rfl (by decide +kernel) ⟨Nat.le_of_ble_eq_true rfl, Nat.le_of_ble_eq_true rfl⟩) hK hP hD _ 0 (rw_row hi) rfl rfl hl.1 rfl (Nat.le_of_ble_eq_true rfl) d_X0_roundsUp_17 ⟨Nat.zero_le _, Nat.zero_le _⟩) rfl ?_
      refine lv_iload_n hx hb d_X0_roundsUp_20 rfl (lv_at hl 1 rfl) ?_
      refine lv_iconst (v := nI 1) hx hb d_X0_roundsUp_21 (by decide) ?_
      refine n_isub hx hb d_X0_roundsUp_22 (by omega) ?_
      refine lv_icmp_ne (tgt := 30) hx hb d_X0_roundsUp_23 (by decide) (fun c_3 => ?_) (fun c_3 => ?_)
      · refine lv_iconst (v := nI 0) hx hb d_X0_roundsUp_30 (by decide) ?_
        refine lv_istore_n (lv' := [(2, .int (nI 0)), (0, .ref (ro i)), (1, .int (nI bs))]) hx hb d_X0_roundsUp_31 rfl hl (by decide) rfl (fun ls hl => ?_)
        refine lv_iload_n hx hb d_X0_roundsUp_32 rfl (lv_at hl 0 rfl) ?_
        refine n_if_eq (tgt := 45) hx hb d_X0_roundsUp_33 (by decide) (by omega) (fun _ => ?_) (fun c => absurd c (by decide))
        refine lv_iconst (v := nI 1) hx hb d_X0_roundsUp_45 (by decide) ?_
        refine lv_goto (tgt := 50) hx hb d_X0_roundsUp_46 (by decide) ?_
        exact xr_zret hx hb hr hlocks d_X0_roundsUp_50 (by decide) (by unfold rUp; first | rw [if_pos (by assumption)] | rw [if_neg (by assumption), if_pos (by assumption)] | rw [if_neg (by assumption), if_neg (by assumption), if_neg (by assumption)] | rw [if_neg (by assumption), if_neg (by assumption), if_pos (by assumption), if_pos (by assumption)] | rw [if_neg (by assumption), if_neg (by assumption), if_pos (by assumption), if_neg (by assumption)])
      · refine lv_iconst (v := nI 1) hx hb d_X0_roundsUp_26 (by decide) ?_
        refine lv_goto (tgt := 31) hx hb d_X0_roundsUp_27 (by decide) ?_
        refine lv_istore_n (lv' := [(2, .int (nI 1)), (0, .ref (ro i)), (1, .int (nI bs))]) hx hb d_X0_roundsUp_31 rfl hl (by decide) rfl (fun ls hl => ?_)
        refine lv_iload_n hx hb d_X0_roundsUp_32 rfl (lv_at hl 0 rfl) ?_
        refine n_if_eq (tgt := 45) hx hb d_X0_roundsUp_33 (by decide) (by omega) (fun c => absurd c (by decide)) (fun _ => ?_)
        refine lv_aload_n hx hb d_X0_roundsUp_36 rfl (lv_at hl 1 rfl) ?_
        refine lv_iload_n hx hb d_X0_roundsUp_37 rfl (lv_at hl 2 rfl) ?_
        refine x_callR (st1 := [.int (rBit (wd i) (F i) (nI bs))]) (x_runV (As := [.int (nI bs)]) (rest := []) (nL := 3) ⟨hx, hb, hml, hown, hts⟩ (c_X0_bitAt hw hi (nI bs) _) (cwV 1 hts (gw_V k_411 k_413 k_24 k_51 k_414) rfl rfl rfl (by decide +kernel) ⟨Nat.le_of_ble_eq_true rfl, Nat.le_of_ble_eq_true rfl⟩) hK hP hD _ 0 (rw_row hi) rfl rfl hl.1 rfl (Nat.le_of_ble_eq_true rfl) d_X0_roundsUp_38 ⟨Nat.zero_le _, Nat.zero_le _⟩) rfl ?_
        refine lv_iconst (v := nI 1) hx hb d_X0_roundsUp_41 (by decide) ?_
        refine lv_icmp_ne (tgt := 49) hx hb d_X0_roundsUp_42 (by decide) (fun c_4 => ?_) (fun c_4 => ?_)
        · refine lv_iconst (v := nI 0) hx hb d_X0_roundsUp_49 (by decide) ?_
          exact xr_zret hx hb hr hlocks d_X0_roundsUp_50 (by decide) (by unfold rUp; first | rw [if_pos (by assumption)] | rw [if_neg (by assumption), if_pos (by assumption)] | rw [if_neg (by assumption), if_neg (by assumption), if_neg (by assumption)] | rw [if_neg (by assumption), if_neg (by assumption), if_pos (by assumption), if_pos (by assumption)] | rw [if_neg (by assumption), if_neg (by assumption), if_pos (by assumption), if_neg (by assumption)])
        · refine lv_iconst (v := nI 1) hx hb d_X0_roundsUp_45 (by decide) ?_
          refine lv_goto (tgt := 50) hx hb d_X0_roundsUp_46 (by decide) ?_
          exact xr_zret hx hb hr hlocks d_X0_roundsUp_50 (by decide) (by unfold rUp; first | rw [if_pos (by assumption)] | rw [if_neg (by assumption), if_pos (by assumption)] | rw [if_neg (by assumption), if_neg (by assumption), if_neg (by assumption)] | rw [if_neg (by assumption), if_neg (by assumption), if_pos (by assumption), if_pos (by assumption)] | rw [if_neg (by assumption), if_neg (by assumption), if_pos (by assumption), if_neg (by assumption)])
    · refine lv_iconst (v := nI 0) hx hb d_X0_roundsUp_14 (by decide) ?_
      exact xr_zret hx hb hr hlocks d_X0_roundsUp_15 (by decide) (by unfold rUp; first | rw [if_pos (by assumption)] | rw [if_neg (by assumption), if_pos (by assumption)] | rw [if_neg (by assumption), if_neg (by assumption), if_neg (by assumption)] | rw [if_neg (by assumption), if_neg (by assumption), if_pos (by assumption), if_pos (by assumption)] | rw [if_neg (by assumption), if_neg (by assumption), if_pos (by assumption), if_neg (by assumption)])
end
section
def gPrL (i j u wi wu : Nat) : Nat → Nat → (Nat → Nat → Int32) → Nat → Nat → Int32
  | 0, _, F => F
  | n + 1, k, F => gPrL i j u wi wu n (k + 1) (gMul i u wu k (rUn (F j k)) (wi - k) k 0 F)
/-- t: the bit length of row j's number -/
def gPrM (i j u wi wu t : Nat) (F : Nat → Nat → Int32) : Nat → Nat → Int32 := gPrL i j u wi wu (min (t / 32 + 1) wi) 0 F
def gPr (i j u wi wj wu t : Nat) (F : Nat → Nat → Int32) : Nat → Nat → Int32 :=
  if rNeg wj (gPrM i j u wi wu t F j) = 0 then gPrM i j u wi wu t F else gAdd i u wu (t / 32 + 1) (-1) (wi - (t / 32 + 1)) (t / 32 + 1) (-1 &&& nI 1).toInt64 (gPrM i j u wi wu t F)
def gSPr (i j u wi wj wu t : Nat) (F : Nat → Nat → Int32) : Nat → Nat → Int32 := gCpl i wi 0 (gPr i j u wi wj wu t (gCpl i wi 0 F))
def gPrT (i u wi wj wu nd j : Nat) (F : Nat → Nat → Int32) : Nat → Nat → Int32 := if rNeg wj (F j) = 0 then F else gAdd i u wu nd (-1) (wi - nd) nd (-1 &&& nI 1).toInt64 F
set_option maxHeartbeats 800000 in
set_option maxRecDepth 100000 in
theorem lp_X0_addProductOf {p : Program} {l : Launch} {e : Env} {s : State} {m : MethodId} {args : Array Value} {below : List Frame} {meth : Method} {c : Code} {D : va_G} {Rs : va_W} {cA cR cL : ClassId} {ro la cap wd : Nat → Nat} {A : Nat → Prop} (hx : p.tables.exec = Jvm.exec) (hb : c.code = b_X0_addProductOf) (hr : meth.sig.returnType = none) (hml : c.maxLocals = 6) (hown : s.vm.findClass R_Row = some m.cls) (hts : ∀ w ∈ gw, w.before args s = true) (hlocks : meth.locks = false) (hA : ∀ q : Nat, s.heap.size ≤ q → A q) (hK : va_K D cls0 (ty3 cA cR cL) s) (hw : rwOk cap wd) {i j u nd us : Nat} (hi : i < 64) (hj : j < 64) (hu : u < 64) (hnd : nd < 1000) (hus : us ≤ wd i ∧ us ≤ wd j) : ∀ (n : Nat) (k : Nat) (F : Nat → Nat → Int32), n = us - k → k < 1000 → ∀ (H : Heap) (locs : List Loc), va_P D cls0 (rw Rs cA ro la cap wd F) H → va_D A (rw Rs cA ro la cap wd F) → va_S A s.heap H locs → ∀ (ls : Array Slot), lv_has ls 6 [(0, .ref (ro i)), (1, .ref (ro j)), (2, .ref (ro u)), (3, .int (nI nd)), (4, .int (nI us)), (5, .int (nI k))] → W p l e ({ frames := 3, cells := 0, slots := 0, locals := 71 }) s m args below meth c H locs 0 0 (MQ below (xQ (none) (xB D cls0 A (fun w => w = rw Rs cA ro la cap wd (gPrT i u (wd i) (wd j) (wd u) nd j (gPrL i j u (wd i) (wd u) n k F)))) A) args s 0 0 A) (F0 m 23 ls []) := by
  intro n
  induction n with
  | zero =>
    intro k F hn hk H locs hP hD hS ls hl
    have hwi := hw i hi
    have hwj := hw j hj
    refine lv_iload hx hb d_X0_addProductOf_23 (lv_at hl 5 rfl) ?_
    refine lv_iload hx hb d_X0_addProductOf_25 (lv_at hl 4 rfl) ?_
    refine n_icmp_ge (tgt := 53) hx hb d_X0_addProductOf_27 (by decide) (by omega) (by omega) (fun c_1 => ?_) (fun c_1 => ?_)
    rotate_left
    · exact absurd c_1 (by omega)
    refine lv_aload_n hx hb d_X0_addProductOf_53 rfl (lv_at hl 1 rfl) ?_
    refine x_callR (st1 := [.int (rNeg (wd j) (F j))]) (x_runV (As := []) (rest := []) (nL := 6) ⟨hx, hb, hml, hown, hts⟩ (c_X0_isNegative hw hj _) (cwV 0 hts (gw_V k_284 k_286 k_10 k_51 k_287) rfl rfl rfl (by decide +kernel) ⟨Nat.le_of_ble_eq_true rfl, Nat.le_of_ble_eq_true rfl⟩) hK hP hD _ 0 (rw_row hj) rfl rfl hl.1 rfl (Nat.le_of_ble_eq_true rfl) d_X0_addProductOf_54 ⟨Nat.zero_le _, Nat.zero_le _⟩) rfl ?_
    refine lv_if_eq (tgt := 66) hx hb d_X0_addProductOf_57 (by decide) (fun c_2 => ?_) (fun c_2 => ?_)
    · exact x_vret hx hb hr hlocks hP hD hS d_X0_addProductOf_66 rfl (congrArg (rw Rs cA ro la cap wd) (show _ = gPrT i u (wd i) (wd j) (wd u) nd j F from (if_pos c_2).symm))
    · refine lv_aload_n hx hb d_X0_addProductOf_60 rfl (lv_at hl 0 rfl) ?_
      refine lv_iload_n hx hb d_X0_addProductOf_61 rfl (lv_at hl 3 rfl) ?_
      refine lv_aload_n hx hb d_X0_addProductOf_62 rfl (lv_at hl 2 rfl) ?_
      refine x_call (st1 := []) (x_runV (As := [.int (nI nd), .ref (ro u)]) (rest := []) (nL := 6) ⟨hx, hb, hml, hown, hts⟩ (c_X0_subtractFrom hw hi hu (st := nd) (by omega) _) (cwV 2 hts (gw_V k_327 k_297 k_11 k_51 k_298) rfl rfl rfl (by decide +kernel) ⟨Nat.le_of_ble_eq_true rfl, Nat.le_of_ble_eq_true rfl⟩) hK hP hD _ 0 (rw_row hi) rfl rfl hl.1 rfl (Nat.le_of_ble_eq_true rfl) d_X0_addProductOf_63 ⟨Nat.zero_le _, Nat.zero_le _⟩) hS (x_sub hD hS hA) (x_sub hD hS hA) rfl (fun w1 H locs hY hP hD hS => ?_)
      subst hY
      exact x_vret hx hb hr hlocks hP hD hS d_X0_addProductOf_66 rfl (congrArg (rw Rs cA ro la cap wd) (show _ = gPrT i u (wd i) (wd j) (wd u) nd j F from (if_neg c_2).symm))
  | succ n ih =>
    intro k F hn hk H locs hP hD hS ls hl
    have hwi := hw i hi
    have hwj := hw j hj
    refine lv_iload hx hb d_X0_addProductOf_23 (lv_at hl 5 rfl) ?_
    refine lv_iload hx hb d_X0_addProductOf_25 (lv_at hl 4 rfl) ?_
    refine n_icmp_ge (tgt := 53) hx hb d_X0_addProductOf_27 (by decide) (by omega) (by omega) (fun c_1 => ?_) (fun c_1 => ?_)
    · exact absurd c_1 (by omega)
    refine lv_aload_n hx hb d_X0_addProductOf_30 rfl (lv_at hl 0 rfl) ?_
    refine lv_iload hx hb d_X0_addProductOf_31 (lv_at hl 5 rfl) ?_
    refine lv_aload_n hx hb d_X0_addProductOf_33 rfl (lv_at hl 1 rfl) ?_
    refine c_getL hx hb hts hown hK hP (i := j) hj d_X0_addProductOf_34 ?_
    refine lv_iload hx hb d_X0_addProductOf_37 (lv_at hl 5 rfl) ?_
    have hq_39 := hw j hj
    refine c_ald hx hb hK hP (i := j) (k := k) hj (by omega) (by omega) d_X0_addProductOf_39 ?_
    refine x_callR (st1 := [.long (rUn (F j k)), .int (nI k), .ref (ro i)]) (x_runS (As := [.int (F j k)]) (rest := [.int (nI k), .ref (ro i)]) (nL := 6) ⟨hx, hb, hml, hown, hts⟩ (c_X0_unsigned hw (F j k) _) (cwS 1 hts (gw_S k_276 k_277 k_51 k_278) rfl rfl rfl (by decide +kernel) ⟨Nat.le_of_ble_eq_true rfl, Nat.le_of_ble_eq_true rfl⟩) hK hP hD rfl hl.1 rfl (Nat.le_of_ble_eq_true rfl) d_X0_addProductOf_40 ⟨Nat.zero_le _, Nat.zero_le _⟩) rfl ?_
    refine lv_aload_n hx hb d_X0_addProductOf_43 rfl (lv_at hl 2 rfl) ?_
    refine x_call (st1 := []) (x_runV (As := [.int (nI k), .long (rUn (F j k)), .ref (ro u)]) (rest := []) (nL := 6) ⟨hx, hb, hml, hown, hts⟩ (c_X0_addMultiple hw hi hu (st := k) (by omega) (rUn (F j k)) _) (cwV 3 hts (gw_V k_323 k_325 k_14 k_51 k_326) rfl rfl rfl (by decide +kernel) ⟨Nat.le_of_ble_eq_true rfl, Nat.le_of_ble_eq_true rfl⟩) hK hP hD _ 0 (rw_row hi) rfl rfl hl.1 rfl (Nat.le_of_ble_eq_true rfl) d_X0_addProductOf_44 ⟨Nat.zero_le _, Nat.zero_le _⟩) hS (x_sub hD hS hA) (x_sub hD hS hA) rfl (fun w1 H locs hY hP hD hS => ?_)
    subst hY
    refine n_iinc (lv' := [(5, .int (nI (k + 1))), (0, .ref (ro i)), (1, .ref (ro j)), (2, .ref (ro u)), (3, .int (nI nd)), (4, .int (nI us))]) hx hb d_X0_addProductOf_47 hl (k := 5) rfl (by decide) rfl (fun ls hl => ?_)
    refine lv_goto (tgt := 23) hx hb d_X0_addProductOf_50 (by decide) ?_
    exact ih (k + 1) _ (by omega) (by omega) H locs hP hD hS ls (lv_sub hl [1, 2, 3, 4, 5, 0] rfl)
abbrev w_X0_addProductOf : List Cond := .code y_X0_addProductOf b_X0_addProductOf 6 (none) :: gw
set_option maxHeartbeats 800000 in
set_option maxRecDepth 100000 in
theorem c_X0_addProductOf {l : Launch} {D : va_G} {Rs : va_W} {cA cR cL : ClassId} {ro la cap wd : Nat → Nat} {F : Nat → Nat → Int32} (hw : rwOk cap wd) {i j u : Nat} (hi : i < 64) (hj : j < 64) (hu : u < 64) {t : Nat} (ht : rBl (wd j) (F j) = nI t) (htw : t < 32 * wd j) : xC l y_X0_addProductOf w_X0_addProductOf ({ frames := 3, cells := 0, slots := 0, locals := 71 }) D cls0 (ty3 cA cR cL) [.ref (ro i), .ref (ro j), .ref (ro u)] (rw Rs cA ro la cap wd F) (none) (fun w => w = rw Rs cA ro la cap wd (gPr i j u (wd i) (wd j) (wd u) t F)) 0 0 := by
  refine xC.ofW (cc := b_X0_addProductOf) (maxL := 6) (ret := none) (by decide) rfl (Nat.le_of_ble_eq_true rfl) ?_
  intro p e s m below meth c A ls _ hin hx hb hr hml hown hts hlocks hA hK hP hD hS hl
  have hts : ∀ w ∈ gw, w.before ([.ref (ro i), .ref (ro j), .ref (ro u)]).toArray s = true := fun w h => hts w (List.mem_cons_of_mem _ h)
  have hown : s.vm.findClass R_Row = some m.cls := hown
  have hl : lv_has ls 6 [(0, .ref (ro i)), (1, .ref (ro j)), (2, .ref (ro u))] := hl
  have hwi := hw i hi
  have hwj := hw j hj
  refine lv_aload_n hx hb d_X0_addProductOf_0 rfl (lv_at hl 1 rfl) ?_
  refine x_callR (st1 := [.int (rBl (wd j) (F j))]) (x_runV (As := []) (rest := []) (nL := 6) ⟨hx, hb, hml, hown, hts⟩ (c_X0_bitLength hw hj _) (cwV 0 hts (gw_V k_314 k_316 k_13 k_51 k_317) rfl rfl rfl (by decide +kernel) ⟨Nat.le_of_ble_eq_true rfl, Nat.le_of_ble_eq_true rfl⟩) hK hP hD _ 0 (rw_row hj) rfl rfl hl.1 rfl (Nat.le_of_ble_eq_true rfl) d_X0_addProductOf_1 ⟨Nat.zero_le _, Nat.zero_le _⟩) rfl ?_
  rw [ht]
  refine lv_bipush (v := nI 32) hx hb d_X0_addProductOf_4 (by decide) ?_
  refine n_idiv hx hb d_X0_addProductOf_6 (by omega) (by omega) (by omega) ?_
  refine lv_iconst (v := nI 1) hx hb d_X0_addProductOf_7 (by decide) ?_
  refine n_iadd hx hb d_X0_addProductOf_8 ?_
  refine lv_istore_n (lv' := [(3, .int (nI ((t / 32) + 1))), (0, .ref (ro i)), (1, .ref (ro j)), (2, .ref (ro u))]) hx hb d_X0_addProductOf_9 rfl hl (by decide) rfl (fun ls hl => ?_)
  refine lv_iload_n hx hb d_X0_addProductOf_10 rfl (lv_at hl 0 rfl) ?_
  refine lv_aload_n hx hb d_X0_addProductOf_11 rfl (lv_at hl 1 rfl) ?_
  refine c_getW hx hb hts hown hK hP (i := i) hi d_X0_addProductOf_12 ?_
  refine va_mmin hx hb (hml.trans hl.1.symm) hown (hts _ (show Cond.methodLink "LimbRows$Row" 47 Lib.Math.min.name ∈ gw from k_322)) (hts _ (show Cond.static Lib.Math.min.name ∈ gw from k_211)) (hts _ k_59) (hts _ (show Cond.code Lib.Math.min.name Lib.Math.min.code 2 (some .int) ∈ gw from k_212)) (Nat.le_of_ble_eq_true rfl) (Nat.le_of_ble_eq_true rfl) (Nat.zero_le _) (Nat.zero_le _) d_X0_addProductOf_15 ?_
  rw [n_min (by omega) (by omega)]
  refine lv_istore (lv' := [(4, .int (nI (min ((t / 32) + 1) (wd i)))), (3, .int (nI ((t / 32) + 1))), (0, .ref (ro i)), (1, .ref (ro j)), (2, .ref (ro u))]) hx hb d_X0_addProductOf_18 hl (by decide) rfl (fun ls hl => ?_)
  refine lv_iconst (v := nI 0) hx hb d_X0_addProductOf_20 (by decide) ?_
  refine lv_istore (lv' := [(5, .int (nI 0)), (4, .int (nI (min ((t / 32) + 1) (wd i)))), (3, .int (nI ((t / 32) + 1))), (0, .ref (ro i)), (1, .ref (ro j)), (2, .ref (ro u))]) hx hb d_X0_addProductOf_21 hl (by decide) rfl (fun ls hl => ?_)
  exact lp_X0_addProductOf (nd := t / 32 + 1) (us := min (t / 32 + 1) (wd i)) hx hb hr hml hown hts hlocks hA hK hw hi hj hu (by omega) (by omega) (min (t / 32 + 1) (wd i)) 0 F rfl (by omega) _ _ hP hD hS ls (lv_sub hl [3, 4, 5, 2, 1, 0] rfl)
abbrev w_X0_subtractProductOf : List Cond := .code y_X0_subtractProductOf b_X0_subtractProductOf 3 (none) :: gw
set_option maxHeartbeats 800000 in
set_option maxRecDepth 100000 in
theorem c_X0_subtractProductOf {l : Launch} {D : va_G} {Rs : va_W} {cA cR cL : ClassId} {ro la cap wd : Nat → Nat} {F : Nat → Nat → Int32} (hw : rwOk cap wd) {i j u : Nat} (hi : i < 64) (hj : j < 64) (hu : u < 64) {t : Nat} (ht : rBl (wd j) (gCpl i (wd i) 0 F j) = nI t) (htw : t < 32 * wd j) : xC l y_X0_subtractProductOf w_X0_subtractProductOf ({ frames := 4, cells := 0, slots := 0, locals := 96 }) D cls0 (ty3 cA cR cL) [.ref (ro i), .ref (ro j), .ref (ro u)] (rw Rs cA ro la cap wd F) (none) (fun w => w = rw Rs cA ro la cap wd (gSPr i j u (wd i) (wd j) (wd u) t F)) 0 0 := by
  refine xC.ofW (cc := b_X0_subtractProductOf) (maxL := 3) (ret := none) (by decide) rfl (Nat.le_of_ble_eq_true rfl) ?_
  intro p e s m below meth c A ls _ hin hx hb hr hml hown hts hlocks hA hK hP hD hS hl
  have hts : ∀ w ∈ gw, w.before ([.ref (ro i), .ref (ro j), .ref (ro u)]).toArray s = true := fun w h => hts w (List.mem_cons_of_mem _ h)
  have hown : s.vm.findClass R_Row = some m.cls := hown
  have hl : lv_has ls 3 [(0, .ref (ro i)), (1, .ref (ro j)), (2, .ref (ro u))] := hl
  refine lv_aload_n hx hb d_X0_subtractProductOf_0 rfl (lv_at hl 0 rfl) ?_
  refine x_call (st1 := []) (x_runV (As := []) (rest := []) (nL := 3) ⟨hx, hb, hml, hown, hts⟩ (c_X0_complement hw hi _) (cwV 0 hts (gw_V k_339 k_341 k_16 k_51 k_342) rfl rfl rfl (by decide +kernel) ⟨Nat.le_of_ble_eq_true rfl, Nat.le_of_ble_eq_true rfl⟩) hK hP hD _ 0 (rw_row hi) rfl rfl hl.1 rfl (Nat.le_of_ble_eq_true rfl) d_X0_subtractProductOf_1 ⟨Nat.zero_le _, Nat.zero_le _⟩) hS (x_sub hD hS hA) (x_sub hD hS hA) rfl (fun w1 H locs hY hP hD hS => ?_)
  subst hY
  refine lv_aload_n hx hb d_X0_subtractProductOf_4 rfl (lv_at hl 0 rfl) ?_
  refine lv_aload_n hx hb d_X0_subtractProductOf_5 rfl (lv_at hl 1 rfl) ?_
  refine lv_aload_n hx hb d_X0_subtractProductOf_6 rfl (lv_at hl 2 rfl) ?_
  refine x_call (st1 := []) (x_runV (As := [.ref (ro j), .ref (ro u)]) (rest := []) (nL := 3) ⟨hx, hb, hml, hown, hts⟩ (c_X0_addProductOf hw hi hj hu ht htw _) (cwV 2 hts (gw_V k_343 k_312 k_12 k_51 k_313) rfl rfl rfl (by decide +kernel) ⟨Nat.le_of_ble_eq_true rfl, Nat.le_of_ble_eq_true rfl⟩) hK hP hD _ 0 (rw_row hi) rfl rfl hl.1 rfl (Nat.le_of_ble_eq_true rfl) d_X0_subtractProductOf_7 ⟨Nat.zero_le _, Nat.zero_le _⟩) hS (x_sub hD hS hA) (x_sub hD hS hA) rfl (fun w1 H locs hY hP hD hS => ?_)
  subst hY
  refine lv_aload_n hx hb d_X0_subtractProductOf_10 rfl (lv_at hl 0 rfl) ?_
  refine x_call (st1 := []) (x_runV (As := []) (rest := []) (nL := 3) ⟨hx, hb, hml, hown, hts⟩ (c_X0_complement hw hi _) (cwV 0 hts (gw_V k_339 k_341 k_16 k_51 k_342) rfl rfl rfl (by decide +kernel) ⟨Nat.le_of_ble_eq_true rfl, Nat.le_of_ble_eq_true rfl⟩) hK hP hD _ 0 (rw_row hi) rfl rfl hl.1 rfl (Nat.le_of_ble_eq_true rfl) d_X0_subtractProductOf_11 ⟨Nat.zero_le _, Nat.zero_le _⟩) hS (x_sub hD hS hA) (x_sub hD hS hA) rfl (fun w1 H locs hY hP hD hS => ?_)
  subst hY
  exact x_vret hx hb hr hlocks hP hD hS d_X0_subtractProductOf_14 rfl rfl
end
section
/-! ===== Int64 as an unsigned number: uN x ===== -/
def uN (x : Int64) : Nat := x.toUInt64.toNat
theorem uN_lt (x : Int64) : uN x < 18446744073709551616 := x.toUInt64.toNat_lt
theorem uN_inj {x y : Int64} (h : uN x = uN y) : x = y := congrArg UInt64.toInt64 (UInt64.toNat_inj.mp h)
theorem uN_add (x y : Int64) : uN (x + y) = (uN x + uN y) % 18446744073709551616 := by
  show (x.toUInt64 + y.toUInt64).toNat = _
  exact UInt64.toNat_add _ _
theorem uN_mul (x y : Int64) : uN (x * y) = (uN x * uN y) % 18446744073709551616 := by
  show (x.toUInt64 * y.toUInt64).toNat = _
  exact UInt64.toNat_mul _ _
theorem uN_shl (x : Int64) : uN (x <<< ((1 : Int32).toInt64 &&& 63)) = (2 * uN x) % 18446744073709551616 := by
  have h : (((1 : Int32).toInt64 &&& 63).toBitVec.smod 64).toNat = 1 := by decide
  show (x.toBitVec <<< (((1 : Int32).toInt64 &&& 63).toBitVec.smod 64).toNat).toNat = _
  rw [h, BitVec.toNat_shiftLeft, Nat.shiftLeft_eq, Nat.mul_comm]
  rfl
theorem uN_shr (x : Int64) (s : UInt64) : uN (x.toUInt64 >>> s).toInt64 = uN x / 2 ^ (s.toNat % 64) := by
  show (x.toUInt64 >>> s).toNat = _
  rw [UInt64.toNat_shiftRight, Nat.shiftRight_eq_div_pow]
  rfl
theorem uN_s32 (x : Int64) : uN (x.toUInt64 >>> ((32 : Int32).toInt64.toUInt64 &&& Int64.toUInt64 63)).toInt64 = uN x / 4294967296 := by
  have h : ((32 : Int32).toInt64.toUInt64 &&& Int64.toUInt64 63).toNat % 64 = 32 := by decide
  rw [uN_shr, h]
theorem uN_s63 (x : Int64) : uN (x.toUInt64 >>> ((63 : Int32).toInt64.toUInt64 &&& Int64.toUInt64 63)).toInt64 = uN x / 9223372036854775808 := by
  have h : ((63 : Int32).toInt64.toUInt64 &&& Int64.toUInt64 63).toNat % 64 = 63 := by decide
  rw [uN_shr, h]
theorem uN_lo (x : Int64) : uN (x &&& 4294967295) = uN x % 4294967296 := by
  show (x.toUInt64 &&& Int64.toUInt64 4294967295).toNat = _
  rw [UInt64.toNat_and]
  exact Nat.and_two_pow_sub_one_eq_mod _ 32
theorem uN_bit (x : Int64) : (x &&& 1) = 0 ↔ uN x % 2 = 0 := by
  have h : uN (x &&& 1) = uN x % 2 := by
    show (x.toUInt64 &&& Int64.toUInt64 1).toNat = _
    rw [UInt64.toNat_and]
    exact Nat.and_two_pow_sub_one_eq_mod _ 1
  rw [← h]
  exact ⟨fun z => by rw [z]; rfl, fun z => uN_inj (z.trans rfl)⟩
theorem uN_or {x y : Int64} (hy : uN y < 2) : uN ((x <<< ((1 : Int32).toInt64 &&& 63)) ||| y) = (2 * uN x) % 18446744073709551616 + uN y := by
  have h1 : uN ((x <<< ((1 : Int32).toInt64 &&& 63)) ||| y) = uN (x <<< ((1 : Int32).toInt64 &&& 63)) ||| uN y := UInt64.toNat_or _ _
  have h2 : (2 * uN x) % 18446744073709551616 = 2 ^ 1 * (uN x % 9223372036854775808) := by omega
  rw [h1, uN_shl, h2]
  exact (Nat.two_pow_add_eq_or_of_lt (i := 1) hy _).symm
theorem nat_xor {a : Nat} (h : a < 18446744073709551616) : a ^^^ 2 ^ 63 = (a + 9223372036854775808) % 18446744073709551616 := by
  have h1 : (a ^^^ 2 ^ 63) % 2 ^ 63 = a % 2 ^ 63 := by rw [Nat.xor_mod_two_pow, Nat.mod_self, Nat.xor_zero]
  have h2 : (a ^^^ 2 ^ 63) / 2 ^ 63 = (a / 2 ^ 63) ^^^ 1 := by rw [Nat.xor_div_two_pow, Nat.div_self (Nat.two_pow_pos 63)]
  have h3 : a / 2 ^ 63 = 0 ∨ a / 2 ^ 63 = 1 := by omega
  generalize a ^^^ 2 ^ 63 = t at h1 h2
  rcases h3 with h3 | h3
  · rw [h3] at h2
    have h2 : t / 2 ^ 63 = 1 := h2
    omega
  · rw [h3] at h2
    have h2 : t / 2 ^ 63 = 0 := h2
    omega
theorem uN_xor (x : Int64) : uN (x ^^^ (-9223372036854775808)) = (uN x + 9223372036854775808) % 18446744073709551616 := by
  rw [← nat_xor (uN_lt x)]
  exact UInt64.toNat_xor _ _
theorem uN_int (x : Int64) : x.toInt = if 2 * uN x < 18446744073709551616 then (uN x : Int) else (uN x : Int) - 18446744073709551616 := BitVec.toInt_eq_toNat_cond _
theorem uN_le (x y : Int64) : (x ^^^ (-9223372036854775808)) ≤ (y ^^^ (-9223372036854775808)) ↔ uN x ≤ uN y := by
  have hx := uN_lt x
  have hy := uN_lt y
  rw [Int64.le_iff_toInt_le, uN_int, uN_int, uN_xor, uN_xor]
  omega
theorem uN_sk (x : Int64) {k : Nat} (hk : k < 64) : uN (x.toUInt64 >>> ((nI k).toInt64.toUInt64 &&& Int64.toUInt64 63)).toInt64 = uN x / 2 ^ k := by
  have h : ((nI k).toInt64.toUInt64 &&& Int64.toUInt64 63).toNat % 64 = k := by
    rw [nI_l (by omega), UInt64.toNat_and]
    have e : (lN k).toUInt64.toNat = k % 2 ^ 64 := rfl
    have e2 : (Int64.toUInt64 63).toNat = 2 ^ 6 - 1 := by decide
    rw [e, e2, Nat.and_two_pow_sub_one_eq_mod]
    omega
  rw [uN_shr, h]
/-! ===== unsigned comparison by xor with the least ===== -/
theorem uN_lo16 (x : Int64) : uN (x &&& 65535) = uN x % 65536 := by
  have h : uN (x &&& 65535) = uN x &&& 65535 := UInt64.toNat_and _ _
  rw [h, show (65535 : Nat) = 2 ^ 16 - 1 from rfl, Nat.and_two_pow_sub_one_eq_mod]
/-- a small unsigned long, as an int -/
theorem uN_i32 (x : Int64) {n : Nat} (h : uN x = n) : x.toInt32 = nI n := by
  subst h
  apply Int32.toBitVec_inj.mp
  show x.toBitVec.signExtend 32 = BitVec.ofNat 32 x.toBitVec.toNat
  apply BitVec.eq_of_toNat_eq
  simp [BitVec.toNat_signExtend]
/-- half k of a long -/
def uH (x : Int64) (k : Nat) : Nat := uN x / 2 ^ (16 * k) % 65536
theorem uH_lt (x : Int64) (k : Nat) : uH x k < 65536 := Nat.mod_lt _ (by decide)
theorem uH_eq (x : Int64) {k : Nat} (hk : k < 4) : (j_lu x (nI (16 * k)) &&& 65535).toInt32 = nI (uH x k) := by
  apply uN_i32
  rw [uN_lo16]
  unfold uH
  rw [uN_sk x (show 16 * k < 64 by omega)]
end
section
/-! The model's cells: widths and halves and buffers as numbers. -/
def md (cA : ClassId) (h aw ar ag az : Nat) (cd : Int32) (w g : Nat → Nat) (sg : Nat → Int32) (z : Nat → Nat) (Rs : va_W) : va_W :=
  (h, .inr (2, [.int cd, .ref aw, .ref ar, .ref ag, .ref az])) :: (aw, .inl (cA, 64, .inl (fun j => nI (w j)))) :: (ar, .inl (cA, 32768, .inl (fun j => nI (g j)))) :: (ag, .inl (cA, 3, .inl sg)) :: (az, .inl (cA, 3300, .inl (fun j => nI (z j)))) :: Rs
theorem md_upd (g : Nat → Nat) (j v : Nat) : upd (fun t => nI (g t)) j (nI v) = fun t => nI (va_up g j v t) := by
  funext t
  unfold upd va_up
  split <;> rfl
def mdOk (w g z : Nat → Nat) : Prop := (∀ r, r < 64 → 1 ≤ w r ∧ w r ≤ 256) ∧ (∀ j, g j < 65536) ∧ ∀ j, z j < 65536
theorem mdOk.z {w g z : Nat → Nat} {j v : Nat} (h : mdOk w g z) (hv : v < 65536) : mdOk w g (va_up z j v) := ⟨h.1, h.2.1, fun t => by unfold va_up; split; exact hv; exact h.2.2 t⟩
theorem mdOk.g {w g z : Nat → Nat} {j v : Nat} (h : mdOk w g z) (hv : v < 65536) : mdOk w (va_up g j v) z := ⟨h.1, fun t => by unfold va_up; split; exact hv; exact h.2.1 t, h.2.2⟩
theorem n_sm : ∀ n, n < 32 → ((nI n &&& 31).toBitVec.smod 32).toNat = n := by decide
section MD
variable {cA cR cL : ClassId} {h aw ar ag az : Nat} {cd : Int32} {w g : Nat → Nat} {sg : Nat → Int32} {z : Nat → Nat} {Rs : va_W}
variable {p : Program} {l : Launch} {e : Env} {R : Room} {s : State} {m : MethodId} {args : Array Value} {below : List Frame} {meth : Method} {c : Code} {H : Heap} {locs : List Loc} {cells slots : Nat} {Q : State → Prop}
variable {cc : ByteArray} {pc : Nat} {ls : Array Slot} {rest : List Value} {D : va_G} {A : Nat → Prop} {H0 : Heap}
theorem m_getC (hx : p.tables.exec = Jvm.exec) (hb : c.code = cc) (hts : ∀ w ∈ gw, w.before args s = true) (hown : s.vm.findClass R_Md = some m.cls) (hK : va_K D cls0 (ty3 cA cR cL) s) (hP : va_P D cls0 (md cA h aw ar ag az cd w g sg z Rs) H) (hdg : decode cc pc = .ok (.getfield 23, 3))
    (kk : W p l e R s m args below meth c H locs cells slots Q (F0 m (pc + 3) ls (.int cd :: rest))) : W p l e R s m args below meth c H locs cells slots Q (F0 m pc ls (.ref h :: rest)) :=
  va_get (D := D) (ci := 2) (v := .int cd) (C := R_Md) (T := T_Md) (N := 5) (own := R_Md) (ref := "LimbRowsModel") hx hb hts i_Md hown hK hP 0 rfl rfl 0 (by decide) (hts (.fieldLink R_Md 23 "LimbRowsModel" "code" "I") k_491) (fun _ h9 => h9) rfl hdg kk
theorem m_getW (hx : p.tables.exec = Jvm.exec) (hb : c.code = cc) (hts : ∀ w ∈ gw, w.before args s = true) (hown : s.vm.findClass R_Md = some m.cls) (hK : va_K D cls0 (ty3 cA cR cL) s) (hP : va_P D cls0 (md cA h aw ar ag az cd w g sg z Rs) H) (hdg : decode cc pc = .ok (.getfield 7, 3))
    (kk : W p l e R s m args below meth c H locs cells slots Q (F0 m (pc + 3) ls (.ref aw :: rest))) : W p l e R s m args below meth c H locs cells slots Q (F0 m pc ls (.ref h :: rest)) :=
  va_get (D := D) (ci := 2) (v := .ref aw) (C := R_Md) (T := T_Md) (N := 5) (own := R_Md) (ref := "LimbRowsModel") hx hb hts i_Md hown hK hP 0 rfl rfl 1 (by decide) (hts (.fieldLink R_Md 7 "LimbRowsModel" "widths" "[I") k_492) (fun _ h9 => h9) rfl hdg kk
theorem m_getR (hx : p.tables.exec = Jvm.exec) (hb : c.code = cc) (hts : ∀ w ∈ gw, w.before args s = true) (hown : s.vm.findClass R_Md = some m.cls) (hK : va_K D cls0 (ty3 cA cR cL) s) (hP : va_P D cls0 (md cA h aw ar ag az cd w g sg z Rs) H) (hdg : decode cc pc = .ok (.getfield 14, 3))
    (kk : W p l e R s m args below meth c H locs cells slots Q (F0 m (pc + 3) ls (.ref ar :: rest))) : W p l e R s m args below meth c H locs cells slots Q (F0 m pc ls (.ref h :: rest)) :=
  va_get (D := D) (ci := 2) (v := .ref ar) (C := R_Md) (T := T_Md) (N := 5) (own := R_Md) (ref := "LimbRowsModel") hx hb hts i_Md hown hK hP 0 rfl rfl 2 (by decide) (hts (.fieldLink R_Md 14 "LimbRowsModel" "rows" "[I") k_493) (fun _ h9 => h9) rfl hdg kk
theorem m_getG (hx : p.tables.exec = Jvm.exec) (hb : c.code = cc) (hts : ∀ w ∈ gw, w.before args s = true) (hown : s.vm.findClass R_Md = some m.cls) (hK : va_K D cls0 (ty3 cA cR cL) s) (hP : va_P D cls0 (md cA h aw ar ag az cd w g sg z Rs) H) (hdg : decode cc pc = .ok (.getfield 17, 3))
    (kk : W p l e R s m args below meth c H locs cells slots Q (F0 m (pc + 3) ls (.ref ag :: rest))) : W p l e R s m args below meth c H locs cells slots Q (F0 m pc ls (.ref h :: rest)) :=
  va_get (D := D) (ci := 2) (v := .ref ag) (C := R_Md) (T := T_Md) (N := 5) (own := R_Md) (ref := "LimbRowsModel") hx hb hts i_Md hown hK hP 0 rfl rfl 3 (by decide) (hts (.fieldLink R_Md 17 "LimbRowsModel" "signs" "[I") k_494) (fun _ h9 => h9) rfl hdg kk
theorem m_getZ (hx : p.tables.exec = Jvm.exec) (hb : c.code = cc) (hts : ∀ w ∈ gw, w.before args s = true) (hown : s.vm.findClass R_Md = some m.cls) (hK : va_K D cls0 (ty3 cA cR cL) s) (hP : va_P D cls0 (md cA h aw ar ag az cd w g sg z Rs) H) (hdg : decode cc pc = .ok (.getfield 20, 3))
    (kk : W p l e R s m args below meth c H locs cells slots Q (F0 m (pc + 3) ls (.ref az :: rest))) : W p l e R s m args below meth c H locs cells slots Q (F0 m pc ls (.ref h :: rest)) :=
  va_get (D := D) (ci := 2) (v := .ref az) (C := R_Md) (T := T_Md) (N := 5) (own := R_Md) (ref := "LimbRowsModel") hx hb hts i_Md hown hK hP 0 rfl rfl 4 (by decide) (hts (.fieldLink R_Md 20 "LimbRowsModel" "sizes" "[I") k_495) (fun _ h9 => h9) rfl hdg kk
theorem m_putC (hx : p.tables.exec = Jvm.exec) (hb : c.code = cc) (hts : ∀ w ∈ gw, w.before args s = true) (hown : s.vm.findClass R_Md = some m.cls) (hK : va_K D cls0 (ty3 cA cR cL) s) (hP : va_P D cls0 (md cA h aw ar ag az cd w g sg z Rs) H) (hD : va_D A (md cA h aw ar ag az cd w g sg z Rs)) (hS : va_S A H0 H locs) {x : Int32} (hdg : decode cc pc = .ok (.putfield 23, 3))
    (kk : ∀ (H1 : Heap) (locs1 : List Loc), va_P D cls0 (md cA h aw ar ag az x w g sg z Rs) H1 → va_D A (md cA h aw ar ag az x w g sg z Rs) → va_S A H0 H1 locs1 → W p l e R s m args below meth c H1 locs1 cells slots Q (F0 m (pc + 3) ls rest)) : W p l e R s m args below meth c H locs cells slots Q (F0 m pc ls (.int x :: .ref h :: rest)) :=
  va_put (D := D) (ci := 2) (v := .int x) (ty := .int) (C := R_Md) (T := T_Md) (N := 5) (own := R_Md) (ref := "LimbRowsModel") hx hb hts i_Md t_Md t_Md_ok n_Md hown hK hP hD hS 0 rfl rfl 0 (by decide) (hts (.fieldLink R_Md 23 "LimbRowsModel" "code" "I") k_491) (fun _ h9 => h9) rfl (by decide +kernel) rfl rfl (Nat.le_of_ble_eq_true rfl) hdg (fun H1 locs1 hP hD hS => kk H1 locs1 hP hD hS)
theorem m_aldW (hx : p.tables.exec = Jvm.exec) (hb : c.code = cc) (hK : va_K D cls0 (ty3 cA cR cL) s) (hP : va_P D cls0 (md cA h aw ar ag az cd w g sg z Rs) H) {j : Nat} (hj : j < 64) (hdg : decode cc pc = .ok (.iaload, 1))
    (kk : W p l e R s m args below meth c H locs cells slots Q (F0 m (pc + 1) ls (.int (nI (w j)) :: rest))) : W p l e R s m args below meth c H locs cells slots Q (F0 m pc ls (.int (nI j) :: .ref aw :: rest)) :=
  va_iald hx hb hK hP 1 0 rfl rfl (vp_in_nI hj (by decide)) hdg (by rw [nI_clamp (by omega)]; exact kk)
theorem m_astW (hx : p.tables.exec = Jvm.exec) (hb : c.code = cc) (hK : va_K D cls0 (ty3 cA cR cL) s) (hP : va_P D cls0 (md cA h aw ar ag az cd w g sg z Rs) H) (hD : va_D A (md cA h aw ar ag az cd w g sg z Rs)) (hS : va_S A H0 H locs) {j v : Nat} (hj : j < 64) (hdg : decode cc pc = .ok (.iastore, 1))
    (kk : ∀ (H1 : Heap) (locs1 : List Loc), va_P D cls0 (md cA h aw ar ag az cd (va_up w j v) g sg z Rs) H1 → va_D A (md cA h aw ar ag az cd (va_up w j v) g sg z Rs) → va_S A H0 H1 locs1 → W p l e R s m args below meth c H1 locs1 cells slots Q (F0 m (pc + 1) ls rest)) : W p l e R s m args below meth c H locs cells slots Q (F0 m pc ls (.int (nI v) :: .int (nI j) :: .ref aw :: rest)) :=
  va_iast hx hb hK hP hD hS 1 0 rfl rfl (vp_in_nI hj (by decide)) hdg (fun H1 locs1 hP hD hS => by
    rw [nI_clamp (by omega), md_upd] at hP hD
    exact kk H1 locs1 hP hD hS)
theorem m_aldR (hx : p.tables.exec = Jvm.exec) (hb : c.code = cc) (hK : va_K D cls0 (ty3 cA cR cL) s) (hP : va_P D cls0 (md cA h aw ar ag az cd w g sg z Rs) H) {j : Nat} (hj : j < 32768) (hdg : decode cc pc = .ok (.iaload, 1))
    (kk : W p l e R s m args below meth c H locs cells slots Q (F0 m (pc + 1) ls (.int (nI (g j)) :: rest))) : W p l e R s m args below meth c H locs cells slots Q (F0 m pc ls (.int (nI j) :: .ref ar :: rest)) :=
  va_iald hx hb hK hP 2 0 rfl rfl (vp_in_nI hj (by decide)) hdg (by rw [nI_clamp (by omega)]; exact kk)
theorem m_astR (hx : p.tables.exec = Jvm.exec) (hb : c.code = cc) (hK : va_K D cls0 (ty3 cA cR cL) s) (hP : va_P D cls0 (md cA h aw ar ag az cd w g sg z Rs) H) (hD : va_D A (md cA h aw ar ag az cd w g sg z Rs)) (hS : va_S A H0 H locs) {j v : Nat} (hj : j < 32768) (hdg : decode cc pc = .ok (.iastore, 1))
    (kk : ∀ (H1 : Heap) (locs1 : List Loc), va_P D cls0 (md cA h aw ar ag az cd w (va_up g j v) sg z Rs) H1 → va_D A (md cA h aw ar ag az cd w (va_up g j v) sg z Rs) → va_S A H0 H1 locs1 → W p l e R s m args below meth c H1 locs1 cells slots Q (F0 m (pc + 1) ls rest)) : W p l e R s m args below meth c H locs cells slots Q (F0 m pc ls (.int (nI v) :: .int (nI j) :: .ref ar :: rest)) :=
  va_iast hx hb hK hP hD hS 2 0 rfl rfl (vp_in_nI hj (by decide)) hdg (fun H1 locs1 hP hD hS => by
    rw [nI_clamp (by omega), md_upd] at hP hD
    exact kk H1 locs1 hP hD hS)
theorem m_aldZ (hx : p.tables.exec = Jvm.exec) (hb : c.code = cc) (hK : va_K D cls0 (ty3 cA cR cL) s) (hP : va_P D cls0 (md cA h aw ar ag az cd w g sg z Rs) H) {j : Nat} (hj : j < 3300) (hdg : decode cc pc = .ok (.iaload, 1))
    (kk : W p l e R s m args below meth c H locs cells slots Q (F0 m (pc + 1) ls (.int (nI (z j)) :: rest))) : W p l e R s m args below meth c H locs cells slots Q (F0 m pc ls (.int (nI j) :: .ref az :: rest)) :=
  va_iald hx hb hK hP 4 0 rfl rfl (vp_in_nI hj (by decide)) hdg (by rw [nI_clamp (by omega)]; exact kk)
theorem m_astZ (hx : p.tables.exec = Jvm.exec) (hb : c.code = cc) (hK : va_K D cls0 (ty3 cA cR cL) s) (hP : va_P D cls0 (md cA h aw ar ag az cd w g sg z Rs) H) (hD : va_D A (md cA h aw ar ag az cd w g sg z Rs)) (hS : va_S A H0 H locs) {j v : Nat} (hj : j < 3300) (hdg : decode cc pc = .ok (.iastore, 1))
    (kk : ∀ (H1 : Heap) (locs1 : List Loc), va_P D cls0 (md cA h aw ar ag az cd w g sg (va_up z j v) Rs) H1 → va_D A (md cA h aw ar ag az cd w g sg (va_up z j v) Rs) → va_S A H0 H1 locs1 → W p l e R s m args below meth c H1 locs1 cells slots Q (F0 m (pc + 1) ls rest)) : W p l e R s m args below meth c H locs cells slots Q (F0 m pc ls (.int (nI v) :: .int (nI j) :: .ref az :: rest)) :=
  va_iast hx hb hK hP hD hS 4 0 rfl rfl (vp_in_nI hj (by decide)) hdg (fun H1 locs1 hP hD hS => by
    rw [nI_clamp (by omega), md_upd] at hP hD
    exact kk H1 locs1 hP hD hS)
theorem m_aldG (hx : p.tables.exec = Jvm.exec) (hb : c.code = cc) (hK : va_K D cls0 (ty3 cA cR cL) s) (hP : va_P D cls0 (md cA h aw ar ag az cd w g sg z Rs) H) {j : Nat} (hj : j < 3) (hdg : decode cc pc = .ok (.iaload, 1))
    (kk : W p l e R s m args below meth c H locs cells slots Q (F0 m (pc + 1) ls (.int (sg j) :: rest))) : W p l e R s m args below meth c H locs cells slots Q (F0 m pc ls (.int (nI j) :: .ref ag :: rest)) :=
  va_iald hx hb hK hP 3 0 rfl rfl (vp_in_nI hj (by decide)) hdg (by rw [nI_clamp (by omega)]; exact kk)
theorem m_astG (hx : p.tables.exec = Jvm.exec) (hb : c.code = cc) (hK : va_K D cls0 (ty3 cA cR cL) s) (hP : va_P D cls0 (md cA h aw ar ag az cd w g sg z Rs) H) (hD : va_D A (md cA h aw ar ag az cd w g sg z Rs)) (hS : va_S A H0 H locs) {j : Nat} {x : Int32} (hj : j < 3) (hdg : decode cc pc = .ok (.iastore, 1))
    (kk : ∀ (H1 : Heap) (locs1 : List Loc), va_P D cls0 (md cA h aw ar ag az cd w g (upd sg j x) z Rs) H1 → va_D A (md cA h aw ar ag az cd w g (upd sg j x) z Rs) → va_S A H0 H1 locs1 → W p l e R s m args below meth c H1 locs1 cells slots Q (F0 m (pc + 1) ls rest)) : W p l e R s m args below meth c H locs cells slots Q (F0 m pc ls (.int x :: .int (nI j) :: .ref ag :: rest)) :=
  va_iast hx hb hK hP hD hS 3 0 rfl rfl (vp_in_nI hj (by decide)) hdg (fun H1 locs1 hP hD hS => by
    rw [nI_clamp (by omega)] at hP hD
    exact kk H1 locs1 hP hD hS)
theorem n_ishr (hx : p.tables.exec = Jvm.exec) (hb : c.code = cc) {a t : Nat} (ha : a < 2 ^ 31) (ht : t < 32) (hdg : decode cc pc = .ok (.ishr, 1)) (k : W p l e R s m args below meth c H locs cells slots Q (F0 m (pc + 1) ls (.int (nI (a / 2 ^ t)) :: rest))) : W p l e R s m args below meth c H locs cells slots Q (F0 m pc ls (.int (nI t) :: .int (nI a) :: rest)) :=
  lv_ishr hx hb hdg (by rw [pk_shrN ha _ t (n_sm t ht)]; exact k)
theorem n_iand1 (hx : p.tables.exec = Jvm.exec) (hb : c.code = cc) {a : Nat} (ha : a < 2 ^ 31) (hdg : decode cc pc = .ok (.iand, 1)) (k : W p l e R s m args below meth c H locs cells slots Q (F0 m (pc + 1) ls (.int (nI (a % 2)) :: rest))) : W p l e R s m args below meth c H locs cells slots Q (F0 m pc ls (.int (nI 1) :: .int (nI a) :: rest)) :=
  lv_iand hx hb hdg (by rw [pk_andN (by omega) 1 (by decide)]; exact k)
end MD
end
section
abbrev w_X2_thrown : List Cond := .code y_X2_thrown b_X2_thrown 1 (some .int) :: gw
set_option maxHeartbeats 800000 in
set_option maxRecDepth 100000 in
theorem c_X2_thrown {l : Launch} {D : va_G} {Rs : va_W} {cA cR cL : ClassId} {h aw ar ag az : Nat} {cd : Int32} {w g : Nat → Nat} {sg : Nat → Int32} {z : Nat → Nat}  : xR l y_X2_thrown w_X2_thrown ({ frames := 0, cells := 0, slots := 0, locals := 0 }) D cls0 (ty3 cA cR cL) [.ref h] (md cA h aw ar ag az cd w g sg z Rs) (some (.int cd)) := by
  refine xR.ofW (cc := b_X2_thrown) (maxL := 1) (ret := some .int) (by decide) rfl (Nat.le_of_ble_eq_true rfl) ?_
  intro p e s m below meth c A ls _ hin hx hb hr hml hown hts hlocks hA hK hP hD hS hl
  have hts : ∀ w ∈ gw, w.before ([.ref h]).toArray s = true := fun w h => hts w (List.mem_cons_of_mem _ h)
  have hown : s.vm.findClass R_Md = some m.cls := hown
  have hl : lv_has ls 1 [(0, .ref h)] := hl
  refine lv_aload_n hx hb d_X2_thrown_0 rfl (lv_at hl 0 rfl) ?_
  refine m_getC hx hb hts hown hK hP d_X2_thrown_1 ?_
  exact xr_iret hx hb hr hlocks d_X2_thrown_4 rfl
def mRef (x : Int32) : Int32 := if x ≤ 0 then nI 0 else nI 1
abbrev w_X2_refuses : List Cond := .code y_X2_refuses b_X2_refuses 2 (some .boolean) :: gw
set_option maxHeartbeats 800000 in
set_option maxRecDepth 100000 in
theorem c_X2_refuses {l : Launch} {D : va_G} {Rs : va_W} {cA cR cL : ClassId} {h aw ar ag az : Nat} {cd : Int32} {w g : Nat → Nat} {sg : Nat → Int32} {z : Nat → Nat} (x : Int32) : xC l y_X2_refuses w_X2_refuses ({ frames := 0, cells := 0, slots := 0, locals := 0 }) D cls0 (ty3 cA cR cL) [.ref h, .int x] (md cA h aw ar ag az cd w g sg z Rs) (some (.int (mRef x))) (fun w1 => w1 = md cA h aw ar ag az x w g sg z Rs) 0 0 := by
  refine xC.ofW (cc := b_X2_refuses) (maxL := 2) (ret := some .boolean) (by decide) rfl (Nat.le_of_ble_eq_true rfl) ?_
  intro p e s m below meth c A ls _ hin hx hb hr hml hown hts hlocks hA hK hP hD hS hl
  have hts : ∀ w ∈ gw, w.before ([.ref h, .int x]).toArray s = true := fun w h => hts w (List.mem_cons_of_mem _ h)
  have hown : s.vm.findClass R_Md = some m.cls := hown
  have hl : lv_has ls 2 [(0, .ref h), (1, .int x)] := hl
  refine lv_aload_n hx hb d_X2_refuses_0 rfl (lv_at hl 0 rfl) ?_
  refine lv_iload_n hx hb d_X2_refuses_1 rfl (lv_at hl 1 rfl) ?_
  refine m_putC hx hb hts hown hK hP hD hS d_X2_refuses_2 (fun H locs hP hD hS => ?_)
  refine lv_iload_n hx hb d_X2_refuses_5 rfl (lv_at hl 1 rfl) ?_
  refine lv_if_le (tgt := 13) hx hb d_X2_refuses_6 (by decide) (fun c_1 => ?_) (fun c_1 => ?_)
  · refine lv_iconst (v := nI 0) hx hb d_X2_refuses_13 (by decide) ?_
    exact x_zret hx hb hr hlocks hP hD hS d_X2_refuses_14 (by decide) (by unfold mRef; first | rw [if_pos (by assumption)] | rw [if_neg (by assumption)]) rfl
  · refine lv_iconst (v := nI 1) hx hb d_X2_refuses_9 (by decide) ?_
    refine lv_goto (tgt := 14) hx hb d_X2_refuses_10 (by decide) ?_
    exact x_zret hx hb hr hlocks hP hD hS d_X2_refuses_14 (by decide) (by unfold mRef; first | rw [if_pos (by assumption)] | rw [if_neg (by assumption)]) rfl
def mIsRow (x : Int32) : Int32 := if x < 0 then nI 0 else if nI 64 ≤ x then nI 0 else nI 1
abbrev w_X2_isRow : List Cond := .code y_X2_isRow b_X2_isRow 1 (some .boolean) :: gw
set_option maxHeartbeats 800000 in
set_option maxRecDepth 100000 in
theorem c_X2_isRow {l : Launch} {D : va_G} {Rs : va_W} {cA cR cL : ClassId} {h aw ar ag az : Nat} {cd : Int32} {w g : Nat → Nat} {sg : Nat → Int32} {z : Nat → Nat} (x : Int32) : xR l y_X2_isRow w_X2_isRow ({ frames := 0, cells := 0, slots := 0, locals := 0 }) D cls0 (ty3 cA cR cL) [.int x] (md cA h aw ar ag az cd w g sg z Rs) (some (.int (mIsRow x))) := by
  refine xR.ofW (cc := b_X2_isRow) (maxL := 1) (ret := some .boolean) (by decide) rfl (Nat.le_of_ble_eq_true rfl) ?_
  intro p e s m below meth c A ls _ hin hx hb hr hml hown hts hlocks hA hK hP hD hS hl
  have hts : ∀ w ∈ gw, w.before ([.int x]).toArray s = true := fun w h => hts w (List.mem_cons_of_mem _ h)
  have hown : s.vm.findClass R_Md = some m.cls := hown
  have hl : lv_has ls 1 [(0, .int x)] := hl
  refine lv_iload_n hx hb d_X2_isRow_0 rfl (lv_at hl 0 rfl) ?_
  refine lv_if_lt (tgt := 14) hx hb d_X2_isRow_1 (by decide) (fun c_1 => ?_) (fun c_1 => ?_)
  · refine lv_iconst (v := nI 0) hx hb d_X2_isRow_14 (by decide) ?_
    exact xr_zret hx hb hr hlocks d_X2_isRow_15 (by decide) (by unfold mIsRow; first | rw [if_pos (by assumption)] | rw [if_neg (by assumption), if_pos (by assumption)] | rw [if_neg (by assumption), if_neg (by assumption)])
  · refine lv_iload_n hx hb d_X2_isRow_4 rfl (lv_at hl 0 rfl) ?_
    refine lv_bipush (v := nI 64) hx hb d_X2_isRow_5 (by decide) ?_
    refine lv_icmp_ge (tgt := 14) hx hb d_X2_isRow_7 (by decide) (fun c_2 => ?_) (fun c_2 => ?_)
    · refine lv_iconst (v := nI 0) hx hb d_X2_isRow_14 (by decide) ?_
      exact xr_zret hx hb hr hlocks d_X2_isRow_15 (by decide) (by unfold mIsRow; first | rw [if_pos (by assumption)] | rw [if_neg (by assumption), if_pos (by assumption)] | rw [if_neg (by assumption), if_neg (by assumption)])
    · refine lv_iconst (v := nI 1) hx hb d_X2_isRow_10 (by decide) ?_
      refine lv_goto (tgt := 15) hx hb d_X2_isRow_11 (by decide) ?_
      exact xr_zret hx hb hr hlocks d_X2_isRow_15 (by decide) (by unfold mIsRow; first | rw [if_pos (by assumption)] | rw [if_neg (by assumption), if_pos (by assumption)] | rw [if_neg (by assumption), if_neg (by assumption)])
/-- 1100, as a number that nothing unfolds -/
noncomputable def cZ : Nat := Classical.choose (⟨1100, rfl⟩ : ∃ n : Nat, n = 1100)
theorem cZ_eq : cZ = 1100 := Classical.choose_spec (⟨1100, rfl⟩ : ∃ n : Nat, n = 1100)
def mClr (b : Nat) : Nat → Nat → (Nat → Nat) → Nat → Nat
  | 0, _, z => z
  | n + 1, k, z => mClr b n (k + 1) (va_up z (1100 * b + k) 0)
set_option maxHeartbeats 800000 in
set_option maxRecDepth 100000 in
theorem lp_X2_clear {p : Program} {l : Launch} {e : Env} {s : State} {m : MethodId} {args : Array Value} {below : List Frame} {meth : Method} {c : Code} {D : va_G} {Rs : va_W} {cA cR cL : ClassId} {h aw ar ag az : Nat} {A : Nat → Prop} {cd : Int32} {w g : Nat → Nat} {sg : Nat → Int32} (hx : p.tables.exec = Jvm.exec) (hb : c.code = b_X2_clear) (hr : meth.sig.returnType = none) (hml : c.maxLocals = 3) (hown : s.vm.findClass R_Md = some m.cls) (hts : ∀ w ∈ gw, w.before args s = true) (hlocks : meth.locks = false) (hA : ∀ q : Nat, s.heap.size ≤ q → A q) (hK : va_K D cls0 (ty3 cA cR cL) s) {b : Nat} (hb3 : b < 3) : ∀ (n : Nat) (k : Nat) (z : Nat → Nat), n = 1100 - k → k < 2000 → ∀ (H : Heap) (locs : List Loc), va_P D cls0 (md cA h aw ar ag az cd w g sg z Rs) H → va_D A (md cA h aw ar ag az cd w g sg z Rs) → va_S A s.heap H locs → ∀ (ls : Array Slot), lv_has ls 3 [(0, .ref h), (1, .int (nI b)), (2, .int (nI k))] → W p l e ({ frames := 0, cells := 0, slots := 0, locals := 0 }) s m args below meth c H locs 0 0 (MQ below (xQ (none) (xB D cls0 A (fun w1 => w1 = md cA h aw ar ag az cd w g (upd sg b (nI 0)) (mClr b n k z) Rs)) A) args s 0 0 A) (F0 m 2 ls []) := by
  intro n
  induction n with
  | zero =>
    intro k z hn hk H locs hP hD hS ls hl
    refine lv_iload_n hx hb d_X2_clear_2 rfl (lv_at hl 2 rfl) ?_
    refine lv_sipush (v := nI 1100) hx hb d_X2_clear_3 (by decide) ?_
    refine n_icmp_ge (tgt := 28) hx hb d_X2_clear_6 (by decide) (by omega) (by omega) (fun c_1 => ?_) (fun c_1 => ?_)
    rotate_left
    · exact absurd c_1 (by omega)
    refine lv_aload_n hx hb d_X2_clear_28 rfl (lv_at hl 0 rfl) ?_
    refine m_getG hx hb hts hown hK hP d_X2_clear_29 ?_
    refine lv_iload_n hx hb d_X2_clear_32 rfl (lv_at hl 1 rfl) ?_
    refine lv_iconst (v := nI 0) hx hb d_X2_clear_33 (by decide) ?_
    refine m_astG hx hb hK hP hD hS (j := b) (x := nI 0) (by omega) d_X2_clear_34 (fun H locs hP hD hS => ?_)
    exact x_vret hx hb hr hlocks hP hD hS d_X2_clear_35 rfl rfl
  | succ n ih =>
    intro k z hn hk H locs hP hD hS ls hl
    refine lv_iload_n hx hb d_X2_clear_2 rfl (lv_at hl 2 rfl) ?_
    refine lv_sipush (v := nI 1100) hx hb d_X2_clear_3 (by decide) ?_
    refine n_icmp_ge (tgt := 28) hx hb d_X2_clear_6 (by decide) (by omega) (by omega) (fun c_1 => ?_) (fun c_1 => ?_)
    · exact absurd c_1 (by omega)
    refine lv_aload_n hx hb d_X2_clear_9 rfl (lv_at hl 0 rfl) ?_
    refine m_getZ hx hb hts hown hK hP d_X2_clear_10 ?_
    refine lv_sipush (v := nI 1100) hx hb d_X2_clear_13 (by decide) ?_
    refine lv_iload_n hx hb d_X2_clear_16 rfl (lv_at hl 1 rfl) ?_
    refine n_imul hx hb d_X2_clear_17 ?_
    refine lv_iload_n hx hb d_X2_clear_18 rfl (lv_at hl 2 rfl) ?_
    refine n_iadd hx hb d_X2_clear_19 ?_
    refine lv_iconst (v := nI 0) hx hb d_X2_clear_20 (by decide) ?_
    refine m_astZ hx hb hK hP hD hS (j := (1100 * b) + k) (v := 0) (by omega) d_X2_clear_21 (fun H locs hP hD hS => ?_)
    refine n_iinc (lv' := [(2, .int (nI (k + 1))), (0, .ref h), (1, .int (nI b))]) hx hb d_X2_clear_22 hl (k := 2) rfl (by decide) rfl (fun ls hl => ?_)
    refine lv_goto (tgt := 2) hx hb d_X2_clear_25 (by decide) ?_
    exact ih (k + 1) _ (by omega) (by omega) H locs hP hD hS ls (lv_sub hl [1, 2, 0] rfl)
abbrev w_X2_clear : List Cond := .code y_X2_clear b_X2_clear 3 (none) :: gw
set_option maxHeartbeats 800000 in
set_option maxRecDepth 100000 in
theorem c_X2_clear {l : Launch} {D : va_G} {Rs : va_W} {cA cR cL : ClassId} {h aw ar ag az : Nat} {cd : Int32} {w g : Nat → Nat} {sg : Nat → Int32} {z : Nat → Nat} {b : Nat} (hb3 : b < 3) : xC l y_X2_clear w_X2_clear ({ frames := 0, cells := 0, slots := 0, locals := 0 }) D cls0 (ty3 cA cR cL) [.ref h, .int (nI b)] (md cA h aw ar ag az cd w g sg z Rs) (none) (fun w1 => w1 = md cA h aw ar ag az cd w g (upd sg b (nI 0)) (mClr b cZ 0 z) Rs) 0 0 := by
  refine xC.ofW (cc := b_X2_clear) (maxL := 3) (ret := none) (by decide) rfl (Nat.le_of_ble_eq_true rfl) ?_
  intro p e s m below meth c A ls _ hin hx hb hr hml hown hts hlocks hA hK hP hD hS hl
  have hts : ∀ w ∈ gw, w.before ([.ref h, .int (nI b)]).toArray s = true := fun w h => hts w (List.mem_cons_of_mem _ h)
  have hown : s.vm.findClass R_Md = some m.cls := hown
  have hl : lv_has ls 3 [(0, .ref h), (1, .int (nI b))] := hl
  refine lv_iconst (v := nI 0) hx hb d_X2_clear_0 (by decide) ?_
  refine lv_istore_n (lv' := [(2, .int (nI 0)), (0, .ref h), (1, .int (nI b))]) hx hb d_X2_clear_1 rfl hl (by decide) rfl (fun ls hl => ?_)
  exact lp_X2_clear hx hb hr hml hown hts hlocks hA hK hb3 cZ 0 z (by rw [cZ_eq]) (by omega) _ _ hP hD hS ls (lv_sub hl [1, 2, 0] rfl)
def mIz (z : Nat → Nat) (b : Nat) : Nat → Nat → Nat → Nat
  | 0, _, f => f
  | n + 1, k, f => mIz z b n (k + 1) (if f = 0 then 0 else if z (1100 * b + k) = 0 then 1 else 0)
theorem mIz_b (z : Nat → Nat) (b : Nat) : ∀ n k f : Nat, f < 2 → mIz z b n k f < 2
  | 0, _, _, h => h
  | n + 1, k, f, h => mIz_b z b n (k + 1) _ (by split; omega; split <;> omega)
theorem n_bool {f : Nat} (h : f < 2) : narrow .boolean (.int (nI f)) = .int (nI f) := by
  rcases (show f = 0 ∨ f = 1 by omega) with rfl | rfl <;> rfl
set_option maxHeartbeats 800000 in
set_option maxRecDepth 100000 in
theorem lp_X2_isZero {p : Program} {l : Launch} {e : Env} {s : State} {m : MethodId} {args : Array Value} {below : List Frame} {meth : Method} {c : Code} {D : va_G} {Rs : va_W} {cA cR cL : ClassId} {h aw ar ag az : Nat} {A : Nat → Prop} {cd : Int32} {w g : Nat → Nat} {sg : Nat → Int32} {z : Nat → Nat} (hx : p.tables.exec = Jvm.exec) (hb : c.code = b_X2_isZero) (hr : meth.sig.returnType = some .boolean) (hml : c.maxLocals = 4) (hown : s.vm.findClass R_Md = some m.cls) (hts : ∀ w ∈ gw, w.before args s = true) (hlocks : meth.locks = false) (hA : ∀ q : Nat, s.heap.size ≤ q → A q) (hK : va_K D cls0 (ty3 cA cR cL) s) (hok : mdOk w g z) {b : Nat} (hb3 : b < 3) (hP : va_P D cls0 (md cA h aw ar ag az cd w g sg z Rs) s.heap) (hD : va_D A (md cA h aw ar ag az cd w g sg z Rs)) : ∀ (n : Nat) (k f : Nat), n = 1100 - k → k < 2000 → f < 2 → ∀ (ls : Array Slot), lv_has ls 4 [(0, .ref h), (1, .int (nI b)), (2, .int (nI f)), (3, .int (nI k))] → W p l e ({ frames := 0, cells := 0, slots := 0, locals := 0 }) s m args below meth c s.heap [] 0 0 (MQ below (xRQ (some (.int (nI (mIz z b n k f))))) args s 0 0 (fun _ => False)) (F0 m 4 ls []) := by
  intro n
  induction n with
  | zero =>
    intro k f hn hk hf ls hl
    refine lv_iload_n hx hb d_X2_isZero_4 rfl (lv_at hl 3 rfl) ?_
    refine lv_sipush (v := nI 1100) hx hb d_X2_isZero_5 (by decide) ?_
    refine n_icmp_ge (tgt := 42) hx hb d_X2_isZero_8 (by decide) (by omega) (by omega) (fun c_1 => ?_) (fun c_1 => ?_)
    rotate_left
    · exact absurd c_1 (by omega)
    refine lv_iload_n hx hb d_X2_isZero_42 rfl (lv_at hl 2 rfl) ?_
    exact xr_zret hx hb hr hlocks d_X2_isZero_43 (n_bool hf) rfl
  | succ n ih =>
    intro k f hn hk hf ls hl
    refine lv_iload_n hx hb d_X2_isZero_4 rfl (lv_at hl 3 rfl) ?_
    refine lv_sipush (v := nI 1100) hx hb d_X2_isZero_5 (by decide) ?_
    refine n_icmp_ge (tgt := 42) hx hb d_X2_isZero_8 (by decide) (by omega) (by omega) (fun c_1 => ?_) (fun c_1 => ?_)
    · exact absurd c_1 (by omega)
    refine lv_iload_n hx hb d_X2_isZero_11 rfl (lv_at hl 2 rfl) ?_
    refine n_if_eq (tgt := 34) hx hb d_X2_isZero_12 (by decide) (by omega) (fun c_2 => ?_) (fun c_2 => ?_)
    · refine lv_iconst (v := nI 0) hx hb d_X2_isZero_34 (by decide) ?_
      refine lv_istore_n (lv' := [(2, .int (nI 0)), (0, .ref h), (1, .int (nI b)), (3, .int (nI k))]) hx hb d_X2_isZero_35 rfl hl (by decide) rfl (fun ls hl => ?_)
      refine n_iinc (lv' := [(3, .int (nI (k + 1))), (2, .int (nI 0)), (0, .ref h), (1, .int (nI b))]) hx hb d_X2_isZero_36 hl (k := 3) rfl (by decide) rfl (fun ls hl => ?_)
      refine lv_goto (tgt := 4) hx hb d_X2_isZero_39 (by decide) ?_
      rw [show mIz z b (n + 1) k f = mIz z b n (k + 1) 0 from congrArg (mIz z b n (k + 1)) (by first | rw [if_pos (by assumption)] | rw [if_neg (by assumption), if_pos (by assumption)] | rw [if_neg (by assumption), if_neg (by assumption)])]
      exact ih (k + 1) 0 (by omega) (by omega) (by omega) ls (lv_sub hl [2, 3, 1, 0] rfl)
    · refine lv_aload_n hx hb d_X2_isZero_15 rfl (lv_at hl 0 rfl) ?_
      refine m_getZ hx hb hts hown hK hP d_X2_isZero_16 ?_
      refine lv_sipush (v := nI 1100) hx hb d_X2_isZero_19 (by decide) ?_
      refine lv_iload_n hx hb d_X2_isZero_22 rfl (lv_at hl 1 rfl) ?_
      refine n_imul hx hb d_X2_isZero_23 ?_
      refine lv_iload_n hx hb d_X2_isZero_24 rfl (lv_at hl 3 rfl) ?_
      refine n_iadd hx hb d_X2_isZero_25 ?_
      refine m_aldZ hx hb hK hP (j := (1100 * b) + k) (by omega) d_X2_isZero_26 ?_
      have hq_26 := hok.2.2 ((1100 * b) + k)
      refine n_if_ne (tgt := 34) hx hb d_X2_isZero_27 (by decide) (by omega) (fun c_3 => ?_) (fun c_3 => ?_)
      · refine lv_iconst (v := nI 0) hx hb d_X2_isZero_34 (by decide) ?_
        refine lv_istore_n (lv' := [(2, .int (nI 0)), (0, .ref h), (1, .int (nI b)), (3, .int (nI k))]) hx hb d_X2_isZero_35 rfl hl (by decide) rfl (fun ls hl => ?_)
        refine n_iinc (lv' := [(3, .int (nI (k + 1))), (2, .int (nI 0)), (0, .ref h), (1, .int (nI b))]) hx hb d_X2_isZero_36 hl (k := 3) rfl (by decide) rfl (fun ls hl => ?_)
        refine lv_goto (tgt := 4) hx hb d_X2_isZero_39 (by decide) ?_
        rw [show mIz z b (n + 1) k f = mIz z b n (k + 1) 0 from congrArg (mIz z b n (k + 1)) (by first | rw [if_pos (by assumption)] | rw [if_neg (by assumption), if_pos (by assumption)] | rw [if_neg (by assumption), if_neg (by assumption)])]
        exact ih (k + 1) 0 (by omega) (by omega) (by omega) ls (lv_sub hl [2, 3, 1, 0] rfl)
      · refine lv_iconst (v := nI 1) hx hb d_X2_isZero_30 (by decide) ?_
        refine lv_goto (tgt := 35) hx hb d_X2_isZero_31 (by decide) ?_
        refine lv_istore_n (lv' := [(2, .int (nI 1)), (0, .ref h), (1, .int (nI b)), (3, .int (nI k))]) hx hb d_X2_isZero_35 rfl hl (by decide) rfl (fun ls hl => ?_)
        refine n_iinc (lv' := [(3, .int (nI (k + 1))), (2, .int (nI 1)), (0, .ref h), (1, .int (nI b))]) hx hb d_X2_isZero_36 hl (k := 3) rfl (by decide) rfl (fun ls hl => ?_)
        refine lv_goto (tgt := 4) hx hb d_X2_isZero_39 (by decide) ?_
        rw [show mIz z b (n + 1) k f = mIz z b n (k + 1) 1 from congrArg (mIz z b n (k + 1)) (by first | rw [if_pos (by assumption)] | rw [if_neg (by assumption), if_pos (by assumption)] | rw [if_neg (by assumption), if_neg (by assumption)])]
        exact ih (k + 1) 1 (by omega) (by omega) (by omega) ls (lv_sub hl [2, 3, 1, 0] rfl)
abbrev w_X2_isZero : List Cond := .code y_X2_isZero b_X2_isZero 4 (some .boolean) :: gw
set_option maxHeartbeats 800000 in
set_option maxRecDepth 100000 in
theorem c_X2_isZero {l : Launch} {D : va_G} {Rs : va_W} {cA cR cL : ClassId} {h aw ar ag az : Nat} {cd : Int32} {w g : Nat → Nat} {sg : Nat → Int32} {z : Nat → Nat} (hok : mdOk w g z) {b : Nat} (hb3 : b < 3) : xR l y_X2_isZero w_X2_isZero ({ frames := 0, cells := 0, slots := 0, locals := 0 }) D cls0 (ty3 cA cR cL) [.ref h, .int (nI b)] (md cA h aw ar ag az cd w g sg z Rs) (some (.int (nI (mIz z b cZ 0 1)))) := by
  refine xR.ofW (cc := b_X2_isZero) (maxL := 4) (ret := some .boolean) (by decide) rfl (Nat.le_of_ble_eq_true rfl) ?_
  intro p e s m below meth c A ls _ hin hx hb hr hml hown hts hlocks hA hK hP hD hS hl
  have hts : ∀ w ∈ gw, w.before ([.ref h, .int (nI b)]).toArray s = true := fun w h => hts w (List.mem_cons_of_mem _ h)
  have hown : s.vm.findClass R_Md = some m.cls := hown
  have hl : lv_has ls 4 [(0, .ref h), (1, .int (nI b))] := hl
  refine lv_iconst (v := nI 1) hx hb d_X2_isZero_0 (by decide) ?_
  refine lv_istore_n (lv' := [(2, .int (nI 1)), (0, .ref h), (1, .int (nI b))]) hx hb d_X2_isZero_1 rfl hl (by decide) rfl (fun ls hl => ?_)
  refine lv_iconst (v := nI 0) hx hb d_X2_isZero_2 (by decide) ?_
  refine lv_istore_n (lv' := [(3, .int (nI 0)), (2, .int (nI 1)), (0, .ref h), (1, .int (nI b))]) hx hb d_X2_isZero_3 rfl hl (by decide) rfl (fun ls hl => ?_)
  exact lp_X2_isZero hx hb hr hml hown hts hlocks hA hK hok hb3 hP hD cZ 0 1 (by rw [cZ_eq]) (by omega) (by omega) ls (lv_sub hl [2, 3, 1, 0] rfl)
def mBit (z : Nat → Nat) (b k : Nat) : Nat := z (1100 * b + k / 16) / 2 ^ (k % 16) % 2
abbrev w_X2_bit : List Cond := .code y_X2_bit b_X2_bit 3 (some .int) :: gw
set_option maxHeartbeats 800000 in
set_option maxRecDepth 100000 in
theorem c_X2_bit {l : Launch} {D : va_G} {Rs : va_W} {cA cR cL : ClassId} {h aw ar ag az : Nat} {cd : Int32} {w g : Nat → Nat} {sg : Nat → Int32} {z : Nat → Nat} (hok : mdOk w g z) {b k : Nat} (hb3 : b < 3) (hk : k < 17600) : xR l y_X2_bit w_X2_bit ({ frames := 0, cells := 0, slots := 0, locals := 0 }) D cls0 (ty3 cA cR cL) [.ref h, .int (nI b), .int (nI k)] (md cA h aw ar ag az cd w g sg z Rs) (some (.int (nI (mBit z b k)))) := by
  refine xR.ofW (cc := b_X2_bit) (maxL := 3) (ret := some .int) (by decide) rfl (Nat.le_of_ble_eq_true rfl) ?_
  intro p e s m below meth c A ls _ hin hx hb hr hml hown hts hlocks hA hK hP hD hS hl
  have hts : ∀ w ∈ gw, w.before ([.ref h, .int (nI b), .int (nI k)]).toArray s = true := fun w h => hts w (List.mem_cons_of_mem _ h)
  have hown : s.vm.findClass R_Md = some m.cls := hown
  have hl : lv_has ls 3 [(0, .ref h), (1, .int (nI b)), (2, .int (nI k))] := hl
  refine lv_aload_n hx hb d_X2_bit_0 rfl (lv_at hl 0 rfl) ?_
  refine m_getZ hx hb hts hown hK hP d_X2_bit_1 ?_
  refine lv_sipush (v := nI 1100) hx hb d_X2_bit_4 (by decide) ?_
  refine lv_iload_n hx hb d_X2_bit_7 rfl (lv_at hl 1 rfl) ?_
  refine n_imul hx hb d_X2_bit_8 ?_
  refine lv_iload_n hx hb d_X2_bit_9 rfl (lv_at hl 2 rfl) ?_
  refine lv_bipush (v := nI 16) hx hb d_X2_bit_10 (by decide) ?_
  refine n_idiv hx hb d_X2_bit_12 (by omega) (by omega) (by omega) ?_
  refine n_iadd hx hb d_X2_bit_13 ?_
  refine m_aldZ hx hb hK hP (j := (1100 * b) + (k / 16)) (by omega) d_X2_bit_14 ?_
  have hq_14 := hok.2.2 ((1100 * b) + (k / 16))
  refine lv_iload_n hx hb d_X2_bit_15 rfl (lv_at hl 2 rfl) ?_
  refine lv_bipush (v := nI 16) hx hb d_X2_bit_16 (by decide) ?_
  refine n_irem hx hb d_X2_bit_18 (by omega) (by omega) (by omega) ?_
  refine n_ishr hx hb (by omega) (by omega) d_X2_bit_19 ?_
  refine lv_iconst (v := nI 1) hx hb d_X2_bit_20 (by decide) ?_
  refine n_iand1 hx hb (Nat.lt_of_le_of_lt (Nat.div_le_self _ _) (by omega)) d_X2_bit_21 ?_
  exact xr_iret hx hb hr hlocks d_X2_bit_22 rfl
set_option maxHeartbeats 800000 in
set_option maxRecDepth 100000 in
theorem lp_X2_zerosOf {p : Program} {l : Launch} {e : Env} {s : State} {m : MethodId} {args : Array Value} {below : List Frame} {meth : Method} {c : Code} {D : va_G} {Rs : va_W} {cA cR cL : ClassId} {h aw ar ag az : Nat} {A : Nat → Prop} {cd : Int32} {w g : Nat → Nat} {sg : Nat → Int32} {z : Nat → Nat} (hx : p.tables.exec = Jvm.exec) (hb : c.code = b_X2_zerosOf) (hr : meth.sig.returnType = some .int) (hml : c.maxLocals = 3) (hown : s.vm.findClass R_Md = some m.cls) (hts : ∀ w ∈ gw, w.before args s = true) (hlocks : meth.locks = false) (hA : ∀ q : Nat, s.heap.size ≤ q → A q) (hK : va_K D cls0 (ty3 cA cR cL) s) (hok : mdOk w g z) {b t : Nat} (hb3 : b < 3) (ht : t < 17600) (ht1 : mBit z b t = 1) (ht0 : ∀ k, k < t → mBit z b k = 0) (hP : va_P D cls0 (md cA h aw ar ag az cd w g sg z Rs) s.heap) (hD : va_D A (md cA h aw ar ag az cd w g sg z Rs)) : ∀ (n : Nat) (k : Nat), n = t - k → k ≤ t → ∀ (ls : Array Slot), lv_has ls 3 [(0, .ref h), (1, .int (nI b)), (2, .int (nI k))] → W p l e ({ frames := 1, cells := 0, slots := 0, locals := 22 }) s m args below meth c s.heap [] 0 0 (MQ below (xRQ (some (.int (nI t)))) args s 0 0 (fun _ => False)) (F0 m 2 ls []) := by
  intro n
  induction n with
  | zero =>
    intro k hn hk ls hl
    have hq : mBit z b k = 1 := by rw [show k = t by omega]; exact ht1
    refine lv_aload_n hx hb d_X2_zerosOf_2 rfl (lv_at hl 0 rfl) ?_
    refine lv_iload_n hx hb d_X2_zerosOf_3 rfl (lv_at hl 1 rfl) ?_
    refine lv_iload_n hx hb d_X2_zerosOf_4 rfl (lv_at hl 2 rfl) ?_
    refine x_callR (st1 := [.int (nI (mBit z b k))]) (x_runV (As := [.int (nI b), .int (nI k)]) (rest := []) (nL := 3) ⟨hx, hb, hml, hown, hts⟩ (c_X2_bit hok (b := b) (k := k) (by omega) (by omega) _) (cwV 2 hts (gw_V k_552 k_554 k_38 k_52 k_555) rfl rfl rfl (by decide +kernel) ⟨Nat.le_of_ble_eq_true rfl, Nat.le_of_ble_eq_true rfl⟩) hK hP hD 0 2 rfl rfl rfl hl.1 rfl (Nat.le_of_ble_eq_true rfl) d_X2_zerosOf_5 ⟨Nat.zero_le _, Nat.zero_le _⟩) rfl ?_
    refine n_if_ne (tgt := 17) hx hb d_X2_zerosOf_8 (by decide) (by omega) (fun c_1 => ?_) (fun c_1 => ?_)
    rotate_left
    · exact absurd c_1 (by omega)
    refine lv_iload_n hx hb d_X2_zerosOf_17 rfl (lv_at hl 2 rfl) ?_
    exact xr_iret hx hb hr hlocks d_X2_zerosOf_18 (by rw [show k = t by omega])
  | succ n ih =>
    intro k hn hk ls hl
    have hq : mBit z b k = 0 := ht0 k (by omega)
    refine lv_aload_n hx hb d_X2_zerosOf_2 rfl (lv_at hl 0 rfl) ?_
    refine lv_iload_n hx hb d_X2_zerosOf_3 rfl (lv_at hl 1 rfl) ?_
    refine lv_iload_n hx hb d_X2_zerosOf_4 rfl (lv_at hl 2 rfl) ?_
    refine x_callR (st1 := [.int (nI (mBit z b k))]) (x_runV (As := [.int (nI b), .int (nI k)]) (rest := []) (nL := 3) ⟨hx, hb, hml, hown, hts⟩ (c_X2_bit hok (b := b) (k := k) (by omega) (by omega) _) (cwV 2 hts (gw_V k_552 k_554 k_38 k_52 k_555) rfl rfl rfl (by decide +kernel) ⟨Nat.le_of_ble_eq_true rfl, Nat.le_of_ble_eq_true rfl⟩) hK hP hD 0 2 rfl rfl rfl hl.1 rfl (Nat.le_of_ble_eq_true rfl) d_X2_zerosOf_5 ⟨Nat.zero_le _, Nat.zero_le _⟩) rfl ?_
    refine n_if_ne (tgt := 17) hx hb d_X2_zerosOf_8 (by decide) (by omega) (fun c_1 => ?_) (fun c_1 => ?_)
    · exact absurd c_1 (by omega)
    refine n_iinc (lv' := [(2, .int (nI (k + 1))), (0, .ref h), (1, .int (nI b))]) hx hb d_X2_zerosOf_11 hl (k := 2) rfl (by decide) rfl (fun ls hl => ?_)
    refine lv_goto (tgt := 2) hx hb d_X2_zerosOf_14 (by decide) ?_
    exact ih (k + 1) (by omega) (by omega) ls (lv_sub hl [1, 2, 0] rfl)
abbrev w_X2_zerosOf : List Cond := .code y_X2_zerosOf b_X2_zerosOf 3 (some .int) :: gw
set_option maxHeartbeats 800000 in
set_option maxRecDepth 100000 in
theorem c_X2_zerosOf {l : Launch} {D : va_G} {Rs : va_W} {cA cR cL : ClassId} {h aw ar ag az : Nat} {cd : Int32} {w g : Nat → Nat} {sg : Nat → Int32} {z : Nat → Nat} (hok : mdOk w g z) {b t : Nat} (hb3 : b < 3) (ht : t < 17600) (ht1 : mBit z b t = 1) (ht0 : ∀ k, k < t → mBit z b k = 0) : xR l y_X2_zerosOf w_X2_zerosOf ({ frames := 1, cells := 0, slots := 0, locals := 22 }) D cls0 (ty3 cA cR cL) [.ref h, .int (nI b)] (md cA h aw ar ag az cd w g sg z Rs) (some (.int (nI t))) := by
  refine xR.ofW (cc := b_X2_zerosOf) (maxL := 3) (ret := some .int) (by decide) rfl (Nat.le_of_ble_eq_true rfl) ?_
  intro p e s m below meth c A ls _ hin hx hb hr hml hown hts hlocks hA hK hP hD hS hl
  have hts : ∀ w ∈ gw, w.before ([.ref h, .int (nI b)]).toArray s = true := fun w h => hts w (List.mem_cons_of_mem _ h)
  have hown : s.vm.findClass R_Md = some m.cls := hown
  have hl : lv_has ls 3 [(0, .ref h), (1, .int (nI b))] := hl
  refine lv_iconst (v := nI 0) hx hb d_X2_zerosOf_0 (by decide) ?_
  refine lv_istore_n (lv' := [(2, .int (nI 0)), (0, .ref h), (1, .int (nI b))]) hx hb d_X2_zerosOf_1 rfl hl (by decide) rfl (fun ls hl => ?_)
  exact lp_X2_zerosOf hx hb hr hml hown hts hlocks hA hK hok hb3 ht ht1 ht0 hP hD t 0 rfl (by omega) ls (lv_sub hl [1, 2, 0] rfl)
end
section
def mTop (z : Nat → Nat) (b : Nat) : Nat → Nat
  | 0 => 0
  | n + 1 => if z (1100 * b + n) = 0 then mTop z b n else n + 1
theorem mTop_le (z : Nat → Nat) (b : Nat) : ∀ n, mTop z b n ≤ n
  | 0 => Nat.le_refl _
  | n + 1 => by
    unfold mTop
    have := mTop_le z b n
    split <;> omega
def mLenL (a : Nat) : Nat → Nat → Nat
  | 0, n => n
  | m + 1, n => if a / 2 ^ n = 0 then n else mLenL a m (n + 1)
theorem mLenL_le (a : Nat) : ∀ m n, mLenL a m n ≤ n + m
  | 0, n => Nat.le_refl _
  | m + 1, n => by
    unfold mLenL
    have := mLenL_le a m (n + 1)
    split <;> omega
def mBitsAt (z : Nat → Nat) (b : Nat) : Nat → Nat
  | 0 => 0
  | k + 1 => 16 * k + mLenL (z (1100 * b + k)) 16 0
noncomputable def mBits (z : Nat → Nat) (b : Nat) : Nat := mBitsAt z b (mTop z b cZ)
theorem mBits_le (z : Nat → Nat) (b : Nat) : mBits z b ≤ 17600 := by
  unfold mBits
  have h : mTop z b cZ ≤ 1100 := Nat.le_trans (mTop_le z b cZ) (Nat.le_of_eq cZ_eq)
  generalize mTop z b cZ = t at h ⊢
  cases t with
  | zero => exact Nat.zero_le _
  | succ k =>
    have h2 := mLenL_le (z (1100 * b + k)) 16 0
    show 16 * k + mLenL (z (1100 * b + k)) 16 0 ≤ 17600
    omega
set_option maxHeartbeats 800000 in
set_option maxRecDepth 100000 in
theorem lq_X2_bits {p : Program} {l : Launch} {e : Env} {s : State} {m : MethodId} {args : Array Value} {below : List Frame} {meth : Method} {c : Code} {D : va_G} {Rs : va_W} {cA cR cL : ClassId} {h aw ar ag az : Nat} {A : Nat → Prop} {cd : Int32} {w g : Nat → Nat} {sg : Nat → Int32} {z : Nat → Nat} (hx : p.tables.exec = Jvm.exec) (hb : c.code = b_X2_bits) (hr : meth.sig.returnType = some .int) (hml : c.maxLocals = 4) (hown : s.vm.findClass R_Md = some m.cls) (hts : ∀ w ∈ gw, w.before args s = true) (hlocks : meth.locks = false) (hA : ∀ q : Nat, s.heap.size ≤ q → A q) (hK : va_K D cls0 (ty3 cA cR cL) s) (hok : mdOk w g z) {b k : Nat} (hb3 : b < 3) (hk : k < 1100) (hP : va_P D cls0 (md cA h aw ar ag az cd w g sg z Rs) s.heap) (hD : va_D A (md cA h aw ar ag az cd w g sg z Rs)) : ∀ (n : Nat) (t : Nat), n + t = 16 → ∀ (ls : Array Slot), lv_has ls 4 [(0, .ref h), (1, .int (nI b)), (2, .int (nI k)), (3, .int (nI t))] → W p l e ({ frames := 0, cells := 0, slots := 0, locals := 0 }) s m args below meth c s.heap [] 0 0 (MQ below (xRQ (some (.int (nI (16 * k + mLenL (z (1100 * b + k)) n t))))) args s 0 0 (fun _ => False)) (F0 m 31 ls []) := by
  intro n
  induction n with
  | zero =>
    intro t hn ls hl
    have hz0 := hok.2.2 (1100 * b + k)
    have hz1 : z (1100 * b + k) / 2 ^ t = 0 := by rw [show t = 16 by omega]; omega
    refine lv_iload_n hx hb d_X2_bits_31 rfl (lv_at hl 2 rfl) ?_
    refine n_if_lt (tgt := 58) hx hb d_X2_bits_32 (by decide) (by omega) ?_
    refine lv_aload_n hx hb d_X2_bits_35 rfl (lv_at hl 0 rfl) ?_
    refine m_getZ hx hb hts hown hK hP d_X2_bits_36 ?_
    refine lv_sipush (v := nI 1100) hx hb d_X2_bits_39 (by decide) ?_
    refine lv_iload_n hx hb d_X2_bits_42 rfl (lv_at hl 1 rfl) ?_
    refine n_imul hx hb d_X2_bits_43 ?_
    refine lv_iload_n hx hb d_X2_bits_44 rfl (lv_at hl 2 rfl) ?_
    refine n_iadd hx hb d_X2_bits_45 ?_
    refine m_aldZ hx hb hK hP (j := (1100 * b) + k) (by omega) d_X2_bits_46 ?_
    have hq_46 := hok.2.2 ((1100 * b) + k)
    refine lv_iload_n hx hb d_X2_bits_47 rfl (lv_at hl 3 rfl) ?_
    refine n_ishr hx hb (by omega) (by omega) d_X2_bits_48 ?_
    refine n_if_le (tgt := 58) hx hb d_X2_bits_49 (by decide) (Nat.lt_of_le_of_lt (Nat.div_le_self _ _) (by omega)) (fun c_1 => ?_) (fun c_1 => ?_)
    rotate_left
    · exact absurd c_1 (by omega)
    refine lv_iload_n hx hb d_X2_bits_58 rfl (lv_at hl 2 rfl) ?_
    refine n_if_ge (tgt := 66) hx hb d_X2_bits_59 (by decide) (by omega) ?_
    refine lv_bipush (v := nI 16) hx hb d_X2_bits_66 (by decide) ?_
    refine lv_iload_n hx hb d_X2_bits_68 rfl (lv_at hl 2 rfl) ?_
    refine n_imul hx hb d_X2_bits_69 ?_
    refine lv_iload_n hx hb d_X2_bits_70 rfl (lv_at hl 3 rfl) ?_
    refine n_iadd hx hb d_X2_bits_71 ?_
    exact xr_iret hx hb hr hlocks d_X2_bits_72 rfl
  | succ n ih =>
    intro t hn ls hl
    refine lv_iload_n hx hb d_X2_bits_31 rfl (lv_at hl 2 rfl) ?_
    refine n_if_lt (tgt := 58) hx hb d_X2_bits_32 (by decide) (by omega) ?_
    refine lv_aload_n hx hb d_X2_bits_35 rfl (lv_at hl 0 rfl) ?_
    refine m_getZ hx hb hts hown hK hP d_X2_bits_36 ?_
    refine lv_sipush (v := nI 1100) hx hb d_X2_bits_39 (by decide) ?_
    refine lv_iload_n hx hb d_X2_bits_42 rfl (lv_at hl 1 rfl) ?_
    refine n_imul hx hb d_X2_bits_43 ?_
    refine lv_iload_n hx hb d_X2_bits_44 rfl (lv_at hl 2 rfl) ?_
    refine n_iadd hx hb d_X2_bits_45 ?_
    refine m_aldZ hx hb hK hP (j := (1100 * b) + k) (by omega) d_X2_bits_46 ?_
    have hq_46 := hok.2.2 ((1100 * b) + k)
    refine lv_iload_n hx hb d_X2_bits_47 rfl (lv_at hl 3 rfl) ?_
    refine n_ishr hx hb (by omega) (by omega) d_X2_bits_48 ?_
    refine n_if_le (tgt := 58) hx hb d_X2_bits_49 (by decide) (Nat.lt_of_le_of_lt (Nat.div_le_self _ _) (by omega)) (fun c_1 => ?_) (fun c_1 => ?_)
    · refine lv_iload_n hx hb d_X2_bits_58 rfl (lv_at hl 2 rfl) ?_
      refine n_if_ge (tgt := 66) hx hb d_X2_bits_59 (by decide) (by omega) ?_
      refine lv_bipush (v := nI 16) hx hb d_X2_bits_66 (by decide) ?_
      refine lv_iload_n hx hb d_X2_bits_68 rfl (lv_at hl 2 rfl) ?_
      refine n_imul hx hb d_X2_bits_69 ?_
      refine lv_iload_n hx hb d_X2_bits_70 rfl (lv_at hl 3 rfl) ?_
      refine n_iadd hx hb d_X2_bits_71 ?_
      exact xr_iret hx hb hr hlocks d_X2_bits_72 (by rw [show mLenL (z (1100 * b + k)) (n + 1) t = t from if_pos (by assumption)])
    · refine n_iinc (lv' := [(3, .int (nI (t + 1))), (0, .ref h), (1, .int (nI b)), (2, .int (nI k))]) hx hb d_X2_bits_52 hl (k := 3) rfl (by decide) rfl (fun ls hl => ?_)
      refine lv_goto (tgt := 31) hx hb d_X2_bits_55 (by decide) ?_
      rw [show mLenL (z (1100 * b + k)) (n + 1) t = mLenL (z (1100 * b + k)) n (t + 1) from if_neg (by omega)]
      exact ih (t + 1) (by omega) ls (lv_sub hl [1, 2, 3, 0] rfl)
set_option maxHeartbeats 800000 in
set_option maxRecDepth 100000 in
theorem js_X2_bits_29 {p : Program} {l : Launch} {e : Env} {s : State} {m : MethodId} {args : Array Value} {below : List Frame} {meth : Method} {c : Code} {D : va_G} {Rs : va_W} {cA cR cL : ClassId} {h aw ar ag az : Nat} {A : Nat → Prop} {cd : Int32} {w g : Nat → Nat} {sg : Nat → Int32} {z : Nat → Nat} (hx : p.tables.exec = Jvm.exec) (hb : c.code = b_X2_bits) (hr : meth.sig.returnType = some .int) (hml : c.maxLocals = 4) (hown : s.vm.findClass R_Md = some m.cls) (hts : ∀ w ∈ gw, w.before args s = true) (hlocks : meth.locks = false) (hA : ∀ q : Nat, s.heap.size ≤ q → A q) (hK : va_K D cls0 (ty3 cA cR cL) s) (hok : mdOk w g z) {b : Nat} (hb3 : b < 3) (hP : va_P D cls0 (md cA h aw ar ag az cd w g sg z Rs) s.heap) (hD : va_D A (md cA h aw ar ag az cd w g sg z Rs)) (t : Nat) (ht : t ≤ 1100) (ls : Array Slot) (hl : lv_has ls 4 [(0, .ref h), (1, .int (nI b)), (2, .int (nM t))]) : W p l e ({ frames := 0, cells := 0, slots := 0, locals := 0 }) s m args below meth c s.heap [] 0 0 (MQ below (xRQ (some (.int (nI (mBitsAt z b t))))) args s 0 0 (fun _ => False)) (F0 m 29 ls []) := by
  cases t with
  | zero =>
    rw [nM_0] at hl
    refine lv_iconst (v := nI 0) hx hb d_X2_bits_29 (by decide) ?_
    refine lv_istore_n (lv' := [(3, .int (nI 0)), (0, .ref h), (1, .int (nI b)), (2, .int (-1))]) hx hb d_X2_bits_30 rfl hl (by decide) rfl (fun ls hl => ?_)
    refine lv_iload_n hx hb d_X2_bits_31 rfl (lv_at hl 3 rfl) ?_
    refine lv_if_lt (tgt := 58) hx hb d_X2_bits_32 (by decide) (fun c_1 => ?_) (fun c_1 => ?_)
    rotate_left
    · exact absurd (by decide) c_1
    refine lv_iload_n hx hb d_X2_bits_58 rfl (lv_at hl 3 rfl) ?_
    refine lv_if_ge (tgt := 66) hx hb d_X2_bits_59 (by decide) (fun c_2 => ?_) (fun c_2 => ?_)
    · exact absurd c_2 (by decide)
    refine lv_iconst (v := nI 0) hx hb d_X2_bits_62 (by decide) ?_
    refine lv_goto (tgt := 72) hx hb d_X2_bits_63 (by decide) ?_
    exact xr_iret hx hb hr hlocks d_X2_bits_72 rfl
  | succ k =>
    rw [nM_succ] at hl
    refine lv_iconst (v := nI 0) hx hb d_X2_bits_29 (by decide) ?_
    refine lv_istore_n (lv' := [(3, .int (nI 0)), (0, .ref h), (1, .int (nI b)), (2, .int (nI k))]) hx hb d_X2_bits_30 rfl hl (by decide) rfl (fun ls hl => ?_)
    exact lq_X2_bits hx hb hr hml hown hts hlocks hA hK hok hb3 (by omega) hP hD 16 0 rfl ls (lv_sub hl [1, 2, 3, 0] rfl)
set_option maxHeartbeats 800000 in
set_option maxRecDepth 100000 in
theorem lp_X2_bits {p : Program} {l : Launch} {e : Env} {s : State} {m : MethodId} {args : Array Value} {below : List Frame} {meth : Method} {c : Code} {D : va_G} {Rs : va_W} {cA cR cL : ClassId} {h aw ar ag az : Nat} {A : Nat → Prop} {cd : Int32} {w g : Nat → Nat} {sg : Nat → Int32} {z : Nat → Nat} (hx : p.tables.exec = Jvm.exec) (hb : c.code = b_X2_bits) (hr : meth.sig.returnType = some .int) (hml : c.maxLocals = 4) (hown : s.vm.findClass R_Md = some m.cls) (hts : ∀ w ∈ gw, w.before args s = true) (hlocks : meth.locks = false) (hA : ∀ q : Nat, s.heap.size ≤ q → A q) (hK : va_K D cls0 (ty3 cA cR cL) s) (hok : mdOk w g z) {b : Nat} (hb3 : b < 3) (hP : va_P D cls0 (md cA h aw ar ag az cd w g sg z Rs) s.heap) (hD : va_D A (md cA h aw ar ag az cd w g sg z Rs)) : ∀ (n : Nat), n ≤ 1100 → ∀ (ls : Array Slot), lv_has ls 4 [(0, .ref h), (1, .int (nI b)), (2, .int (nM n))] → W p l e ({ frames := 0, cells := 0, slots := 0, locals := 0 }) s m args below meth c s.heap [] 0 0 (MQ below (xRQ (some (.int (nI (mBitsAt z b (mTop z b n)))))) args s 0 0 (fun _ => False)) (F0 m 4 ls []) := by
  intro n
  induction n with
  | zero =>
    intro  hn ls hl
    rw [nM_0] at hl
    refine lv_iload_n hx hb d_X2_bits_4 rfl (lv_at hl 2 rfl) ?_
    refine lv_if_lt (tgt := 29) hx hb d_X2_bits_5 (by decide) (fun c_1 => ?_) (fun c_1 => ?_)
    rotate_left
    · exact absurd (by decide) c_1
    rw [← nM_0] at hl
    exact js_X2_bits_29 hx hb hr hml hown hts hlocks hA hK hok hb3 hP hD 0 (by omega) ls (lv_sub hl [0, 1, 2] rfl)
  | succ n ih =>
    intro  hn ls hl
    rw [nM_succ] at hl
    refine lv_iload_n hx hb d_X2_bits_4 rfl (lv_at hl 2 rfl) ?_
    refine n_if_lt (tgt := 29) hx hb d_X2_bits_5 (by decide) (by omega) ?_
    refine lv_aload_n hx hb d_X2_bits_8 rfl (lv_at hl 0 rfl) ?_
    refine m_getZ hx hb hts hown hK hP d_X2_bits_9 ?_
    refine lv_sipush (v := nI 1100) hx hb d_X2_bits_12 (by decide) ?_
    refine lv_iload_n hx hb d_X2_bits_15 rfl (lv_at hl 1 rfl) ?_
    refine n_imul hx hb d_X2_bits_16 ?_
    refine lv_iload_n hx hb d_X2_bits_17 rfl (lv_at hl 2 rfl) ?_
    refine n_iadd hx hb d_X2_bits_18 ?_
    refine m_aldZ hx hb hK hP (j := (1100 * b) + n) (by omega) d_X2_bits_19 ?_
    have hq_19 := hok.2.2 ((1100 * b) + n)
    refine n_if_ne (tgt := 29) hx hb d_X2_bits_20 (by decide) (by omega) (fun c_1 => ?_) (fun c_1 => ?_)
    · rw [← nM_succ n] at hl
      rw [show mTop z b (n + 1) = n + 1 from if_neg (by assumption)]
      exact js_X2_bits_29 hx hb hr hml hown hts hlocks hA hK hok hb3 hP hD (n + 1) (by omega) ls (lv_sub hl [0, 1, 2] rfl)
    · refine n_idec (lv' := [(2, .int (nM n)), (0, .ref h), (1, .int (nI b))]) hx hb d_X2_bits_23 hl (k := 2) rfl (by decide) rfl (fun ls hl => ?_)
      refine lv_goto (tgt := 4) hx hb d_X2_bits_26 (by decide) ?_
      rw [show mTop z b (n + 1) = mTop z b n from if_pos (by assumption)]
      exact ih (by omega) ls (lv_sub hl [1, 2, 0] rfl)
abbrev w_X2_bits : List Cond := .code y_X2_bits b_X2_bits 4 (some .int) :: gw
set_option maxHeartbeats 800000 in
set_option maxRecDepth 100000 in
theorem c_X2_bits {l : Launch} {D : va_G} {Rs : va_W} {cA cR cL : ClassId} {h aw ar ag az : Nat} {cd : Int32} {w g : Nat → Nat} {sg : Nat → Int32} {z : Nat → Nat} (hok : mdOk w g z) {b : Nat} (hb3 : b < 3) : xR l y_X2_bits w_X2_bits ({ frames := 0, cells := 0, slots := 0, locals := 0 }) D cls0 (ty3 cA cR cL) [.ref h, .int (nI b)] (md cA h aw ar ag az cd w g sg z Rs) (some (.int (nI (mBits z b)))) := by
  refine xR.ofW (cc := b_X2_bits) (maxL := 4) (ret := some .int) (by decide) rfl (Nat.le_of_ble_eq_true rfl) ?_
  intro p e s m below meth c A ls _ hin hx hb hr hml hown hts hlocks hA hK hP hD hS hl
  have hts : ∀ w ∈ gw, w.before ([.ref h, .int (nI b)]).toArray s = true := fun w h => hts w (List.mem_cons_of_mem _ h)
  have hown : s.vm.findClass R_Md = some m.cls := hown
  have hl : lv_has ls 4 [(0, .ref h), (1, .int (nI b))] := hl
  refine lv_sipush (v := nI 1099) hx hb d_X2_bits_0 (by decide) ?_
  refine lv_istore_n (lv' := [(2, .int (nI 1099)), (0, .ref h), (1, .int (nI b))]) hx hb d_X2_bits_3 rfl hl (by decide) rfl (fun ls hl => ?_)
  rw [show nI 1099 = nM cZ from by rw [cZ_eq]; exact (nM_succ 1099).symm] at hl
  exact lp_X2_bits hx hb hr hml hown hts hlocks hA hK hok hb3 hP hD cZ (by rw [cZ_eq]; exact Nat.le_refl _) ls (lv_sub hl [1, 2, 0] rfl)
/-- t: the place of the lowest bit that is set, where the sign is less than 0 -/
def mLow (z : Nat → Nat) (b t : Nat) : Prop := t < 17600 ∧ mBit z b t = 1 ∧ (∀ k, k < t → mBit z b k = 0) ∧ 1 ≤ mBits z b
noncomputable def mLenO (sg : Nat → Int32) (z : Nat → Nat) (b t : Nat) : Nat := if 0 ≤ sg b then mBits z b else if t = mBits z b - 1 then mBits z b - 1 else mBits z b
abbrev w_X2_lengthOf : List Cond := .code y_X2_lengthOf b_X2_lengthOf 3 (some .int) :: gw
set_option maxHeartbeats 800000 in
set_option maxRecDepth 100000 in
theorem c_X2_lengthOf {l : Launch} {D : va_G} {Rs : va_W} {cA cR cL : ClassId} {h aw ar ag az : Nat} {cd : Int32} {w g : Nat → Nat} {sg : Nat → Int32} {z : Nat → Nat} (hok : mdOk w g z) {b t : Nat} (hb3 : b < 3) (hlow : ¬ 0 ≤ sg b → mLow z b t) : xR l y_X2_lengthOf w_X2_lengthOf ({ frames := 2, cells := 0, slots := 0, locals := 44 }) D cls0 (ty3 cA cR cL) [.ref h, .int (nI b)] (md cA h aw ar ag az cd w g sg z Rs) (some (.int (nI (mLenO sg z b t)))) := by
  refine xR.ofW (cc := b_X2_lengthOf) (maxL := 3) (ret := some .int) (by decide) rfl (Nat.le_of_ble_eq_true rfl) ?_
  intro p e s m below meth c A ls _ hin hx hb hr hml hown hts hlocks hA hK hP hD hS hl
  have hts : ∀ w ∈ gw, w.before ([.ref h, .int (nI b)]).toArray s = true := fun w h => hts w (List.mem_cons_of_mem _ h)
  have hown : s.vm.findClass R_Md = some m.cls := hown
  have hl : lv_has ls 3 [(0, .ref h), (1, .int (nI b))] := hl
  have hbl := mBits_le z b
  refine lv_aload_n hx hb d_X2_lengthOf_0 rfl (lv_at hl 0 rfl) ?_
  refine lv_iload_n hx hb d_X2_lengthOf_1 rfl (lv_at hl 1 rfl) ?_
  refine x_callR (st1 := [.int (nI (mBits z b))]) (x_runV (As := [.int (nI b)]) (rest := []) (nL := 3) ⟨hx, hb, hml, hown, hts⟩ (c_X2_bits hok (by omega) _) (cwV 1 hts (gw_V k_544 k_546 k_36 k_52 k_547) rfl rfl rfl (by decide +kernel) ⟨Nat.le_of_ble_eq_true rfl, Nat.le_of_ble_eq_true rfl⟩) hK hP hD 0 2 rfl rfl rfl hl.1 rfl (Nat.le_of_ble_eq_true rfl) d_X2_lengthOf_2 ⟨Nat.zero_le _, Nat.zero_le _⟩) rfl ?_
  refine lv_istore_n (lv' := [(2, .int (nI (mBits z b))), (0, .ref h), (1, .int (nI b))]) hx hb d_X2_lengthOf_5 rfl hl (by decide) rfl (fun ls hl => ?_)
  refine lv_aload_n hx hb d_X2_lengthOf_6 rfl (lv_at hl 1 rfl) ?_
  refine m_getG hx hb hts hown hK hP d_X2_lengthOf_7 ?_
  refine lv_iload_n hx hb d_X2_lengthOf_10 rfl (lv_at hl 2 rfl) ?_
  refine m_aldG hx hb hK hP (j := b) (by omega) d_X2_lengthOf_11 ?_
  refine lv_if_ge (tgt := 32) hx hb d_X2_lengthOf_12 (by decide) (fun c_1 => ?_) (fun c_1 => ?_)
  · refine lv_iload_n hx hb d_X2_lengthOf_32 rfl (lv_at hl 0 rfl) ?_
    exact xr_iret hx hb hr hlocks d_X2_lengthOf_33 (by unfold mLenO; first | rw [if_pos (by assumption)] | rw [if_neg (by assumption), if_pos (by assumption)] | rw [if_neg (by assumption), if_neg (by assumption)])
  · refine lv_aload_n hx hb d_X2_lengthOf_15 rfl (lv_at hl 1 rfl) ?_
    refine lv_iload_n hx hb d_X2_lengthOf_16 rfl (lv_at hl 2 rfl) ?_
    obtain ⟨hl1, hl2, hl3, hl4⟩ := hlow c_1
    refine x_callR (st1 := [.int (nI t)]) (x_runV (As := [.int (nI b)]) (rest := []) (nL := 3) ⟨hx, hb, hml, hown, hts⟩ (c_X2_zerosOf hok hb3 hl1 hl2 hl3 _) (cwV 1 hts (gw_V k_548 k_550 k_37 k_52 k_551) rfl rfl rfl (by decide +kernel) ⟨Nat.le_of_ble_eq_true rfl, Nat.le_of_ble_eq_true rfl⟩) hK hP hD 0 2 rfl rfl rfl hl.1 rfl (Nat.le_of_ble_eq_true rfl) d_X2_lengthOf_17 ⟨Nat.zero_le _, Nat.zero_le _⟩) rfl ?_
    refine lv_iload_n hx hb d_X2_lengthOf_20 rfl (lv_at hl 0 rfl) ?_
    refine lv_iconst (v := nI 1) hx hb d_X2_lengthOf_21 (by decide) ?_
    refine n_isub hx hb d_X2_lengthOf_22 (by omega) ?_
    refine n_icmp_ne (tgt := 32) hx hb d_X2_lengthOf_23 (by decide) (by omega) (by omega) (fun c_2 => ?_) (fun c_2 => ?_)
    · refine lv_iload_n hx hb d_X2_lengthOf_32 rfl (lv_at hl 0 rfl) ?_
      exact xr_iret hx hb hr hlocks d_X2_lengthOf_33 (by unfold mLenO; first | rw [if_pos (by assumption)] | rw [if_neg (by assumption), if_pos (by assumption)] | rw [if_neg (by assumption), if_neg (by assumption)])
    · refine lv_iload_n hx hb d_X2_lengthOf_26 rfl (lv_at hl 0 rfl) ?_
      refine lv_iconst (v := nI 1) hx hb d_X2_lengthOf_27 (by decide) ?_
      refine n_isub hx hb d_X2_lengthOf_28 (by omega) ?_
      refine lv_goto (tgt := 33) hx hb d_X2_lengthOf_29 (by decide) ?_
      exact xr_iret hx hb hr hlocks d_X2_lengthOf_33 (by unfold mLenO; first | rw [if_pos (by assumption)] | rw [if_neg (by assumption), if_pos (by assumption)] | rw [if_neg (by assumption), if_neg (by assumption)])
end
section
theorem mClr_ok {w g : Nat → Nat} {b : Nat} : ∀ (n k : Nat) (z : Nat → Nat), mdOk w g z → mdOk w g (mClr b n k z)
  | 0, _, _, h => h
  | n + 1, k, z, h => mClr_ok n (k + 1) _ (h.z (by omega))
def mD2 (f a : Nat) : Nat := if f = 0 then a else 65535 - a
theorem mD2_lt {f a : Nat} (h : a < 65536) : mD2 f a < 65536 := by unfold mD2; split <;> omega
def mLdZ (g : Nat → Nat) (r b f N : Nat) : Nat → Nat → Nat → (Nat → Nat) → Nat → Nat
  | 0, _, cy, z => va_up z (1100 * b + N) cy
  | n + 1, k, cy, z => mLdZ g r b f N n (k + 1) ((mD2 f (g (512 * r + k)) + cy) / 65536) (va_up z (1100 * b + k) ((mD2 f (g (512 * r + k)) + cy) % 65536))
theorem mLdZ_ok {w g : Nat → Nat} {r b f N : Nat} : ∀ (n k cy : Nat) (z : Nat → Nat), cy < 2 → mdOk w g z → mdOk w g (mLdZ g r b f N n k cy z)
  | 0, _, _, _, hc, h => h.z (by omega)
  | n + 1, k, cy, z, hc, h => mLdZ_ok n (k + 1) _ _ (by have := mD2_lt (f := f) (h.2.1 (512 * r + k)); omega) (h.z (by omega))
def mSgn (f iz : Nat) : Int32 := if iz = 0 then (if f = 0 then nI 1 else -1) else nI 0
def mLess (w g : Nat → Nat) (r : Nat) : Nat := if g (512 * r + 2 * w r - 1) < 32768 then 0 else 1
noncomputable def mLoadZ (w g : Nat → Nat) (r b : Nat) (z : Nat → Nat) : Nat → Nat := mLdZ g r b (mLess w g r) (2 * w r) (2 * w r) 0 (mLess w g r) (mClr b cZ 0 z)
noncomputable def mLoadG (w g : Nat → Nat) (r b : Nat) (z : Nat → Nat) (sg : Nat → Int32) : Nat → Int32 := upd (upd sg b (nI 0)) b (mSgn (mLess w g r) (mIz (mLoadZ w g r b z) b cZ 0 1))
theorem mLoadZ_ok {w g z : Nat → Nat} {r b : Nat} (h : mdOk w g z) : mdOk w g (mLoadZ w g r b z) := mLdZ_ok _ _ _ _ (by unfold mLess; split <;> omega) (mClr_ok _ _ _ h)
set_option maxHeartbeats 800000 in
set_option maxRecDepth 100000 in
theorem lp_X2_load {p : Program} {l : Launch} {e : Env} {s : State} {m : MethodId} {args : Array Value} {below : List Frame} {meth : Method} {c : Code} {D : va_G} {Rs : va_W} {cA cR cL : ClassId} {h aw ar ag az : Nat} {A : Nat → Prop} {cd : Int32} {w g : Nat → Nat} {sg : Nat → Int32} (hx : p.tables.exec = Jvm.exec) (hb : c.code = b_X2_load) (hr : meth.sig.returnType = none) (hml : c.maxLocals = 8) (hown : s.vm.findClass R_Md = some m.cls) (hts : ∀ w ∈ gw, w.before args s = true) (hlocks : meth.locks = false) (hA : ∀ q : Nat, s.heap.size ≤ q → A q) (hK : va_K D cls0 (ty3 cA cR cL) s) {b r N f : Nat} (hb3 : b < 3) (hr64 : r < 64) (hN : N ≤ 512) : ∀ (n : Nat) (k cy : Nat) (z : Nat → Nat), n = N - k → k ≤ N → cy < 2 → f < 2 → mdOk w g z → ∀ (H : Heap) (locs : List Loc), va_P D cls0 (md cA h aw ar ag az cd w g sg z Rs) H → va_D A (md cA h aw ar ag az cd w g sg z Rs) → va_S A s.heap H locs → ∀ (ls : Array Slot), lv_has ls 8 [(0, .ref h), (1, .int (nI b)), (2, .int (nI r)), (3, .int (nI N)), (4, .int (nI f)), (5, .int (nI cy)), (6, .int (nI k))] → W p l e ({ frames := 1, cells := 0, slots := 0, locals := 23 }) s m args below meth c H locs 0 0 (MQ below (xQ (none) (xB D cls0 A (fun w1 => w1 = md cA h aw ar ag az cd w g (upd sg b (mSgn f (mIz (mLdZ g r b f N n k cy z) b cZ 0 1))) (mLdZ g r b f N n k cy z) Rs)) A) args s 0 0 A) (F0 m 55 ls []) := by
  intro n
  induction n with
  | zero =>
    intro k cy z hn hk hcy hf hok H locs hP hD hS ls hl
    refine lv_iload hx hb d_X2_load_55 (lv_at hl 6 rfl) ?_
    refine lv_iload_n hx hb d_X2_load_57 rfl (lv_at hl 3 rfl) ?_
    refine n_icmp_ge (tgt := 127) hx hb d_X2_load_58 (by decide) (by omega) (by omega) (fun c_1 => ?_) (fun c_1 => ?_)
    rotate_left
    · exact absurd c_1 (by omega)
    refine lv_aload_n hx hb d_X2_load_127 rfl (lv_at hl 0 rfl) ?_
    refine m_getZ hx hb hts hown hK hP d_X2_load_128 ?_
    refine lv_sipush (v := nI 1100) hx hb d_X2_load_131 (by decide) ?_
    refine lv_iload_n hx hb d_X2_load_134 rfl (lv_at hl 1 rfl) ?_
    refine n_imul hx hb d_X2_load_135 ?_
    refine lv_iload_n hx hb d_X2_load_136 rfl (lv_at hl 3 rfl) ?_
    refine n_iadd hx hb d_X2_load_137 ?_
    refine lv_iload hx hb d_X2_load_138 (lv_at hl 5 rfl) ?_
    refine m_astZ hx hb hK hP hD hS (j := (1100 * b) + N) (v := cy) (by omega) d_X2_load_140 (fun H locs hP hD hS => ?_)
    have hok := hok.z (j := (1100 * b) + N) (v := cy) (by omega)
    refine lv_aload_n hx hb d_X2_load_141 rfl (lv_at hl 0 rfl) ?_
    refine m_getG hx hb hts hown hK hP d_X2_load_142 ?_
    refine lv_iload_n hx hb d_X2_load_145 rfl (lv_at hl 1 rfl) ?_
    refine lv_aload_n hx hb d_X2_load_146 rfl (lv_at hl 0 rfl) ?_
    refine lv_iload_n hx hb d_X2_load_147 rfl (lv_at hl 1 rfl) ?_
    refine x_callR (st1 := [.int (nI (mIz (va_up z ((1100 * b) + N) cy) b cZ 0 1)), .int (nI b), .ref ag]) (x_runV (As := [.int (nI b)]) (rest := [.int (nI b), .ref ag]) (nL := 8) ⟨hx, hb, hml, hown, hts⟩ (c_X2_isZero hok (by omega) _) (cwV 1 hts (gw_V k_532 k_534 k_33 k_52 k_535) rfl rfl rfl (by decide +kernel) ⟨Nat.le_of_ble_eq_true rfl, Nat.le_of_ble_eq_true rfl⟩) hK hP hD 0 2 rfl rfl rfl hl.1 rfl (Nat.le_of_ble_eq_true rfl) d_X2_load_148 ⟨Nat.zero_le _, Nat.zero_le _⟩) rfl ?_
    have hiz := mIz_b (va_up z ((1100 * b) + N) cy) b cZ 0 1 (by omega)
    refine n_if_eq (tgt := 158) hx hb d_X2_load_151 (by decide) (by omega) (fun c_2 => ?_) (fun c_2 => ?_)
    · refine lv_iload hx hb d_X2_load_158 (lv_at hl 4 rfl) ?_
      refine n_if_eq (tgt := 167) hx hb d_X2_load_160 (by decide) (by omega) (fun c_3 => ?_) (fun c_3 => ?_)
      · refine lv_iconst (v := nI 1) hx hb d_X2_load_167 (by decide) ?_
        refine m_astG hx hb hK hP hD hS (j := b) (x := nI 1) (by omega) d_X2_load_168 (fun H locs hP hD hS => ?_)
        exact x_vret hx hb hr hlocks hP hD hS d_X2_load_169 rfl (by rw [show mLdZ g r b f N 0 k cy z = va_up z (1100 * b + N) cy from rfl]; unfold mSgn; first | rw [if_neg (by assumption)] | rw [if_pos (by assumption), if_pos (by assumption)] | rw [if_pos (by assumption), if_neg (by assumption)])
      · refine lv_iconst (v := -1) hx hb d_X2_load_163 (by decide) ?_
        refine lv_goto (tgt := 168) hx hb d_X2_load_164 (by decide) ?_
        refine m_astG hx hb hK hP hD hS (j := b) (x := -1) (by omega) d_X2_load_168 (fun H locs hP hD hS => ?_)
        exact x_vret hx hb hr hlocks hP hD hS d_X2_load_169 rfl (by rw [show mLdZ g r b f N 0 k cy z = va_up z (1100 * b + N) cy from rfl]; unfold mSgn; first | rw [if_neg (by assumption)] | rw [if_pos (by assumption), if_pos (by assumption)] | rw [if_pos (by assumption), if_neg (by assumption)])
    · refine lv_iconst (v := nI 0) hx hb d_X2_load_154 (by decide) ?_
      refine lv_goto (tgt := 168) hx hb d_X2_load_155 (by decide) ?_
      refine m_astG hx hb hK hP hD hS (j := b) (x := nI 0) (by omega) d_X2_load_168 (fun H locs hP hD hS => ?_)
      exact x_vret hx hb hr hlocks hP hD hS d_X2_load_169 rfl (by rw [show mLdZ g r b f N 0 k cy z = va_up z (1100 * b + N) cy from rfl]; unfold mSgn; first | rw [if_neg (by assumption)] | rw [if_pos (by assumption), if_pos (by assumption)] | rw [if_pos (by assumption), if_neg (by assumption)])
  | succ n ih =>
    intro k cy z hn hk hcy hf hok H locs hP hD hS ls hl
    have hd9 := mD2_lt (f := f) (hok.2.1 (512 * r + k))
    refine lv_iload hx hb d_X2_load_55 (lv_at hl 6 rfl) ?_
    refine lv_iload_n hx hb d_X2_load_57 rfl (lv_at hl 3 rfl) ?_
    refine n_icmp_ge (tgt := 127) hx hb d_X2_load_58 (by decide) (by omega) (by omega) (fun c_1 => ?_) (fun c_1 => ?_)
    · exact absurd c_1 (by omega)
    refine lv_aload_n hx hb d_X2_load_61 rfl (lv_at hl 0 rfl) ?_
    refine m_getR hx hb hts hown hK hP d_X2_load_62 ?_
    refine lv_sipush (v := nI 512) hx hb d_X2_load_65 (by decide) ?_
    refine lv_iload_n hx hb d_X2_load_68 rfl (lv_at hl 2 rfl) ?_
    refine n_imul hx hb d_X2_load_69 ?_
    refine lv_iload hx hb d_X2_load_70 (lv_at hl 6 rfl) ?_
    refine n_iadd hx hb d_X2_load_72 ?_
    refine m_aldR hx hb hK hP (j := (512 * r) + k) (by omega) d_X2_load_73 ?_
    have hq_73 := hok.2.1 ((512 * r) + k)
    refine lv_istore (lv' := [(7, .int (nI (g ((512 * r) + k)))), (0, .ref h), (1, .int (nI b)), (2, .int (nI r)), (3, .int (nI N)), (4, .int (nI f)), (5, .int (nI cy)), (6, .int (nI k))]) hx hb d_X2_load_74 hl (by decide) rfl (fun ls hl => ?_)
    refine lv_iload hx hb d_X2_load_76 (lv_at hl 5 rfl) ?_
    refine n_if_eq (tgt := 89) hx hb d_X2_load_78 (by decide) (by omega) (fun c_2 => ?_) (fun c_2 => ?_)
    · refine lv_iload hx hb d_X2_load_89 (lv_at hl 0 rfl) ?_
      refine lv_iload hx hb d_X2_load_91 (lv_at hl 6 rfl) ?_
      refine n_iadd hx hb d_X2_load_93 ?_
      refine lv_istore (lv' := [(7, .int (nI ((g ((512 * r) + k)) + cy))), (0, .ref h), (1, .int (nI b)), (2, .int (nI r)), (3, .int (nI N)), (4, .int (nI f)), (5, .int (nI cy)), (6, .int (nI k))]) hx hb d_X2_load_94 hl (by decide) rfl (fun ls hl => ?_)
      refine lv_iload hx hb d_X2_load_96 (lv_at hl 0 rfl) ?_
      refine lv_ldc (v := nI 65536) hx hb hown (hts (.constant "LimbRowsModel" 32 (nI 65536)) (show Cond.constant "LimbRowsModel" 32 65536 ∈ gw from k_531)) d_X2_load_98 ?_
      refine n_idiv hx hb d_X2_load_100 (by omega) (by omega) (by omega) ?_
      refine lv_istore (lv' := [(5, .int (nI (((g ((512 * r) + k)) + cy) / 65536))), (7, .int (nI ((g ((512 * r) + k)) + cy))), (0, .ref h), (1, .int (nI b)), (2, .int (nI r)), (3, .int (nI N)), (4, .int (nI f)), (6, .int (nI k))]) hx hb d_X2_load_101 hl (by decide) rfl (fun ls hl => ?_)
      refine lv_aload_n hx hb d_X2_load_103 rfl (lv_at hl 2 rfl) ?_
      refine m_getZ hx hb hts hown hK hP d_X2_load_104 ?_
      refine lv_sipush (v := nI 1100) hx hb d_X2_load_107 (by decide) ?_
      refine lv_iload_n hx hb d_X2_load_110 rfl (lv_at hl 3 rfl) ?_
      refine n_imul hx hb d_X2_load_111 ?_
      refine lv_iload hx hb d_X2_load_112 (lv_at hl 7 rfl) ?_
      refine n_iadd hx hb d_X2_load_114 ?_
      refine lv_iload hx hb d_X2_load_115 (lv_at hl 1 rfl) ?_
      refine lv_ldc (v := nI 65536) hx hb hown (hts (.constant "LimbRowsModel" 32 (nI 65536)) (show Cond.constant "LimbRowsModel" 32 65536 ∈ gw from k_531)) d_X2_load_117 ?_
      refine n_irem hx hb d_X2_load_119 (by omega) (by omega) (by omega) ?_
      refine m_astZ hx hb hK hP hD hS (j := (1100 * b) + k) (v := ((g ((512 * r) + k)) + cy) % 65536) (by omega) d_X2_load_120 (fun H locs hP hD hS => ?_)
      have hok := hok.z (j := (1100 * b) + k) (v := ((g ((512 * r) + k)) + cy) % 65536) (by omega)
      refine n_iinc (lv' := [(6, .int (nI (k + 1))), (5, .int (nI (((g ((512 * r) + k)) + cy) / 65536))), (7, .int (nI ((g ((512 * r) + k)) + cy))), (0, .ref h), (1, .int (nI b)), (2, .int (nI r)), (3, .int (nI N)), (4, .int (nI f))]) hx hb d_X2_load_121 hl (k := 7) rfl (by decide) rfl (fun ls hl => ?_)
      refine lv_goto (tgt := 55) hx hb d_X2_load_124 (by decide) ?_
      have hd2 : mD2 f (g (512 * r + k)) = g (512 * r + k) := if_pos (by assumption)
      rw [show mLdZ g r b f N (n + 1) k cy z = mLdZ g r b f N n (k + 1) ((mD2 f (g (512 * r + k)) + cy) / 65536) (va_up z (1100 * b + k) ((mD2 f (g (512 * r + k)) + cy) % 65536)) from rfl, hd2]
      exact ih (k + 1) _ _ (by omega) (by omega) (by omega) (by omega) hok H locs hP hD hS ls (lv_sub hl [3, 4, 5, 6, 7, 1, 0] rfl)
    · refine lv_ldc (v := nI 65535) hx hb hown (hts (.constant "LimbRowsModel" 31 (nI 65535)) (show Cond.constant "LimbRowsModel" 31 65535 ∈ gw from k_530)) d_X2_load_81 ?_
      refine lv_iload hx hb d_X2_load_83 (lv_at hl 0 rfl) ?_
      refine n_isub hx hb d_X2_load_85 (by omega) ?_
      refine lv_goto (tgt := 91) hx hb d_X2_load_86 (by decide) ?_
      refine lv_iload hx hb d_X2_load_91 (lv_at hl 6 rfl) ?_
      refine n_iadd hx hb d_X2_load_93 ?_
      refine lv_istore (lv' := [(7, .int (nI ((65535 - (g ((512 * r) + k))) + cy))), (0, .ref h), (1, .int (nI b)), (2, .int (nI r)), (3, .int (nI N)), (4, .int (nI f)), (5, .int (nI cy)), (6, .int (nI k))]) hx hb d_X2_load_94 hl (by decide) rfl (fun ls hl => ?_)
      refine lv_iload hx hb d_X2_load_96 (lv_at hl 0 rfl) ?_
      refine lv_ldc (v := nI 65536) hx hb hown (hts (.constant "LimbRowsModel" 32 (nI 65536)) (show Cond.constant "LimbRowsModel" 32 65536 ∈ gw from k_531)) d_X2_load_98 ?_
      refine n_idiv hx hb d_X2_load_100 (by omega) (by omega) (by omega) ?_
      refine lv_istore (lv' := [(5, .int (nI (((65535 - (g ((512 * r) + k))) + cy) / 65536))), (7, .int (nI ((65535 - (g ((512 * r) + k))) + cy))), (0, .ref h), (1, .int (nI b)), (2, .int (nI r)), (3, .int (nI N)), (4, .int (nI f)), (6, .int (nI k))]) hx hb d_X2_load_101 hl (by decide) rfl (fun ls hl => ?_)
      refine lv_aload_n hx hb d_X2_load_103 rfl (lv_at hl 2 rfl) ?_
      refine m_getZ hx hb hts hown hK hP d_X2_load_104 ?_
      refine lv_sipush (v := nI 1100) hx hb d_X2_load_107 (by decide) ?_
      refine lv_iload_n hx hb d_X2_load_110 rfl (lv_at hl 3 rfl) ?_
      refine n_imul hx hb d_X2_load_111 ?_
      refine lv_iload hx hb d_X2_load_112 (lv_at hl 7 rfl) ?_
      refine n_iadd hx hb d_X2_load_114 ?_
      refine lv_iload hx hb d_X2_load_115 (lv_at hl 1 rfl) ?_
      refine lv_ldc (v := nI 65536) hx hb hown (hts (.constant "LimbRowsModel" 32 (nI 65536)) (show Cond.constant "LimbRowsModel" 32 65536 ∈ gw from k_531)) d_X2_load_117 ?_
      refine n_irem hx hb d_X2_load_119 (by omega) (by omega) (by omega) ?_
      refine m_astZ hx hb hK hP hD hS (j := (1100 * b) + k) (v := ((65535 - (g ((512 * r) + k))) + cy) % 65536) (by omega) d_X2_load_120 (fun H locs hP hD hS => ?_)
      have hok := hok.z (j := (1100 * b) + k) (v := ((65535 - (g ((512 * r) + k))) + cy) % 65536) (by omega)
      refine n_iinc (lv' := [(6, .int (nI (k + 1))), (5, .int (nI (((65535 - (g ((512 * r) + k))) + cy) / 65536))), (7, .int (nI ((65535 - (g ((512 * r) + k))) + cy))), (0, .ref h), (1, .int (nI b)), (2, .int (nI r)), (3, .int (nI N)), (4, .int (nI f))]) hx hb d_X2_load_121 hl (k := 7) rfl (by decide) rfl (fun ls hl => ?_)
      refine lv_goto (tgt := 55) hx hb d_X2_load_124 (by decide) ?_
      have hd2 : mD2 f (g (512 * r + k)) = 65535 - g (512 * r + k) := if_neg (by assumption)
      rw [show mLdZ g r b f N (n + 1) k cy z = mLdZ g r b f N n (k + 1) ((mD2 f (g (512 * r + k)) + cy) / 65536) (va_up z (1100 * b + k) ((mD2 f (g (512 * r + k)) + cy) % 65536)) from rfl, hd2]
      exact ih (k + 1) _ _ (by omega) (by omega) (by omega) (by omega) hok H locs hP hD hS ls (lv_sub hl [3, 4, 5, 6, 7, 1, 0] rfl)
abbrev w_X2_load : List Cond := .code y_X2_load b_X2_load 8 (none) :: gw
set_option maxHeartbeats 800000 in
set_option maxRecDepth 100000 in
theorem c_X2_load {l : Launch} {D : va_G} {Rs : va_W} {cA cR cL : ClassId} {h aw ar ag az : Nat} {cd : Int32} {w g : Nat → Nat} {sg : Nat → Int32} {z : Nat → Nat} (hok : mdOk w g z) {b r : Nat} (hb3 : b < 3) (hr64 : r < 64) : xC l y_X2_load w_X2_load ({ frames := 1, cells := 0, slots := 0, locals := 23 }) D cls0 (ty3 cA cR cL) [.ref h, .int (nI b), .int (nI r)] (md cA h aw ar ag az cd w g sg z Rs) (none) (fun w1 => w1 = md cA h aw ar ag az cd w g (mLoadG w g r b z sg) (mLoadZ w g r b z) Rs) 0 0 := by
  refine xC.ofW (cc := b_X2_load) (maxL := 8) (ret := none) (by decide) rfl (Nat.le_of_ble_eq_true rfl) ?_
  intro p e s m below meth c A ls _ hin hx hb hr hml hown hts hlocks hA hK hP hD hS hl
  have hts : ∀ w ∈ gw, w.before ([.ref h, .int (nI b), .int (nI r)]).toArray s = true := fun w h => hts w (List.mem_cons_of_mem _ h)
  have hown : s.vm.findClass R_Md = some m.cls := hown
  have hl : lv_has ls 8 [(0, .ref h), (1, .int (nI b)), (2, .int (nI r))] := hl
  have hwr := hok.1 r hr64
  refine lv_aload_n hx hb d_X2_load_0 rfl (lv_at hl 0 rfl) ?_
  refine lv_iload_n hx hb d_X2_load_1 rfl (lv_at hl 1 rfl) ?_
  refine x_call (st1 := []) (x_runV (As := [.int (nI b)]) (rest := []) (nL := 8) ⟨hx, hb, hml, hown, hts⟩ (c_X2_clear (b := b) (by omega) _) (cwV 1 hts (gw_V k_526 k_528 k_32 k_52 k_529) rfl rfl rfl (by decide +kernel) ⟨Nat.le_of_ble_eq_true rfl, Nat.le_of_ble_eq_true rfl⟩) hK hP hD 0 2 rfl rfl rfl hl.1 rfl (Nat.le_of_ble_eq_true rfl) d_X2_load_2 ⟨Nat.zero_le _, Nat.zero_le _⟩) hS (x_sub hD hS hA) (x_sub hD hS hA) rfl (fun w1 H locs hY hP hD hS => ?_)
  subst hY
  have hok := mClr_ok (b := b) cZ 0 _ hok
  refine lv_iconst (v := nI 2) hx hb d_X2_load_5 (by decide) ?_
  refine lv_aload_n hx hb d_X2_load_6 rfl (lv_at hl 0 rfl) ?_
  refine m_getW hx hb hts hown hK hP d_X2_load_7 ?_
  refine lv_iload_n hx hb d_X2_load_10 rfl (lv_at hl 2 rfl) ?_
  have hq_11 := hok.1 r (by omega)
  refine m_aldW hx hb hK hP (j := r) (by omega) d_X2_load_11 ?_
  refine n_imul hx hb d_X2_load_12 ?_
  refine lv_istore_n (lv' := [(3, .int (nI (2 * (w r)))), (0, .ref h), (1, .int (nI b)), (2, .int (nI r))]) hx hb d_X2_load_13 rfl hl (by decide) rfl (fun ls hl => ?_)
  refine lv_aload_n hx hb d_X2_load_14 rfl (lv_at hl 1 rfl) ?_
  refine m_getR hx hb hts hown hK hP d_X2_load_15 ?_
  refine lv_sipush (v := nI 512) hx hb d_X2_load_18 (by decide) ?_
  refine lv_iload_n hx hb d_X2_load_21 rfl (lv_at hl 3 rfl) ?_
  refine n_imul hx hb d_X2_load_22 ?_
  refine lv_iload_n hx hb d_X2_load_23 rfl (lv_at hl 0 rfl) ?_
  refine n_iadd hx hb d_X2_load_24 ?_
  refine lv_iconst (v := nI 1) hx hb d_X2_load_25 (by decide) ?_
  refine n_isub hx hb d_X2_load_26 (by omega) ?_
  refine m_aldR hx hb hK hP (j := ((512 * r) + (2 * (w r))) - 1) (by omega) d_X2_load_27 ?_
  have hq_27 := hok.2.1 (((512 * r) + (2 * (w r))) - 1)
  refine lv_ldc (v := nI 32768) hx hb hown (hts (.constant "LimbRowsModel" 13 (nI 32768)) (show Cond.constant "LimbRowsModel" 13 32768 ∈ gw from k_490)) d_X2_load_28 ?_
  refine n_icmp_lt (tgt := 37) hx hb d_X2_load_30 (by decide) (by omega) (by omega) (fun c_1 => ?_) (fun c_1 => ?_)
  · refine lv_iconst (v := nI 0) hx hb d_X2_load_37 (by decide) ?_
    refine lv_istore (lv' := [(4, .int (nI 0)), (3, .int (nI (2 * (w r)))), (0, .ref h), (1, .int (nI b)), (2, .int (nI r))]) hx hb d_X2_load_38 hl (by decide) rfl (fun ls hl => ?_)
    refine lv_iload hx hb d_X2_load_40 (lv_at hl 0 rfl) ?_
    refine n_if_eq (tgt := 49) hx hb d_X2_load_42 (by decide) (by omega) (fun _ => ?_) (fun c => absurd c (by decide))
    refine lv_iconst (v := nI 0) hx hb d_X2_load_49 (by decide) ?_
    refine lv_istore (lv' := [(5, .int (nI 0)), (4, .int (nI 0)), (3, .int (nI (2 * (w r)))), (0, .ref h), (1, .int (nI b)), (2, .int (nI r))]) hx hb d_X2_load_50 hl (by decide) rfl (fun ls hl => ?_)
    refine lv_iconst (v := nI 0) hx hb d_X2_load_52 (by decide) ?_
    refine lv_istore (lv' := [(6, .int (nI 0)), (5, .int (nI 0)), (4, .int (nI 0)), (3, .int (nI (2 * (w r)))), (0, .ref h), (1, .int (nI b)), (2, .int (nI r))]) hx hb d_X2_load_53 hl (by decide) rfl (fun ls hl => ?_)
    have hls : mLess w g r = 0 := by unfold mLess; first | exact if_pos (by assumption) | exact if_neg (Nat.not_lt.mpr (by assumption))
    unfold mLoadG mLoadZ
    rw [hls]
    exact lp_X2_load (N := 2 * w r) hx hb hr hml hown hts hlocks hA hK hb3 hr64 (by omega) (2 * w r) 0 0 _ rfl (by omega) (by omega) (by omega) hok _ _ hP hD hS ls (lv_sub hl [4, 5, 6, 3, 2, 1, 0] rfl)
  · refine lv_iconst (v := nI 1) hx hb d_X2_load_33 (by decide) ?_
    refine lv_goto (tgt := 38) hx hb d_X2_load_34 (by decide) ?_
    refine lv_istore (lv' := [(4, .int (nI 1)), (3, .int (nI (2 * (w r)))), (0, .ref h), (1, .int (nI b)), (2, .int (nI r))]) hx hb d_X2_load_38 hl (by decide) rfl (fun ls hl => ?_)
    refine lv_iload hx hb d_X2_load_40 (lv_at hl 0 rfl) ?_
    refine n_if_eq (tgt := 49) hx hb d_X2_load_42 (by decide) (by omega) (fun c => absurd c (by decide)) (fun _ => ?_)
    refine lv_iconst (v := nI 1) hx hb d_X2_load_45 (by decide) ?_
    refine lv_goto (tgt := 50) hx hb d_X2_load_46 (by decide) ?_
    refine lv_istore (lv' := [(5, .int (nI 1)), (4, .int (nI 1)), (3, .int (nI (2 * (w r)))), (0, .ref h), (1, .int (nI b)), (2, .int (nI r))]) hx hb d_X2_load_50 hl (by decide) rfl (fun ls hl => ?_)
    refine lv_iconst (v := nI 0) hx hb d_X2_load_52 (by decide) ?_
    refine lv_istore (lv' := [(6, .int (nI 0)), (5, .int (nI 1)), (4, .int (nI 1)), (3, .int (nI (2 * (w r)))), (0, .ref h), (1, .int (nI b)), (2, .int (nI r))]) hx hb d_X2_load_53 hl (by decide) rfl (fun ls hl => ?_)
    have hls : mLess w g r = 1 := by unfold mLess; first | exact if_pos (by assumption) | exact if_neg (Nat.not_lt.mpr (by assumption))
    unfold mLoadG mLoadZ
    rw [hls]
    exact lp_X2_load (N := 2 * w r) hx hb hr hml hown hts hlocks hA hK hb3 hr64 (by omega) (2 * w r) 0 1 _ rfl (by omega) (by omega) (by omega) hok _ _ hP hD hS ls (lv_sub hl [4, 5, 6, 3, 2, 1, 0] rfl)
abbrev w_X2_signOf : List Cond := .code y_X2_signOf b_X2_signOf 2 (some .int) :: gw
set_option maxHeartbeats 800000 in
set_option maxRecDepth 100000 in
theorem c_X2_signOf {l : Launch} {D : va_G} {Rs : va_W} {cA cR cL : ClassId} {h aw ar ag az : Nat} {cd : Int32} {w g : Nat → Nat} {sg : Nat → Int32} {z : Nat → Nat} (hok : mdOk w g z) {r : Nat} (hr64 : r < 64) : xC l y_X2_signOf w_X2_signOf ({ frames := 2, cells := 0, slots := 0, locals := 50 }) D cls0 (ty3 cA cR cL) [.ref h, .int (nI r)] (md cA h aw ar ag az cd w g sg z Rs) (some (.int (mLoadG w g r 2 z sg 2))) (fun w1 => w1 = md cA h aw ar ag az cd w g (mLoadG w g r 2 z sg) (mLoadZ w g r 2 z) Rs) 0 0 := by
  refine xC.ofW (cc := b_X2_signOf) (maxL := 2) (ret := some .int) (by decide) rfl (Nat.le_of_ble_eq_true rfl) ?_
  intro p e s m below meth c A ls _ hin hx hb hr hml hown hts hlocks hA hK hP hD hS hl
  have hts : ∀ w ∈ gw, w.before ([.ref h, .int (nI r)]).toArray s = true := fun w h => hts w (List.mem_cons_of_mem _ h)
  have hown : s.vm.findClass R_Md = some m.cls := hown
  have hl : lv_has ls 2 [(0, .ref h), (1, .int (nI r))] := hl
  refine lv_aload_n hx hb d_X2_signOf_0 rfl (lv_at hl 0 rfl) ?_
  refine lv_iconst (v := nI 2) hx hb d_X2_signOf_1 (by decide) ?_
  refine lv_iload_n hx hb d_X2_signOf_2 rfl (lv_at hl 1 rfl) ?_
  refine x_call (st1 := []) (x_runV (As := [.int (nI 2), .int (nI r)]) (rest := []) (nL := 2) ⟨hx, hb, hml, hown, hts⟩ (c_X2_load hok (b := 2) (r := r) (by omega) (by omega) _) (cwV 2 hts (gw_V k_522 k_524 k_31 k_52 k_525) rfl rfl rfl (by decide +kernel) ⟨Nat.le_of_ble_eq_true rfl, Nat.le_of_ble_eq_true rfl⟩) hK hP hD 0 2 rfl rfl rfl hl.1 rfl (Nat.le_of_ble_eq_true rfl) d_X2_signOf_3 ⟨Nat.zero_le _, Nat.zero_le _⟩) hS (x_sub hD hS hA) (x_sub hD hS hA) rfl (fun w1 H locs hY hP hD hS => ?_)
  subst hY
  have hok := mLoadZ_ok (r := r) (b := 2) hok
  refine lv_aload_n hx hb d_X2_signOf_6 rfl (lv_at hl 0 rfl) ?_
  refine m_getG hx hb hts hown hK hP d_X2_signOf_7 ?_
  refine lv_iconst (v := nI 2) hx hb d_X2_signOf_10 (by decide) ?_
  refine m_aldG hx hb hK hP (j := 2) (by omega) d_X2_signOf_11 ?_
  exact x_iret hx hb hr hlocks hP hD hS d_X2_signOf_12 rfl rfl
def mCmpK (z : Nat → Nat) (b q : Nat) : Nat → Nat
  | 0 => 0
  | n + 1 => if z (1100 * b + (n + 1)) = z (1100 * q + (n + 1)) then mCmpK z b q n else n + 1
theorem mCmpK_le (z : Nat → Nat) (b q : Nat) : ∀ n, mCmpK z b q n ≤ n
  | 0 => Nat.le_refl _
  | n + 1 => by
    unfold mCmpK
    have := mCmpK_le z b q n
    split <;> omega
def mSgD (x y : Nat) : Int32 := if 0 ≤ nI x - nI y then (if nI x - nI y ≤ 0 then nI 0 else nI 1) else -1
def mCmp (z : Nat → Nat) (b q K : Nat) : Int32 := mSgD (z (1100 * b + K)) (z (1100 * q + K))
set_option maxHeartbeats 800000 in
set_option maxRecDepth 100000 in
theorem js_X2_compareSizes_41 {p : Program} {l : Launch} {e : Env} {s : State} {m : MethodId} {args : Array Value} {below : List Frame} {meth : Method} {c : Code} {D : va_G} {Rs : va_W} {cA cR cL : ClassId} {h aw ar ag az : Nat} {A : Nat → Prop} {cd : Int32} {w g : Nat → Nat} {sg : Nat → Int32} {z : Nat → Nat} (hx : p.tables.exec = Jvm.exec) (hb : c.code = b_X2_compareSizes) (hr : meth.sig.returnType = some .int) (hml : c.maxLocals = 5) (hown : s.vm.findClass R_Md = some m.cls) (hts : ∀ w ∈ gw, w.before args s = true) (hlocks : meth.locks = false) (hA : ∀ q : Nat, s.heap.size ≤ q → A q) (hK : va_K D cls0 (ty3 cA cR cL) s) (hok : mdOk w g z) {b q : Nat} (hb3 : b < 3) (hq3 : q < 3) (hP : va_P D cls0 (md cA h aw ar ag az cd w g sg z Rs) s.heap) (hD : va_D A (md cA h aw ar ag az cd w g sg z Rs)) (k : Nat) (hk : k ≤ 1099) (ls : Array Slot) (hl : lv_has ls 5 [(0, .ref h), (1, .int (nI b)), (2, .int (nI q)), (3, .int (nI k))]) : W p l e ({ frames := 0, cells := 0, slots := 0, locals := 0 }) s m args below meth c s.heap [] 0 0 (MQ below (xRQ (some (.int (mCmp z b q k)))) args s 0 0 (fun _ => False)) (F0 m 41 ls []) := by
  refine lv_aload_n hx hb d_X2_compareSizes_41 rfl (lv_at hl 0 rfl) ?_
  refine m_getZ hx hb hts hown hK hP d_X2_compareSizes_42 ?_
  refine lv_sipush (v := nI 1100) hx hb d_X2_compareSizes_45 (by decide) ?_
  refine lv_iload_n hx hb d_X2_compareSizes_48 rfl (lv_at hl 1 rfl) ?_
  refine n_imul hx hb d_X2_compareSizes_49 ?_
  refine lv_iload_n hx hb d_X2_compareSizes_50 rfl (lv_at hl 3 rfl) ?_
  refine n_iadd hx hb d_X2_compareSizes_51 ?_
  refine m_aldZ hx hb hK hP (j := (1100 * b) + k) (by omega) d_X2_compareSizes_52 ?_
  have hq_52 := hok.2.2 ((1100 * b) + k)
  refine lv_aload_n hx hb d_X2_compareSizes_53 rfl (lv_at hl 0 rfl) ?_
  refine m_getZ hx hb hts hown hK hP d_X2_compareSizes_54 ?_
  refine lv_sipush (v := nI 1100) hx hb d_X2_compareSizes_57 (by decide) ?_
  refine lv_iload_n hx hb d_X2_compareSizes_60 rfl (lv_at hl 2 rfl) ?_
  refine n_imul hx hb d_X2_compareSizes_61 ?_
  refine lv_iload_n hx hb d_X2_compareSizes_62 rfl (lv_at hl 3 rfl) ?_
  refine n_iadd hx hb d_X2_compareSizes_63 ?_
  refine m_aldZ hx hb hK hP (j := (1100 * q) + k) (by omega) d_X2_compareSizes_64 ?_
  have hq_64 := hok.2.2 ((1100 * q) + k)
  refine lv_isub hx hb d_X2_compareSizes_65 ?_
  refine lv_istore (lv' := [(4, .int (nI (z (1100 * b + k)) - nI (z (1100 * q + k)))), (0, .ref h), (1, .int (nI b)), (2, .int (nI q)), (3, .int (nI k))]) hx hb d_X2_compareSizes_66 hl (by decide) rfl (fun ls hl => ?_)
  refine lv_iload hx hb d_X2_compareSizes_68 (lv_at hl 0 rfl) ?_
  refine lv_if_ge (tgt := 77) hx hb d_X2_compareSizes_70 (by decide) (fun c_1 => ?_) (fun c_1 => ?_)
  · refine lv_iload hx hb d_X2_compareSizes_77 (lv_at hl 0 rfl) ?_
    refine lv_if_le (tgt := 86) hx hb d_X2_compareSizes_79 (by decide) (fun c_2 => ?_) (fun c_2 => ?_)
    · refine lv_iconst (v := nI 0) hx hb d_X2_compareSizes_86 (by decide) ?_
      exact xr_iret hx hb hr hlocks d_X2_compareSizes_87 (by unfold mCmp mSgD; first | rw [if_neg (by assumption)] | rw [if_pos (by assumption), if_pos (by assumption)] | rw [if_pos (by assumption), if_neg (by assumption)])
    · refine lv_iconst (v := nI 1) hx hb d_X2_compareSizes_82 (by decide) ?_
      refine lv_goto (tgt := 87) hx hb d_X2_compareSizes_83 (by decide) ?_
      exact xr_iret hx hb hr hlocks d_X2_compareSizes_87 (by unfold mCmp mSgD; first | rw [if_neg (by assumption)] | rw [if_pos (by assumption), if_pos (by assumption)] | rw [if_pos (by assumption), if_neg (by assumption)])
  · refine lv_iconst (v := -1) hx hb d_X2_compareSizes_73 (by decide) ?_
    refine lv_goto (tgt := 87) hx hb d_X2_compareSizes_74 (by decide) ?_
    exact xr_iret hx hb hr hlocks d_X2_compareSizes_87 (by unfold mCmp mSgD; first | rw [if_neg (by assumption)] | rw [if_pos (by assumption), if_pos (by assumption)] | rw [if_pos (by assumption), if_neg (by assumption)])
set_option maxHeartbeats 800000 in
set_option maxRecDepth 100000 in
theorem lp_X2_compareSizes {p : Program} {l : Launch} {e : Env} {s : State} {m : MethodId} {args : Array Value} {below : List Frame} {meth : Method} {c : Code} {D : va_G} {Rs : va_W} {cA cR cL : ClassId} {h aw ar ag az : Nat} {A : Nat → Prop} {cd : Int32} {w g : Nat → Nat} {sg : Nat → Int32} {z : Nat → Nat} (hx : p.tables.exec = Jvm.exec) (hb : c.code = b_X2_compareSizes) (hr : meth.sig.returnType = some .int) (hml : c.maxLocals = 5) (hown : s.vm.findClass R_Md = some m.cls) (hts : ∀ w ∈ gw, w.before args s = true) (hlocks : meth.locks = false) (hA : ∀ q : Nat, s.heap.size ≤ q → A q) (hK : va_K D cls0 (ty3 cA cR cL) s) (hok : mdOk w g z) {b q : Nat} (hb3 : b < 3) (hq3 : q < 3) (hP : va_P D cls0 (md cA h aw ar ag az cd w g sg z Rs) s.heap) (hD : va_D A (md cA h aw ar ag az cd w g sg z Rs)) : ∀ (n : Nat), n ≤ 1099 → ∀ (ls : Array Slot), lv_has ls 5 [(0, .ref h), (1, .int (nI b)), (2, .int (nI q)), (3, .int (nI n))] → W p l e ({ frames := 0, cells := 0, slots := 0, locals := 0 }) s m args below meth c s.heap [] 0 0 (MQ below (xRQ (some (.int (mCmp z b q (mCmpK z b q n))))) args s 0 0 (fun _ => False)) (F0 m 4 ls []) := by
  intro n
  induction n with
  | zero =>
    intro  hn ls hl
    refine lv_iload_n hx hb d_X2_compareSizes_4 rfl (lv_at hl 3 rfl) ?_
    refine n_if_le (tgt := 41) hx hb d_X2_compareSizes_5 (by decide) (by omega) (fun c_1 => ?_) (fun c_1 => ?_)
    rotate_left
    · exact absurd c_1 (by omega)
    exact js_X2_compareSizes_41 hx hb hr hml hown hts hlocks hA hK hok hb3 hq3 hP hD 0 (by omega) ls (lv_sub hl [0, 1, 2, 3] rfl)
  | succ n ih =>
    intro  hn ls hl
    refine lv_iload_n hx hb d_X2_compareSizes_4 rfl (lv_at hl 3 rfl) ?_
    refine n_if_le (tgt := 41) hx hb d_X2_compareSizes_5 (by decide) (by omega) (fun c_1 => ?_) (fun c_1 => ?_)
    · exact absurd c_1 (by omega)
    refine lv_aload_n hx hb d_X2_compareSizes_8 rfl (lv_at hl 0 rfl) ?_
    refine m_getZ hx hb hts hown hK hP d_X2_compareSizes_9 ?_
    refine lv_sipush (v := nI 1100) hx hb d_X2_compareSizes_12 (by decide) ?_
    refine lv_iload_n hx hb d_X2_compareSizes_15 rfl (lv_at hl 1 rfl) ?_
    refine n_imul hx hb d_X2_compareSizes_16 ?_
    refine lv_iload_n hx hb d_X2_compareSizes_17 rfl (lv_at hl 3 rfl) ?_
    refine n_iadd hx hb d_X2_compareSizes_18 ?_
    refine m_aldZ hx hb hK hP (j := (1100 * b) + (n + 1)) (by omega) d_X2_compareSizes_19 ?_
    have hq_19 := hok.2.2 ((1100 * b) + (n + 1))
    refine lv_aload_n hx hb d_X2_compareSizes_20 rfl (lv_at hl 0 rfl) ?_
    refine m_getZ hx hb hts hown hK hP d_X2_compareSizes_21 ?_
    refine lv_sipush (v := nI 1100) hx hb d_X2_compareSizes_24 (by decide) ?_
    refine lv_iload_n hx hb d_X2_compareSizes_27 rfl (lv_at hl 2 rfl) ?_
    refine n_imul hx hb d_X2_compareSizes_28 ?_
    refine lv_iload_n hx hb d_X2_compareSizes_29 rfl (lv_at hl 3 rfl) ?_
    refine n_iadd hx hb d_X2_compareSizes_30 ?_
    refine m_aldZ hx hb hK hP (j := (1100 * q) + (n + 1)) (by omega) d_X2_compareSizes_31 ?_
    have hq_31 := hok.2.2 ((1100 * q) + (n + 1))
    refine n_icmp_ne (tgt := 41) hx hb d_X2_compareSizes_32 (by decide) (by omega) (by omega) (fun c_2 => ?_) (fun c_2 => ?_)
    · rw [show mCmpK z b q (n + 1) = n + 1 from if_neg (by assumption)]
      exact js_X2_compareSizes_41 hx hb hr hml hown hts hlocks hA hK hok hb3 hq3 hP hD (n + 1) (by omega) ls (lv_sub hl [0, 1, 2, 3] rfl)
    · refine n_idec (lv' := [(3, .int (nM (n + 1))), (0, .ref h), (1, .int (nI b)), (2, .int (nI q))]) hx hb d_X2_compareSizes_35 hl (k := 3) rfl (by decide) rfl (fun ls hl => ?_)
      refine lv_goto (tgt := 4) hx hb d_X2_compareSizes_38 (by decide) ?_
      rw [nM_succ] at hl
      rw [show mCmpK z b q (n + 1) = mCmpK z b q n from if_pos (by assumption)]
      exact ih (by omega) ls (lv_sub hl [1, 2, 3, 0] rfl)
abbrev w_X2_compareSizes : List Cond := .code y_X2_compareSizes b_X2_compareSizes 5 (some .int) :: gw
set_option maxHeartbeats 800000 in
set_option maxRecDepth 100000 in
theorem c_X2_compareSizes {l : Launch} {D : va_G} {Rs : va_W} {cA cR cL : ClassId} {h aw ar ag az : Nat} {cd : Int32} {w g : Nat → Nat} {sg : Nat → Int32} {z : Nat → Nat} (hok : mdOk w g z) {b q : Nat} (hb3 : b < 3) (hq3 : q < 3) : xR l y_X2_compareSizes w_X2_compareSizes ({ frames := 0, cells := 0, slots := 0, locals := 0 }) D cls0 (ty3 cA cR cL) [.ref h, .int (nI b), .int (nI q)] (md cA h aw ar ag az cd w g sg z Rs) (some (.int (mCmp z b q (mCmpK z b q (cZ - 1))))) := by
  refine xR.ofW (cc := b_X2_compareSizes) (maxL := 5) (ret := some .int) (by decide) rfl (Nat.le_of_ble_eq_true rfl) ?_
  intro p e s m below meth c A ls _ hin hx hb hr hml hown hts hlocks hA hK hP hD hS hl
  have hts : ∀ w ∈ gw, w.before ([.ref h, .int (nI b), .int (nI q)]).toArray s = true := fun w h => hts w (List.mem_cons_of_mem _ h)
  have hown : s.vm.findClass R_Md = some m.cls := hown
  have hl : lv_has ls 5 [(0, .ref h), (1, .int (nI b)), (2, .int (nI q))] := hl
  refine lv_sipush (v := nI 1099) hx hb d_X2_compareSizes_0 (by decide) ?_
  refine lv_istore_n (lv' := [(3, .int (nI 1099)), (0, .ref h), (1, .int (nI b)), (2, .int (nI q))]) hx hb d_X2_compareSizes_3 rfl hl (by decide) rfl (fun ls hl => ?_)
  rw [show nI 1099 = nI (cZ - 1) from by rw [cZ_eq]] at hl
  exact lp_X2_compareSizes hx hb hr hml hown hts hlocks hA hK hok hb3 hq3 hP hD (cZ - 1) (by rw [cZ_eq]; exact Nat.le_refl _) ls (lv_sub hl [1, 2, 3, 0] rfl)
end
section
theorem mLenO_le (sg : Nat → Int32) (z : Nat → Nat) (b t : Nat) : mLenO sg z b t ≤ 17600 := by
  have := mBits_le z b
  unfold mLenO
  split
  · exact this
  · split <;> omega
def mD (x : Int32) (a : Nat) : Nat := if 0 ≤ x then a else 65535 - a
theorem mD_lt {x : Int32} {a : Nat} (h : a < 65536) : mD x a < 65536 := by unfold mD; split <;> omega
def mStG (x : Int32) (z : Nat → Nat) (b r : Nat) : Nat → Nat → Nat → (Nat → Nat) → Nat → Nat
  | 0, _, _, g => g
  | n + 1, k, cy, g => mStG x z b r n (k + 1) ((mD x (z (1100 * b + k)) + cy) / 65536) (va_up g (512 * r + k) ((mD x (z (1100 * b + k)) + cy) % 65536))
theorem mStG_ok {x : Int32} {w z : Nat → Nat} {b r : Nat} : ∀ (n k cy : Nat) (g : Nat → Nat), cy < 2 → mdOk w g z → mdOk w (mStG x z b r n k cy g) z
  | 0, _, _, _, _, h => h
  | n + 1, k, cy, g, hc, h => mStG_ok n (k + 1) _ _ (by have := mD_lt (x := x) (h.2.2 (1100 * b + k)); omega) (h.g (by omega))
def mCy (x : Int32) : Nat := if 0 ≤ x then 0 else 1
theorem mCy_lt (x : Int32) : mCy x < 2 := by unfold mCy; split <;> omega
def mStore (sg : Nat → Int32) (w z : Nat → Nat) (r b : Nat) (g : Nat → Nat) : Nat → Nat := mStG (sg b) z b r (2 * w r) 0 (mCy (sg b)) g
theorem mStore_ok {sg : Nat → Int32} {w g z : Nat → Nat} {r b : Nat} (h : mdOk w g z) : mdOk w (mStore sg w z r b g) z := mStG_ok _ _ _ _ (mCy_lt _) h
noncomputable def mFits (sg : Nat → Int32) (w z : Nat → Nat) (r b t : Nat) : Nat := if mLenO sg z b t < 16 * (2 * w r) then 1 else 0
set_option maxHeartbeats 800000 in
set_option maxRecDepth 100000 in
theorem lp_X2_store {p : Program} {l : Launch} {e : Env} {s : State} {m : MethodId} {args : Array Value} {below : List Frame} {meth : Method} {c : Code} {D : va_G} {Rs : va_W} {cA cR cL : ClassId} {h aw ar ag az : Nat} {A : Nat → Prop} {cd : Int32} {w : Nat → Nat} {sg : Nat → Int32} {z : Nat → Nat} (hx : p.tables.exec = Jvm.exec) (hb : c.code = b_X2_store) (hr : meth.sig.returnType = some .boolean) (hml : c.maxLocals = 8) (hown : s.vm.findClass R_Md = some m.cls) (hts : ∀ w ∈ gw, w.before args s = true) (hlocks : meth.locks = false) (hA : ∀ q : Nat, s.heap.size ≤ q → A q) (hK : va_K D cls0 (ty3 cA cR cL) s) {b r N ft : Nat} (hb3 : b < 3) (hr64 : r < 64) (hN : N ≤ 512) (hft : ft < 2) : ∀ (n : Nat) (k cy : Nat) (g : Nat → Nat), n = N - k → k ≤ N → cy < 2 → mdOk w g z → ∀ (H : Heap) (locs : List Loc), va_P D cls0 (md cA h aw ar ag az cd w g sg z Rs) H → va_D A (md cA h aw ar ag az cd w g sg z Rs) → va_S A s.heap H locs → ∀ (ls : Array Slot), lv_has ls 8 [(0, .ref h), (1, .int (nI r)), (2, .int (nI b)), (3, .int (nI N)), (4, .int (nI ft)), (5, .int (nI cy)), (6, .int (nI k))] → W p l e ({ frames := 3, cells := 0, slots := 0, locals := 66 }) s m args below meth c H locs 0 0 (MQ below (xQ (some (.int (nI ft))) (xB D cls0 A (fun w1 => w1 = md cA h aw ar ag az cd w (mStG (sg b) z b r n k cy g) sg z Rs)) A) args s 0 0 A) (F0 m 47 ls []) := by
  intro n
  induction n with
  | zero =>
    intro k cy g hn hk hcy hok H locs hP hD hS ls hl
    refine lv_iload hx hb d_X2_store_47 (lv_at hl 6 rfl) ?_
    refine lv_iload_n hx hb d_X2_store_49 rfl (lv_at hl 3 rfl) ?_
    refine n_icmp_ge (tgt := 123) hx hb d_X2_store_50 (by decide) (by omega) (by omega) (fun c_1 => ?_) (fun c_1 => ?_)
    rotate_left
    · exact absurd c_1 (by omega)
    refine lv_iload hx hb d_X2_store_123 (lv_at hl 4 rfl) ?_
    exact x_zret hx hb hr hlocks hP hD hS d_X2_store_125 (n_bool hft) rfl rfl
  | succ n ih =>
    intro k cy g hn hk hcy hok H locs hP hD hS ls hl
    refine lv_iload hx hb d_X2_store_47 (lv_at hl 6 rfl) ?_
    refine lv_iload_n hx hb d_X2_store_49 rfl (lv_at hl 3 rfl) ?_
    refine n_icmp_ge (tgt := 123) hx hb d_X2_store_50 (by decide) (by omega) (by omega) (fun c_1 => ?_) (fun c_1 => ?_)
    · exact absurd c_1 (by omega)
    refine lv_aload_n hx hb d_X2_store_53 rfl (lv_at hl 0 rfl) ?_
    refine m_getZ hx hb hts hown hK hP d_X2_store_54 ?_
    refine lv_sipush (v := nI 1100) hx hb d_X2_store_57 (by decide) ?_
    refine lv_iload_n hx hb d_X2_store_60 rfl (lv_at hl 2 rfl) ?_
    refine n_imul hx hb d_X2_store_61 ?_
    refine lv_iload hx hb d_X2_store_62 (lv_at hl 6 rfl) ?_
    refine n_iadd hx hb d_X2_store_64 ?_
    refine m_aldZ hx hb hK hP (j := (1100 * b) + k) (by omega) d_X2_store_65 ?_
    have hq_65 := hok.2.2 ((1100 * b) + k)
    refine lv_istore (lv' := [(7, .int (nI (z ((1100 * b) + k)))), (0, .ref h), (1, .int (nI r)), (2, .int (nI b)), (3, .int (nI N)), (4, .int (nI ft)), (5, .int (nI cy)), (6, .int (nI k))]) hx hb d_X2_store_66 hl (by decide) rfl (fun ls hl => ?_)
    refine lv_aload_n hx hb d_X2_store_68 rfl (lv_at hl 1 rfl) ?_
    refine m_getG hx hb hts hown hK hP d_X2_store_69 ?_
    refine lv_iload_n hx hb d_X2_store_72 rfl (lv_at hl 3 rfl) ?_
    refine m_aldG hx hb hK hP (j := b) (by omega) d_X2_store_73 ?_
    refine lv_if_ge (tgt := 85) hx hb d_X2_store_74 (by decide) (fun c_2 => ?_) (fun c_2 => ?_)
    · refine lv_iload hx hb d_X2_store_85 (lv_at hl 0 rfl) ?_
      refine lv_iload hx hb d_X2_store_87 (lv_at hl 6 rfl) ?_
      refine n_iadd hx hb d_X2_store_89 ?_
      refine lv_istore (lv' := [(7, .int (nI ((z ((1100 * b) + k)) + cy))), (0, .ref h), (1, .int (nI r)), (2, .int (nI b)), (3, .int (nI N)), (4, .int (nI ft)), (5, .int (nI cy)), (6, .int (nI k))]) hx hb d_X2_store_90 hl (by decide) rfl (fun ls hl => ?_)
      refine lv_iload hx hb d_X2_store_92 (lv_at hl 0 rfl) ?_
      refine lv_ldc (v := nI 65536) hx hb hown (hts (.constant "LimbRowsModel" 32 (nI 65536)) (show Cond.constant "LimbRowsModel" 32 65536 ∈ gw from k_531)) d_X2_store_94 ?_
      refine n_idiv hx hb d_X2_store_96 (by omega) (by omega) (by omega) ?_
      refine lv_istore (lv' := [(5, .int (nI (((z ((1100 * b) + k)) + cy) / 65536))), (7, .int (nI ((z ((1100 * b) + k)) + cy))), (0, .ref h), (1, .int (nI r)), (2, .int (nI b)), (3, .int (nI N)), (4, .int (nI ft)), (6, .int (nI k))]) hx hb d_X2_store_97 hl (by decide) rfl (fun ls hl => ?_)
      refine lv_aload_n hx hb d_X2_store_99 rfl (lv_at hl 2 rfl) ?_
      refine m_getR hx hb hts hown hK hP d_X2_store_100 ?_
      refine lv_sipush (v := nI 512) hx hb d_X2_store_103 (by decide) ?_
      refine lv_iload_n hx hb d_X2_store_106 rfl (lv_at hl 3 rfl) ?_
      refine n_imul hx hb d_X2_store_107 ?_
      refine lv_iload hx hb d_X2_store_108 (lv_at hl 7 rfl) ?_
      refine n_iadd hx hb d_X2_store_110 ?_
      refine lv_iload hx hb d_X2_store_111 (lv_at hl 1 rfl) ?_
      refine lv_ldc (v := nI 65536) hx hb hown (hts (.constant "LimbRowsModel" 32 (nI 65536)) (show Cond.constant "LimbRowsModel" 32 65536 ∈ gw from k_531)) d_X2_store_113 ?_
      refine n_irem hx hb d_X2_store_115 (by omega) (by omega) (by omega) ?_
      refine m_astR hx hb hK hP hD hS (j := (512 * r) + k) (v := ((z ((1100 * b) + k)) + cy) % 65536) (by omega) d_X2_store_116 (fun H locs hP hD hS => ?_)
      have hok := hok.g (j := (512 * r) + k) (v := ((z ((1100 * b) + k)) + cy) % 65536) (by omega)
      refine n_iinc (lv' := [(6, .int (nI (k + 1))), (5, .int (nI (((z ((1100 * b) + k)) + cy) / 65536))), (7, .int (nI ((z ((1100 * b) + k)) + cy))), (0, .ref h), (1, .int (nI r)), (2, .int (nI b)), (3, .int (nI N)), (4, .int (nI ft))]) hx hb d_X2_store_117 hl (k := 7) rfl (by decide) rfl (fun ls hl => ?_)
      refine lv_goto (tgt := 47) hx hb d_X2_store_120 (by decide) ?_
      have hd2 : mD (sg b) (z (1100 * b + k)) = z (1100 * b + k) := if_pos (by assumption)
      rw [show mStG (sg b) z b r (n + 1) k cy g = mStG (sg b) z b r n (k + 1) ((mD (sg b) (z (1100 * b + k)) + cy) / 65536) (va_up g (512 * r + k) ((mD (sg b) (z (1100 * b + k)) + cy) % 65536)) from rfl, hd2]
      exact ih (k + 1) _ _ (by omega) (by omega) (by omega) hok H locs hP hD hS ls (lv_sub hl [3, 4, 5, 6, 7, 1, 0] rfl)
    · refine lv_ldc (v := nI 65535) hx hb hown (hts (.constant "LimbRowsModel" 31 (nI 65535)) (show Cond.constant "LimbRowsModel" 31 65535 ∈ gw from k_530)) d_X2_store_77 ?_
      refine lv_iload hx hb d_X2_store_79 (lv_at hl 0 rfl) ?_
      refine n_isub hx hb d_X2_store_81 (by omega) ?_
      refine lv_goto (tgt := 87) hx hb d_X2_store_82 (by decide) ?_
      refine lv_iload hx hb d_X2_store_87 (lv_at hl 6 rfl) ?_
      refine n_iadd hx hb d_X2_store_89 ?_
      refine lv_istore (lv' := [(7, .int (nI ((65535 - (z ((1100 * b) + k))) + cy))), (0, .ref h), (1, .int (nI r)), (2, .int (nI b)), (3, .int (nI N)), (4, .int (nI ft)), (5, .int (nI cy)), (6, .int (nI k))]) hx hb d_X2_store_90 hl (by decide) rfl (fun ls hl => ?_)
      refine lv_iload hx hb d_X2_store_92 (lv_at hl 0 rfl) ?_
      refine lv_ldc (v := nI 65536) hx hb hown (hts (.constant "LimbRowsModel" 32 (nI 65536)) (show Cond.constant "LimbRowsModel" 32 65536 ∈ gw from k_531)) d_X2_store_94 ?_
      refine n_idiv hx hb d_X2_store_96 (by omega) (by omega) (by omega) ?_
      refine lv_istore (lv' := [(5, .int (nI (((65535 - (z ((1100 * b) + k))) + cy) / 65536))), (7, .int (nI ((65535 - (z ((1100 * b) + k))) + cy))), (0, .ref h), (1, .int (nI r)), (2, .int (nI b)), (3, .int (nI N)), (4, .int (nI ft)), (6, .int (nI k))]) hx hb d_X2_store_97 hl (by decide) rfl (fun ls hl => ?_)
      refine lv_aload_n hx hb d_X2_store_99 rfl (lv_at hl 2 rfl) ?_
      refine m_getR hx hb hts hown hK hP d_X2_store_100 ?_
      refine lv_sipush (v := nI 512) hx hb d_X2_store_103 (by decide) ?_
      refine lv_iload_n hx hb d_X2_store_106 rfl (lv_at hl 3 rfl) ?_
      refine n_imul hx hb d_X2_store_107 ?_
      refine lv_iload hx hb d_X2_store_108 (lv_at hl 7 rfl) ?_
      refine n_iadd hx hb d_X2_store_110 ?_
      refine lv_iload hx hb d_X2_store_111 (lv_at hl 1 rfl) ?_
      refine lv_ldc (v := nI 65536) hx hb hown (hts (.constant "LimbRowsModel" 32 (nI 65536)) (show Cond.constant "LimbRowsModel" 32 65536 ∈ gw from k_531)) d_X2_store_113 ?_
      refine n_irem hx hb d_X2_store_115 (by omega) (by omega) (by omega) ?_
      refine m_astR hx hb hK hP hD hS (j := (512 * r) + k) (v := ((65535 - (z ((1100 * b) + k))) + cy) % 65536) (by omega) d_X2_store_116 (fun H locs hP hD hS => ?_)
      have hok := hok.g (j := (512 * r) + k) (v := ((65535 - (z ((1100 * b) + k))) + cy) % 65536) (by omega)
      refine n_iinc (lv' := [(6, .int (nI (k + 1))), (5, .int (nI (((65535 - (z ((1100 * b) + k))) + cy) / 65536))), (7, .int (nI ((65535 - (z ((1100 * b) + k))) + cy))), (0, .ref h), (1, .int (nI r)), (2, .int (nI b)), (3, .int (nI N)), (4, .int (nI ft))]) hx hb d_X2_store_117 hl (k := 7) rfl (by decide) rfl (fun ls hl => ?_)
      refine lv_goto (tgt := 47) hx hb d_X2_store_120 (by decide) ?_
      have hd2 : mD (sg b) (z (1100 * b + k)) = 65535 - z (1100 * b + k) := if_neg (by assumption)
      rw [show mStG (sg b) z b r (n + 1) k cy g = mStG (sg b) z b r n (k + 1) ((mD (sg b) (z (1100 * b + k)) + cy) / 65536) (va_up g (512 * r + k) ((mD (sg b) (z (1100 * b + k)) + cy) % 65536)) from rfl, hd2]
      exact ih (k + 1) _ _ (by omega) (by omega) (by omega) hok H locs hP hD hS ls (lv_sub hl [3, 4, 5, 6, 7, 1, 0] rfl)
abbrev w_X2_store : List Cond := .code y_X2_store b_X2_store 8 (some .boolean) :: gw
set_option maxHeartbeats 800000 in
set_option maxRecDepth 100000 in
theorem c_X2_store {l : Launch} {D : va_G} {Rs : va_W} {cA cR cL : ClassId} {h aw ar ag az : Nat} {cd : Int32} {w g : Nat → Nat} {sg : Nat → Int32} {z : Nat → Nat} (hok : mdOk w g z) {b r t : Nat} (hb3 : b < 3) (hr64 : r < 64) (hlow : ¬ 0 ≤ sg b → mLow z b t) : xC l y_X2_store w_X2_store ({ frames := 3, cells := 0, slots := 0, locals := 66 }) D cls0 (ty3 cA cR cL) [.ref h, .int (nI r), .int (nI b)] (md cA h aw ar ag az cd w g sg z Rs) (some (.int (nI (mFits sg w z r b t)))) (fun w1 => w1 = md cA h aw ar ag az cd w (mStore sg w z r b g) sg z Rs) 0 0 := by
  refine xC.ofW (cc := b_X2_store) (maxL := 8) (ret := some .boolean) (by decide) rfl (Nat.le_of_ble_eq_true rfl) ?_
  intro p e s m below meth c A ls _ hin hx hb hr hml hown hts hlocks hA hK hP hD hS hl
  have hts : ∀ w ∈ gw, w.before ([.ref h, .int (nI r), .int (nI b)]).toArray s = true := fun w h => hts w (List.mem_cons_of_mem _ h)
  have hown : s.vm.findClass R_Md = some m.cls := hown
  have hl : lv_has ls 8 [(0, .ref h), (1, .int (nI r)), (2, .int (nI b))] := hl
  have hwr := hok.1 r hr64
  have hle := mLenO_le sg z b t
  refine lv_iconst (v := nI 2) hx hb d_X2_store_0 (by decide) ?_
  refine lv_aload_n hx hb d_X2_store_1 rfl (lv_at hl 0 rfl) ?_
  refine m_getW hx hb hts hown hK hP d_X2_store_2 ?_
  refine lv_iload_n hx hb d_X2_store_5 rfl (lv_at hl 1 rfl) ?_
  have hq_6 := hok.1 r (by omega)
  refine m_aldW hx hb hK hP (j := r) (by omega) d_X2_store_6 ?_
  refine n_imul hx hb d_X2_store_7 ?_
  refine lv_istore_n (lv' := [(3, .int (nI (2 * (w r)))), (0, .ref h), (1, .int (nI r)), (2, .int (nI b))]) hx hb d_X2_store_8 rfl hl (by decide) rfl (fun ls hl => ?_)
  refine lv_aload_n hx hb d_X2_store_9 rfl (lv_at hl 1 rfl) ?_
  refine lv_iload_n hx hb d_X2_store_10 rfl (lv_at hl 3 rfl) ?_
  refine x_callR (st1 := [.int (nI (mLenO sg z b t))]) (x_runV (As := [.int (nI b)]) (rest := []) (nL := 8) ⟨hx, hb, hml, hown, hts⟩ (c_X2_lengthOf hok hb3 hlow _) (cwV 1 hts (gw_V k_540 k_542 k_35 k_52 k_543) rfl rfl rfl (by decide +kernel) ⟨Nat.le_of_ble_eq_true rfl, Nat.le_of_ble_eq_true rfl⟩) hK hP hD 0 2 rfl rfl rfl hl.1 rfl (Nat.le_of_ble_eq_true rfl) d_X2_store_11 ⟨Nat.zero_le _, Nat.zero_le _⟩) rfl ?_
  refine lv_bipush (v := nI 16) hx hb d_X2_store_14 (by decide) ?_
  refine lv_iload_n hx hb d_X2_store_16 rfl (lv_at hl 0 rfl) ?_
  refine n_imul hx hb d_X2_store_17 ?_
  refine n_icmp_ge (tgt := 25) hx hb d_X2_store_18 (by decide) (by omega) (by omega) (fun c_1 => ?_) (fun c_1 => ?_)
  · refine lv_iconst (v := nI 0) hx hb d_X2_store_25 (by decide) ?_
    refine lv_istore (lv' := [(4, .int (nI 0)), (3, .int (nI (2 * (w r)))), (0, .ref h), (1, .int (nI r)), (2, .int (nI b))]) hx hb d_X2_store_26 hl (by decide) rfl (fun ls hl => ?_)
    refine lv_aload_n hx hb d_X2_store_28 rfl (lv_at hl 2 rfl) ?_
    refine m_getG hx hb hts hown hK hP d_X2_store_29 ?_
    refine lv_iload_n hx hb d_X2_store_32 rfl (lv_at hl 4 rfl) ?_
    refine m_aldG hx hb hK hP (j := b) (by omega) d_X2_store_33 ?_
    refine lv_if_ge (tgt := 41) hx hb d_X2_store_34 (by decide) (fun c_2 => ?_) (fun c_2 => ?_)
    · refine lv_iconst (v := nI 0) hx hb d_X2_store_41 (by decide) ?_
      refine lv_istore (lv' := [(5, .int (nI 0)), (4, .int (nI 0)), (3, .int (nI (2 * (w r)))), (0, .ref h), (1, .int (nI r)), (2, .int (nI b))]) hx hb d_X2_store_42 hl (by decide) rfl (fun ls hl => ?_)
      refine lv_iconst (v := nI 0) hx hb d_X2_store_44 (by decide) ?_
      refine lv_istore (lv' := [(6, .int (nI 0)), (5, .int (nI 0)), (4, .int (nI 0)), (3, .int (nI (2 * (w r)))), (0, .ref h), (1, .int (nI r)), (2, .int (nI b))]) hx hb d_X2_store_45 hl (by decide) rfl (fun ls hl => ?_)
      have hft : mFits sg w z r b t = 0 := by unfold mFits; first | exact if_pos (by assumption) | exact if_neg (Nat.not_lt.mpr (by assumption))
      have hcy : mCy (sg b) = 0 := by unfold mCy; first | exact if_pos (by assumption) | exact if_neg (by assumption)
      unfold mStore
      rw [hft, hcy]
      exact lp_X2_store (N := 2 * w r) hx hb hr hml hown hts hlocks hA hK hb3 hr64 (by omega) (by omega) (2 * w r) 0 0 g rfl (by omega) (by omega) hok _ _ hP hD hS ls (lv_sub hl [4, 5, 6, 3, 2, 1, 0] rfl)
    · refine lv_iconst (v := nI 1) hx hb d_X2_store_37 (by decide) ?_
      refine lv_goto (tgt := 42) hx hb d_X2_store_38 (by decide) ?_
      refine lv_istore (lv' := [(5, .int (nI 1)), (4, .int (nI 0)), (3, .int (nI (2 * (w r)))), (0, .ref h), (1, .int (nI r)), (2, .int (nI b))]) hx hb d_X2_store_42 hl (by decide) rfl (fun ls hl => ?_)
      refine lv_iconst (v := nI 0) hx hb d_X2_store_44 (by decide) ?_
      refine lv_istore (lv' := [(6, .int (nI 0)), (5, .int (nI 1)), (4, .int (nI 0)), (3, .int (nI (2 * (w r)))), (0, .ref h), (1, .int (nI r)), (2, .int (nI b))]) hx hb d_X2_store_45 hl (by decide) rfl (fun ls hl => ?_)
      have hft : mFits sg w z r b t = 0 := by unfold mFits; first | exact if_pos (by assumption) | exact if_neg (Nat.not_lt.mpr (by assumption))
      have hcy : mCy (sg b) = 1 := by unfold mCy; first | exact if_pos (by assumption) | exact if_neg (by assumption)
      unfold mStore
      rw [hft, hcy]
      exact lp_X2_store (N := 2 * w r) hx hb hr hml hown hts hlocks hA hK hb3 hr64 (by omega) (by omega) (2 * w r) 0 1 g rfl (by omega) (by omega) hok _ _ hP hD hS ls (lv_sub hl [4, 5, 6, 3, 2, 1, 0] rfl)
  · refine lv_iconst (v := nI 1) hx hb d_X2_store_21 (by decide) ?_
    refine lv_goto (tgt := 26) hx hb d_X2_store_22 (by decide) ?_
    refine lv_istore (lv' := [(4, .int (nI 1)), (3, .int (nI (2 * (w r)))), (0, .ref h), (1, .int (nI r)), (2, .int (nI b))]) hx hb d_X2_store_26 hl (by decide) rfl (fun ls hl => ?_)
    refine lv_aload_n hx hb d_X2_store_28 rfl (lv_at hl 2 rfl) ?_
    refine m_getG hx hb hts hown hK hP d_X2_store_29 ?_
    refine lv_iload_n hx hb d_X2_store_32 rfl (lv_at hl 4 rfl) ?_
    refine m_aldG hx hb hK hP (j := b) (by omega) d_X2_store_33 ?_
    refine lv_if_ge (tgt := 41) hx hb d_X2_store_34 (by decide) (fun c_3 => ?_) (fun c_3 => ?_)
    · refine lv_iconst (v := nI 0) hx hb d_X2_store_41 (by decide) ?_
      refine lv_istore (lv' := [(5, .int (nI 0)), (4, .int (nI 1)), (3, .int (nI (2 * (w r)))), (0, .ref h), (1, .int (nI r)), (2, .int (nI b))]) hx hb d_X2_store_42 hl (by decide) rfl (fun ls hl => ?_)
      refine lv_iconst (v := nI 0) hx hb d_X2_store_44 (by decide) ?_
      refine lv_istore (lv' := [(6, .int (nI 0)), (5, .int (nI 0)), (4, .int (nI 1)), (3, .int (nI (2 * (w r)))), (0, .ref h), (1, .int (nI r)), (2, .int (nI b))]) hx hb d_X2_store_45 hl (by decide) rfl (fun ls hl => ?_)
      have hft : mFits sg w z r b t = 1 := by unfold mFits; first | exact if_pos (by assumption) | exact if_neg (Nat.not_lt.mpr (by assumption))
      have hcy : mCy (sg b) = 0 := by unfold mCy; first | exact if_pos (by assumption) | exact if_neg (by assumption)
      unfold mStore
      rw [hft, hcy]
      exact lp_X2_store (N := 2 * w r) hx hb hr hml hown hts hlocks hA hK hb3 hr64 (by omega) (by omega) (2 * w r) 0 0 g rfl (by omega) (by omega) hok _ _ hP hD hS ls (lv_sub hl [4, 5, 6, 3, 2, 1, 0] rfl)
    · refine lv_iconst (v := nI 1) hx hb d_X2_store_37 (by decide) ?_
      refine lv_goto (tgt := 42) hx hb d_X2_store_38 (by decide) ?_
      refine lv_istore (lv' := [(5, .int (nI 1)), (4, .int (nI 1)), (3, .int (nI (2 * (w r)))), (0, .ref h), (1, .int (nI r)), (2, .int (nI b))]) hx hb d_X2_store_42 hl (by decide) rfl (fun ls hl => ?_)
      refine lv_iconst (v := nI 0) hx hb d_X2_store_44 (by decide) ?_
      refine lv_istore (lv' := [(6, .int (nI 0)), (5, .int (nI 1)), (4, .int (nI 1)), (3, .int (nI (2 * (w r)))), (0, .ref h), (1, .int (nI r)), (2, .int (nI b))]) hx hb d_X2_store_45 hl (by decide) rfl (fun ls hl => ?_)
      have hft : mFits sg w z r b t = 1 := by unfold mFits; first | exact if_pos (by assumption) | exact if_neg (Nat.not_lt.mpr (by assumption))
      have hcy : mCy (sg b) = 1 := by unfold mCy; first | exact if_pos (by assumption) | exact if_neg (by assumption)
      unfold mStore
      rw [hft, hcy]
      exact lp_X2_store (N := 2 * w r) hx hb hr hml hown hts hlocks hA hK hb3 hr64 (by omega) (by omega) (2 * w r) 0 1 g rfl (by omega) (by omega) hok _ _ hP hD hS ls (lv_sub hl [4, 5, 6, 3, 2, 1, 0] rfl)
noncomputable def mKSg (sg : Nat → Int32) (w z : Nat → Nat) (r b : Nat) (g : Nat → Nat) : Nat → Int32 := mLoadG w (mStore sg w z r b g) r 2 z sg
noncomputable def mKZ (sg : Nat → Int32) (w z : Nat → Nat) (r b : Nat) (g : Nat → Nat) : Nat → Nat := mLoadZ w (mStore sg w z r b g) r 2 z
abbrev w_X2_kept : List Cond := .code y_X2_kept b_X2_kept 3 (some .int) :: gw
set_option maxHeartbeats 800000 in
set_option maxRecDepth 100000 in
theorem c_X2_kept {l : Launch} {D : va_G} {Rs : va_W} {cA cR cL : ClassId} {h aw ar ag az : Nat} {cd : Int32} {w g : Nat → Nat} {sg : Nat → Int32} {z : Nat → Nat} (hok : mdOk w g z) {b r t : Nat} (hb3 : b < 3) (hr64 : r < 64) (hlow : ¬ 0 ≤ sg b → mLow z b t) : xC l y_X2_kept w_X2_kept ({ frames := 4, cells := 0, slots := 0, locals := 93 }) D cls0 (ty3 cA cR cL) [.ref h, .int (nI r), .int (nI b)] (md cA h aw ar ag az cd w g sg z Rs) (some (.int (mKSg sg w z r b g 2))) (fun w1 => w1 = md cA h aw ar ag az cd w (mStore sg w z r b g) (mKSg sg w z r b g) (mKZ sg w z r b g) Rs) 0 0 := by
  refine xC.ofW (cc := b_X2_kept) (maxL := 3) (ret := some .int) (by decide) rfl (Nat.le_of_ble_eq_true rfl) ?_
  intro p e s m below meth c A ls _ hin hx hb hr hml hown hts hlocks hA hK hP hD hS hl
  have hts : ∀ w ∈ gw, w.before ([.ref h, .int (nI r), .int (nI b)]).toArray s = true := fun w h => hts w (List.mem_cons_of_mem _ h)
  have hown : s.vm.findClass R_Md = some m.cls := hown
  have hl : lv_has ls 3 [(0, .ref h), (1, .int (nI r)), (2, .int (nI b))] := hl
  refine lv_aload_n hx hb d_X2_kept_0 rfl (lv_at hl 0 rfl) ?_
  refine lv_iload_n hx hb d_X2_kept_1 rfl (lv_at hl 1 rfl) ?_
  refine lv_iload_n hx hb d_X2_kept_2 rfl (lv_at hl 2 rfl) ?_
  refine x_call (st1 := [.int (nI (mFits sg w z r b t))]) (x_runV (As := [.int (nI r), .int (nI b)]) (rest := []) (nL := 3) ⟨hx, hb, hml, hown, hts⟩ (c_X2_store hok (b := b) (r := r) (t := t) (by omega) (by omega) hlow _) (cwV 2 hts (gw_V k_536 k_538 k_34 k_52 k_539) rfl rfl rfl (by decide +kernel) ⟨Nat.le_of_ble_eq_true rfl, Nat.le_of_ble_eq_true rfl⟩) hK hP hD 0 2 rfl rfl rfl hl.1 rfl (Nat.le_of_ble_eq_true rfl) d_X2_kept_3 ⟨Nat.zero_le _, Nat.zero_le _⟩) hS (x_sub hD hS hA) (x_sub hD hS hA) rfl (fun w1 H locs hY hP hD hS => ?_)
  subst hY
  have hok := mStore_ok (sg := sg) (r := r) (b := b) hok
  refine lv_pop hx hb d_X2_kept_6 rfl ?_
  refine lv_aload_n hx hb d_X2_kept_7 rfl (lv_at hl 0 rfl) ?_
  refine lv_iload_n hx hb d_X2_kept_8 rfl (lv_at hl 1 rfl) ?_
  refine x_call (st1 := [.int (mLoadG w (mStore sg w z r b g) r 2 z sg 2)]) (x_runV (As := [.int (nI r)]) (rest := []) (nL := 3) ⟨hx, hb, hml, hown, hts⟩ (c_X2_signOf hok (r := r) (by omega) _) (cwV 1 hts (gw_V k_581 k_583 k_41 k_52 k_584) rfl rfl rfl (by decide +kernel) ⟨Nat.le_of_ble_eq_true rfl, Nat.le_of_ble_eq_true rfl⟩) hK hP hD 0 2 rfl rfl rfl hl.1 rfl (Nat.le_of_ble_eq_true rfl) d_X2_kept_9 ⟨Nat.zero_le _, Nat.zero_le _⟩) hS (x_sub hD hS hA) (x_sub hD hS hA) rfl (fun w1 H locs hY hP hD hS => ?_)
  subst hY
  exact x_iret hx hb hr hlocks hP hD hS d_X2_kept_12 rfl rfl
def mLlZ (x : Int64) (b : Nat) : Nat → Nat → (Nat → Nat) → Nat → Nat
  | 0, _, z => z
  | n + 1, k, z => mLlZ x b n (k + 1) (va_up z (1100 * b + k) (uH x k))
theorem mLlZ_ok {x : Int64} {w g : Nat → Nat} {b : Nat} : ∀ (n k : Nat) (z : Nat → Nat), mdOk w g z → mdOk w g (mLlZ x b n k z)
  | 0, _, _, h => h
  | n + 1, k, z, h => mLlZ_ok n (k + 1) _ (h.z (uH_lt _ _))
def mAbs (v : Int64) : Int64 := if 0 ≤ lg_cmp v 0 then v else -v
def mSgv (v : Int64) : Int32 := if 0 ≤ lg_cmp v 0 then (if lg_cmp v 0 ≤ 0 then nI 0 else nI 1) else -1
noncomputable def mLongZ (v : Int64) (b : Nat) (z : Nat → Nat) : Nat → Nat := mLlZ (mAbs v) b 4 0 (mClr b cZ 0 z)
def mLongG (v : Int64) (b : Nat) (sg : Nat → Int32) : Nat → Int32 := upd (upd sg b (nI 0)) b (mSgv v)
theorem mLongZ_ok {v : Int64} {w g z : Nat → Nat} {b : Nat} (h : mdOk w g z) : mdOk w g (mLongZ v b z) := mLlZ_ok _ _ _ (mClr_ok _ _ _ h)
set_option maxHeartbeats 800000 in
set_option maxRecDepth 100000 in
theorem lp_X2_loadLong {p : Program} {l : Launch} {e : Env} {s : State} {m : MethodId} {args : Array Value} {below : List Frame} {meth : Method} {c : Code} {D : va_G} {Rs : va_W} {cA cR cL : ClassId} {h aw ar ag az : Nat} {A : Nat → Prop} {cd : Int32} {w g : Nat → Nat} {sg : Nat → Int32} (hx : p.tables.exec = Jvm.exec) (hb : c.code = b_X2_loadLong) (hr : meth.sig.returnType = none) (hml : c.maxLocals = 7) (hown : s.vm.findClass R_Md = some m.cls) (hts : ∀ w ∈ gw, w.before args s = true) (hlocks : meth.locks = false) (hA : ∀ q : Nat, s.heap.size ≤ q → A q) (hK : va_K D cls0 (ty3 cA cR cL) s) {b : Nat} (hb3 : b < 3) {v x : Int64} : ∀ (n : Nat) (k : Nat) (z : Nat → Nat), n = 4 - k → k ≤ 4 → mdOk w g z → ∀ (H : Heap) (locs : List Loc), va_P D cls0 (md cA h aw ar ag az cd w g sg z Rs) H → va_D A (md cA h aw ar ag az cd w g sg z Rs) → va_S A s.heap H locs → ∀ (ls : Array Slot), lv_has ls 7 [(0, .ref h), (1, .int (nI b)), (2, .long v), (4, .long x), (6, .int (nI k))] → W p l e ({ frames := 1, cells := 0, slots := 0, locals := 22 }) s m args below meth c H locs 0 0 (MQ below (xQ (none) (xB D cls0 A (fun w1 => w1 = md cA h aw ar ag az cd w g (upd sg b (mSgv v)) (mLlZ x b n k z) Rs)) A) args s 0 0 A) (F0 m 22 ls []) := by
  intro n
  induction n with
  | zero =>
    intro k z hn hk hok H locs hP hD hS ls hl
    refine lv_iload hx hb d_X2_loadLong_22 (lv_at hl 4 rfl) ?_
    refine lv_iconst (v := nI 4) hx hb d_X2_loadLong_24 (by decide) ?_
    refine n_icmp_ge (tgt := 60) hx hb d_X2_loadLong_25 (by decide) (by omega) (by omega) (fun c_1 => ?_) (fun c_1 => ?_)
    rotate_left
    · exact absurd c_1 (by omega)
    refine lv_aload_n hx hb d_X2_loadLong_60 rfl (lv_at hl 0 rfl) ?_
    refine m_getG hx hb hts hown hK hP d_X2_loadLong_61 ?_
    refine lv_iload_n hx hb d_X2_loadLong_64 rfl (lv_at hl 1 rfl) ?_
    refine lv_lload_n hx hb d_X2_loadLong_65 rfl (lv_at hl 2 rfl) ?_
    refine lv_lconst (v := 0) hx hb d_X2_loadLong_66 (by decide) ?_
    refine W.lcmp hx hb d_X2_loadLong_67 ?_
    refine lv_if_ge (tgt := 75) hx hb d_X2_loadLong_68 (by decide) (fun c_2 => ?_) (fun c_2 => ?_)
    · refine lv_lload_n hx hb d_X2_loadLong_75 rfl (lv_at hl 2 rfl) ?_
      refine lv_lconst (v := 0) hx hb d_X2_loadLong_76 (by decide) ?_
      refine W.lcmp hx hb d_X2_loadLong_77 ?_
      refine lv_if_le (tgt := 85) hx hb d_X2_loadLong_78 (by decide) (fun c_3 => ?_) (fun c_3 => ?_)
      · refine lv_iconst (v := nI 0) hx hb d_X2_loadLong_85 (by decide) ?_
        refine m_astG hx hb hK hP hD hS (j := b) (x := nI 0) (by omega) d_X2_loadLong_86 (fun H locs hP hD hS => ?_)
        exact x_vret hx hb hr hlocks hP hD hS d_X2_loadLong_87 rfl (by rw [show mLlZ x b 0 k z = z from rfl]; unfold mSgv; first | rw [if_neg (by assumption)] | rw [if_pos (by assumption), if_pos (by assumption)] | rw [if_pos (by assumption), if_neg (by assumption)])
      · refine lv_iconst (v := nI 1) hx hb d_X2_loadLong_81 (by decide) ?_
        refine lv_goto (tgt := 86) hx hb d_X2_loadLong_82 (by decide) ?_
        refine m_astG hx hb hK hP hD hS (j := b) (x := nI 1) (by omega) d_X2_loadLong_86 (fun H locs hP hD hS => ?_)
        exact x_vret hx hb hr hlocks hP hD hS d_X2_loadLong_87 rfl (by rw [show mLlZ x b 0 k z = z from rfl]; unfold mSgv; first | rw [if_neg (by assumption)] | rw [if_pos (by assumption), if_pos (by assumption)] | rw [if_pos (by assumption), if_neg (by assumption)])
    · refine lv_iconst (v := -1) hx hb d_X2_loadLong_71 (by decide) ?_
      refine lv_goto (tgt := 86) hx hb d_X2_loadLong_72 (by decide) ?_
      refine m_astG hx hb hK hP hD hS (j := b) (x := -1) (by omega) d_X2_loadLong_86 (fun H locs hP hD hS => ?_)
      exact x_vret hx hb hr hlocks hP hD hS d_X2_loadLong_87 rfl (by rw [show mLlZ x b 0 k z = z from rfl]; unfold mSgv; first | rw [if_neg (by assumption)] | rw [if_pos (by assumption), if_pos (by assumption)] | rw [if_pos (by assumption), if_neg (by assumption)])
  | succ n ih =>
    intro k z hn hk hok H locs hP hD hS ls hl
    refine lv_iload hx hb d_X2_loadLong_22 (lv_at hl 4 rfl) ?_
    refine lv_iconst (v := nI 4) hx hb d_X2_loadLong_24 (by decide) ?_
    refine n_icmp_ge (tgt := 60) hx hb d_X2_loadLong_25 (by decide) (by omega) (by omega) (fun c_1 => ?_) (fun c_1 => ?_)
    · exact absurd c_1 (by omega)
    refine lv_aload_n hx hb d_X2_loadLong_28 rfl (lv_at hl 0 rfl) ?_
    refine m_getZ hx hb hts hown hK hP d_X2_loadLong_29 ?_
    refine lv_sipush (v := nI 1100) hx hb d_X2_loadLong_32 (by decide) ?_
    refine lv_iload_n hx hb d_X2_loadLong_35 rfl (lv_at hl 1 rfl) ?_
    refine n_imul hx hb d_X2_loadLong_36 ?_
    refine lv_iload hx hb d_X2_loadLong_37 (lv_at hl 4 rfl) ?_
    refine n_iadd hx hb d_X2_loadLong_39 ?_
    refine lv_lload hx hb d_X2_loadLong_40 (lv_at hl 3 rfl) ?_
    refine lv_bipush (v := nI 16) hx hb d_X2_loadLong_42 (by decide) ?_
    refine lv_iload hx hb d_X2_loadLong_44 (lv_at hl 4 rfl) ?_
    refine n_imul hx hb d_X2_loadLong_46 ?_
    refine lv_lushr (v := j_lu x (nI (16 * k))) hx hb d_X2_loadLong_47 rfl ?_
    refine lv_ldc2 (v := 65535) hx hb hown (hts (.constantLong "LimbRowsModel" 37 65535) k_568) d_X2_loadLong_48 ?_
    refine lv_land hx hb d_X2_loadLong_51 ?_
    refine lv_l2i (v := nI (uH x k)) hx hb d_X2_loadLong_52 (uH_eq x (by omega)) ?_
    have hu := uH_lt x k
    refine m_astZ hx hb hK hP hD hS (j := (1100 * b) + k) (v := uH x k) (by omega) d_X2_loadLong_53 (fun H locs hP hD hS => ?_)
    have hok := hok.z (j := (1100 * b) + k) (v := uH x k) (by omega)
    refine n_iinc (lv' := [(6, .int (nI (k + 1))), (0, .ref h), (1, .int (nI b)), (2, .long v), (4, .long x)]) hx hb d_X2_loadLong_54 hl (k := 4) rfl (by decide) rfl (fun ls hl => ?_)
    refine lv_goto (tgt := 22) hx hb d_X2_loadLong_57 (by decide) ?_
    exact ih (k + 1) _ (by omega) (by omega) hok H locs hP hD hS ls (lv_sub hl [1, 2, 3, 4, 0] rfl)
abbrev w_X2_loadLong : List Cond := .code y_X2_loadLong b_X2_loadLong 7 (none) :: gw
set_option maxHeartbeats 800000 in
set_option maxRecDepth 100000 in
theorem c_X2_loadLong {l : Launch} {D : va_G} {Rs : va_W} {cA cR cL : ClassId} {h aw ar ag az : Nat} {cd : Int32} {w g : Nat → Nat} {sg : Nat → Int32} {z : Nat → Nat} (hok : mdOk w g z) {b : Nat} (hb3 : b < 3) (v : Int64) : xC l y_X2_loadLong w_X2_loadLong ({ frames := 1, cells := 0, slots := 0, locals := 22 }) D cls0 (ty3 cA cR cL) [.ref h, .int (nI b), .long v] (md cA h aw ar ag az cd w g sg z Rs) (none) (fun w1 => w1 = md cA h aw ar ag az cd w g (mLongG v b sg) (mLongZ v b z) Rs) 0 0 := by
  refine xC.ofW (cc := b_X2_loadLong) (maxL := 7) (ret := none) (by decide) rfl (Nat.le_of_ble_eq_true rfl) ?_
  intro p e s m below meth c A ls _ hin hx hb hr hml hown hts hlocks hA hK hP hD hS hl
  have hts : ∀ w ∈ gw, w.before ([.ref h, .int (nI b), .long v]).toArray s = true := fun w h => hts w (List.mem_cons_of_mem _ h)
  have hown : s.vm.findClass R_Md = some m.cls := hown
  have hl : lv_has ls 7 [(0, .ref h), (1, .int (nI b)), (2, .long v)] := hl
  refine lv_aload_n hx hb d_X2_loadLong_0 rfl (lv_at hl 0 rfl) ?_
  refine lv_iload_n hx hb d_X2_loadLong_1 rfl (lv_at hl 1 rfl) ?_
  refine x_call (st1 := []) (x_runV (As := [.int (nI b)]) (rest := []) (nL := 7) ⟨hx, hb, hml, hown, hts⟩ (c_X2_clear (b := b) (by omega) _) (cwV 1 hts (gw_V k_526 k_528 k_32 k_52 k_529) rfl rfl rfl (by decide +kernel) ⟨Nat.le_of_ble_eq_true rfl, Nat.le_of_ble_eq_true rfl⟩) hK hP hD 0 2 rfl rfl rfl hl.1 rfl (Nat.le_of_ble_eq_true rfl) d_X2_loadLong_2 ⟨Nat.zero_le _, Nat.zero_le _⟩) hS (x_sub hD hS hA) (x_sub hD hS hA) rfl (fun w1 H locs hY hP hD hS => ?_)
  subst hY
  have hok := mClr_ok (b := b) cZ 0 _ hok
  refine lv_lload_n hx hb d_X2_loadLong_5 rfl (lv_at hl 2 rfl) ?_
  refine lv_lconst (v := 0) hx hb d_X2_loadLong_6 (by decide) ?_
  refine W.lcmp hx hb d_X2_loadLong_7 ?_
  refine lv_if_ge (tgt := 16) hx hb d_X2_loadLong_8 (by decide) (fun c_1 => ?_) (fun c_1 => ?_)
  · refine lv_lload_n hx hb d_X2_loadLong_16 rfl (lv_at hl 2 rfl) ?_
    refine lv_lstore (lv' := [(4, .long v), (0, .ref h), (1, .int (nI b)), (2, .long v)]) hx hb d_X2_loadLong_17 hl (by decide) rfl (fun ls hl => ?_)
    refine lv_iconst (v := nI 0) hx hb d_X2_loadLong_19 (by decide) ?_
    refine lv_istore (lv' := [(6, .int (nI 0)), (4, .long v), (0, .ref h), (1, .int (nI b)), (2, .long v)]) hx hb d_X2_loadLong_20 hl (by decide) rfl (fun ls hl => ?_)
    have hab : mAbs v = v := by unfold mAbs; first | exact if_pos (by assumption) | exact if_neg (by assumption)
    unfold mLongZ mLongG
    rw [hab]
    exact lp_X2_loadLong hx hb hr hml hown hts hlocks hA hK hb3 4 0 _ rfl (by omega) hok _ _ hP hD hS ls (lv_sub hl [2, 3, 4, 1, 0] rfl)
  · refine lv_lload_n hx hb d_X2_loadLong_11 rfl (lv_at hl 2 rfl) ?_
    refine lv_lneg hx hb d_X2_loadLong_12 ?_
    refine lv_goto (tgt := 17) hx hb d_X2_loadLong_13 (by decide) ?_
    refine lv_lstore (lv' := [(4, .long (-v)), (0, .ref h), (1, .int (nI b)), (2, .long v)]) hx hb d_X2_loadLong_17 hl (by decide) rfl (fun ls hl => ?_)
    refine lv_iconst (v := nI 0) hx hb d_X2_loadLong_19 (by decide) ?_
    refine lv_istore (lv' := [(6, .int (nI 0)), (4, .long (-v)), (0, .ref h), (1, .int (nI b)), (2, .long v)]) hx hb d_X2_loadLong_20 hl (by decide) rfl (fun ls hl => ?_)
    have hab : mAbs v = -v := by unfold mAbs; first | exact if_pos (by assumption) | exact if_neg (by assumption)
    unfold mLongZ mLongG
    rw [hab]
    exact lp_X2_loadLong hx hb hr hml hown hts hlocks hA hK hb3 4 0 _ rfl (by omega) hok _ _ hP hD hS ls (lv_sub hl [2, 3, 4, 1, 0] rfl)
end
section
def mAddZ (b q : Nat) : Nat → Nat → Nat → (Nat → Nat) → Nat → Nat
  | 0, _, _, z => z
  | n + 1, k, cy, z => mAddZ b q n (k + 1) ((z (1100 * b + k) + z (1100 * q + k) + cy) / 65536) (va_up z (1100 * b + k) ((z (1100 * b + k) + z (1100 * q + k) + cy) % 65536))
theorem mAddZ_ok {w g : Nat → Nat} {b q : Nat} : ∀ (n k cy : Nat) (z : Nat → Nat), cy < 2 → mdOk w g z → mdOk w g (mAddZ b q n k cy z)
  | 0, _, _, _, _, h => h
  | n + 1, k, cy, z, hc, h => mAddZ_ok n (k + 1) _ _ (by have := h.2.2 (1100 * b + k); have := h.2.2 (1100 * q + k); omega) (h.z (by omega))
def mX (y : Int32) (a c : Nat) : Nat := if 0 ≤ y then a else c
theorem mX_lt {y : Int32} {a c : Nat} (ha : a < 65536) (hc : c < 65536) : mX y a c < 65536 := by unfold mX; split <;> assumption
def mSubZ (y : Int32) (b q : Nat) : Nat → Nat → Nat → (Nat → Nat) → Nat → Nat
  | 0, _, _, z => z
  | n + 1, k, bw, z =>
    if mX y (z (1100 * b + k)) (z (1100 * q + k)) < mX y (z (1100 * q + k)) (z (1100 * b + k)) + bw then
      mSubZ y b q n (k + 1) 1 (va_up z (1100 * b + k) (65536 + mX y (z (1100 * b + k)) (z (1100 * q + k)) - mX y (z (1100 * q + k)) (z (1100 * b + k)) - bw))
    else mSubZ y b q n (k + 1) 0 (va_up z (1100 * b + k) (mX y (z (1100 * b + k)) (z (1100 * q + k)) - mX y (z (1100 * q + k)) (z (1100 * b + k)) - bw))
theorem mSubZ_ok {y : Int32} {w g : Nat → Nat} {b q : Nat} : ∀ (n k bw : Nat) (z : Nat → Nat), mdOk w g z → mdOk w g (mSubZ y b q n k bw z)
  | 0, _, _, _, h => h
  | n + 1, k, bw, z, h => by
    have h1 := mX_lt (y := y) (h.2.2 (1100 * b + k)) (h.2.2 (1100 * q + k))
    have h2 := mX_lt (y := y) (h.2.2 (1100 * q + k)) (h.2.2 (1100 * b + k))
    unfold mSubZ
    split
    · exact mSubZ_ok n (k + 1) _ _ (h.z (by omega))
    · exact mSubZ_ok n (k + 1) _ _ (h.z (by omega))
theorem n_sub3 {x y v : Nat} (h : y + v ≤ x) : nI x - nI y - nI v = nI (x - y - v) := by
  rw [pk_sub (by omega), pk_sub (by omega)]
theorem n_sub3n {x y v : Nat} (hx : x < 65536) (hy : y < 65536) (hv : v < 2) (h : x < y + v) : nI x - nI y - nI v < 0 ∧ nI x - nI y - nI v + nI 65536 = nI (65536 + x - y - v) := by
  have e : nI x - nI y - nI v = nI x - nI (y + v) := by
    rw [← nI_add, Int32.sub_sub]
  constructor
  · rw [e]; exact pk_sneg (by omega) h
  · rw [e, Int32.sub_eq_add_neg, Int32.add_assoc, Int32.add_comm (-_), ← Int32.add_assoc, ← Int32.sub_eq_add_neg, nI_add, pk_sub (by omega)]
    congr 1
    omega
def mOth (sg : Nat → Int32) (q f : Nat) : Int32 := if f = 0 then sg q else -(sg q)
noncomputable def mBy (z : Nat → Nat) (b q : Nat) : Int32 := mCmp z b q (mCmpK z b q (cZ - 1))
def mAddP (sg : Nat → Int32) (b : Nat) (x : Int32) : Prop := sg b = 0 ∨ x = 0 ∨ sg b = x
noncomputable def mCombZ (sg : Nat → Int32) (b q : Nat) (x : Int32) (z : Nat → Nat) : Nat → Nat := if sg b = 0 then mAddZ b q cZ 0 0 z else if x = 0 then mAddZ b q cZ 0 0 z else if sg b = x then mAddZ b q cZ 0 0 z else mSubZ (mBy z b q) b q cZ 0 0 z
noncomputable def mCombS (sg : Nat → Int32) (b q : Nat) (x : Int32) (z : Nat → Nat) : Int32 := if sg b = 0 then x else if x = 0 then sg b else if sg b = x then sg b else if mBy z b q = 0 then nI 0 else if 0 ≤ mBy z b q then sg b else x
theorem mComb_add {sg : Nat → Int32} {b q : Nat} {x : Int32} {z : Nat → Nat} (h : sg b = 0 ∨ x = 0 ∨ sg b = x) : mCombZ sg b q x z = mAddZ b q cZ 0 0 z ∧ mCombS sg b q x z = (if sg b = 0 then x else sg b) := by
  unfold mCombZ mCombS
  by_cases h1 : sg b = 0
  · simp [h1]
  · by_cases h2 : x = 0
    · simp [h1, h2]
    · have h3 : sg b = x := by
        rcases h with h | h | h
        · exact absurd h h1
        · exact absurd h h2
        · exact h
      rw [if_neg h1, if_neg h2, if_pos h3, if_neg h1, if_neg h2, if_pos h3, if_neg h1]
      exact ⟨rfl, rfl⟩
theorem mComb_sub {sg : Nat → Int32} {b q : Nat} {x : Int32} {z : Nat → Nat} (h1 : ¬ sg b = 0) (h2 : ¬ x = 0) (h3 : ¬ sg b = x) : mCombZ sg b q x z = mSubZ (mBy z b q) b q cZ 0 0 z ∧ mCombS sg b q x z = (if mBy z b q = 0 then nI 0 else if 0 ≤ mBy z b q then sg b else x) := by
  unfold mCombZ mCombS
  rw [if_neg h1, if_neg h2, if_neg h3, if_neg h1, if_neg h2, if_neg h3]
  exact ⟨rfl, rfl⟩
theorem mCombZ_ok {sg : Nat → Int32} {w g z : Nat → Nat} {b q : Nat} {x : Int32} (h : mdOk w g z) : mdOk w g (mCombZ sg b q x z) := by
  unfold mCombZ
  split
  · exact mAddZ_ok _ _ _ _ (by omega) h
  · split
    · exact mAddZ_ok _ _ _ _ (by omega) h
    · split
      · exact mAddZ_ok _ _ _ _ (by omega) h
      · exact mSubZ_ok _ _ _ _ h
set_option maxHeartbeats 800000 in
set_option maxRecDepth 100000 in
theorem lp_X2_combine {p : Program} {l : Launch} {e : Env} {s : State} {m : MethodId} {args : Array Value} {below : List Frame} {meth : Method} {c : Code} {D : va_G} {Rs : va_W} {cA cR cL : ClassId} {h aw ar ag az : Nat} {A : Nat → Prop} {cd : Int32} {w g : Nat → Nat} {sg : Nat → Int32} (hx : p.tables.exec = Jvm.exec) (hb : c.code = b_X2_combine) (hr : meth.sig.returnType = none) (hml : c.maxLocals = 11) (hown : s.vm.findClass R_Md = some m.cls) (hts : ∀ w ∈ gw, w.before args s = true) (hlocks : meth.locks = false) (hA : ∀ q : Nat, s.heap.size ≤ q → A q) (hK : va_K D cls0 (ty3 cA cR cL) s) {b q f : Nat} (hb3 : b < 3) (hq3 : q < 3) {x : Int32} : ∀ (n : Nat) (k cy : Nat) (z : Nat → Nat), n = 1100 - k → k ≤ 1100 → cy < 2 → mdOk w g z → ∀ (H : Heap) (locs : List Loc), va_P D cls0 (md cA h aw ar ag az cd w g sg z Rs) H → va_D A (md cA h aw ar ag az cd w g sg z Rs) → va_S A s.heap H locs → ∀ (ls : Array Slot), lv_has ls 11 [(0, .ref h), (1, .int (nI b)), (2, .int (nI q)), (3, .int (nI f)), (4, .int x), (5, .int (nI cy)), (6, .int (nI k))] → W p l e ({ frames := 1, cells := 0, slots := 0, locals := 24 }) s m args below meth c H locs 0 0 (MQ below (xQ (none) (xB D cls0 A (fun w1 => w1 = md cA h aw ar ag az cd w g (upd sg b (if sg b = 0 then x else sg b)) (mAddZ b q n k cy z) Rs)) A) args s 0 0 A) (F0 m 53 ls []) := by
  intro n
  induction n with
  | zero =>
    intro k cy z hn hk hcy hok H locs hP hD hS ls hl
    refine lv_iload hx hb d_X2_combine_53 (lv_at hl 6 rfl) ?_
    refine lv_sipush (v := nI 1100) hx hb d_X2_combine_55 (by decide) ?_
    refine n_icmp_ge (tgt := 124) hx hb d_X2_combine_58 (by decide) (by omega) (by omega) (fun c_1 => ?_) (fun c_1 => ?_)
    rotate_left
    · exact absurd c_1 (by omega)
    refine lv_aload_n hx hb d_X2_combine_124 rfl (lv_at hl 0 rfl) ?_
    refine m_getG hx hb hts hown hK hP d_X2_combine_125 ?_
    refine lv_iload_n hx hb d_X2_combine_128 rfl (lv_at hl 1 rfl) ?_
    refine lv_aload_n hx hb d_X2_combine_129 rfl (lv_at hl 0 rfl) ?_
    refine m_getG hx hb hts hown hK hP d_X2_combine_130 ?_
    refine lv_iload_n hx hb d_X2_combine_133 rfl (lv_at hl 1 rfl) ?_
    refine m_aldG hx hb hK hP (j := b) (by omega) d_X2_combine_134 ?_
    refine lv_if_ne (tgt := 143) hx hb d_X2_combine_135 (by decide) (fun c_2 => ?_) (fun c_2 => ?_)
    · refine lv_aload_n hx hb d_X2_combine_143 rfl (lv_at hl 0 rfl) ?_
      refine m_getG hx hb hts hown hK hP d_X2_combine_144 ?_
      refine lv_iload_n hx hb d_X2_combine_147 rfl (lv_at hl 1 rfl) ?_
      refine m_aldG hx hb hK hP (j := b) (by omega) d_X2_combine_148 ?_
      refine m_astG hx hb hK hP hD hS (j := b) (x := sg b) (by omega) d_X2_combine_149 (fun H locs hP hD hS => ?_)
      exact x_vret hx hb hr hlocks hP hD hS d_X2_combine_150 rfl (by rw [show mAddZ b q 0 k cy z = z from rfl]; first | rw [if_pos (by assumption)] | rw [if_neg (by assumption)])
    · refine lv_iload hx hb d_X2_combine_138 (lv_at hl 4 rfl) ?_
      refine lv_goto (tgt := 149) hx hb d_X2_combine_140 (by decide) ?_
      refine m_astG hx hb hK hP hD hS (j := b) (x := x) (by omega) d_X2_combine_149 (fun H locs hP hD hS => ?_)
      exact x_vret hx hb hr hlocks hP hD hS d_X2_combine_150 rfl (by rw [show mAddZ b q 0 k cy z = z from rfl]; first | rw [if_pos (by assumption)] | rw [if_neg (by assumption)])
  | succ n ih =>
    intro k cy z hn hk hcy hok H locs hP hD hS ls hl
    refine lv_iload hx hb d_X2_combine_53 (lv_at hl 6 rfl) ?_
    refine lv_sipush (v := nI 1100) hx hb d_X2_combine_55 (by decide) ?_
    refine n_icmp_ge (tgt := 124) hx hb d_X2_combine_58 (by decide) (by omega) (by omega) (fun c_1 => ?_) (fun c_1 => ?_)
    · exact absurd c_1 (by omega)
    refine lv_aload_n hx hb d_X2_combine_61 rfl (lv_at hl 0 rfl) ?_
    refine m_getZ hx hb hts hown hK hP d_X2_combine_62 ?_
    refine lv_sipush (v := nI 1100) hx hb d_X2_combine_65 (by decide) ?_
    refine lv_iload_n hx hb d_X2_combine_68 rfl (lv_at hl 1 rfl) ?_
    refine n_imul hx hb d_X2_combine_69 ?_
    refine lv_iload hx hb d_X2_combine_70 (lv_at hl 6 rfl) ?_
    refine n_iadd hx hb d_X2_combine_72 ?_
    refine m_aldZ hx hb hK hP (j := (1100 * b) + k) (by omega) d_X2_combine_73 ?_
    have hq_73 := hok.2.2 ((1100 * b) + k)
    refine lv_aload_n hx hb d_X2_combine_74 rfl (lv_at hl 0 rfl) ?_
    refine m_getZ hx hb hts hown hK hP d_X2_combine_75 ?_
    refine lv_sipush (v := nI 1100) hx hb d_X2_combine_78 (by decide) ?_
    refine lv_iload_n hx hb d_X2_combine_81 rfl (lv_at hl 2 rfl) ?_
    refine n_imul hx hb d_X2_combine_82 ?_
    refine lv_iload hx hb d_X2_combine_83 (lv_at hl 6 rfl) ?_
    refine n_iadd hx hb d_X2_combine_85 ?_
    refine m_aldZ hx hb hK hP (j := (1100 * q) + k) (by omega) d_X2_combine_86 ?_
    have hq_86 := hok.2.2 ((1100 * q) + k)
    refine n_iadd hx hb d_X2_combine_87 ?_
    refine lv_iload hx hb d_X2_combine_88 (lv_at hl 5 rfl) ?_
    refine n_iadd hx hb d_X2_combine_90 ?_
    refine lv_istore (lv' := [(7, .int (nI (((z ((1100 * b) + k)) + (z ((1100 * q) + k))) + cy))), (0, .ref h), (1, .int (nI b)), (2, .int (nI q)), (3, .int (nI f)), (4, .int x), (5, .int (nI cy)), (6, .int (nI k))]) hx hb d_X2_combine_91 hl (by decide) rfl (fun ls hl => ?_)
    refine lv_aload_n hx hb d_X2_combine_93 rfl (lv_at hl 1 rfl) ?_
    refine m_getZ hx hb hts hown hK hP d_X2_combine_94 ?_
    refine lv_sipush (v := nI 1100) hx hb d_X2_combine_97 (by decide) ?_
    refine lv_iload_n hx hb d_X2_combine_100 rfl (lv_at hl 2 rfl) ?_
    refine n_imul hx hb d_X2_combine_101 ?_
    refine lv_iload hx hb d_X2_combine_102 (lv_at hl 7 rfl) ?_
    refine n_iadd hx hb d_X2_combine_104 ?_
    refine lv_iload hx hb d_X2_combine_105 (lv_at hl 0 rfl) ?_
    refine lv_ldc (v := nI 65536) hx hb hown (hts (.constant "LimbRowsModel" 32 (nI 65536)) (show Cond.constant "LimbRowsModel" 32 65536 ∈ gw from k_531)) d_X2_combine_107 ?_
    refine n_irem hx hb d_X2_combine_109 (by omega) (by omega) (by omega) ?_
    refine m_astZ hx hb hK hP hD hS (j := (1100 * b) + k) (v := (((z ((1100 * b) + k)) + (z ((1100 * q) + k))) + cy) % 65536) (by omega) d_X2_combine_110 (fun H locs hP hD hS => ?_)
    have hok := hok.z (j := (1100 * b) + k) (v := (((z ((1100 * b) + k)) + (z ((1100 * q) + k))) + cy) % 65536) (by omega)
    refine lv_iload hx hb d_X2_combine_111 (lv_at hl 0 rfl) ?_
    refine lv_ldc (v := nI 65536) hx hb hown (hts (.constant "LimbRowsModel" 32 (nI 65536)) (show Cond.constant "LimbRowsModel" 32 65536 ∈ gw from k_531)) d_X2_combine_113 ?_
    refine n_idiv hx hb d_X2_combine_115 (by omega) (by omega) (by omega) ?_
    refine lv_istore (lv' := [(5, .int (nI ((((z ((1100 * b) + k)) + (z ((1100 * q) + k))) + cy) / 65536))), (7, .int (nI (((z ((1100 * b) + k)) + (z ((1100 * q) + k))) + cy))), (0, .ref h), (1, .int (nI b)), (2, .int (nI q)), (3, .int (nI f)), (4, .int x), (6, .int (nI k))]) hx hb d_X2_combine_116 hl (by decide) rfl (fun ls hl => ?_)
    refine n_iinc (lv' := [(6, .int (nI (k + 1))), (5, .int (nI ((((z ((1100 * b) + k)) + (z ((1100 * q) + k))) + cy) / 65536))), (7, .int (nI (((z ((1100 * b) + k)) + (z ((1100 * q) + k))) + cy))), (0, .ref h), (1, .int (nI b)), (2, .int (nI q)), (3, .int (nI f)), (4, .int x)]) hx hb d_X2_combine_118 hl (k := 7) rfl (by decide) rfl (fun ls hl => ?_)
    refine lv_goto (tgt := 53) hx hb d_X2_combine_121 (by decide) ?_
    exact ih (k + 1) _ _ (by omega) (by omega) (by omega) hok H locs hP hD hS ls (lv_sub hl [3, 4, 5, 6, 7, 1, 0] rfl)
set_option maxHeartbeats 800000 in
set_option maxRecDepth 100000 in
theorem lq_X2_combine {p : Program} {l : Launch} {e : Env} {s : State} {m : MethodId} {args : Array Value} {below : List Frame} {meth : Method} {c : Code} {D : va_G} {Rs : va_W} {cA cR cL : ClassId} {h aw ar ag az : Nat} {A : Nat → Prop} {cd : Int32} {w g : Nat → Nat} {sg : Nat → Int32} (hx : p.tables.exec = Jvm.exec) (hb : c.code = b_X2_combine) (hr : meth.sig.returnType = none) (hml : c.maxLocals = 11) (hown : s.vm.findClass R_Md = some m.cls) (hts : ∀ w ∈ gw, w.before args s = true) (hlocks : meth.locks = false) (hA : ∀ q : Nat, s.heap.size ≤ q → A q) (hK : va_K D cls0 (ty3 cA cR cL) s) {b q f : Nat} (hb3 : b < 3) (hq3 : q < 3) {x y : Int32} : ∀ (n : Nat) (k bw : Nat) (z : Nat → Nat), n = 1100 - k → k ≤ 1100 → bw < 2 → mdOk w g z → ∀ (H : Heap) (locs : List Loc), va_P D cls0 (md cA h aw ar ag az cd w g sg z Rs) H → va_D A (md cA h aw ar ag az cd w g sg z Rs) → va_S A s.heap H locs → ∀ (ls : Array Slot), lv_has ls 11 [(0, .ref h), (1, .int (nI b)), (2, .int (nI q)), (3, .int (nI f)), (4, .int x), (5, .int y), (6, .int (nI bw)), (7, .int (nI k))] → W p l e ({ frames := 1, cells := 0, slots := 0, locals := 24 }) s m args below meth c H locs 0 0 (MQ below (xQ (none) (xB D cls0 A (fun w1 => w1 = md cA h aw ar ag az cd w g (upd sg b (if y = 0 then nI 0 else if 0 ≤ y then sg b else x)) (mSubZ y b q n k bw z) Rs)) A) args s 0 0 A) (F0 m 165 ls []) := by
  intro n
  induction n with
  | zero =>
    intro k bw z hn hk hbw hok H locs hP hD hS ls hl
    refine lv_iload hx hb d_X2_combine_165 (lv_at hl 7 rfl) ?_
    refine lv_sipush (v := nI 1100) hx hb d_X2_combine_167 (by decide) ?_
    refine n_icmp_ge (tgt := 272) hx hb d_X2_combine_170 (by decide) (by omega) (by omega) (fun c_1 => ?_) (fun c_1 => ?_)
    rotate_left
    · exact absurd c_1 (by omega)
    refine lv_aload_n hx hb d_X2_combine_272 rfl (lv_at hl 0 rfl) ?_
    refine m_getG hx hb hts hown hK hP d_X2_combine_273 ?_
    refine lv_iload_n hx hb d_X2_combine_276 rfl (lv_at hl 1 rfl) ?_
    refine lv_iload hx hb d_X2_combine_277 (lv_at hl 5 rfl) ?_
    refine lv_if_ne (tgt := 286) hx hb d_X2_combine_279 (by decide) (fun c_2 => ?_) (fun c_2 => ?_)
    · refine lv_iload hx hb d_X2_combine_286 (lv_at hl 5 rfl) ?_
      refine lv_if_ge (tgt := 296) hx hb d_X2_combine_288 (by decide) (fun c_3 => ?_) (fun c_3 => ?_)
      · refine lv_aload_n hx hb d_X2_combine_296 rfl (lv_at hl 0 rfl) ?_
        refine m_getG hx hb hts hown hK hP d_X2_combine_297 ?_
        refine lv_iload_n hx hb d_X2_combine_300 rfl (lv_at hl 1 rfl) ?_
        refine m_aldG hx hb hK hP (j := b) (by omega) d_X2_combine_301 ?_
        refine m_astG hx hb hK hP hD hS (j := b) (x := sg b) (by omega) d_X2_combine_302 (fun H locs hP hD hS => ?_)
        exact x_vret hx hb hr hlocks hP hD hS d_X2_combine_303 rfl (by rw [show mSubZ y b q 0 k bw z = z from rfl]; first | rw [if_pos (by assumption)] | rw [if_neg (by assumption), if_pos (by assumption)] | rw [if_neg (by assumption), if_neg (by assumption)])
      · refine lv_iload hx hb d_X2_combine_291 (lv_at hl 4 rfl) ?_
        refine lv_goto (tgt := 302) hx hb d_X2_combine_293 (by decide) ?_
        refine m_astG hx hb hK hP hD hS (j := b) (x := x) (by omega) d_X2_combine_302 (fun H locs hP hD hS => ?_)
        exact x_vret hx hb hr hlocks hP hD hS d_X2_combine_303 rfl (by rw [show mSubZ y b q 0 k bw z = z from rfl]; first | rw [if_pos (by assumption)] | rw [if_neg (by assumption), if_pos (by assumption)] | rw [if_neg (by assumption), if_neg (by assumption)])
    · refine lv_iconst (v := nI 0) hx hb d_X2_combine_282 (by decide) ?_
      refine lv_goto (tgt := 302) hx hb d_X2_combine_283 (by decide) ?_
      refine m_astG hx hb hK hP hD hS (j := b) (x := nI 0) (by omega) d_X2_combine_302 (fun H locs hP hD hS => ?_)
      exact x_vret hx hb hr hlocks hP hD hS d_X2_combine_303 rfl (by rw [show mSubZ y b q 0 k bw z = z from rfl]; first | rw [if_pos (by assumption)] | rw [if_neg (by assumption), if_pos (by assumption)] | rw [if_neg (by assumption), if_neg (by assumption)])
  | succ n ih =>
    intro k bw z hn hk hbw hok H locs hP hD hS ls hl
    refine lv_iload hx hb d_X2_combine_165 (lv_at hl 7 rfl) ?_
    refine lv_sipush (v := nI 1100) hx hb d_X2_combine_167 (by decide) ?_
    refine n_icmp_ge (tgt := 272) hx hb d_X2_combine_170 (by decide) (by omega) (by omega) (fun c_1 => ?_) (fun c_1 => ?_)
    · exact absurd c_1 (by omega)
    refine lv_aload_n hx hb d_X2_combine_173 rfl (lv_at hl 0 rfl) ?_
    refine m_getZ hx hb hts hown hK hP d_X2_combine_174 ?_
    refine lv_sipush (v := nI 1100) hx hb d_X2_combine_177 (by decide) ?_
    refine lv_iload_n hx hb d_X2_combine_180 rfl (lv_at hl 1 rfl) ?_
    refine n_imul hx hb d_X2_combine_181 ?_
    refine lv_iload hx hb d_X2_combine_182 (lv_at hl 7 rfl) ?_
    refine n_iadd hx hb d_X2_combine_184 ?_
    refine m_aldZ hx hb hK hP (j := (1100 * b) + k) (by omega) d_X2_combine_185 ?_
    have hq_185 := hok.2.2 ((1100 * b) + k)
    refine lv_istore (lv' := [(8, .int (nI (z ((1100 * b) + k)))), (0, .ref h), (1, .int (nI b)), (2, .int (nI q)), (3, .int (nI f)), (4, .int x), (5, .int y), (6, .int (nI bw)), (7, .int (nI k))]) hx hb d_X2_combine_186 hl (by decide) rfl (fun ls hl => ?_)
    refine lv_aload_n hx hb d_X2_combine_188 rfl (lv_at hl 1 rfl) ?_
    refine m_getZ hx hb hts hown hK hP d_X2_combine_189 ?_
    refine lv_sipush (v := nI 1100) hx hb d_X2_combine_192 (by decide) ?_
    refine lv_iload_n hx hb d_X2_combine_195 rfl (lv_at hl 3 rfl) ?_
    refine n_imul hx hb d_X2_combine_196 ?_
    refine lv_iload hx hb d_X2_combine_197 (lv_at hl 8 rfl) ?_
    refine n_iadd hx hb d_X2_combine_199 ?_
    refine m_aldZ hx hb hK hP (j := (1100 * q) + k) (by omega) d_X2_combine_200 ?_
    have hq_200 := hok.2.2 ((1100 * q) + k)
    refine lv_istore (lv' := [(9, .int (nI (z ((1100 * q) + k)))), (8, .int (nI (z ((1100 * b) + k)))), (0, .ref h), (1, .int (nI b)), (2, .int (nI q)), (3, .int (nI f)), (4, .int x), (5, .int y), (6, .int (nI bw)), (7, .int (nI k))]) hx hb d_X2_combine_201 hl (by decide) rfl (fun ls hl => ?_)
    refine lv_iload hx hb d_X2_combine_203 (lv_at hl 7 rfl) ?_
    refine lv_if_ge (tgt := 216) hx hb d_X2_combine_205 (by decide) (fun c_2 => ?_) (fun c_2 => ?_)
    · refine lv_iload hx hb d_X2_combine_216 (lv_at hl 1 rfl) ?_
      refine lv_iload hx hb d_X2_combine_218 (lv_at hl 0 rfl) ?_
      refine lv_isub hx hb d_X2_combine_220 ?_
      refine lv_iload hx hb d_X2_combine_221 (lv_at hl 8 rfl) ?_
      refine lv_isub hx hb d_X2_combine_223 ?_
      have hX : mX y (z (1100 * b + k)) (z (1100 * q + k)) = z (1100 * b + k) := if_pos (by assumption)
      have hY : mX y (z (1100 * q + k)) (z (1100 * b + k)) = z (1100 * q + k) := if_pos (by assumption)
      rcases Nat.lt_or_ge (z (1100 * b + k)) (z (1100 * q + k) + bw) with hge | hge
      · have hneg := n_sub3n (by omega) (by omega) (by omega) hge
        refine lv_istore (lv' := [(10, .int (nI (z (1100 * b + k)) - nI (z (1100 * q + k)) - nI bw)), (9, .int (nI (z ((1100 * q) + k)))), (8, .int (nI (z ((1100 * b) + k)))), (0, .ref h), (1, .int (nI b)), (2, .int (nI q)), (3, .int (nI f)), (4, .int x), (5, .int y), (6, .int (nI bw)), (7, .int (nI k))]) hx hb d_X2_combine_224 hl (by decide) rfl (fun ls hl => ?_)
        refine lv_iload hx hb d_X2_combine_226 (lv_at hl 0 rfl) ?_
        refine lv_if_ge (tgt := 235) hx hb d_X2_combine_228 (by decide) (fun c => absurd hneg.1 (Int32.not_lt.mpr c)) (fun _ => ?_)
        refine lv_iconst (v := nI 1) hx hb d_X2_combine_231 (by decide) ?_
        refine lv_goto (tgt := 236) hx hb d_X2_combine_232 (by decide) ?_
        refine lv_istore (lv' := [(6, .int (nI 1)), (10, .int (nI (z (1100 * b + k)) - nI (z (1100 * q + k)) - nI bw)), (9, .int (nI (z ((1100 * q) + k)))), (8, .int (nI (z ((1100 * b) + k)))), (0, .ref h), (1, .int (nI b)), (2, .int (nI q)), (3, .int (nI f)), (4, .int x), (5, .int y), (7, .int (nI k))]) hx hb d_X2_combine_236 hl (by decide) rfl (fun ls hl => ?_)
        refine lv_aload_n hx hb d_X2_combine_238 rfl (lv_at hl 4 rfl) ?_
        refine m_getZ hx hb hts hown hK hP d_X2_combine_239 ?_
        refine lv_sipush (v := nI 1100) hx hb d_X2_combine_242 (by decide) ?_
        refine lv_iload_n hx hb d_X2_combine_245 rfl (lv_at hl 5 rfl) ?_
        refine n_imul hx hb d_X2_combine_246 ?_
        refine lv_iload hx hb d_X2_combine_247 (lv_at hl 10 rfl) ?_
        refine n_iadd hx hb d_X2_combine_249 ?_
        refine lv_iload hx hb d_X2_combine_250 (lv_at hl 1 rfl) ?_
        refine lv_if_ge (tgt := 263) hx hb d_X2_combine_252 (by decide) (fun c => absurd hneg.1 (Int32.not_lt.mpr c)) (fun _ => ?_)
        refine lv_iload hx hb d_X2_combine_255 (lv_at hl 1 rfl) ?_
        refine lv_ldc (v := nI 65536) hx hb hown (hts (.constant "LimbRowsModel" 32 (nI 65536)) (show Cond.constant "LimbRowsModel" 32 65536 ∈ gw from k_531)) d_X2_combine_257 ?_
        refine lv_iadd hx hb d_X2_combine_259 ?_
        rw [hneg.2]
        refine lv_goto (tgt := 265) hx hb d_X2_combine_260 (by decide) ?_
        refine m_astZ hx hb hK hP hD hS (j := (1100 * b) + k) (v := 65536 + z (1100 * b + k) - z (1100 * q + k) - bw) (by omega) d_X2_combine_265 (fun H locs hP hD hS => ?_)
        have hok := hok.z (j := (1100 * b) + k) (v := 65536 + z (1100 * b + k) - z (1100 * q + k) - bw) (by omega)
        refine n_iinc (lv' := [(7, .int (nI (k + 1))), (6, .int (nI 1)), (10, .int (nI (z (1100 * b + k)) - nI (z (1100 * q + k)) - nI bw)), (9, .int (nI (z ((1100 * q) + k)))), (8, .int (nI (z ((1100 * b) + k)))), (0, .ref h), (1, .int (nI b)), (2, .int (nI q)), (3, .int (nI f)), (4, .int x), (5, .int y)]) hx hb d_X2_combine_266 hl (k := 10) rfl (by decide) rfl (fun ls hl => ?_)
        refine lv_goto (tgt := 165) hx hb d_X2_combine_269 (by decide) ?_
        rw [show mSubZ y b q (n + 1) k bw z = mSubZ y b q n (k + 1) 1 _ from if_pos (by rw [hX, hY]; omega), hX, hY]
        exact ih (k + 1) _ _ (by omega) (by omega) (by omega) hok H locs hP hD hS ls (lv_sub hl [5, 6, 7, 8, 9, 10, 1, 0] rfl)
      · rw [n_sub3 hge]
        refine lv_istore (lv' := [(10, .int (nI (z (1100 * b + k) - z (1100 * q + k) - bw))), (9, .int (nI (z ((1100 * q) + k)))), (8, .int (nI (z ((1100 * b) + k)))), (0, .ref h), (1, .int (nI b)), (2, .int (nI q)), (3, .int (nI f)), (4, .int x), (5, .int y), (6, .int (nI bw)), (7, .int (nI k))]) hx hb d_X2_combine_224 hl (by decide) rfl (fun ls hl => ?_)
        refine lv_iload hx hb d_X2_combine_226 (lv_at hl 0 rfl) ?_
        refine n_if_ge (tgt := 235) hx hb d_X2_combine_228 (by decide) (by omega) ?_
        refine lv_iconst (v := nI 0) hx hb d_X2_combine_235 (by decide) ?_
        refine lv_istore (lv' := [(6, .int (nI 0)), (10, .int (nI (z (1100 * b + k) - z (1100 * q + k) - bw))), (9, .int (nI (z ((1100 * q) + k)))), (8, .int (nI (z ((1100 * b) + k)))), (0, .ref h), (1, .int (nI b)), (2, .int (nI q)), (3, .int (nI f)), (4, .int x), (5, .int y), (7, .int (nI k))]) hx hb d_X2_combine_236 hl (by decide) rfl (fun ls hl => ?_)
        refine lv_aload_n hx hb d_X2_combine_238 rfl (lv_at hl 4 rfl) ?_
        refine m_getZ hx hb hts hown hK hP d_X2_combine_239 ?_
        refine lv_sipush (v := nI 1100) hx hb d_X2_combine_242 (by decide) ?_
        refine lv_iload_n hx hb d_X2_combine_245 rfl (lv_at hl 5 rfl) ?_
        refine n_imul hx hb d_X2_combine_246 ?_
        refine lv_iload hx hb d_X2_combine_247 (lv_at hl 10 rfl) ?_
        refine n_iadd hx hb d_X2_combine_249 ?_
        refine lv_iload hx hb d_X2_combine_250 (lv_at hl 1 rfl) ?_
        refine n_if_ge (tgt := 263) hx hb d_X2_combine_252 (by decide) (by omega) ?_
        refine lv_iload hx hb d_X2_combine_263 (lv_at hl 1 rfl) ?_
        refine m_astZ hx hb hK hP hD hS (j := (1100 * b) + k) (v := z (1100 * b + k) - z (1100 * q + k) - bw) (by omega) d_X2_combine_265 (fun H locs hP hD hS => ?_)
        have hok := hok.z (j := (1100 * b) + k) (v := z (1100 * b + k) - z (1100 * q + k) - bw) (by omega)
        refine n_iinc (lv' := [(7, .int (nI (k + 1))), (6, .int (nI 0)), (10, .int (nI (z (1100 * b + k) - z (1100 * q + k) - bw))), (9, .int (nI (z ((1100 * q) + k)))), (8, .int (nI (z ((1100 * b) + k)))), (0, .ref h), (1, .int (nI b)), (2, .int (nI q)), (3, .int (nI f)), (4, .int x), (5, .int y)]) hx hb d_X2_combine_266 hl (k := 10) rfl (by decide) rfl (fun ls hl => ?_)
        refine lv_goto (tgt := 165) hx hb d_X2_combine_269 (by decide) ?_
        rw [show mSubZ y b q (n + 1) k bw z = mSubZ y b q n (k + 1) 0 _ from if_neg (by rw [hX, hY]; omega), hX, hY]
        exact ih (k + 1) _ _ (by omega) (by omega) (by omega) hok H locs hP hD hS ls (lv_sub hl [5, 6, 7, 8, 9, 10, 1, 0] rfl)
    · refine lv_iload hx hb d_X2_combine_208 (lv_at hl 0 rfl) ?_
      refine lv_iload hx hb d_X2_combine_210 (lv_at hl 1 rfl) ?_
      refine lv_isub hx hb d_X2_combine_212 ?_
      refine lv_goto (tgt := 221) hx hb d_X2_combine_213 (by decide) ?_
      refine lv_iload hx hb d_X2_combine_221 (lv_at hl 8 rfl) ?_
      refine lv_isub hx hb d_X2_combine_223 ?_
      have hX : mX y (z (1100 * b + k)) (z (1100 * q + k)) = z (1100 * q + k) := if_neg (by assumption)
      have hY : mX y (z (1100 * q + k)) (z (1100 * b + k)) = z (1100 * b + k) := if_neg (by assumption)
      rcases Nat.lt_or_ge (z (1100 * q + k)) (z (1100 * b + k) + bw) with hge | hge
      · have hneg := n_sub3n (by omega) (by omega) (by omega) hge
        refine lv_istore (lv' := [(10, .int (nI (z (1100 * q + k)) - nI (z (1100 * b + k)) - nI bw)), (9, .int (nI (z ((1100 * q) + k)))), (8, .int (nI (z ((1100 * b) + k)))), (0, .ref h), (1, .int (nI b)), (2, .int (nI q)), (3, .int (nI f)), (4, .int x), (5, .int y), (6, .int (nI bw)), (7, .int (nI k))]) hx hb d_X2_combine_224 hl (by decide) rfl (fun ls hl => ?_)
        refine lv_iload hx hb d_X2_combine_226 (lv_at hl 0 rfl) ?_
        refine lv_if_ge (tgt := 235) hx hb d_X2_combine_228 (by decide) (fun c => absurd hneg.1 (Int32.not_lt.mpr c)) (fun _ => ?_)
        refine lv_iconst (v := nI 1) hx hb d_X2_combine_231 (by decide) ?_
        refine lv_goto (tgt := 236) hx hb d_X2_combine_232 (by decide) ?_
        refine lv_istore (lv' := [(6, .int (nI 1)), (10, .int (nI (z (1100 * q + k)) - nI (z (1100 * b + k)) - nI bw)), (9, .int (nI (z ((1100 * q) + k)))), (8, .int (nI (z ((1100 * b) + k)))), (0, .ref h), (1, .int (nI b)), (2, .int (nI q)), (3, .int (nI f)), (4, .int x), (5, .int y), (7, .int (nI k))]) hx hb d_X2_combine_236 hl (by decide) rfl (fun ls hl => ?_)
        refine lv_aload_n hx hb d_X2_combine_238 rfl (lv_at hl 4 rfl) ?_
        refine m_getZ hx hb hts hown hK hP d_X2_combine_239 ?_
        refine lv_sipush (v := nI 1100) hx hb d_X2_combine_242 (by decide) ?_
        refine lv_iload_n hx hb d_X2_combine_245 rfl (lv_at hl 5 rfl) ?_
        refine n_imul hx hb d_X2_combine_246 ?_
        refine lv_iload hx hb d_X2_combine_247 (lv_at hl 10 rfl) ?_
        refine n_iadd hx hb d_X2_combine_249 ?_
        refine lv_iload hx hb d_X2_combine_250 (lv_at hl 1 rfl) ?_
        refine lv_if_ge (tgt := 263) hx hb d_X2_combine_252 (by decide) (fun c => absurd hneg.1 (Int32.not_lt.mpr c)) (fun _ => ?_)
        refine lv_iload hx hb d_X2_combine_255 (lv_at hl 1 rfl) ?_
        refine lv_ldc (v := nI 65536) hx hb hown (hts (.constant "LimbRowsModel" 32 (nI 65536)) (show Cond.constant "LimbRowsModel" 32 65536 ∈ gw from k_531)) d_X2_combine_257 ?_
        refine lv_iadd hx hb d_X2_combine_259 ?_
        rw [hneg.2]
        refine lv_goto (tgt := 265) hx hb d_X2_combine_260 (by decide) ?_
        refine m_astZ hx hb hK hP hD hS (j := (1100 * b) + k) (v := 65536 + z (1100 * q + k) - z (1100 * b + k) - bw) (by omega) d_X2_combine_265 (fun H locs hP hD hS => ?_)
        have hok := hok.z (j := (1100 * b) + k) (v := 65536 + z (1100 * q + k) - z (1100 * b + k) - bw) (by omega)
        refine n_iinc (lv' := [(7, .int (nI (k + 1))), (6, .int (nI 1)), (10, .int (nI (z (1100 * q + k)) - nI (z (1100 * b + k)) - nI bw)), (9, .int (nI (z ((1100 * q) + k)))), (8, .int (nI (z ((1100 * b) + k)))), (0, .ref h), (1, .int (nI b)), (2, .int (nI q)), (3, .int (nI f)), (4, .int x), (5, .int y)]) hx hb d_X2_combine_266 hl (k := 10) rfl (by decide) rfl (fun ls hl => ?_)
        refine lv_goto (tgt := 165) hx hb d_X2_combine_269 (by decide) ?_
        rw [show mSubZ y b q (n + 1) k bw z = mSubZ y b q n (k + 1) 1 _ from if_pos (by rw [hX, hY]; omega), hX, hY]
        exact ih (k + 1) _ _ (by omega) (by omega) (by omega) hok H locs hP hD hS ls (lv_sub hl [5, 6, 7, 8, 9, 10, 1, 0] rfl)
      · rw [n_sub3 hge]
        refine lv_istore (lv' := [(10, .int (nI (z (1100 * q + k) - z (1100 * b + k) - bw))), (9, .int (nI (z ((1100 * q) + k)))), (8, .int (nI (z ((1100 * b) + k)))), (0, .ref h), (1, .int (nI b)), (2, .int (nI q)), (3, .int (nI f)), (4, .int x), (5, .int y), (6, .int (nI bw)), (7, .int (nI k))]) hx hb d_X2_combine_224 hl (by decide) rfl (fun ls hl => ?_)
        refine lv_iload hx hb d_X2_combine_226 (lv_at hl 0 rfl) ?_
        refine n_if_ge (tgt := 235) hx hb d_X2_combine_228 (by decide) (by omega) ?_
        refine lv_iconst (v := nI 0) hx hb d_X2_combine_235 (by decide) ?_
        refine lv_istore (lv' := [(6, .int (nI 0)), (10, .int (nI (z (1100 * q + k) - z (1100 * b + k) - bw))), (9, .int (nI (z ((1100 * q) + k)))), (8, .int (nI (z ((1100 * b) + k)))), (0, .ref h), (1, .int (nI b)), (2, .int (nI q)), (3, .int (nI f)), (4, .int x), (5, .int y), (7, .int (nI k))]) hx hb d_X2_combine_236 hl (by decide) rfl (fun ls hl => ?_)
        refine lv_aload_n hx hb d_X2_combine_238 rfl (lv_at hl 4 rfl) ?_
        refine m_getZ hx hb hts hown hK hP d_X2_combine_239 ?_
        refine lv_sipush (v := nI 1100) hx hb d_X2_combine_242 (by decide) ?_
        refine lv_iload_n hx hb d_X2_combine_245 rfl (lv_at hl 5 rfl) ?_
        refine n_imul hx hb d_X2_combine_246 ?_
        refine lv_iload hx hb d_X2_combine_247 (lv_at hl 10 rfl) ?_
        refine n_iadd hx hb d_X2_combine_249 ?_
        refine lv_iload hx hb d_X2_combine_250 (lv_at hl 1 rfl) ?_
        refine n_if_ge (tgt := 263) hx hb d_X2_combine_252 (by decide) (by omega) ?_
        refine lv_iload hx hb d_X2_combine_263 (lv_at hl 1 rfl) ?_
        refine m_astZ hx hb hK hP hD hS (j := (1100 * b) + k) (v := z (1100 * q + k) - z (1100 * b + k) - bw) (by omega) d_X2_combine_265 (fun H locs hP hD hS => ?_)
        have hok := hok.z (j := (1100 * b) + k) (v := z (1100 * q + k) - z (1100 * b + k) - bw) (by omega)
        refine n_iinc (lv' := [(7, .int (nI (k + 1))), (6, .int (nI 0)), (10, .int (nI (z (1100 * q + k) - z (1100 * b + k) - bw))), (9, .int (nI (z ((1100 * q) + k)))), (8, .int (nI (z ((1100 * b) + k)))), (0, .ref h), (1, .int (nI b)), (2, .int (nI q)), (3, .int (nI f)), (4, .int x), (5, .int y)]) hx hb d_X2_combine_266 hl (k := 10) rfl (by decide) rfl (fun ls hl => ?_)
        refine lv_goto (tgt := 165) hx hb d_X2_combine_269 (by decide) ?_
        rw [show mSubZ y b q (n + 1) k bw z = mSubZ y b q n (k + 1) 0 _ from if_neg (by rw [hX, hY]; omega), hX, hY]
        exact ih (k + 1) _ _ (by omega) (by omega) (by omega) hok H locs hP hD hS ls (lv_sub hl [5, 6, 7, 8, 9, 10, 1, 0] rfl)
abbrev w_X2_combine : List Cond := .code y_X2_combine b_X2_combine 11 (none) :: gw
set_option maxHeartbeats 800000 in
set_option maxRecDepth 100000 in
theorem c_X2_combine {l : Launch} {D : va_G} {Rs : va_W} {cA cR cL : ClassId} {h aw ar ag az : Nat} {cd : Int32} {w g : Nat → Nat} {sg : Nat → Int32} {z : Nat → Nat} (hok : mdOk w g z) {b q f : Nat} (hb3 : b < 3) (hq3 : q < 3) (hf : f < 2) : xC l y_X2_combine w_X2_combine ({ frames := 1, cells := 0, slots := 0, locals := 24 }) D cls0 (ty3 cA cR cL) [.ref h, .int (nI b), .int (nI q), .int (nI f)] (md cA h aw ar ag az cd w g sg z Rs) (none) (fun w1 => w1 = md cA h aw ar ag az cd w g (upd sg b (mCombS sg b q (mOth sg q f) z)) (mCombZ sg b q (mOth sg q f) z) Rs) 0 0 := by
  refine xC.ofW (cc := b_X2_combine) (maxL := 11) (ret := none) (by decide) rfl (Nat.le_of_ble_eq_true rfl) ?_
  intro p e s m below meth c A ls _ hin hx hb hr hml hown hts hlocks hA hK hP hD hS hl
  have hts : ∀ w ∈ gw, w.before ([.ref h, .int (nI b), .int (nI q), .int (nI f)]).toArray s = true := fun w h => hts w (List.mem_cons_of_mem _ h)
  have hown : s.vm.findClass R_Md = some m.cls := hown
  have hl : lv_has ls 11 [(0, .ref h), (1, .int (nI b)), (2, .int (nI q)), (3, .int (nI f))] := hl
  refine lv_iload_n hx hb d_X2_combine_0 rfl (lv_at hl 3 rfl) ?_
  refine n_if_eq (tgt := 14) hx hb d_X2_combine_1 (by decide) (by omega) (fun c_1 => ?_) (fun c_1 => ?_)
  · refine lv_aload_n hx hb d_X2_combine_14 rfl (lv_at hl 0 rfl) ?_
    refine m_getG hx hb hts hown hK hP d_X2_combine_15 ?_
    refine lv_iload_n hx hb d_X2_combine_18 rfl (lv_at hl 2 rfl) ?_
    refine m_aldG hx hb hK hP (j := q) (by omega) d_X2_combine_19 ?_
    have hoth : mOth sg q f = sg q := by unfold mOth; first | exact if_pos (by assumption) | exact if_neg (by assumption)
    rw [← hoth]
    generalize mOth sg q f = x
    clear hoth
    refine lv_istore (lv' := [(4, .int x), (0, .ref h), (1, .int (nI b)), (2, .int (nI q)), (3, .int (nI f))]) hx hb d_X2_combine_20 hl (by decide) rfl (fun ls hl => ?_)
    refine lv_aload_n hx hb d_X2_combine_22 rfl (lv_at hl 1 rfl) ?_
    refine m_getG hx hb hts hown hK hP d_X2_combine_23 ?_
    refine lv_iload_n hx hb d_X2_combine_26 rfl (lv_at hl 2 rfl) ?_
    refine m_aldG hx hb hK hP (j := b) (by omega) d_X2_combine_27 ?_
    refine lv_if_eq (tgt := 47) hx hb d_X2_combine_28 (by decide) (fun c_2 => ?_) (fun c_2 => ?_)
    · refine lv_iconst (v := nI 0) hx hb d_X2_combine_47 (by decide) ?_
      refine lv_istore (lv' := [(5, .int (nI 0)), (4, .int x), (0, .ref h), (1, .int (nI b)), (2, .int (nI q)), (3, .int (nI f))]) hx hb d_X2_combine_48 hl (by decide) rfl (fun ls hl => ?_)
      refine lv_iconst (v := nI 0) hx hb d_X2_combine_50 (by decide) ?_
      refine lv_istore (lv' := [(6, .int (nI 0)), (5, .int (nI 0)), (4, .int x), (0, .ref h), (1, .int (nI b)), (2, .int (nI q)), (3, .int (nI f))]) hx hb d_X2_combine_51 hl (by decide) rfl (fun ls hl => ?_)
      obtain ⟨hcz, hcs⟩ := mComb_add (sg := sg) (b := b) (q := q) (x := x) (z := z) (by first | exact Or.inl (by assumption) | exact Or.inr (Or.inl (by assumption)) | exact Or.inr (Or.inr (by assumption)))
      rw [hcz, hcs]
      exact lp_X2_combine hx hb hr hml hown hts hlocks hA hK hb3 hq3 cZ 0 0 z (by rw [cZ_eq]) (by omega) (by omega) hok _ _ hP hD hS ls (lv_sub hl [3, 4, 5, 6, 2, 1, 0] rfl)
    · refine lv_iload hx hb d_X2_combine_31 (lv_at hl 0 rfl) ?_
      refine lv_if_eq (tgt := 47) hx hb d_X2_combine_33 (by decide) (fun c_3 => ?_) (fun c_3 => ?_)
      · refine lv_iconst (v := nI 0) hx hb d_X2_combine_47 (by decide) ?_
        refine lv_istore (lv' := [(5, .int (nI 0)), (4, .int x), (0, .ref h), (1, .int (nI b)), (2, .int (nI q)), (3, .int (nI f))]) hx hb d_X2_combine_48 hl (by decide) rfl (fun ls hl => ?_)
        refine lv_iconst (v := nI 0) hx hb d_X2_combine_50 (by decide) ?_
        refine lv_istore (lv' := [(6, .int (nI 0)), (5, .int (nI 0)), (4, .int x), (0, .ref h), (1, .int (nI b)), (2, .int (nI q)), (3, .int (nI f))]) hx hb d_X2_combine_51 hl (by decide) rfl (fun ls hl => ?_)
        obtain ⟨hcz, hcs⟩ := mComb_add (sg := sg) (b := b) (q := q) (x := x) (z := z) (by first | exact Or.inl (by assumption) | exact Or.inr (Or.inl (by assumption)) | exact Or.inr (Or.inr (by assumption)))
        rw [hcz, hcs]
        exact lp_X2_combine hx hb hr hml hown hts hlocks hA hK hb3 hq3 cZ 0 0 z (by rw [cZ_eq]) (by omega) (by omega) hok _ _ hP hD hS ls (lv_sub hl [3, 4, 5, 6, 2, 1, 0] rfl)
      · refine lv_aload_n hx hb d_X2_combine_36 rfl (lv_at hl 1 rfl) ?_
        refine m_getG hx hb hts hown hK hP d_X2_combine_37 ?_
        refine lv_iload_n hx hb d_X2_combine_40 rfl (lv_at hl 2 rfl) ?_
        refine m_aldG hx hb hK hP (j := b) (by omega) d_X2_combine_41 ?_
        refine lv_iload hx hb d_X2_combine_42 (lv_at hl 0 rfl) ?_
        refine lv_icmp_ne (tgt := 151) hx hb d_X2_combine_44 (by decide) (fun c_4 => ?_) (fun c_4 => ?_)
        · refine lv_aload_n hx hb d_X2_combine_151 rfl (lv_at hl 1 rfl) ?_
          refine lv_iload_n hx hb d_X2_combine_152 rfl (lv_at hl 2 rfl) ?_
          refine lv_iload_n hx hb d_X2_combine_153 rfl (lv_at hl 3 rfl) ?_
          refine x_callR (st1 := [.int (mBy z b q)]) (x_runV (As := [.int (nI b), .int (nI q)]) (rest := []) (nL := 11) ⟨hx, hb, hml, hown, hts⟩ (c_X2_compareSizes hok hb3 hq3 _) (cwV 2 hts (gw_V k_601 k_603 k_44 k_52 k_604) rfl rfl rfl (by decide +kernel) ⟨Nat.le_of_ble_eq_true rfl, Nat.le_of_ble_eq_true rfl⟩) hK hP hD 0 2 rfl rfl rfl hl.1 rfl (Nat.le_of_ble_eq_true rfl) d_X2_combine_154 ⟨Nat.zero_le _, Nat.zero_le _⟩) rfl ?_
          refine lv_istore (lv' := [(5, .int (mBy z b q)), (4, .int x), (0, .ref h), (1, .int (nI b)), (2, .int (nI q)), (3, .int (nI f))]) hx hb d_X2_combine_157 hl (by decide) rfl (fun ls hl => ?_)
          refine lv_iconst (v := nI 0) hx hb d_X2_combine_159 (by decide) ?_
          refine lv_istore (lv' := [(6, .int (nI 0)), (5, .int (mBy z b q)), (4, .int x), (0, .ref h), (1, .int (nI b)), (2, .int (nI q)), (3, .int (nI f))]) hx hb d_X2_combine_160 hl (by decide) rfl (fun ls hl => ?_)
          refine lv_iconst (v := nI 0) hx hb d_X2_combine_162 (by decide) ?_
          refine lv_istore (lv' := [(7, .int (nI 0)), (6, .int (nI 0)), (5, .int (mBy z b q)), (4, .int x), (0, .ref h), (1, .int (nI b)), (2, .int (nI q)), (3, .int (nI f))]) hx hb d_X2_combine_163 hl (by decide) rfl (fun ls hl => ?_)
          obtain ⟨hcz, hcs⟩ := mComb_sub (sg := sg) (b := b) (q := q) (x := x) (z := z) (by assumption) (by assumption) (by assumption)
          rw [hcz, hcs]
          exact lq_X2_combine hx hb hr hml hown hts hlocks hA hK hb3 hq3 cZ 0 0 z (by rw [cZ_eq]) (by omega) (by omega) hok _ _ hP hD hS ls (lv_sub hl [4, 5, 6, 7, 3, 2, 1, 0] rfl)
        · refine lv_iconst (v := nI 0) hx hb d_X2_combine_47 (by decide) ?_
          refine lv_istore (lv' := [(5, .int (nI 0)), (4, .int x), (0, .ref h), (1, .int (nI b)), (2, .int (nI q)), (3, .int (nI f))]) hx hb d_X2_combine_48 hl (by decide) rfl (fun ls hl => ?_)
          refine lv_iconst (v := nI 0) hx hb d_X2_combine_50 (by decide) ?_
          refine lv_istore (lv' := [(6, .int (nI 0)), (5, .int (nI 0)), (4, .int x), (0, .ref h), (1, .int (nI b)), (2, .int (nI q)), (3, .int (nI f))]) hx hb d_X2_combine_51 hl (by decide) rfl (fun ls hl => ?_)
          obtain ⟨hcz, hcs⟩ := mComb_add (sg := sg) (b := b) (q := q) (x := x) (z := z) (by first | exact Or.inl (by assumption) | exact Or.inr (Or.inl (by assumption)) | exact Or.inr (Or.inr (by assumption)))
          rw [hcz, hcs]
          exact lp_X2_combine hx hb hr hml hown hts hlocks hA hK hb3 hq3 cZ 0 0 z (by rw [cZ_eq]) (by omega) (by omega) hok _ _ hP hD hS ls (lv_sub hl [3, 4, 5, 6, 2, 1, 0] rfl)
  · refine lv_aload_n hx hb d_X2_combine_4 rfl (lv_at hl 0 rfl) ?_
    refine m_getG hx hb hts hown hK hP d_X2_combine_5 ?_
    refine lv_iload_n hx hb d_X2_combine_8 rfl (lv_at hl 2 rfl) ?_
    refine m_aldG hx hb hK hP (j := q) (by omega) d_X2_combine_9 ?_
    refine lv_ineg hx hb d_X2_combine_10 ?_
    refine lv_goto (tgt := 20) hx hb d_X2_combine_11 (by decide) ?_
    have hoth : mOth sg q f = -(sg q) := by unfold mOth; first | exact if_pos (by assumption) | exact if_neg (by assumption)
    rw [← hoth]
    generalize mOth sg q f = x
    clear hoth
    refine lv_istore (lv' := [(4, .int x), (0, .ref h), (1, .int (nI b)), (2, .int (nI q)), (3, .int (nI f))]) hx hb d_X2_combine_20 hl (by decide) rfl (fun ls hl => ?_)
    refine lv_aload_n hx hb d_X2_combine_22 rfl (lv_at hl 1 rfl) ?_
    refine m_getG hx hb hts hown hK hP d_X2_combine_23 ?_
    refine lv_iload_n hx hb d_X2_combine_26 rfl (lv_at hl 2 rfl) ?_
    refine m_aldG hx hb hK hP (j := b) (by omega) d_X2_combine_27 ?_
    refine lv_if_eq (tgt := 47) hx hb d_X2_combine_28 (by decide) (fun c_5 => ?_) (fun c_5 => ?_)
    · refine lv_iconst (v := nI 0) hx hb d_X2_combine_47 (by decide) ?_
      refine lv_istore (lv' := [(5, .int (nI 0)), (4, .int x), (0, .ref h), (1, .int (nI b)), (2, .int (nI q)), (3, .int (nI f))]) hx hb d_X2_combine_48 hl (by decide) rfl (fun ls hl => ?_)
      refine lv_iconst (v := nI 0) hx hb d_X2_combine_50 (by decide) ?_
      refine lv_istore (lv' := [(6, .int (nI 0)), (5, .int (nI 0)), (4, .int x), (0, .ref h), (1, .int (nI b)), (2, .int (nI q)), (3, .int (nI f))]) hx hb d_X2_combine_51 hl (by decide) rfl (fun ls hl => ?_)
      obtain ⟨hcz, hcs⟩ := mComb_add (sg := sg) (b := b) (q := q) (x := x) (z := z) (by first | exact Or.inl (by assumption) | exact Or.inr (Or.inl (by assumption)) | exact Or.inr (Or.inr (by assumption)))
      rw [hcz, hcs]
      exact lp_X2_combine hx hb hr hml hown hts hlocks hA hK hb3 hq3 cZ 0 0 z (by rw [cZ_eq]) (by omega) (by omega) hok _ _ hP hD hS ls (lv_sub hl [3, 4, 5, 6, 2, 1, 0] rfl)
    · refine lv_iload hx hb d_X2_combine_31 (lv_at hl 0 rfl) ?_
      refine lv_if_eq (tgt := 47) hx hb d_X2_combine_33 (by decide) (fun c_6 => ?_) (fun c_6 => ?_)
      · refine lv_iconst (v := nI 0) hx hb d_X2_combine_47 (by decide) ?_
        refine lv_istore (lv' := [(5, .int (nI 0)), (4, .int x), (0, .ref h), (1, .int (nI b)), (2, .int (nI q)), (3, .int (nI f))]) hx hb d_X2_combine_48 hl (by decide) rfl (fun ls hl => ?_)
        refine lv_iconst (v := nI 0) hx hb d_X2_combine_50 (by decide) ?_
        refine lv_istore (lv' := [(6, .int (nI 0)), (5, .int (nI 0)), (4, .int x), (0, .ref h), (1, .int (nI b)), (2, .int (nI q)), (3, .int (nI f))]) hx hb d_X2_combine_51 hl (by decide) rfl (fun ls hl => ?_)
        obtain ⟨hcz, hcs⟩ := mComb_add (sg := sg) (b := b) (q := q) (x := x) (z := z) (by first | exact Or.inl (by assumption) | exact Or.inr (Or.inl (by assumption)) | exact Or.inr (Or.inr (by assumption)))
        rw [hcz, hcs]
        exact lp_X2_combine hx hb hr hml hown hts hlocks hA hK hb3 hq3 cZ 0 0 z (by rw [cZ_eq]) (by omega) (by omega) hok _ _ hP hD hS ls (lv_sub hl [3, 4, 5, 6, 2, 1, 0] rfl)
      · refine lv_aload_n hx hb d_X2_combine_36 rfl (lv_at hl 1 rfl) ?_
        refine m_getG hx hb hts hown hK hP d_X2_combine_37 ?_
        refine lv_iload_n hx hb d_X2_combine_40 rfl (lv_at hl 2 rfl) ?_
        refine m_aldG hx hb hK hP (j := b) (by omega) d_X2_combine_41 ?_
        refine lv_iload hx hb d_X2_combine_42 (lv_at hl 0 rfl) ?_
        refine lv_icmp_ne (tgt := 151) hx hb d_X2_combine_44 (by decide) (fun c_7 => ?_) (fun c_7 => ?_)
        · refine lv_aload_n hx hb d_X2_combine_151 rfl (lv_at hl 1 rfl) ?_
          refine lv_iload_n hx hb d_X2_combine_152 rfl (lv_at hl 2 rfl) ?_
          refine lv_iload_n hx hb d_X2_combine_153 rfl (lv_at hl 3 rfl) ?_
          refine x_callR (st1 := [.int (mBy z b q)]) (x_runV (As := [.int (nI b), .int (nI q)]) (rest := []) (nL := 11) ⟨hx, hb, hml, hown, hts⟩ (c_X2_compareSizes hok hb3 hq3 _) (cwV 2 hts (gw_V k_601 k_603 k_44 k_52 k_604) rfl rfl rfl (by decide +kernel) ⟨Nat.le_of_ble_eq_true rfl, Nat.le_of_ble_eq_true rfl⟩) hK hP hD 0 2 rfl rfl rfl hl.1 rfl (Nat.le_of_ble_eq_true rfl) d_X2_combine_154 ⟨Nat.zero_le _, Nat.zero_le _⟩) rfl ?_
          refine lv_istore (lv' := [(5, .int (mBy z b q)), (4, .int x), (0, .ref h), (1, .int (nI b)), (2, .int (nI q)), (3, .int (nI f))]) hx hb d_X2_combine_157 hl (by decide) rfl (fun ls hl => ?_)
          refine lv_iconst (v := nI 0) hx hb d_X2_combine_159 (by decide) ?_
          refine lv_istore (lv' := [(6, .int (nI 0)), (5, .int (mBy z b q)), (4, .int x), (0, .ref h), (1, .int (nI b)), (2, .int (nI q)), (3, .int (nI f))]) hx hb d_X2_combine_160 hl (by decide) rfl (fun ls hl => ?_)
          refine lv_iconst (v := nI 0) hx hb d_X2_combine_162 (by decide) ?_
          refine lv_istore (lv' := [(7, .int (nI 0)), (6, .int (nI 0)), (5, .int (mBy z b q)), (4, .int x), (0, .ref h), (1, .int (nI b)), (2, .int (nI q)), (3, .int (nI f))]) hx hb d_X2_combine_163 hl (by decide) rfl (fun ls hl => ?_)
          obtain ⟨hcz, hcs⟩ := mComb_sub (sg := sg) (b := b) (q := q) (x := x) (z := z) (by assumption) (by assumption) (by assumption)
          rw [hcz, hcs]
          exact lq_X2_combine hx hb hr hml hown hts hlocks hA hK hb3 hq3 cZ 0 0 z (by rw [cZ_eq]) (by omega) (by omega) hok _ _ hP hD hS ls (lv_sub hl [4, 5, 6, 7, 3, 2, 1, 0] rfl)
        · refine lv_iconst (v := nI 0) hx hb d_X2_combine_47 (by decide) ?_
          refine lv_istore (lv' := [(5, .int (nI 0)), (4, .int x), (0, .ref h), (1, .int (nI b)), (2, .int (nI q)), (3, .int (nI f))]) hx hb d_X2_combine_48 hl (by decide) rfl (fun ls hl => ?_)
          refine lv_iconst (v := nI 0) hx hb d_X2_combine_50 (by decide) ?_
          refine lv_istore (lv' := [(6, .int (nI 0)), (5, .int (nI 0)), (4, .int x), (0, .ref h), (1, .int (nI b)), (2, .int (nI q)), (3, .int (nI f))]) hx hb d_X2_combine_51 hl (by decide) rfl (fun ls hl => ?_)
          obtain ⟨hcz, hcs⟩ := mComb_add (sg := sg) (b := b) (q := q) (x := x) (z := z) (by first | exact Or.inl (by assumption) | exact Or.inr (Or.inl (by assumption)) | exact Or.inr (Or.inr (by assumption)))
          rw [hcz, hcs]
          exact lp_X2_combine hx hb hr hml hown hts hlocks hA hK hb3 hq3 cZ 0 0 z (by rw [cZ_eq]) (by omega) (by omega) hok _ _ hP hD hS ls (lv_sub hl [3, 4, 5, 6, 2, 1, 0] rfl)
end
section
theorem uN_lN {n : Nat} (h : n < 18446744073709551616) : uN (lN n) = n := by
  show (Int64.ofNat n).toUInt64.toNat = n
  show (UInt64.ofNat n).toNat = n
  exact UInt64.toNat_ofNat_of_lt h
theorem lN_lu {n k : Nat} (hn : n < 18446744073709551616) (hk : k < 64) : j_lu (lN n) (nI k) = lN (n / 2 ^ k) := by
  apply uN_inj
  rw [uN_sk _ hk, uN_lN hn, uN_lN (Nat.lt_of_le_of_lt (Nat.div_le_self _ _) hn)]
theorem lN_48 {n : Nat} (hn : n < 18446744073709551616) : lN n &&& 281474976710655 = lN (n % 281474976710656) := by
  apply uN_inj
  rw [uN_lN (Nat.lt_of_le_of_lt (Nat.mod_le _ _) hn)]
  show ((lN n).toUInt64 &&& Int64.toUInt64 281474976710655).toNat = _
  rw [UInt64.toNat_and]
  have h1 : (lN n).toUInt64.toNat = n := uN_lN hn
  rw [h1]
  exact Nat.and_two_pow_sub_one_eq_mod _ 48
theorem lN_16 {n : Nat} (hn : n < 18446744073709551616) : (lN n &&& 65535).toInt32 = nI (n % 65536) := by
  apply uN_i32
  rw [uN_lo16, uN_lN hn]
theorem lN_ll {n : Nat} : j_ll (lN n) (nI 32) = lN (n * 4294967296) := by
  apply Int64.toBitVec_inj.mp
  show BitVec.ofNat 64 n <<< (((nI 32).toInt64 &&& 63).toBitVec.smod 64) = BitVec.ofNat 64 (n * 4294967296)
  rw [show ((nI 32).toInt64 &&& 63).toBitVec.smod 64 = 32#64 from by decide]
  apply BitVec.eq_of_toNat_eq
  simp [Nat.shiftLeft_eq]
theorem n_km {k m : Nat} (h : m ≤ k + 1) : nI k - nI m + nI 1 = nI (k + 1 - m) := by
  rw [Int32.sub_eq_add_neg, Int32.add_assoc, Int32.add_comm (-_), ← Int32.add_assoc, ← Int32.sub_eq_add_neg, nI_add, pk_sub h]
theorem n_kmn {k m : Nat} (hm : m < 2 ^ 30) (h : k + 1 < m) : nI k - nI m + nI 1 < 0 := by
  rw [Int32.sub_eq_add_neg, Int32.add_assoc, Int32.add_comm (-_), ← Int32.add_assoc, ← Int32.sub_eq_add_neg, nI_add]
  exact pk_sneg hm h
def mMuR (z : Nat → Nat) (k : Nat) : Nat → Nat → Nat → Nat
  | 0, _, r => r
  | c + 1, i, r => mMuR z k c (i + 1) ((r + z i * z (1100 + k - i)) % 281474976710656)
def mMuH (z : Nat → Nat) (k : Nat) : Nat → Nat → Nat → Nat → Nat
  | 0, _, _, u => u
  | c + 1, i, r, u => mMuH z k c (i + 1) ((r + z i * z (1100 + k - i)) % 281474976710656) (u + (r + z i * z (1100 + k - i)) / 2 ^ 48)
def mMuC (n2 k m2 : Nat) : Nat := min n2 (k + 1) - (k + 1 - m2)
def mMuR1 (z : Nat → Nat) (n2 m2 k r : Nat) : Nat := mMuR z k (mMuC n2 k m2) (k + 1 - m2) r
def mMuH1 (z : Nat → Nat) (n2 m2 k r : Nat) : Nat := mMuH z k (mMuC n2 k m2) (k + 1 - m2) r 0
def mMuZ (n2 m2 : Nat) : Nat → Nat → Nat → (Nat → Nat) → Nat → Nat
  | 0, _, _, z => z
  | n + 1, k, r, z => mMuZ n2 m2 n (k + 1) (mMuR1 z n2 m2 k r / 2 ^ 16 + mMuH1 z n2 m2 k r * 4294967296) (va_up z (2200 + k) (mMuR1 z n2 m2 k r % 65536))
theorem mMuR_lt (z : Nat → Nat) (k : Nat) : ∀ c i r : Nat, r < 281474976710656 → mMuR z k c i r < 281474976710656
  | 0, _, _, h => h
  | c + 1, i, r, h => mMuR_lt z k c (i + 1) _ (Nat.mod_lt _ (by decide))
theorem mul_16 {a b : Nat} (ha : a < 65536) (hb : b < 65536) : a * b ≤ 4294836225 := Nat.le_trans (Nat.mul_le_mul (Nat.le_of_lt_succ ha) (Nat.le_of_lt_succ hb)) (by decide)
theorem mMuH_le {w g z : Nat → Nat} (hok : mdOk w g z) (k : Nat) : ∀ c i r u : Nat, r < 281474976710656 → mMuH z k c i r u ≤ u + c
  | 0, _, _, _, _ => Nat.le_refl _
  | c + 1, i, r, u, h => by
    have h1 := mul_16 (hok.2.2 i) (hok.2.2 (1100 + k - i))
    have h2 := mMuH_le hok k c (i + 1) ((r + z i * z (1100 + k - i)) % 281474976710656) (u + (r + z i * z (1100 + k - i)) / 2 ^ 48) (Nat.mod_lt _ (by decide))
    show mMuH z k c (i + 1) _ _ ≤ u + (c + 1)
    have h3 : (r + z i * z (1100 + k - i)) / 2 ^ 48 ≤ 1 := by omega
    omega
set_option maxHeartbeats 800000 in
set_option maxRecDepth 100000 in
theorem li_X2_multiply {p : Program} {l : Launch} {e : Env} {s : State} {m : MethodId} {args : Array Value} {below : List Frame} {meth : Method} {c : Code} {D : va_G} {Rs : va_W} {cA cR cL : ClassId} {h aw ar ag az : Nat} {A : Nat → Prop} {cd : Int32} {w g : Nat → Nat} {sg : Nat → Int32} {z : Nat → Nat} (hx : p.tables.exec = Jvm.exec) (hb : c.code = b_X2_multiply) (hr : meth.sig.returnType = none) (hml : c.maxLocals = 9) (hown : s.vm.findClass R_Md = some m.cls) (hts : ∀ w ∈ gw, w.before args s = true) (hlocks : meth.locks = false) (hA : ∀ q : Nat, s.heap.size ≤ q → A q) (hK : va_K D cls0 (ty3 cA cR cL) s) (hok : mdOk w g z) {n2 m2 k : Nat} (hn2 : n2 ≤ 1100) (hm2 : m2 ≤ 1100) (hk : k < n2 + m2) {Q : State → Prop} {H : Heap} {locs : List Loc} (hP : va_P D cls0 (md cA h aw ar ag az cd w g sg z Rs) H) (hD : va_D A (md cA h aw ar ag az cd w g sg z Rs)) : ∀ (n i r u : Nat), n = min n2 (k + 1) - i → k + 1 - m2 ≤ i → i ≤ 1200 → r < 281474976710656 → u ≤ 1200 → u + n ≤ 1200 →
    (∀ ls, lv_has ls 9 [(0, .ref h), (1, .int (nI n2)), (2, .int (nI m2)), (3, .long (lN (mMuR z k n i r))), (5, .int (nI k)), (6, .long (lN (mMuH z k n i r u)))] → W p l e ({ frames := 1, cells := 0, slots := 0, locals := 23 }) s m args below meth c H locs 0 0 Q (F0 m 127 ls [])) →
    ∀ (ls : Array Slot), lv_has ls 9 [(0, .ref h), (1, .int (nI n2)), (2, .int (nI m2)), (3, .long (lN r)), (5, .int (nI k)), (6, .long (lN u)), (8, .int (nI i))] → W p l e ({ frames := 1, cells := 0, slots := 0, locals := 23 }) s m args below meth c H locs 0 0 Q (F0 m 66 ls []) := by
  intro n
  induction n with
  | zero =>
    intro i r u hn hi1 hi2 hr48 hu hun kx ls hl
    refine lv_iload hx hb d_X2_multiply_66 (lv_at hl 6 rfl) ?_
    refine lv_iload_n hx hb d_X2_multiply_68 rfl (lv_at hl 1 rfl) ?_
    refine n_icmp_ge (tgt := 127) hx hb d_X2_multiply_69 (by decide) (by omega) (by omega) (fun c_1 => ?_) (fun c_1 => ?_)
    · exact kx ls (lv_sub hl [0, 1, 2, 3, 4, 5] rfl)
    refine lv_iload hx hb d_X2_multiply_72 (lv_at hl 6 rfl) ?_
    refine lv_iload hx hb d_X2_multiply_74 (lv_at hl 4 rfl) ?_
    refine n_icmp_gt (tgt := 127) hx hb d_X2_multiply_76 (by decide) (by omega) (by omega) (fun c_2 => ?_) (fun c_2 => ?_)
    rotate_left
    · exact absurd c_2 (by omega)
    exact kx ls (lv_sub hl [0, 1, 2, 3, 4, 5] rfl)
  | succ n ih =>
    intro i r u hn hi1 hi2 hr48 hu hun kx ls hl
    have hp := mul_16 (hok.2.2 i) (hok.2.2 (1100 + k - i))
    refine lv_iload hx hb d_X2_multiply_66 (lv_at hl 6 rfl) ?_
    refine lv_iload_n hx hb d_X2_multiply_68 rfl (lv_at hl 1 rfl) ?_
    refine n_icmp_ge (tgt := 127) hx hb d_X2_multiply_69 (by decide) (by omega) (by omega) (fun c_1 => ?_) (fun c_1 => ?_)
    · exact absurd c_1 (by omega)
    refine lv_iload hx hb d_X2_multiply_72 (lv_at hl 6 rfl) ?_
    refine lv_iload hx hb d_X2_multiply_74 (lv_at hl 4 rfl) ?_
    refine n_icmp_gt (tgt := 127) hx hb d_X2_multiply_76 (by decide) (by omega) (by omega) (fun c_2 => ?_) (fun c_2 => ?_)
    · exact absurd c_2 (by omega)
    refine lv_lload_n hx hb d_X2_multiply_79 rfl (lv_at hl 3 rfl) ?_
    refine lv_aload_n hx hb d_X2_multiply_80 rfl (lv_at hl 0 rfl) ?_
    refine m_getZ hx hb hts hown hK hP d_X2_multiply_81 ?_
    refine lv_iload hx hb d_X2_multiply_84 (lv_at hl 6 rfl) ?_
    refine m_aldZ hx hb hK hP (j := i) (by omega) d_X2_multiply_86 ?_
    have hq_86 := hok.2.2 i
    refine lv_i2l (v := lN (z i)) hx hb d_X2_multiply_87 (nI_l (by omega)) ?_
    refine lv_aload_n hx hb d_X2_multiply_88 rfl (lv_at hl 0 rfl) ?_
    refine m_getZ hx hb hts hown hK hP d_X2_multiply_89 ?_
    refine lv_sipush (v := nI 1100) hx hb d_X2_multiply_92 (by decide) ?_
    refine lv_iload hx hb d_X2_multiply_95 (lv_at hl 4 rfl) ?_
    refine n_iadd hx hb d_X2_multiply_97 ?_
    refine lv_iload hx hb d_X2_multiply_98 (lv_at hl 6 rfl) ?_
    refine n_isub hx hb d_X2_multiply_100 (by omega) ?_
    refine m_aldZ hx hb hK hP (j := (1100 + k) - i) (by omega) d_X2_multiply_101 ?_
    have hq_101 := hok.2.2 ((1100 + k) - i)
    refine lv_i2l (v := lN (z ((1100 + k) - i))) hx hb d_X2_multiply_102 (nI_l (by omega)) ?_
    refine lv_lmul hx hb d_X2_multiply_103 ?_
    rw [lN_mul]
    refine lv_ladd hx hb d_X2_multiply_104 ?_
    rw [lN_add]
    refine lv_lstore_n (lv' := [(3, .long (lN (r + z i * z (1100 + k - i)))), (0, .ref h), (1, .int (nI n2)), (2, .int (nI m2)), (5, .int (nI k)), (6, .long (lN u)), (8, .int (nI i))]) hx hb d_X2_multiply_105 rfl hl (by decide) rfl (fun ls hl => ?_)
    refine lv_lload hx hb d_X2_multiply_106 (lv_at hl 5 rfl) ?_
    refine lv_lload_n hx hb d_X2_multiply_108 rfl (lv_at hl 0 rfl) ?_
    refine lv_bipush (v := nI 48) hx hb d_X2_multiply_109 (by decide) ?_
    refine lv_lushr (v := lN ((r + z i * z (1100 + k - i)) / 2 ^ 48)) hx hb d_X2_multiply_111 (lN_lu (by omega) (by decide)) ?_
    refine lv_ladd hx hb d_X2_multiply_112 ?_
    rw [lN_add]
    refine lv_lstore (lv' := [(6, .long (lN (u + (r + z i * z (1100 + k - i)) / 2 ^ 48))), (3, .long (lN (r + z i * z (1100 + k - i)))), (0, .ref h), (1, .int (nI n2)), (2, .int (nI m2)), (5, .int (nI k)), (8, .int (nI i))]) hx hb d_X2_multiply_113 hl (by decide) rfl (fun ls hl => ?_)
    refine lv_lload_n hx hb d_X2_multiply_115 rfl (lv_at hl 1 rfl) ?_
    refine lv_ldc2 (v := 281474976710655) hx hb hown (hts (.constantLong "LimbRowsModel" 60 281474976710655) k_625) d_X2_multiply_116 ?_
    refine lv_land hx hb d_X2_multiply_119 ?_
    rw [lN_48 (by omega)]
    refine lv_lstore_n (lv' := [(3, .long (lN ((r + z i * z (1100 + k - i)) % 281474976710656))), (6, .long (lN (u + (r + z i * z (1100 + k - i)) / 2 ^ 48))), (0, .ref h), (1, .int (nI n2)), (2, .int (nI m2)), (5, .int (nI k)), (8, .int (nI i))]) hx hb d_X2_multiply_120 rfl hl (by decide) rfl (fun ls hl => ?_)
    refine n_iinc (lv' := [(8, .int (nI (i + 1))), (3, .long (lN ((r + z i * z (1100 + k - i)) % 281474976710656))), (6, .long (lN (u + (r + z i * z (1100 + k - i)) / 2 ^ 48))), (0, .ref h), (1, .int (nI n2)), (2, .int (nI m2)), (5, .int (nI k))]) hx hb d_X2_multiply_121 hl (k := 6) rfl (by decide) rfl (fun ls hl => ?_)
    refine lv_goto (tgt := 66) hx hb d_X2_multiply_124 (by decide) ?_
    exact ih (i + 1) _ _ (by omega) (by omega) (by omega) (Nat.mod_lt _ (by decide)) (by omega) (by omega) kx ls (lv_sub hl [3, 4, 5, 1, 6, 2, 0] rfl)
end
section
theorem mMuC_le {n2 k m2 : Nat} (h : n2 ≤ 1100) : mMuC n2 k m2 ≤ 1100 := by unfold mMuC; omega
set_option maxHeartbeats 800000 in
set_option maxRecDepth 100000 in
theorem lp_X2_multiply {p : Program} {l : Launch} {e : Env} {s : State} {m : MethodId} {args : Array Value} {below : List Frame} {meth : Method} {c : Code} {D : va_G} {Rs : va_W} {cA cR cL : ClassId} {h aw ar ag az : Nat} {A : Nat → Prop} {cd : Int32} {w g : Nat → Nat} {sg : Nat → Int32} (hx : p.tables.exec = Jvm.exec) (hb : c.code = b_X2_multiply) (hr : meth.sig.returnType = none) (hml : c.maxLocals = 9) (hown : s.vm.findClass R_Md = some m.cls) (hts : ∀ w ∈ gw, w.before args s = true) (hlocks : meth.locks = false) (hA : ∀ q : Nat, s.heap.size ≤ q → A q) (hK : va_K D cls0 (ty3 cA cR cL) s) {n2 m2 : Nat} (hn2 : n2 ≤ 1100) (hm2 : m2 ≤ 1100) : ∀ (n : Nat) (k r : Nat) (z : Nat → Nat), n = n2 + m2 - k → k ≤ n2 + m2 → r < 281474976710656 → mdOk w g z → n2 + m2 ≤ 1100 → ∀ (H : Heap) (locs : List Loc), va_P D cls0 (md cA h aw ar ag az cd w g sg z Rs) H → va_D A (md cA h aw ar ag az cd w g sg z Rs) → va_S A s.heap H locs → ∀ (ls : Array Slot), lv_has ls 9 [(0, .ref h), (1, .int (nI n2)), (2, .int (nI m2)), (3, .long (lN r)), (5, .int (nI k))] → W p l e ({ frames := 1, cells := 0, slots := 0, locals := 23 }) s m args below meth c H locs 0 0 (MQ below (xQ (none) (xB D cls0 A (fun w1 => w1 = md cA h aw ar ag az cd w g (upd sg 2 (sg 0 * sg 1)) (mMuZ n2 m2 n k r z) Rs)) A) args s 0 0 A) (F0 m 34 ls []) := by
  intro n
  induction n with
  | zero =>
    intro k r z hn hk hr48 hok hnm H locs hP hD hS ls hl
    refine lv_iload hx hb d_X2_multiply_34 (lv_at hl 4 rfl) ?_
    refine lv_iload_n hx hb d_X2_multiply_36 rfl (lv_at hl 1 rfl) ?_
    refine lv_iload_n hx hb d_X2_multiply_37 rfl (lv_at hl 2 rfl) ?_
    refine n_iadd hx hb d_X2_multiply_38 ?_
    refine n_icmp_ge (tgt := 161) hx hb d_X2_multiply_39 (by decide) (by omega) (by omega) (fun c_1 => ?_) (fun c_1 => ?_)
    rotate_left
    · exact absurd c_1 (by omega)
    refine lv_aload_n hx hb d_X2_multiply_161 rfl (lv_at hl 0 rfl) ?_
    refine m_getG hx hb hts hown hK hP d_X2_multiply_162 ?_
    refine lv_iconst (v := nI 2) hx hb d_X2_multiply_165 (by decide) ?_
    refine lv_aload_n hx hb d_X2_multiply_166 rfl (lv_at hl 0 rfl) ?_
    refine m_getG hx hb hts hown hK hP d_X2_multiply_167 ?_
    refine lv_iconst (v := nI 0) hx hb d_X2_multiply_170 (by decide) ?_
    refine m_aldG hx hb hK hP (j := 0) (by omega) d_X2_multiply_171 ?_
    refine lv_aload_n hx hb d_X2_multiply_172 rfl (lv_at hl 0 rfl) ?_
    refine m_getG hx hb hts hown hK hP d_X2_multiply_173 ?_
    refine lv_iconst (v := nI 1) hx hb d_X2_multiply_176 (by decide) ?_
    refine m_aldG hx hb hK hP (j := 1) (by omega) d_X2_multiply_177 ?_
    refine lv_imul hx hb d_X2_multiply_178 ?_
    refine m_astG hx hb hK hP hD hS (j := 2) (x := (sg 0) * (sg 1)) (by omega) d_X2_multiply_179 (fun H locs hP hD hS => ?_)
    exact x_vret hx hb hr hlocks hP hD hS d_X2_multiply_180 rfl rfl
  | succ n ih =>
    intro k r z hn hk hr48 hok hnm H locs hP hD hS ls hl
    have hC := mMuC_le (n2 := n2) (k := k) (m2 := m2) hn2
    have hR1 : mMuR1 z n2 m2 k r < 281474976710656 := mMuR_lt z k _ _ _ hr48
    have hH1 : mMuH1 z n2 m2 k r ≤ 0 + mMuC n2 k m2 := mMuH_le hok k _ _ _ _ hr48
    refine lv_iload hx hb d_X2_multiply_34 (lv_at hl 4 rfl) ?_
    refine lv_iload_n hx hb d_X2_multiply_36 rfl (lv_at hl 1 rfl) ?_
    refine lv_iload_n hx hb d_X2_multiply_37 rfl (lv_at hl 2 rfl) ?_
    refine n_iadd hx hb d_X2_multiply_38 ?_
    refine n_icmp_ge (tgt := 161) hx hb d_X2_multiply_39 (by decide) (by omega) (by omega) (fun c_1 => ?_) (fun c_1 => ?_)
    · exact absurd c_1 (by omega)
    refine lv_lconst (v := lN 0) hx hb d_X2_multiply_42 (by decide) ?_
    refine lv_lstore (lv' := [(6, .long (lN 0)), (0, .ref h), (1, .int (nI n2)), (2, .int (nI m2)), (3, .long (lN r)), (5, .int (nI k))]) hx hb d_X2_multiply_43 hl (by decide) rfl (fun ls hl => ?_)
    refine lv_iload hx hb d_X2_multiply_45 (lv_at hl 5 rfl) ?_
    refine lv_iload_n hx hb d_X2_multiply_47 rfl (lv_at hl 3 rfl) ?_
    refine lv_isub hx hb d_X2_multiply_48 ?_
    refine lv_iconst (v := nI 1) hx hb d_X2_multiply_49 (by decide) ?_
    refine lv_iadd hx hb d_X2_multiply_50 ?_
    rcases Nat.lt_or_ge (k + 1) m2 with hkm | hkm
    · refine lv_if_ge (tgt := 58) hx hb d_X2_multiply_51 (by decide) (fun c => absurd (n_kmn (by omega) hkm) (Int32.not_lt.mpr c)) (fun _ => ?_)
      refine lv_iconst (v := nI 0) hx hb d_X2_multiply_54 (by decide) ?_
      refine lv_goto (tgt := 64) hx hb d_X2_multiply_55 (by decide) ?_
      refine lv_istore (lv' := [(8, .int (nI 0)), (6, .long (lN 0)), (0, .ref h), (1, .int (nI n2)), (2, .int (nI m2)), (3, .long (lN r)), (5, .int (nI k))]) hx hb d_X2_multiply_64 hl (by decide) rfl (fun ls hl => ?_)
      rw [show nI 0 = nI (k + 1 - m2) from by rw [show k + 1 - m2 = 0 by omega]] at hl
      refine li_X2_multiply hx hb hr hml hown hts hlocks hA hK hok hn2 hm2 (by omega) hP hD (mMuC n2 k m2) (k + 1 - m2) r 0 rfl (Nat.le_refl _) (by omega) hr48 (by omega) (by omega) ?_ ls (lv_sub hl [2, 3, 4, 5, 6, 1, 0] rfl)
      intro ls hl
      have hl : lv_has ls 9 [(0, .ref h), (1, .int (nI n2)), (2, .int (nI m2)), (3, .long (lN (mMuR1 z n2 m2 k r))), (5, .int (nI k)), (6, .long (lN (mMuH1 z n2 m2 k r)))] := hl
      refine lv_aload_n hx hb d_X2_multiply_127 rfl (lv_at hl 0 rfl) ?_
      refine m_getZ hx hb hts hown hK hP d_X2_multiply_128 ?_
      refine lv_sipush (v := nI 2200) hx hb d_X2_multiply_131 (by decide) ?_
      refine lv_iload hx hb d_X2_multiply_134 (lv_at hl 4 rfl) ?_
      refine n_iadd hx hb d_X2_multiply_136 ?_
      refine lv_lload_n hx hb d_X2_multiply_137 rfl (lv_at hl 3 rfl) ?_
      refine lv_ldc2 (v := 65535) hx hb hown (hts (.constantLong "LimbRowsModel" 37 65535) k_568) d_X2_multiply_138 ?_
      refine lv_land hx hb d_X2_multiply_141 ?_
      refine lv_l2i (v := nI (mMuR1 z n2 m2 k r % 65536)) hx hb d_X2_multiply_142 (lN_16 (by omega)) ?_
      refine m_astZ hx hb hK hP hD hS (j := 2200 + k) (v := mMuR1 z n2 m2 k r % 65536) (by omega) d_X2_multiply_143 (fun H locs hP hD hS => ?_)
      have hok := hok.z (j := 2200 + k) (v := mMuR1 z n2 m2 k r % 65536) (by omega)
      refine lv_lload_n hx hb d_X2_multiply_144 rfl (lv_at hl 3 rfl) ?_
      refine lv_bipush (v := nI 16) hx hb d_X2_multiply_145 (by decide) ?_
      refine lv_lushr (v := lN (mMuR1 z n2 m2 k r / 2 ^ 16)) hx hb d_X2_multiply_147 (lN_lu (by omega) (by decide)) ?_
      refine lv_lload hx hb d_X2_multiply_148 (lv_at hl 5 rfl) ?_
      refine lv_bipush (v := nI 32) hx hb d_X2_multiply_150 (by decide) ?_
      refine lv_lshl (v := lN (mMuH1 z n2 m2 k r * 4294967296)) hx hb d_X2_multiply_152 lN_ll ?_
      refine lv_ladd hx hb d_X2_multiply_153 ?_
      rw [lN_add]
      refine lv_lstore_n (lv' := [(3, .long (lN (mMuR1 z n2 m2 k r / 2 ^ 16 + mMuH1 z n2 m2 k r * 4294967296))), (0, .ref h), (1, .int (nI n2)), (2, .int (nI m2)), (5, .int (nI k)), (6, .long (lN (mMuH1 z n2 m2 k r)))]) hx hb d_X2_multiply_154 rfl hl (by decide) rfl (fun ls hl => ?_)
      refine n_iinc (lv' := [(5, .int (nI (k + 1))), (3, .long (lN (mMuR1 z n2 m2 k r / 2 ^ 16 + mMuH1 z n2 m2 k r * 4294967296))), (0, .ref h), (1, .int (nI n2)), (2, .int (nI m2)), (6, .long (lN (mMuH1 z n2 m2 k r)))]) hx hb d_X2_multiply_155 hl (k := 4) rfl (by decide) rfl (fun ls hl => ?_)
      refine lv_goto (tgt := 34) hx hb d_X2_multiply_158 (by decide) ?_
      exact ih (k + 1) _ _ (by omega) (by omega) (by omega) hok hnm H locs hP hD hS ls (lv_sub hl [2, 3, 4, 1, 0] rfl)
    · rw [n_km hkm]
      refine n_if_ge (tgt := 58) hx hb d_X2_multiply_51 (by decide) (by omega) ?_
      refine lv_iload hx hb d_X2_multiply_58 (lv_at hl 5 rfl) ?_
      refine lv_iload_n hx hb d_X2_multiply_60 rfl (lv_at hl 3 rfl) ?_
      refine lv_isub hx hb d_X2_multiply_61 ?_
      refine lv_iconst (v := nI 1) hx hb d_X2_multiply_62 (by decide) ?_
      refine lv_iadd hx hb d_X2_multiply_63 ?_
      rw [n_km hkm]
      refine lv_istore (lv' := [(8, .int (nI (k + 1 - m2))), (6, .long (lN 0)), (0, .ref h), (1, .int (nI n2)), (2, .int (nI m2)), (3, .long (lN r)), (5, .int (nI k))]) hx hb d_X2_multiply_64 hl (by decide) rfl (fun ls hl => ?_)
      refine li_X2_multiply hx hb hr hml hown hts hlocks hA hK hok hn2 hm2 (by omega) hP hD (mMuC n2 k m2) (k + 1 - m2) r 0 rfl (Nat.le_refl _) (by omega) hr48 (by omega) (by omega) ?_ ls (lv_sub hl [2, 3, 4, 5, 6, 1, 0] rfl)
      intro ls hl
      have hl : lv_has ls 9 [(0, .ref h), (1, .int (nI n2)), (2, .int (nI m2)), (3, .long (lN (mMuR1 z n2 m2 k r))), (5, .int (nI k)), (6, .long (lN (mMuH1 z n2 m2 k r)))] := hl
      refine lv_aload_n hx hb d_X2_multiply_127 rfl (lv_at hl 0 rfl) ?_
      refine m_getZ hx hb hts hown hK hP d_X2_multiply_128 ?_
      refine lv_sipush (v := nI 2200) hx hb d_X2_multiply_131 (by decide) ?_
      refine lv_iload hx hb d_X2_multiply_134 (lv_at hl 4 rfl) ?_
      refine n_iadd hx hb d_X2_multiply_136 ?_
      refine lv_lload_n hx hb d_X2_multiply_137 rfl (lv_at hl 3 rfl) ?_
      refine lv_ldc2 (v := 65535) hx hb hown (hts (.constantLong "LimbRowsModel" 37 65535) k_568) d_X2_multiply_138 ?_
      refine lv_land hx hb d_X2_multiply_141 ?_
      refine lv_l2i (v := nI (mMuR1 z n2 m2 k r % 65536)) hx hb d_X2_multiply_142 (lN_16 (by omega)) ?_
      refine m_astZ hx hb hK hP hD hS (j := 2200 + k) (v := mMuR1 z n2 m2 k r % 65536) (by omega) d_X2_multiply_143 (fun H locs hP hD hS => ?_)
      have hok := hok.z (j := 2200 + k) (v := mMuR1 z n2 m2 k r % 65536) (by omega)
      refine lv_lload_n hx hb d_X2_multiply_144 rfl (lv_at hl 3 rfl) ?_
      refine lv_bipush (v := nI 16) hx hb d_X2_multiply_145 (by decide) ?_
      refine lv_lushr (v := lN (mMuR1 z n2 m2 k r / 2 ^ 16)) hx hb d_X2_multiply_147 (lN_lu (by omega) (by decide)) ?_
      refine lv_lload hx hb d_X2_multiply_148 (lv_at hl 5 rfl) ?_
      refine lv_bipush (v := nI 32) hx hb d_X2_multiply_150 (by decide) ?_
      refine lv_lshl (v := lN (mMuH1 z n2 m2 k r * 4294967296)) hx hb d_X2_multiply_152 lN_ll ?_
      refine lv_ladd hx hb d_X2_multiply_153 ?_
      rw [lN_add]
      refine lv_lstore_n (lv' := [(3, .long (lN (mMuR1 z n2 m2 k r / 2 ^ 16 + mMuH1 z n2 m2 k r * 4294967296))), (0, .ref h), (1, .int (nI n2)), (2, .int (nI m2)), (5, .int (nI k)), (6, .long (lN (mMuH1 z n2 m2 k r)))]) hx hb d_X2_multiply_154 rfl hl (by decide) rfl (fun ls hl => ?_)
      refine n_iinc (lv' := [(5, .int (nI (k + 1))), (3, .long (lN (mMuR1 z n2 m2 k r / 2 ^ 16 + mMuH1 z n2 m2 k r * 4294967296))), (0, .ref h), (1, .int (nI n2)), (2, .int (nI m2)), (6, .long (lN (mMuH1 z n2 m2 k r)))]) hx hb d_X2_multiply_155 hl (k := 4) rfl (by decide) rfl (fun ls hl => ?_)
      refine lv_goto (tgt := 34) hx hb d_X2_multiply_158 (by decide) ?_
      exact ih (k + 1) _ _ (by omega) (by omega) (by omega) hok hnm H locs hP hD hS ls (lv_sub hl [2, 3, 4, 1, 0] rfl)
noncomputable def mMulN (z : Nat → Nat) (b : Nat) : Nat := (mBits z b + 15) / 16
noncomputable def mMulZ (z : Nat → Nat) : Nat → Nat := mMuZ (mMulN (mClr 2 cZ 0 z) 0) (mMulN (mClr 2 cZ 0 z) 1) (mMulN (mClr 2 cZ 0 z) 0 + mMulN (mClr 2 cZ 0 z) 1) 0 0 (mClr 2 cZ 0 z)
def mMulG (sg : Nat → Int32) : Nat → Int32 := upd (upd sg 2 (nI 0)) 2 (upd sg 2 (nI 0) 0 * upd sg 2 (nI 0) 1)
theorem mMuZ_ok {w g : Nat → Nat} {n2 m2 : Nat} : ∀ (n k r : Nat) (z : Nat → Nat), mdOk w g z → mdOk w g (mMuZ n2 m2 n k r z)
  | 0, _, _, _, h => h
  | n + 1, k, r, z, h => mMuZ_ok n (k + 1) _ _ (h.z (Nat.mod_lt _ (by decide)))
theorem mMulZ_ok {w g z : Nat → Nat} (h : mdOk w g z) : mdOk w g (mMulZ z) := mMuZ_ok _ _ _ _ (mClr_ok _ _ _ h)
abbrev w_X2_multiply : List Cond := .code y_X2_multiply b_X2_multiply 9 (none) :: gw
set_option maxHeartbeats 800000 in
set_option maxRecDepth 100000 in
theorem c_X2_multiply {l : Launch} {D : va_G} {Rs : va_W} {cA cR cL : ClassId} {h aw ar ag az : Nat} {cd : Int32} {w g : Nat → Nat} {sg : Nat → Int32} {z : Nat → Nat} (hok : mdOk w g z) (hfit : mMulN (mClr 2 cZ 0 z) 0 + mMulN (mClr 2 cZ 0 z) 1 ≤ 1100) : xC l y_X2_multiply w_X2_multiply ({ frames := 1, cells := 0, slots := 0, locals := 23 }) D cls0 (ty3 cA cR cL) [.ref h] (md cA h aw ar ag az cd w g sg z Rs) (none) (fun w1 => w1 = md cA h aw ar ag az cd w g (mMulG sg) (mMulZ z) Rs) 0 0 := by
  refine xC.ofW (cc := b_X2_multiply) (maxL := 9) (ret := none) (by decide) rfl (Nat.le_of_ble_eq_true rfl) ?_
  intro p e s m below meth c A ls _ hin hx hb hr hml hown hts hlocks hA hK hP hD hS hl
  have hts : ∀ w ∈ gw, w.before ([.ref h]).toArray s = true := fun w h => hts w (List.mem_cons_of_mem _ h)
  have hown : s.vm.findClass R_Md = some m.cls := hown
  have hl : lv_has ls 9 [(0, .ref h)] := hl
  have hb0 := mBits_le (mClr 2 cZ 0 z) 0
  have hb1 := mBits_le (mClr 2 cZ 0 z) 1
  unfold mMulN at hfit
  refine lv_aload_n hx hb d_X2_multiply_0 rfl (lv_at hl 0 rfl) ?_
  refine lv_iconst (v := nI 2) hx hb d_X2_multiply_1 (by decide) ?_
  refine x_call (st1 := []) (x_runV (As := [.int (nI 2)]) (rest := []) (nL := 9) ⟨hx, hb, hml, hown, hts⟩ (c_X2_clear (b := 2) (by omega) _) (cwV 1 hts (gw_V k_526 k_528 k_32 k_52 k_529) rfl rfl rfl (by decide +kernel) ⟨Nat.le_of_ble_eq_true rfl, Nat.le_of_ble_eq_true rfl⟩) hK hP hD 0 2 rfl rfl rfl hl.1 rfl (Nat.le_of_ble_eq_true rfl) d_X2_multiply_2 ⟨Nat.zero_le _, Nat.zero_le _⟩) hS (x_sub hD hS hA) (x_sub hD hS hA) rfl (fun w1 H locs hY hP hD hS => ?_)
  subst hY
  have hok := mClr_ok (b := 2) cZ 0 _ hok
  refine lv_aload_n hx hb d_X2_multiply_5 rfl (lv_at hl 0 rfl) ?_
  refine lv_iconst (v := nI 0) hx hb d_X2_multiply_6 (by decide) ?_
  refine x_callR (st1 := [.int (nI (mBits (mClr 2 cZ 0 z) 0))]) (x_runV (As := [.int (nI 0)]) (rest := []) (nL := 9) ⟨hx, hb, hml, hown, hts⟩ (c_X2_bits hok (b := 0) (by omega) _) (cwV 1 hts (gw_V k_544 k_546 k_36 k_52 k_547) rfl rfl rfl (by decide +kernel) ⟨Nat.le_of_ble_eq_true rfl, Nat.le_of_ble_eq_true rfl⟩) hK hP hD 0 2 rfl rfl rfl hl.1 rfl (Nat.le_of_ble_eq_true rfl) d_X2_multiply_7 ⟨Nat.zero_le _, Nat.zero_le _⟩) rfl ?_
  refine lv_bipush (v := nI 15) hx hb d_X2_multiply_10 (by decide) ?_
  refine n_iadd hx hb d_X2_multiply_12 ?_
  refine lv_bipush (v := nI 16) hx hb d_X2_multiply_13 (by decide) ?_
  refine n_idiv hx hb d_X2_multiply_15 (by omega) (by omega) (by omega) ?_
  refine lv_istore_n (lv' := [(1, .int (nI (((mBits (mClr 2 cZ 0 z) 0) + 15) / 16))), (0, .ref h)]) hx hb d_X2_multiply_16 rfl hl (by decide) rfl (fun ls hl => ?_)
  refine lv_aload_n hx hb d_X2_multiply_17 rfl (lv_at hl 1 rfl) ?_
  refine lv_iconst (v := nI 1) hx hb d_X2_multiply_18 (by decide) ?_
  refine x_callR (st1 := [.int (nI (mBits (mClr 2 cZ 0 z) 1))]) (x_runV (As := [.int (nI 1)]) (rest := []) (nL := 9) ⟨hx, hb, hml, hown, hts⟩ (c_X2_bits hok (b := 1) (by omega) _) (cwV 1 hts (gw_V k_544 k_546 k_36 k_52 k_547) rfl rfl rfl (by decide +kernel) ⟨Nat.le_of_ble_eq_true rfl, Nat.le_of_ble_eq_true rfl⟩) hK hP hD 0 2 rfl rfl rfl hl.1 rfl (Nat.le_of_ble_eq_true rfl) d_X2_multiply_19 ⟨Nat.zero_le _, Nat.zero_le _⟩) rfl ?_
  refine lv_bipush (v := nI 15) hx hb d_X2_multiply_22 (by decide) ?_
  refine n_iadd hx hb d_X2_multiply_24 ?_
  refine lv_bipush (v := nI 16) hx hb d_X2_multiply_25 (by decide) ?_
  refine n_idiv hx hb d_X2_multiply_27 (by omega) (by omega) (by omega) ?_
  refine lv_istore_n (lv' := [(2, .int (nI (((mBits (mClr 2 cZ 0 z) 1) + 15) / 16))), (1, .int (nI (((mBits (mClr 2 cZ 0 z) 0) + 15) / 16))), (0, .ref h)]) hx hb d_X2_multiply_28 rfl hl (by decide) rfl (fun ls hl => ?_)
  refine lv_lconst (v := lN 0) hx hb d_X2_multiply_29 (by decide) ?_
  refine lv_lstore_n (lv' := [(3, .long (lN 0)), (2, .int (nI (((mBits (mClr 2 cZ 0 z) 1) + 15) / 16))), (1, .int (nI (((mBits (mClr 2 cZ 0 z) 0) + 15) / 16))), (0, .ref h)]) hx hb d_X2_multiply_30 rfl hl (by decide) rfl (fun ls hl => ?_)
  refine lv_iconst (v := nI 0) hx hb d_X2_multiply_31 (by decide) ?_
  refine lv_istore (lv' := [(5, .int (nI 0)), (3, .long (lN 0)), (2, .int (nI (((mBits (mClr 2 cZ 0 z) 1) + 15) / 16))), (1, .int (nI (((mBits (mClr 2 cZ 0 z) 0) + 15) / 16))), (0, .ref h)]) hx hb d_X2_multiply_32 hl (by decide) rfl (fun ls hl => ?_)
  exact lp_X2_multiply (n2 := mMulN (mClr 2 cZ 0 z) 0) (m2 := mMulN (mClr 2 cZ 0 z) 1) hx hb hr hml hown hts hlocks hA hK (by unfold mMulN; omega) (by unfold mMulN; omega) _ 0 0 _ rfl (by omega) (by omega) hok (by unfold mMulN; omega) _ _ hP hD hS ls (lv_sub hl [4, 3, 2, 1, 0] rfl)
end
section
theorem n_or (a b : Nat) : nI a ||| nI b = nI (a ||| b) := by
  apply Int32.toBitVec_inj.mp
  show BitVec.ofNat 32 a ||| BitVec.ofNat 32 b = BitVec.ofNat 32 (a ||| b)
  rw [BitVec.ofNat_or]
theorem n_shl {a t : Nat} (ht : t < 32) (h : a * 2 ^ t < 4294967296) : nI a <<< (nI t &&& 31) = nI (a * 2 ^ t) := pk_shlN _ t (n_sm t ht) (by omega)
theorem bit_shl {x t : Nat} (hx : x < 2) (ht : t < 16) : x * 2 ^ t < 65536 := by
  have h1 : 2 ^ t ≤ 2 ^ 15 := Nat.pow_le_pow_right (by decide) (by omega)
  have h2 : x * 2 ^ t ≤ 1 * 2 ^ t := Nat.mul_le_mul_right _ (by omega)
  omega
theorem or_16 {a b : Nat} (ha : a < 65536) (hb : b < 65536) : a ||| b < 65536 := Nat.or_lt_two_pow (n := 16) ha hb
theorem mBit_lt (z : Nat → Nat) (b k : Nat) : mBit z b k < 2 := Nat.mod_lt _ (by decide)
def mLimb (g : Nat → Nat) (r k : Nat) : Int32 := nI (g (512 * r + 2 * k + 1)) <<< (nI 16 &&& 31) ||| nI (g (512 * r + 2 * k))
/-- digit j, with bit i of buffer 0 laid into it -/
def mOr (z : Nat → Nat) (j i : Nat) : Nat := z (1100 + j / 16) ||| mBit z 0 i * 2 ^ (j % 16)
theorem mOr_lt {w g z : Nat → Nat} (h : mdOk w g z) (j i : Nat) : mOr z j i < 65536 := or_16 (h.2.2 _) (bit_shl (mBit_lt _ _ _) (Nat.mod_lt _ (by decide)))
def mLfZ (k : Nat) : Nat → Nat → (Nat → Nat) → Nat → Nat
  | 0, _, z => z
  | n + 1, i, z => mLfZ k n (i + 1) (va_up z (1100 + (i + k) / 16) (mOr z (i + k) i))
theorem mLfZ_ok {w g : Nat → Nat} {k : Nat} : ∀ (n i : Nat) (z : Nat → Nat), mdOk w g z → mdOk w g (mLfZ k n i z)
  | 0, _, _, h => h
  | n + 1, i, z, h => mLfZ_ok n (i + 1) _ (h.z (mOr_lt h _ _))
def mHvZ (k : Nat) : Nat → Nat → (Nat → Nat) → Nat → Nat
  | 0, _, z => z
  | n + 1, i, z => mHvZ k n (i + 1) (va_up z (1100 + (i - k) / 16) (mOr z (i - k) i))
theorem mHvZ_ok {w g : Nat → Nat} {k : Nat} : ∀ (n i : Nat) (z : Nat → Nat), mdOk w g z → mdOk w g (mHvZ k n i z)
  | 0, _, _, h => h
  | n + 1, i, z, h => mHvZ_ok n (i + 1) _ (h.z (mOr_lt h _ _))
abbrev w_X2_limbOf : List Cond := .code y_X2_limbOf b_X2_limbOf 3 (some .int) :: gw
set_option maxHeartbeats 800000 in
set_option maxRecDepth 100000 in
theorem c_X2_limbOf {l : Launch} {D : va_G} {Rs : va_W} {cA cR cL : ClassId} {h aw ar ag az : Nat} {cd : Int32} {w g : Nat → Nat} {sg : Nat → Int32} {z : Nat → Nat} (hok : mdOk w g z) {r k : Nat} (hr64 : r < 64) (hk : k < 256) : xR l y_X2_limbOf w_X2_limbOf ({ frames := 0, cells := 0, slots := 0, locals := 0 }) D cls0 (ty3 cA cR cL) [.ref h, .int (nI r), .int (nI k)] (md cA h aw ar ag az cd w g sg z Rs) (some (.int (mLimb g r k))) := by
  refine xR.ofW (cc := b_X2_limbOf) (maxL := 3) (ret := some .int) (by decide) rfl (Nat.le_of_ble_eq_true rfl) ?_
  intro p e s m below meth c A ls _ hin hx hb hr hml hown hts hlocks hA hK hP hD hS hl
  have hts : ∀ w ∈ gw, w.before ([.ref h, .int (nI r), .int (nI k)]).toArray s = true := fun w h => hts w (List.mem_cons_of_mem _ h)
  have hown : s.vm.findClass R_Md = some m.cls := hown
  have hl : lv_has ls 3 [(0, .ref h), (1, .int (nI r)), (2, .int (nI k))] := hl
  refine lv_aload_n hx hb d_X2_limbOf_0 rfl (lv_at hl 0 rfl) ?_
  refine m_getR hx hb hts hown hK hP d_X2_limbOf_1 ?_
  refine lv_sipush (v := nI 512) hx hb d_X2_limbOf_4 (by decide) ?_
  refine lv_iload_n hx hb d_X2_limbOf_7 rfl (lv_at hl 1 rfl) ?_
  refine n_imul hx hb d_X2_limbOf_8 ?_
  refine lv_iconst (v := nI 2) hx hb d_X2_limbOf_9 (by decide) ?_
  refine lv_iload_n hx hb d_X2_limbOf_10 rfl (lv_at hl 2 rfl) ?_
  refine n_imul hx hb d_X2_limbOf_11 ?_
  refine n_iadd hx hb d_X2_limbOf_12 ?_
  refine lv_iconst (v := nI 1) hx hb d_X2_limbOf_13 (by decide) ?_
  refine n_iadd hx hb d_X2_limbOf_14 ?_
  refine m_aldR hx hb hK hP (j := ((512 * r) + (2 * k)) + 1) (by omega) d_X2_limbOf_15 ?_
  have hq_15 := hok.2.1 (((512 * r) + (2 * k)) + 1)
  refine lv_bipush (v := nI 16) hx hb d_X2_limbOf_16 (by decide) ?_
  refine lv_ishl hx hb d_X2_limbOf_18 ?_
  refine lv_aload_n hx hb d_X2_limbOf_19 rfl (lv_at hl 0 rfl) ?_
  refine m_getR hx hb hts hown hK hP d_X2_limbOf_20 ?_
  refine lv_sipush (v := nI 512) hx hb d_X2_limbOf_23 (by decide) ?_
  refine lv_iload_n hx hb d_X2_limbOf_26 rfl (lv_at hl 1 rfl) ?_
  refine n_imul hx hb d_X2_limbOf_27 ?_
  refine lv_iconst (v := nI 2) hx hb d_X2_limbOf_28 (by decide) ?_
  refine lv_iload_n hx hb d_X2_limbOf_29 rfl (lv_at hl 2 rfl) ?_
  refine n_imul hx hb d_X2_limbOf_30 ?_
  refine n_iadd hx hb d_X2_limbOf_31 ?_
  refine m_aldR hx hb hK hP (j := (512 * r) + (2 * k)) (by omega) d_X2_limbOf_32 ?_
  have hq_32 := hok.2.1 ((512 * r) + (2 * k))
  refine lv_ior hx hb d_X2_limbOf_33 ?_
  exact xr_iret hx hb hr hlocks d_X2_limbOf_34 rfl
noncomputable def mHvS (sg : Nat → Int32) (k N : Nat) : Nat → Int32 := upd sg 1 (if N ≤ k then nI 0 else sg 0)
noncomputable def mHvTZ (sg : Nat → Int32) (z : Nat → Nat) (f : Nat) : Nat → Nat := if f = 0 then z else mCombZ (mLongG (sg 0).toInt64 2 sg) 1 2 (mOth (mLongG (sg 0).toInt64 2 sg) 2 0) (mLongZ (sg 0).toInt64 2 z)
noncomputable def mHvTS (sg : Nat → Int32) (z : Nat → Nat) (f : Nat) : Nat → Int32 := if f = 0 then sg else upd (mLongG (sg 0).toInt64 2 sg) 1 (mCombS (mLongG (sg 0).toInt64 2 sg) 1 2 (mOth (mLongG (sg 0).toInt64 2 sg) 2 0) (mLongZ (sg 0).toInt64 2 z))
set_option maxHeartbeats 800000 in
set_option maxRecDepth 100000 in
theorem lp_X2_halve {p : Program} {l : Launch} {e : Env} {s : State} {m : MethodId} {args : Array Value} {below : List Frame} {meth : Method} {c : Code} {D : va_G} {Rs : va_W} {cA cR cL : ClassId} {h aw ar ag az : Nat} {A : Nat → Prop} {cd : Int32} {w g : Nat → Nat} {sg : Nat → Int32} (hx : p.tables.exec = Jvm.exec) (hb : c.code = b_X2_halve) (hr : meth.sig.returnType = none) (hml : c.maxLocals = 5) (hown : s.vm.findClass R_Md = some m.cls) (hts : ∀ w ∈ gw, w.before args s = true) (hlocks : meth.locks = false) (hA : ∀ q : Nat, s.heap.size ≤ q → A q) (hK : va_K D cls0 (ty3 cA cR cL) s) {k f N : Nat} (hf : f < 2) (hk : k ≤ 8192) (hN : N ≤ 17600) : ∀ (n : Nat) (i : Nat) (z : Nat → Nat), n = N - i → k ≤ i ∧ i ≤ 18000 → mdOk w g z → ∀ (H : Heap) (locs : List Loc), va_P D cls0 (md cA h aw ar ag az cd w g sg z Rs) H → va_D A (md cA h aw ar ag az cd w g sg z Rs) → va_S A s.heap H locs → ∀ (ls : Array Slot), lv_has ls 5 [(0, .ref h), (1, .int (nI k)), (2, .int (nI f)), (3, .int (nI N)), (4, .int (nI i))] → W p l e ({ frames := 2, cells := 0, slots := 0, locals := 54 }) s m args below meth c H locs 0 0 (MQ below (xQ (none) (xB D cls0 A (fun w1 => w1 = md cA h aw ar ag az cd w g (mHvTS (mHvS sg k N) (mHvZ k n i z) f) (mHvTZ (mHvS sg k N) (mHvZ k n i z) f) Rs)) A) args s 0 0 A) (F0 m 14 ls []) := by
  intro n
  induction n with
  | zero =>
    intro i z hn hi hok H locs hP hD hS ls hl
    refine lv_iload hx hb d_X2_halve_14 (lv_at hl 4 rfl) ?_
    refine lv_iload_n hx hb d_X2_halve_16 rfl (lv_at hl 3 rfl) ?_
    refine n_icmp_ge (tgt := 74) hx hb d_X2_halve_17 (by decide) (by omega) (by omega) (fun c_1 => ?_) (fun c_1 => ?_)
    rotate_left
    · exact absurd c_1 (by omega)
    refine lv_aload_n hx hb d_X2_halve_74 rfl (lv_at hl 0 rfl) ?_
    refine m_getG hx hb hts hown hK hP d_X2_halve_75 ?_
    refine lv_iconst (v := nI 1) hx hb d_X2_halve_78 (by decide) ?_
    refine lv_iload_n hx hb d_X2_halve_79 rfl (lv_at hl 3 rfl) ?_
    refine lv_iload_n hx hb d_X2_halve_80 rfl (lv_at hl 1 rfl) ?_
    refine n_icmp_le (tgt := 93) hx hb d_X2_halve_81 (by decide) (by omega) (by omega) (fun c_2 => ?_) (fun c_2 => ?_)
    · refine lv_iconst (v := nI 0) hx hb d_X2_halve_93 (by decide) ?_
      refine m_astG hx hb hK hP hD hS (j := 1) (x := nI 0) (by omega) d_X2_halve_94 (fun H locs hP hD hS => ?_)
      refine lv_iload_n hx hb d_X2_halve_95 rfl (lv_at hl 2 rfl) ?_
      refine n_if_eq (tgt := 122) hx hb d_X2_halve_96 (by decide) (by omega) (fun c_3 => ?_) (fun c_3 => ?_)
      · have hs1 : mHvS sg k N = upd sg 1 (nI 0) := congrArg (upd sg 1) (if_pos (by omega))
        have ht1 : mHvTZ (upd sg 1 (nI 0)) z f = _ := if_pos (by assumption)
        have ht2 : mHvTS (upd sg 1 (nI 0)) z f = _ := if_pos (by assumption)
        exact x_vret hx hb hr hlocks hP hD hS d_X2_halve_122 rfl (by rw [show mHvZ k 0 i z = z from rfl, hs1, ht1, ht2])
      · refine lv_aload_n hx hb d_X2_halve_99 rfl (lv_at hl 0 rfl) ?_
        refine m_getG hx hb hts hown hK hP d_X2_halve_100 ?_
        refine lv_iconst (v := nI 0) hx hb d_X2_halve_103 (by decide) ?_
        refine m_aldG hx hb hK hP (j := 0) (by omega) d_X2_halve_104 ?_
        refine lv_istore (lv' := [(4, .int ((upd sg 1 (nI 0)) 0)), (0, .ref h), (1, .int (nI k)), (2, .int (nI f)), (3, .int (nI N))]) hx hb d_X2_halve_105 hl (by decide) rfl (fun ls hl => ?_)
        refine lv_aload_n hx hb d_X2_halve_107 rfl (lv_at hl 1 rfl) ?_
        refine lv_iconst (v := nI 2) hx hb d_X2_halve_108 (by decide) ?_
        refine lv_iload hx hb d_X2_halve_109 (lv_at hl 0 rfl) ?_
        refine lv_i2l (v := ((upd sg 1 (nI 0)) 0).toInt64) hx hb d_X2_halve_111 rfl ?_
        refine x_call (st1 := []) (x_runV (As := [.int (nI 2), .long (((upd sg 1 (nI 0)) 0).toInt64)]) (rest := []) (nL := 5) ⟨hx, hb, hml, hown, hts⟩ (c_X2_loadLong hok (b := 2) (by omega) (((upd sg 1 (nI 0)) 0).toInt64) _) (cwV 2 hts (gw_V k_564 k_566 k_39 k_52 k_567) rfl rfl rfl (by decide +kernel) ⟨Nat.le_of_ble_eq_true rfl, Nat.le_of_ble_eq_true rfl⟩) hK hP hD 0 2 rfl rfl rfl hl.1 rfl (Nat.le_of_ble_eq_true rfl) d_X2_halve_112 ⟨Nat.zero_le _, Nat.zero_le _⟩) hS (x_sub hD hS hA) (x_sub hD hS hA) rfl (fun w1 H locs hY hP hD hS => ?_)
        subst hY
        have hok := mLongZ_ok (v := ((upd sg 1 (nI 0)) 0).toInt64) (b := 2) hok
        refine lv_aload_n hx hb d_X2_halve_115 rfl (lv_at hl 1 rfl) ?_
        refine lv_iconst (v := nI 1) hx hb d_X2_halve_116 (by decide) ?_
        refine lv_iconst (v := nI 2) hx hb d_X2_halve_117 (by decide) ?_
        refine lv_iconst (v := nI 0) hx hb d_X2_halve_118 (by decide) ?_
        refine x_call (st1 := []) (x_runV (As := [.int (nI 1), .int (nI 2), .int (nI 0)]) (rest := []) (nL := 5) ⟨hx, hb, hml, hown, hts⟩ (c_X2_combine hok (b := 1) (q := 2) (f := 0) (by omega) (by omega) (by omega) _) (cwV 3 hts (gw_V k_597 k_599 k_43 k_52 k_600) rfl rfl rfl (by decide +kernel) ⟨Nat.le_of_ble_eq_true rfl, Nat.le_of_ble_eq_true rfl⟩) hK hP hD 0 2 rfl rfl rfl hl.1 rfl (Nat.le_of_ble_eq_true rfl) d_X2_halve_119 ⟨Nat.zero_le _, Nat.zero_le _⟩) hS (x_sub hD hS hA) (x_sub hD hS hA) rfl (fun w1 H locs hY hP hD hS => ?_)
        subst hY
        have hok := mCombZ_ok (sg := mLongG (((upd sg 1 (nI 0)) 0).toInt64) 2 (upd sg 1 (nI 0))) (b := 1) (q := 2) (x := mOth (mLongG (((upd sg 1 (nI 0)) 0).toInt64) 2 (upd sg 1 (nI 0))) 2 0) hok
        have hs1 : mHvS sg k N = upd sg 1 (nI 0) := congrArg (upd sg 1) (if_pos (by omega))
        have ht1 : mHvTZ (upd sg 1 (nI 0)) z f = _ := if_neg (by assumption)
        have ht2 : mHvTS (upd sg 1 (nI 0)) z f = _ := if_neg (by assumption)
        exact x_vret hx hb hr hlocks hP hD hS d_X2_halve_122 rfl (by rw [show mHvZ k 0 i z = z from rfl, hs1, ht1, ht2])
    · refine lv_aload_n hx hb d_X2_halve_84 rfl (lv_at hl 0 rfl) ?_
      refine m_getG hx hb hts hown hK hP d_X2_halve_85 ?_
      refine lv_iconst (v := nI 0) hx hb d_X2_halve_88 (by decide) ?_
      refine m_aldG hx hb hK hP (j := 0) (by omega) d_X2_halve_89 ?_
      refine lv_goto (tgt := 94) hx hb d_X2_halve_90 (by decide) ?_
      refine m_astG hx hb hK hP hD hS (j := 1) (x := sg 0) (by omega) d_X2_halve_94 (fun H locs hP hD hS => ?_)
      refine lv_iload_n hx hb d_X2_halve_95 rfl (lv_at hl 2 rfl) ?_
      refine n_if_eq (tgt := 122) hx hb d_X2_halve_96 (by decide) (by omega) (fun c_4 => ?_) (fun c_4 => ?_)
      · have hs1 : mHvS sg k N = upd sg 1 (sg 0) := congrArg (upd sg 1) (if_neg (by omega))
        have ht1 : mHvTZ (upd sg 1 (sg 0)) z f = _ := if_pos (by assumption)
        have ht2 : mHvTS (upd sg 1 (sg 0)) z f = _ := if_pos (by assumption)
        exact x_vret hx hb hr hlocks hP hD hS d_X2_halve_122 rfl (by rw [show mHvZ k 0 i z = z from rfl, hs1, ht1, ht2])
      · refine lv_aload_n hx hb d_X2_halve_99 rfl (lv_at hl 0 rfl) ?_
        refine m_getG hx hb hts hown hK hP d_X2_halve_100 ?_
        refine lv_iconst (v := nI 0) hx hb d_X2_halve_103 (by decide) ?_
        refine m_aldG hx hb hK hP (j := 0) (by omega) d_X2_halve_104 ?_
        refine lv_istore (lv' := [(4, .int ((upd sg 1 (sg 0)) 0)), (0, .ref h), (1, .int (nI k)), (2, .int (nI f)), (3, .int (nI N))]) hx hb d_X2_halve_105 hl (by decide) rfl (fun ls hl => ?_)
        refine lv_aload_n hx hb d_X2_halve_107 rfl (lv_at hl 1 rfl) ?_
        refine lv_iconst (v := nI 2) hx hb d_X2_halve_108 (by decide) ?_
        refine lv_iload hx hb d_X2_halve_109 (lv_at hl 0 rfl) ?_
        refine lv_i2l (v := ((upd sg 1 (sg 0)) 0).toInt64) hx hb d_X2_halve_111 rfl ?_
        refine x_call (st1 := []) (x_runV (As := [.int (nI 2), .long (((upd sg 1 (sg 0)) 0).toInt64)]) (rest := []) (nL := 5) ⟨hx, hb, hml, hown, hts⟩ (c_X2_loadLong hok (b := 2) (by omega) (((upd sg 1 (sg 0)) 0).toInt64) _) (cwV 2 hts (gw_V k_564 k_566 k_39 k_52 k_567) rfl rfl rfl (by decide +kernel) ⟨Nat.le_of_ble_eq_true rfl, Nat.le_of_ble_eq_true rfl⟩) hK hP hD 0 2 rfl rfl rfl hl.1 rfl (Nat.le_of_ble_eq_true rfl) d_X2_halve_112 ⟨Nat.zero_le _, Nat.zero_le _⟩) hS (x_sub hD hS hA) (x_sub hD hS hA) rfl (fun w1 H locs hY hP hD hS => ?_)
        subst hY
        have hok := mLongZ_ok (v := ((upd sg 1 (sg 0)) 0).toInt64) (b := 2) hok
        refine lv_aload_n hx hb d_X2_halve_115 rfl (lv_at hl 1 rfl) ?_
        refine lv_iconst (v := nI 1) hx hb d_X2_halve_116 (by decide) ?_
        refine lv_iconst (v := nI 2) hx hb d_X2_halve_117 (by decide) ?_
        refine lv_iconst (v := nI 0) hx hb d_X2_halve_118 (by decide) ?_
        refine x_call (st1 := []) (x_runV (As := [.int (nI 1), .int (nI 2), .int (nI 0)]) (rest := []) (nL := 5) ⟨hx, hb, hml, hown, hts⟩ (c_X2_combine hok (b := 1) (q := 2) (f := 0) (by omega) (by omega) (by omega) _) (cwV 3 hts (gw_V k_597 k_599 k_43 k_52 k_600) rfl rfl rfl (by decide +kernel) ⟨Nat.le_of_ble_eq_true rfl, Nat.le_of_ble_eq_true rfl⟩) hK hP hD 0 2 rfl rfl rfl hl.1 rfl (Nat.le_of_ble_eq_true rfl) d_X2_halve_119 ⟨Nat.zero_le _, Nat.zero_le _⟩) hS (x_sub hD hS hA) (x_sub hD hS hA) rfl (fun w1 H locs hY hP hD hS => ?_)
        subst hY
        have hok := mCombZ_ok (sg := mLongG (((upd sg 1 (sg 0)) 0).toInt64) 2 (upd sg 1 (sg 0))) (b := 1) (q := 2) (x := mOth (mLongG (((upd sg 1 (sg 0)) 0).toInt64) 2 (upd sg 1 (sg 0))) 2 0) hok
        have hs1 : mHvS sg k N = upd sg 1 (sg 0) := congrArg (upd sg 1) (if_neg (by omega))
        have ht1 : mHvTZ (upd sg 1 (sg 0)) z f = _ := if_neg (by assumption)
        have ht2 : mHvTS (upd sg 1 (sg 0)) z f = _ := if_neg (by assumption)
        exact x_vret hx hb hr hlocks hP hD hS d_X2_halve_122 rfl (by rw [show mHvZ k 0 i z = z from rfl, hs1, ht1, ht2])
  | succ n ih =>
    intro i z hn hi hok H locs hP hD hS ls hl
    refine lv_iload hx hb d_X2_halve_14 (lv_at hl 4 rfl) ?_
    refine lv_iload_n hx hb d_X2_halve_16 rfl (lv_at hl 3 rfl) ?_
    refine n_icmp_ge (tgt := 74) hx hb d_X2_halve_17 (by decide) (by omega) (by omega) (fun c_1 => ?_) (fun c_1 => ?_)
    · exact absurd c_1 (by omega)
    refine lv_aload_n hx hb d_X2_halve_20 rfl (lv_at hl 0 rfl) ?_
    refine m_getZ hx hb hts hown hK hP d_X2_halve_21 ?_
    refine lv_sipush (v := nI 1100) hx hb d_X2_halve_24 (by decide) ?_
    refine lv_iload hx hb d_X2_halve_27 (lv_at hl 4 rfl) ?_
    refine lv_iload_n hx hb d_X2_halve_29 rfl (lv_at hl 1 rfl) ?_
    refine n_isub hx hb d_X2_halve_30 (by omega) ?_
    refine lv_bipush (v := nI 16) hx hb d_X2_halve_31 (by decide) ?_
    refine n_idiv hx hb d_X2_halve_33 (by omega) (by omega) (by omega) ?_
    refine n_iadd hx hb d_X2_halve_34 ?_
    refine lv_aload_n hx hb d_X2_halve_35 rfl (lv_at hl 0 rfl) ?_
    refine m_getZ hx hb hts hown hK hP d_X2_halve_36 ?_
    refine lv_sipush (v := nI 1100) hx hb d_X2_halve_39 (by decide) ?_
    refine lv_iload hx hb d_X2_halve_42 (lv_at hl 4 rfl) ?_
    refine lv_iload_n hx hb d_X2_halve_44 rfl (lv_at hl 1 rfl) ?_
    refine n_isub hx hb d_X2_halve_45 (by omega) ?_
    refine lv_bipush (v := nI 16) hx hb d_X2_halve_46 (by decide) ?_
    refine n_idiv hx hb d_X2_halve_48 (by omega) (by omega) (by omega) ?_
    refine n_iadd hx hb d_X2_halve_49 ?_
    refine m_aldZ hx hb hK hP (j := 1100 + ((i - k) / 16)) (by omega) d_X2_halve_50 ?_
    have hq_50 := hok.2.2 (1100 + ((i - k) / 16))
    refine lv_aload_n hx hb d_X2_halve_51 rfl (lv_at hl 0 rfl) ?_
    refine lv_iconst (v := nI 0) hx hb d_X2_halve_52 (by decide) ?_
    refine lv_iload hx hb d_X2_halve_53 (lv_at hl 4 rfl) ?_
    refine x_callR (st1 := [.int (nI (mBit z 0 i)), .int (nI (z (1100 + ((i - k) / 16)))), .int (nI (1100 + ((i - k) / 16))), .ref az]) (x_runV (As := [.int (nI 0), .int (nI i)]) (rest := [.int (nI (z (1100 + ((i - k) / 16)))), .int (nI (1100 + ((i - k) / 16))), .ref az]) (nL := 5) ⟨hx, hb, hml, hown, hts⟩ (c_X2_bit hok (b := 0) (k := i) (by omega) (by omega) _) (cwV 2 hts (gw_V k_552 k_554 k_38 k_52 k_555) rfl rfl rfl (by decide +kernel) ⟨Nat.le_of_ble_eq_true rfl, Nat.le_of_ble_eq_true rfl⟩) hK hP hD 0 2 rfl rfl rfl hl.1 rfl (Nat.le_of_ble_eq_true rfl) d_X2_halve_55 ⟨Nat.zero_le _, Nat.zero_le _⟩) rfl ?_
    have hbt := mBit_lt z 0 i
    refine lv_iload hx hb d_X2_halve_58 (lv_at hl 4 rfl) ?_
    refine lv_iload_n hx hb d_X2_halve_60 rfl (lv_at hl 1 rfl) ?_
    refine n_isub hx hb d_X2_halve_61 (by omega) ?_
    refine lv_bipush (v := nI 16) hx hb d_X2_halve_62 (by decide) ?_
    refine n_irem hx hb d_X2_halve_64 (by omega) (by omega) (by omega) ?_
    have hbs := bit_shl hbt (show (i - k) % 16 < 16 by omega)
    refine lv_ishl hx hb d_X2_halve_65 ?_
    rw [n_shl (by omega) (by omega)]
    refine lv_ior hx hb d_X2_halve_66 ?_
    rw [n_or]
    have hor := mOr_lt hok (i - k) i
    rw [show (z (1100 + ((i - k) / 16))) ||| ((mBit z 0 i) * 2 ^ ((i - k) % 16)) = mOr z (i - k) i from rfl]
    refine m_astZ hx hb hK hP hD hS (j := 1100 + ((i - k) / 16)) (v := mOr z (i - k) i) (by omega) d_X2_halve_67 (fun H locs hP hD hS => ?_)
    have hok := hok.z (j := 1100 + ((i - k) / 16)) (v := mOr z (i - k) i) (by omega)
    refine n_iinc (lv' := [(4, .int (nI (i + 1))), (0, .ref h), (1, .int (nI k)), (2, .int (nI f)), (3, .int (nI N))]) hx hb d_X2_halve_68 hl (k := 4) rfl (by decide) rfl (fun ls hl => ?_)
    refine lv_goto (tgt := 14) hx hb d_X2_halve_71 (by decide) ?_
    exact ih (i + 1) _ (by omega) (by omega) hok H locs hP hD hS ls (lv_sub hl [1, 2, 3, 4, 0] rfl)
end
section
noncomputable def mHfN (z : Nat → Nat) : Nat := mBits (mClr 1 cZ 0 z) 0
noncomputable def mHfZ (sg : Nat → Int32) (k f : Nat) (z : Nat → Nat) : Nat → Nat := mHvTZ (mHvS (upd sg 1 (nI 0)) k (mHfN z)) (mHvZ k (mHfN z - k) k (mClr 1 cZ 0 z)) f
noncomputable def mHfS (sg : Nat → Int32) (k f : Nat) (z : Nat → Nat) : Nat → Int32 := mHvTS (mHvS (upd sg 1 (nI 0)) k (mHfN z)) (mHvZ k (mHfN z - k) k (mClr 1 cZ 0 z)) f
theorem mHfZ_ok {sg : Nat → Int32} {w g z : Nat → Nat} {k f : Nat} (h : mdOk w g z) : mdOk w g (mHfZ sg k f z) := by
  unfold mHfZ mHvTZ
  split
  · exact mHvZ_ok _ _ _ (mClr_ok _ _ _ h)
  · exact mCombZ_ok (mLongZ_ok (mHvZ_ok _ _ _ (mClr_ok _ _ _ h)))
theorem mIsRow_1 {r : Nat} (h : r < 64) : mIsRow (nI r) = nI 1 := by
  unfold mIsRow
  rw [if_neg (nI_pos (by omega)), if_neg (nI_ge h (by decide))]
theorem mRef_0 : mRef (nI 0) = nI 0 := by decide
theorem mRef_1 : mRef (nI 1) = nI 1 := by decide
theorem mRef_2 : mRef (nI 2) = nI 1 := by decide
theorem mdOk.w {w g z : Nat → Nat} {j v : Nat} (h : mdOk w g z) (hv : 1 ≤ v ∧ v ≤ 256) : mdOk (va_up w j v) g z := ⟨fun r hr => by unfold va_up; split; exact hv; exact h.1 r hr, h.2.1, h.2.2⟩
abbrev w_X2_halve : List Cond := .code y_X2_halve b_X2_halve 5 (none) :: gw
set_option maxHeartbeats 800000 in
set_option maxRecDepth 100000 in
theorem c_X2_halve {l : Launch} {D : va_G} {Rs : va_W} {cA cR cL : ClassId} {h aw ar ag az : Nat} {cd : Int32} {w g : Nat → Nat} {sg : Nat → Int32} {z : Nat → Nat} (hok : mdOk w g z) {k f : Nat} (hk : k ≤ 8192) (hf : f < 2) : xC l y_X2_halve w_X2_halve ({ frames := 2, cells := 0, slots := 0, locals := 54 }) D cls0 (ty3 cA cR cL) [.ref h, .int (nI k), .int (nI f)] (md cA h aw ar ag az cd w g sg z Rs) (none) (fun w1 => w1 = md cA h aw ar ag az cd w g (mHfS sg k f z) (mHfZ sg k f z) Rs) 0 0 := by
  refine xC.ofW (cc := b_X2_halve) (maxL := 5) (ret := none) (by decide) rfl (Nat.le_of_ble_eq_true rfl) ?_
  intro p e s m below meth c A ls _ hin hx hb hr hml hown hts hlocks hA hK hP hD hS hl
  have hts : ∀ w ∈ gw, w.before ([.ref h, .int (nI k), .int (nI f)]).toArray s = true := fun w h => hts w (List.mem_cons_of_mem _ h)
  have hown : s.vm.findClass R_Md = some m.cls := hown
  have hl : lv_has ls 5 [(0, .ref h), (1, .int (nI k)), (2, .int (nI f))] := hl
  have hbl := mBits_le (mClr 1 cZ 0 z) 0
  refine lv_aload_n hx hb d_X2_halve_0 rfl (lv_at hl 0 rfl) ?_
  refine lv_iconst (v := nI 1) hx hb d_X2_halve_1 (by decide) ?_
  refine x_call (st1 := []) (x_runV (As := [.int (nI 1)]) (rest := []) (nL := 5) ⟨hx, hb, hml, hown, hts⟩ (c_X2_clear (b := 1) (by omega) _) (cwV 1 hts (gw_V k_526 k_528 k_32 k_52 k_529) rfl rfl rfl (by decide +kernel) ⟨Nat.le_of_ble_eq_true rfl, Nat.le_of_ble_eq_true rfl⟩) hK hP hD 0 2 rfl rfl rfl hl.1 rfl (Nat.le_of_ble_eq_true rfl) d_X2_halve_2 ⟨Nat.zero_le _, Nat.zero_le _⟩) hS (x_sub hD hS hA) (x_sub hD hS hA) rfl (fun w1 H locs hY hP hD hS => ?_)
  subst hY
  have hok := mClr_ok (b := 1) cZ 0 _ hok
  refine lv_aload_n hx hb d_X2_halve_5 rfl (lv_at hl 0 rfl) ?_
  refine lv_iconst (v := nI 0) hx hb d_X2_halve_6 (by decide) ?_
  refine x_callR (st1 := [.int (nI (mBits (mClr 1 cZ 0 z) 0))]) (x_runV (As := [.int (nI 0)]) (rest := []) (nL := 5) ⟨hx, hb, hml, hown, hts⟩ (c_X2_bits hok (b := 0) (by omega) _) (cwV 1 hts (gw_V k_544 k_546 k_36 k_52 k_547) rfl rfl rfl (by decide +kernel) ⟨Nat.le_of_ble_eq_true rfl, Nat.le_of_ble_eq_true rfl⟩) hK hP hD 0 2 rfl rfl rfl hl.1 rfl (Nat.le_of_ble_eq_true rfl) d_X2_halve_7 ⟨Nat.zero_le _, Nat.zero_le _⟩) rfl ?_
  refine lv_istore_n (lv' := [(3, .int (nI (mBits (mClr 1 cZ 0 z) 0))), (0, .ref h), (1, .int (nI k)), (2, .int (nI f))]) hx hb d_X2_halve_10 rfl hl (by decide) rfl (fun ls hl => ?_)
  refine lv_iload_n hx hb d_X2_halve_11 rfl (lv_at hl 2 rfl) ?_
  refine lv_istore (lv' := [(4, .int (nI k)), (3, .int (nI (mBits (mClr 1 cZ 0 z) 0))), (0, .ref h), (1, .int (nI k)), (2, .int (nI f))]) hx hb d_X2_halve_12 hl (by decide) rfl (fun ls hl => ?_)
  exact lp_X2_halve (N := mHfN z) hx hb hr hml hown hts hlocks hA hK hf hk hbl (mHfN z - k) k _ rfl (by omega) hok _ _ hP hD hS ls (lv_sub hl [2, 3, 4, 1, 0] rfl)
abbrev w_X2_width : List Cond := .code y_X2_width b_X2_width 2 (some .int) :: gw
set_option maxHeartbeats 800000 in
set_option maxRecDepth 100000 in
theorem c_X2_width {l : Launch} {D : va_G} {Rs : va_W} {cA cR cL : ClassId} {h aw ar ag az : Nat} {cd : Int32} {w g : Nat → Nat} {sg : Nat → Int32} {z : Nat → Nat} (hok : mdOk w g z) {r : Nat} (hr64 : r < 64) : xC l y_X2_width w_X2_width ({ frames := 1, cells := 0, slots := 0, locals := 21 }) D cls0 (ty3 cA cR cL) [.ref h, .int (nI r)] (md cA h aw ar ag az cd w g sg z Rs) (some (.int (nI (w r)))) (fun w1 => w1 = md cA h aw ar ag az (nI 0) w g sg z Rs) 0 0 := by
  refine xC.ofW (cc := b_X2_width) (maxL := 2) (ret := some .int) (by decide) rfl (Nat.le_of_ble_eq_true rfl) ?_
  intro p e s m below meth c A ls _ hin hx hb hr hml hown hts hlocks hA hK hP hD hS hl
  have hts : ∀ w ∈ gw, w.before ([.ref h, .int (nI r)]).toArray s = true := fun w h => hts w (List.mem_cons_of_mem _ h)
  have hown : s.vm.findClass R_Md = some m.cls := hown
  have hl : lv_has ls 2 [(0, .ref h), (1, .int (nI r))] := hl
  refine lv_aload_n hx hb d_X2_width_0 rfl (lv_at hl 0 rfl) ?_
  refine lv_iload_n hx hb d_X2_width_1 rfl (lv_at hl 1 rfl) ?_
  refine x_callR (st1 := [.int (mIsRow (nI r)), .ref h]) (x_runS (As := [.int (nI r)]) (rest := [.ref h]) (nL := 2) ⟨hx, hb, hml, hown, hts⟩ (c_X2_isRow (nI r) _) (cwS 1 hts (gw_S k_515 k_516 k_52 k_517) rfl rfl rfl (by decide +kernel) ⟨Nat.le_of_ble_eq_true rfl, Nat.le_of_ble_eq_true rfl⟩) hK hP hD rfl hl.1 rfl (Nat.le_of_ble_eq_true rfl) d_X2_width_2 ⟨Nat.zero_le _, Nat.zero_le _⟩) rfl ?_
  rw [mIsRow_1 (show r < 64 by omega)]
  refine n_if_eq (tgt := 12) hx hb d_X2_width_5 (by decide) (by omega) (fun c => absurd c (by decide)) (fun _ => ?_)
  refine lv_iconst (v := nI 0) hx hb d_X2_width_8 (by decide) ?_
  refine lv_goto (tgt := 13) hx hb d_X2_width_9 (by decide) ?_
  refine x_call (st1 := [.int (mRef (nI 0))]) (x_runV (As := [.int (nI 0)]) (rest := []) (nL := 2) ⟨hx, hb, hml, hown, hts⟩ (c_X2_refuses (nI 0) _) (cwV 1 hts (gw_V k_518 k_520 k_30 k_52 k_521) rfl rfl rfl (by decide +kernel) ⟨Nat.le_of_ble_eq_true rfl, Nat.le_of_ble_eq_true rfl⟩) hK hP hD 0 2 rfl rfl rfl hl.1 rfl (Nat.le_of_ble_eq_true rfl) d_X2_width_13 ⟨Nat.zero_le _, Nat.zero_le _⟩) hS (x_sub hD hS hA) (x_sub hD hS hA) rfl (fun w1 H locs hY hP hD hS => ?_)
  subst hY
  rw [mRef_0]
  refine n_if_eq (tgt := 23) hx hb d_X2_width_16 (by decide) (by omega) (fun _ => ?_) (fun c => absurd c (by decide))
  refine lv_aload_n hx hb d_X2_width_23 rfl (lv_at hl 0 rfl) ?_
  refine m_getW hx hb hts hown hK hP d_X2_width_24 ?_
  refine lv_iload_n hx hb d_X2_width_27 rfl (lv_at hl 1 rfl) ?_
  have hq_28 := hok.1 r (by omega)
  refine m_aldW hx hb hK hP (j := r) (by omega) d_X2_width_28 ?_
  exact x_iret hx hb hr hlocks hP hD hS d_X2_width_29 rfl rfl
end
