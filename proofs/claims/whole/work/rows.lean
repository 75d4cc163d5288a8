section
-- ===== PART A: goes FIRST, ahead of the names: the tables' words, and 'selects' of the private methods out of them =====
/-- a private method of a class that the tables say can be made, by its rows of tables_1 -/
def lw_okq (q : MethodName × Nat) : Prop := (q.1.cls ≠ "java/lang/invoke/MethodHandle" ∧ q.1.cls ≠ "java/lang/invoke/VarHandle") ∧ Cond.instantiable q.1.cls q.2 ∈ tables_1 ∧ Cond.privateMethod q.1 ∈ tables_1 ∧ Cond.instanceMethod q.1 ∈ tables_1
theorem lw_p0 : lw_okq (⟨"LimbRows", "rowAt", "(I)LLimbRows$Row;"⟩, 1) := ⟨⟨by decide +kernel, by decide +kernel⟩, List.mem_of_getElem? (i := 15) (by decide +kernel), List.mem_of_getElem? (i := 53) (by decide +kernel), List.mem_of_getElem? (i := 54) (by decide +kernel)⟩
theorem lw_p1 : lw_okq (⟨"java/lang/Throwable", "fillInStackTrace", "(I)Ljava/lang/Throwable;"⟩, 6) := ⟨⟨by decide +kernel, by decide +kernel⟩, List.mem_of_getElem? (i := 94) (by decide +kernel), List.mem_of_getElem? (i := 92) (by decide +kernel), List.mem_of_getElem? (i := 93) (by decide +kernel)⟩
theorem lw_p2 : lw_okq (⟨"LimbRows$Row", "changeWidth", "(I)Z"⟩, 2) := ⟨⟨by decide +kernel, by decide +kernel⟩, List.mem_of_getElem? (i := 24) (by decide +kernel), List.mem_of_getElem? (i := 140) (by decide +kernel), List.mem_of_getElem? (i := 141) (by decide +kernel)⟩
theorem lw_p3 : lw_okq (⟨"LimbRows$Row", "fitsIn", "(I)Z"⟩, 2) := ⟨⟨by decide +kernel, by decide +kernel⟩, List.mem_of_getElem? (i := 24) (by decide +kernel), List.mem_of_getElem? (i := 144) (by decide +kernel), List.mem_of_getElem? (i := 145) (by decide +kernel)⟩
theorem lw_p4 : lw_okq (⟨"LimbRows$Row", "limbAt", "(I)I"⟩, 2) := ⟨⟨by decide +kernel, by decide +kernel⟩, List.mem_of_getElem? (i := 24) (by decide +kernel), List.mem_of_getElem? (i := 148) (by decide +kernel), List.mem_of_getElem? (i := 149) (by decide +kernel)⟩
theorem lw_p5 : lw_okq (⟨"LimbRows$Row", "keepLong", "(J)Z"⟩, 2) := ⟨⟨by decide +kernel, by decide +kernel⟩, List.mem_of_getElem? (i := 24) (by decide +kernel), List.mem_of_getElem? (i := 182) (by decide +kernel), List.mem_of_getElem? (i := 183) (by decide +kernel)⟩
theorem lw_p6 : lw_okq (⟨"LimbRows$Row", "keepRow", "(LLimbRows$Row;)Z"⟩, 2) := ⟨⟨by decide +kernel, by decide +kernel⟩, List.mem_of_getElem? (i := 24) (by decide +kernel), List.mem_of_getElem? (i := 209) (by decide +kernel), List.mem_of_getElem? (i := 210) (by decide +kernel)⟩
theorem lw_p7 : lw_okq (⟨"LimbRows$Row", "addFrom", "(ILLimbRows$Row;)V"⟩, 2) := ⟨⟨by decide +kernel, by decide +kernel⟩, List.mem_of_getElem? (i := 24) (by decide +kernel), List.mem_of_getElem? (i := 220) (by decide +kernel), List.mem_of_getElem? (i := 221) (by decide +kernel)⟩
theorem lw_p8 : lw_okq (⟨"LimbRows$Row", "addLimbs", "(ILLimbRows$Row;I)V"⟩, 2) := ⟨⟨by decide +kernel, by decide +kernel⟩, List.mem_of_getElem? (i := 24) (by decide +kernel), List.mem_of_getElem? (i := 224) (by decide +kernel), List.mem_of_getElem? (i := 225) (by decide +kernel)⟩
theorem lw_p9 : lw_okq (⟨"LimbRows$Row", "signum", "()I"⟩, 2) := ⟨⟨by decide +kernel, by decide +kernel⟩, List.mem_of_getElem? (i := 24) (by decide +kernel), List.mem_of_getElem? (i := 232) (by decide +kernel), List.mem_of_getElem? (i := 233) (by decide +kernel)⟩
theorem lw_p10 : lw_okq (⟨"LimbRows$Row", "isNegative", "()Z"⟩, 2) := ⟨⟨by decide +kernel, by decide +kernel⟩, List.mem_of_getElem? (i := 24) (by decide +kernel), List.mem_of_getElem? (i := 236) (by decide +kernel), List.mem_of_getElem? (i := 237) (by decide +kernel)⟩
theorem lw_p11 : lw_okq (⟨"LimbRows$Row", "subtractFrom", "(ILLimbRows$Row;)V"⟩, 2) := ⟨⟨by decide +kernel, by decide +kernel⟩, List.mem_of_getElem? (i := 24) (by decide +kernel), List.mem_of_getElem? (i := 247) (by decide +kernel), List.mem_of_getElem? (i := 248) (by decide +kernel)⟩
theorem lw_p12 : lw_okq (⟨"LimbRows$Row", "addProductOf", "(LLimbRows$Row;LLimbRows$Row;)V"⟩, 2) := ⟨⟨by decide +kernel, by decide +kernel⟩, List.mem_of_getElem? (i := 24) (by decide +kernel), List.mem_of_getElem? (i := 262) (by decide +kernel), List.mem_of_getElem? (i := 263) (by decide +kernel)⟩
theorem lw_p13 : lw_okq (⟨"LimbRows$Row", "bitLength", "()I"⟩, 2) := ⟨⟨by decide +kernel, by decide +kernel⟩, List.mem_of_getElem? (i := 24) (by decide +kernel), List.mem_of_getElem? (i := 266) (by decide +kernel), List.mem_of_getElem? (i := 267) (by decide +kernel)⟩
theorem lw_p14 : lw_okq (⟨"LimbRows$Row", "addMultiple", "(IJLLimbRows$Row;)V"⟩, 2) := ⟨⟨by decide +kernel, by decide +kernel⟩, List.mem_of_getElem? (i := 24) (by decide +kernel), List.mem_of_getElem? (i := 275) (by decide +kernel), List.mem_of_getElem? (i := 276) (by decide +kernel)⟩
theorem lw_p15 : lw_okq (⟨"LimbRows$Row", "subtractProductOf", "(LLimbRows$Row;LLimbRows$Row;)V"⟩, 2) := ⟨⟨by decide +kernel, by decide +kernel⟩, List.mem_of_getElem? (i := 24) (by decide +kernel), List.mem_of_getElem? (i := 287) (by decide +kernel), List.mem_of_getElem? (i := 288) (by decide +kernel)⟩
def lw_privs_1 : List (MethodName × Nat) := [(⟨"LimbRows", "rowAt", "(I)LLimbRows$Row;"⟩, 1), (⟨"java/lang/Throwable", "fillInStackTrace", "(I)Ljava/lang/Throwable;"⟩, 6), (⟨"LimbRows$Row", "changeWidth", "(I)Z"⟩, 2), (⟨"LimbRows$Row", "fitsIn", "(I)Z"⟩, 2), (⟨"LimbRows$Row", "limbAt", "(I)I"⟩, 2), (⟨"LimbRows$Row", "keepLong", "(J)Z"⟩, 2), (⟨"LimbRows$Row", "keepRow", "(LLimbRows$Row;)Z"⟩, 2), (⟨"LimbRows$Row", "addFrom", "(ILLimbRows$Row;)V"⟩, 2), (⟨"LimbRows$Row", "addLimbs", "(ILLimbRows$Row;I)V"⟩, 2), (⟨"LimbRows$Row", "signum", "()I"⟩, 2), (⟨"LimbRows$Row", "isNegative", "()Z"⟩, 2), (⟨"LimbRows$Row", "subtractFrom", "(ILLimbRows$Row;)V"⟩, 2), (⟨"LimbRows$Row", "addProductOf", "(LLimbRows$Row;LLimbRows$Row;)V"⟩, 2), (⟨"LimbRows$Row", "bitLength", "()I"⟩, 2), (⟨"LimbRows$Row", "addMultiple", "(IJLLimbRows$Row;)V"⟩, 2), (⟨"LimbRows$Row", "subtractProductOf", "(LLimbRows$Row;LLimbRows$Row;)V"⟩, 2)]
theorem lw_r1 : ∀ q ∈ lw_privs_1, lw_okq q := List.forall_mem_cons.mpr ⟨lw_p0, List.forall_mem_cons.mpr ⟨lw_p1, List.forall_mem_cons.mpr ⟨lw_p2, List.forall_mem_cons.mpr ⟨lw_p3, List.forall_mem_cons.mpr ⟨lw_p4, List.forall_mem_cons.mpr ⟨lw_p5, List.forall_mem_cons.mpr ⟨lw_p6, List.forall_mem_cons.mpr ⟨lw_p7, List.forall_mem_cons.mpr ⟨lw_p8, List.forall_mem_cons.mpr ⟨lw_p9, List.forall_mem_cons.mpr ⟨lw_p10, List.forall_mem_cons.mpr ⟨lw_p11, List.forall_mem_cons.mpr ⟨lw_p12, List.forall_mem_cons.mpr ⟨lw_p13, List.forall_mem_cons.mpr ⟨lw_p14, List.forall_mem_cons.mpr ⟨lw_p15, fun _ h => absurd h List.not_mem_nil⟩⟩⟩⟩⟩⟩⟩⟩⟩⟩⟩⟩⟩⟩⟩⟩
theorem lw_p16 : lw_okq (⟨"LimbRows$Row", "complement", "()V"⟩, 2) := ⟨⟨by decide +kernel, by decide +kernel⟩, List.mem_of_getElem? (i := 24) (by decide +kernel), List.mem_of_getElem? (i := 291) (by decide +kernel), List.mem_of_getElem? (i := 292) (by decide +kernel)⟩
theorem lw_p17 : lw_okq (⟨"LimbRows$Row", "multiplyBy", "(J)V"⟩, 2) := ⟨⟨by decide +kernel, by decide +kernel⟩, List.mem_of_getElem? (i := 24) (by decide +kernel), List.mem_of_getElem? (i := 303) (by decide +kernel), List.mem_of_getElem? (i := 304) (by decide +kernel)⟩
theorem lw_p18 : lw_okq (⟨"LimbRows$Row", "turnRound", "()Z"⟩, 2) := ⟨⟨by decide +kernel, by decide +kernel⟩, List.mem_of_getElem? (i := 24) (by decide +kernel), List.mem_of_getElem? (i := 314) (by decide +kernel), List.mem_of_getElem? (i := 315) (by decide +kernel)⟩
theorem lw_p19 : lw_okq (⟨"LimbRows$Row", "increment", "()V"⟩, 2) := ⟨⟨by decide +kernel, by decide +kernel⟩, List.mem_of_getElem? (i := 24) (by decide +kernel), List.mem_of_getElem? (i := 318) (by decide +kernel), List.mem_of_getElem? (i := 319) (by decide +kernel)⟩
theorem lw_p20 : lw_okq (⟨"LimbRows$Row", "shiftUp", "(I)V"⟩, 2) := ⟨⟨by decide +kernel, by decide +kernel⟩, List.mem_of_getElem? (i := 24) (by decide +kernel), List.mem_of_getElem? (i := 333) (by decide +kernel), List.mem_of_getElem? (i := 334) (by decide +kernel)⟩
theorem lw_p21 : lw_okq (⟨"LimbRows$Row", "pairAt", "(I)J"⟩, 2) := ⟨⟨by decide +kernel, by decide +kernel⟩, List.mem_of_getElem? (i := 24) (by decide +kernel), List.mem_of_getElem? (i := 337) (by decide +kernel), List.mem_of_getElem? (i := 338) (by decide +kernel)⟩
theorem lw_p22 : lw_okq (⟨"LimbRows$Row", "shiftDown", "(I)V"⟩, 2) := ⟨⟨by decide +kernel, by decide +kernel⟩, List.mem_of_getElem? (i := 24) (by decide +kernel), List.mem_of_getElem? (i := 348) (by decide +kernel), List.mem_of_getElem? (i := 349) (by decide +kernel)⟩
theorem lw_p23 : lw_okq (⟨"LimbRows$Row", "roundsUp", "(I)Z"⟩, 2) := ⟨⟨by decide +kernel, by decide +kernel⟩, List.mem_of_getElem? (i := 24) (by decide +kernel), List.mem_of_getElem? (i := 359) (by decide +kernel), List.mem_of_getElem? (i := 360) (by decide +kernel)⟩
theorem lw_p24 : lw_okq (⟨"LimbRows$Row", "bitAt", "(I)I"⟩, 2) := ⟨⟨by decide +kernel, by decide +kernel⟩, List.mem_of_getElem? (i := 24) (by decide +kernel), List.mem_of_getElem? (i := 363) (by decide +kernel), List.mem_of_getElem? (i := 364) (by decide +kernel)⟩
theorem lw_p25 : lw_okq (⟨"LimbRows$Row", "trailingZeros", "()I"⟩, 2) := ⟨⟨by decide +kernel, by decide +kernel⟩, List.mem_of_getElem? (i := 24) (by decide +kernel), List.mem_of_getElem? (i := 367) (by decide +kernel), List.mem_of_getElem? (i := 368) (by decide +kernel)⟩
theorem lw_p26 : lw_okq (⟨"LimbRows$Row", "divideBy", "(J)J"⟩, 2) := ⟨⟨by decide +kernel, by decide +kernel⟩, List.mem_of_getElem? (i := 24) (by decide +kernel), List.mem_of_getElem? (i := 384) (by decide +kernel), List.mem_of_getElem? (i := 385) (by decide +kernel)⟩
theorem lw_p27 : lw_okq (⟨"LimbRows$Row", "divideLimbs", "(J)J"⟩, 2) := ⟨⟨by decide +kernel, by decide +kernel⟩, List.mem_of_getElem? (i := 24) (by decide +kernel), List.mem_of_getElem? (i := 388) (by decide +kernel), List.mem_of_getElem? (i := 389) (by decide +kernel)⟩
theorem lw_p28 : lw_okq (⟨"LimbRows$Row", "divideLimb", "(IJJ)J"⟩, 2) := ⟨⟨by decide +kernel, by decide +kernel⟩, List.mem_of_getElem? (i := 24) (by decide +kernel), List.mem_of_getElem? (i := 392) (by decide +kernel), List.mem_of_getElem? (i := 393) (by decide +kernel)⟩
theorem lw_p29 : lw_okq (⟨"LimbRows$Row", "order", "(LLimbRows$Row;)I"⟩, 2) := ⟨⟨by decide +kernel, by decide +kernel⟩, List.mem_of_getElem? (i := 24) (by decide +kernel), List.mem_of_getElem? (i := 426) (by decide +kernel), List.mem_of_getElem? (i := 427) (by decide +kernel)⟩
theorem lw_p30 : lw_okq (⟨"LimbRowsModel", "refuses", "(I)Z"⟩, 5) := ⟨⟨by decide +kernel, by decide +kernel⟩, List.mem_of_getElem? (i := 436) (by decide +kernel), List.mem_of_getElem? (i := 470) (by decide +kernel), List.mem_of_getElem? (i := 471) (by decide +kernel)⟩
theorem lw_p31 : lw_okq (⟨"LimbRowsModel", "load", "(II)V"⟩, 5) := ⟨⟨by decide +kernel, by decide +kernel⟩, List.mem_of_getElem? (i := 436) (by decide +kernel), List.mem_of_getElem? (i := 474) (by decide +kernel), List.mem_of_getElem? (i := 475) (by decide +kernel)⟩
def lw_privs_2 : List (MethodName × Nat) := [(⟨"LimbRows$Row", "complement", "()V"⟩, 2), (⟨"LimbRows$Row", "multiplyBy", "(J)V"⟩, 2), (⟨"LimbRows$Row", "turnRound", "()Z"⟩, 2), (⟨"LimbRows$Row", "increment", "()V"⟩, 2), (⟨"LimbRows$Row", "shiftUp", "(I)V"⟩, 2), (⟨"LimbRows$Row", "pairAt", "(I)J"⟩, 2), (⟨"LimbRows$Row", "shiftDown", "(I)V"⟩, 2), (⟨"LimbRows$Row", "roundsUp", "(I)Z"⟩, 2), (⟨"LimbRows$Row", "bitAt", "(I)I"⟩, 2), (⟨"LimbRows$Row", "trailingZeros", "()I"⟩, 2), (⟨"LimbRows$Row", "divideBy", "(J)J"⟩, 2), (⟨"LimbRows$Row", "divideLimbs", "(J)J"⟩, 2), (⟨"LimbRows$Row", "divideLimb", "(IJJ)J"⟩, 2), (⟨"LimbRows$Row", "order", "(LLimbRows$Row;)I"⟩, 2), (⟨"LimbRowsModel", "refuses", "(I)Z"⟩, 5), (⟨"LimbRowsModel", "load", "(II)V"⟩, 5)]
theorem lw_r2 : ∀ q ∈ lw_privs_2, lw_okq q := List.forall_mem_cons.mpr ⟨lw_p16, List.forall_mem_cons.mpr ⟨lw_p17, List.forall_mem_cons.mpr ⟨lw_p18, List.forall_mem_cons.mpr ⟨lw_p19, List.forall_mem_cons.mpr ⟨lw_p20, List.forall_mem_cons.mpr ⟨lw_p21, List.forall_mem_cons.mpr ⟨lw_p22, List.forall_mem_cons.mpr ⟨lw_p23, List.forall_mem_cons.mpr ⟨lw_p24, List.forall_mem_cons.mpr ⟨lw_p25, List.forall_mem_cons.mpr ⟨lw_p26, List.forall_mem_cons.mpr ⟨lw_p27, List.forall_mem_cons.mpr ⟨lw_p28, List.forall_mem_cons.mpr ⟨lw_p29, List.forall_mem_cons.mpr ⟨lw_p30, List.forall_mem_cons.mpr ⟨lw_p31, fun _ h => absurd h List.not_mem_nil⟩⟩⟩⟩⟩⟩⟩⟩⟩⟩⟩⟩⟩⟩⟩⟩
theorem lw_p32 : lw_okq (⟨"LimbRowsModel", "clear", "(I)V"⟩, 5) := ⟨⟨by decide +kernel, by decide +kernel⟩, List.mem_of_getElem? (i := 436) (by decide +kernel), List.mem_of_getElem? (i := 478) (by decide +kernel), List.mem_of_getElem? (i := 479) (by decide +kernel)⟩
theorem lw_p33 : lw_okq (⟨"LimbRowsModel", "isZero", "(I)Z"⟩, 5) := ⟨⟨by decide +kernel, by decide +kernel⟩, List.mem_of_getElem? (i := 436) (by decide +kernel), List.mem_of_getElem? (i := 484) (by decide +kernel), List.mem_of_getElem? (i := 485) (by decide +kernel)⟩
theorem lw_p34 : lw_okq (⟨"LimbRowsModel", "store", "(II)Z"⟩, 5) := ⟨⟨by decide +kernel, by decide +kernel⟩, List.mem_of_getElem? (i := 436) (by decide +kernel), List.mem_of_getElem? (i := 488) (by decide +kernel), List.mem_of_getElem? (i := 489) (by decide +kernel)⟩
theorem lw_p35 : lw_okq (⟨"LimbRowsModel", "lengthOf", "(I)I"⟩, 5) := ⟨⟨by decide +kernel, by decide +kernel⟩, List.mem_of_getElem? (i := 436) (by decide +kernel), List.mem_of_getElem? (i := 492) (by decide +kernel), List.mem_of_getElem? (i := 493) (by decide +kernel)⟩
theorem lw_p36 : lw_okq (⟨"LimbRowsModel", "bits", "(I)I"⟩, 5) := ⟨⟨by decide +kernel, by decide +kernel⟩, List.mem_of_getElem? (i := 436) (by decide +kernel), List.mem_of_getElem? (i := 496) (by decide +kernel), List.mem_of_getElem? (i := 497) (by decide +kernel)⟩
theorem lw_p37 : lw_okq (⟨"LimbRowsModel", "zerosOf", "(I)I"⟩, 5) := ⟨⟨by decide +kernel, by decide +kernel⟩, List.mem_of_getElem? (i := 436) (by decide +kernel), List.mem_of_getElem? (i := 500) (by decide +kernel), List.mem_of_getElem? (i := 501) (by decide +kernel)⟩
theorem lw_p38 : lw_okq (⟨"LimbRowsModel", "bit", "(II)I"⟩, 5) := ⟨⟨by decide +kernel, by decide +kernel⟩, List.mem_of_getElem? (i := 436) (by decide +kernel), List.mem_of_getElem? (i := 504) (by decide +kernel), List.mem_of_getElem? (i := 505) (by decide +kernel)⟩
theorem lw_p39 : lw_okq (⟨"LimbRowsModel", "loadLong", "(IJ)V"⟩, 5) := ⟨⟨by decide +kernel, by decide +kernel⟩, List.mem_of_getElem? (i := 436) (by decide +kernel), List.mem_of_getElem? (i := 516) (by decide +kernel), List.mem_of_getElem? (i := 517) (by decide +kernel)⟩
theorem lw_p40 : lw_okq (⟨"LimbRowsModel", "limbOf", "(II)I"⟩, 5) := ⟨⟨by decide +kernel, by decide +kernel⟩, List.mem_of_getElem? (i := 436) (by decide +kernel), List.mem_of_getElem? (i := 525) (by decide +kernel), List.mem_of_getElem? (i := 526) (by decide +kernel)⟩
theorem lw_p41 : lw_okq (⟨"LimbRowsModel", "signOf", "(I)I"⟩, 5) := ⟨⟨by decide +kernel, by decide +kernel⟩, List.mem_of_getElem? (i := 436) (by decide +kernel), List.mem_of_getElem? (i := 533) (by decide +kernel), List.mem_of_getElem? (i := 534) (by decide +kernel)⟩
theorem lw_p42 : lw_okq (⟨"LimbRowsModel", "together", "(IIZ)I"⟩, 5) := ⟨⟨by decide +kernel, by decide +kernel⟩, List.mem_of_getElem? (i := 436) (by decide +kernel), List.mem_of_getElem? (i := 545) (by decide +kernel), List.mem_of_getElem? (i := 546) (by decide +kernel)⟩
theorem lw_p43 : lw_okq (⟨"LimbRowsModel", "combine", "(IIZ)V"⟩, 5) := ⟨⟨by decide +kernel, by decide +kernel⟩, List.mem_of_getElem? (i := 436) (by decide +kernel), List.mem_of_getElem? (i := 549) (by decide +kernel), List.mem_of_getElem? (i := 550) (by decide +kernel)⟩
theorem lw_p44 : lw_okq (⟨"LimbRowsModel", "compareSizes", "(II)I"⟩, 5) := ⟨⟨by decide +kernel, by decide +kernel⟩, List.mem_of_getElem? (i := 436) (by decide +kernel), List.mem_of_getElem? (i := 553) (by decide +kernel), List.mem_of_getElem? (i := 554) (by decide +kernel)⟩
theorem lw_p45 : lw_okq (⟨"LimbRowsModel", "kept", "(II)I"⟩, 5) := ⟨⟨by decide +kernel, by decide +kernel⟩, List.mem_of_getElem? (i := 436) (by decide +kernel), List.mem_of_getElem? (i := 557) (by decide +kernel), List.mem_of_getElem? (i := 558) (by decide +kernel)⟩
theorem lw_p46 : lw_okq (⟨"LimbRowsModel", "product", "(IIIZ)I"⟩, 5) := ⟨⟨by decide +kernel, by decide +kernel⟩, List.mem_of_getElem? (i := 436) (by decide +kernel), List.mem_of_getElem? (i := 569) (by decide +kernel), List.mem_of_getElem? (i := 570) (by decide +kernel)⟩
theorem lw_p47 : lw_okq (⟨"LimbRowsModel", "multiply", "()V"⟩, 5) := ⟨⟨by decide +kernel, by decide +kernel⟩, List.mem_of_getElem? (i := 436) (by decide +kernel), List.mem_of_getElem? (i := 573) (by decide +kernel), List.mem_of_getElem? (i := 574) (by decide +kernel)⟩
def lw_privs_3 : List (MethodName × Nat) := [(⟨"LimbRowsModel", "clear", "(I)V"⟩, 5), (⟨"LimbRowsModel", "isZero", "(I)Z"⟩, 5), (⟨"LimbRowsModel", "store", "(II)Z"⟩, 5), (⟨"LimbRowsModel", "lengthOf", "(I)I"⟩, 5), (⟨"LimbRowsModel", "bits", "(I)I"⟩, 5), (⟨"LimbRowsModel", "zerosOf", "(I)I"⟩, 5), (⟨"LimbRowsModel", "bit", "(II)I"⟩, 5), (⟨"LimbRowsModel", "loadLong", "(IJ)V"⟩, 5), (⟨"LimbRowsModel", "limbOf", "(II)I"⟩, 5), (⟨"LimbRowsModel", "signOf", "(I)I"⟩, 5), (⟨"LimbRowsModel", "together", "(IIZ)I"⟩, 5), (⟨"LimbRowsModel", "combine", "(IIZ)V"⟩, 5), (⟨"LimbRowsModel", "compareSizes", "(II)I"⟩, 5), (⟨"LimbRowsModel", "kept", "(II)I"⟩, 5), (⟨"LimbRowsModel", "product", "(IIIZ)I"⟩, 5), (⟨"LimbRowsModel", "multiply", "()V"⟩, 5)]
theorem lw_r3 : ∀ q ∈ lw_privs_3, lw_okq q := List.forall_mem_cons.mpr ⟨lw_p32, List.forall_mem_cons.mpr ⟨lw_p33, List.forall_mem_cons.mpr ⟨lw_p34, List.forall_mem_cons.mpr ⟨lw_p35, List.forall_mem_cons.mpr ⟨lw_p36, List.forall_mem_cons.mpr ⟨lw_p37, List.forall_mem_cons.mpr ⟨lw_p38, List.forall_mem_cons.mpr ⟨lw_p39, List.forall_mem_cons.mpr ⟨lw_p40, List.forall_mem_cons.mpr ⟨lw_p41, List.forall_mem_cons.mpr ⟨lw_p42, List.forall_mem_cons.mpr ⟨lw_p43, List.forall_mem_cons.mpr ⟨lw_p44, List.forall_mem_cons.mpr ⟨lw_p45, List.forall_mem_cons.mpr ⟨lw_p46, List.forall_mem_cons.mpr ⟨lw_p47, fun _ h => absurd h List.not_mem_nil⟩⟩⟩⟩⟩⟩⟩⟩⟩⟩⟩⟩⟩⟩⟩⟩
theorem lw_p48 : lw_okq (⟨"LimbRowsModel", "halve", "(IZ)V"⟩, 5) := ⟨⟨by decide +kernel, by decide +kernel⟩, List.mem_of_getElem? (i := 436) (by decide +kernel), List.mem_of_getElem? (i := 598) (by decide +kernel), List.mem_of_getElem? (i := 599) (by decide +kernel)⟩
def lw_privs_4 : List (MethodName × Nat) := [(⟨"LimbRowsModel", "halve", "(IZ)V"⟩, 5)]
theorem lw_r4 : ∀ q ∈ lw_privs_4, lw_okq q := List.forall_mem_cons.mpr ⟨lw_p48, fun _ h => absurd h List.not_mem_nil⟩
def lw_privs : List (MethodName × Nat) := lw_privs_1 ++ (lw_privs_2 ++ (lw_privs_3 ++ (lw_privs_4)))
def lw_tbl : List Cond := k2_sels lw_privs ++ tables_1
theorem lw_privs_ok : ∀ q ∈ lw_privs, lw_okq q := by
  show ∀ q ∈ lw_privs_1 ++ (lw_privs_2 ++ (lw_privs_3 ++ (lw_privs_4))), lw_okq q
  exact List.forall_mem_append.mpr ⟨lw_r1, List.forall_mem_append.mpr ⟨lw_r2, List.forall_mem_append.mpr ⟨lw_r3, lw_r4⟩⟩⟩

/-! names of methods -/
abbrev b_X1_init : ByteArray := prog_1_method_1_code
def y_X1_init : MethodName := ⟨"LimbRows", "<init>", "()V"⟩
abbrev b_X0_init : ByteArray := prog_2_method_1_code
def y_X0_init : MethodName := ⟨"LimbRows$Row", "<init>", "()V"⟩
abbrev b_L_widen : ByteArray := method_3_code
def y_L_widen : MethodName := ⟨"LimbRowsLaw", "widen", "(LLimbRows;II[J)I"⟩
abbrev b_X1_widen : ByteArray := prog_1_method_2_code
def y_X1_widen : MethodName := ⟨"LimbRows", "widen", "(II)Z"⟩
abbrev b_X1_rowAt : ByteArray := prog_1_method_22_code
def y_X1_rowAt : MethodName := ⟨"LimbRows", "rowAt", "(I)LLimbRows$Row;"⟩
abbrev b_X0_changeWidth : ByteArray := prog_2_method_7_code
def y_X0_changeWidth : MethodName := ⟨"LimbRows$Row", "changeWidth", "(I)Z"⟩
abbrev b_X0_fitsIn : ByteArray := prog_2_method_6_code
def y_X0_fitsIn : MethodName := ⟨"LimbRows$Row", "fitsIn", "(I)Z"⟩
abbrev b_X0_limbAt : ByteArray := prog_2_method_4_code
def y_X0_limbAt : MethodName := ⟨"LimbRows$Row", "limbAt", "(I)I"⟩
abbrev b_JA_copyOf : ByteArray := prog_16_method_123_code
def y_JA_copyOf : MethodName := ⟨"java/util/Arrays", "copyOf", "([II)[I"⟩
abbrev b_JM_min : ByteArray := prog_11_method_69_code
def y_JM_min : MethodName := ⟨"java/lang/Math", "min", "(II)I"⟩
abbrev b_L_width : ByteArray := method_4_code
def y_L_width : MethodName := ⟨"LimbRowsLaw", "width", "(LLimbRows;I[J)I"⟩
abbrev b_X1_width : ByteArray := prog_1_method_3_code
def y_X1_width : MethodName := ⟨"LimbRows", "width", "(I)I"⟩
abbrev b_L_set : ByteArray := method_5_code
def y_L_set : MethodName := ⟨"LimbRowsLaw", "set", "(LLimbRows;IJ[J)I"⟩
abbrev b_X1_set : ByteArray := prog_1_method_4_code
def y_X1_set : MethodName := ⟨"LimbRows", "set", "(IJ)Z"⟩
abbrev b_X0_keepLong : ByteArray := prog_2_method_8_code
def y_X0_keepLong : MethodName := ⟨"LimbRows$Row", "keepLong", "(J)Z"⟩
abbrev b_L_put : ByteArray := method_6_code
def y_L_put : MethodName := ⟨"LimbRowsLaw", "put", "(LLimbRows;III[J)I"⟩
abbrev b_X1_put : ByteArray := prog_1_method_5_code
def y_X1_put : MethodName := ⟨"LimbRows", "put", "(III)I"⟩
abbrev b_L_limb : ByteArray := method_7_code
def y_L_limb : MethodName := ⟨"LimbRowsLaw", "limb", "(LLimbRows;II[J)I"⟩
abbrev b_X1_limb : ByteArray := prog_1_method_6_code
def y_X1_limb : MethodName := ⟨"LimbRows", "limb", "(II)I"⟩
abbrev b_L_copy : ByteArray := method_8_code
def y_L_copy : MethodName := ⟨"LimbRowsLaw", "copy", "(LLimbRows;II[J)I"⟩
abbrev b_X1_copy : ByteArray := prog_1_method_7_code
def y_X1_copy : MethodName := ⟨"LimbRows", "copy", "(II)Z"⟩
abbrev b_X0_keepRow : ByteArray := prog_2_method_9_code
def y_X0_keepRow : MethodName := ⟨"LimbRows$Row", "keepRow", "(LLimbRows$Row;)Z"⟩
abbrev b_L_add : ByteArray := method_9_code
def y_L_add : MethodName := ⟨"LimbRowsLaw", "add", "(LLimbRows;II[J)I"⟩
abbrev b_X1_add : ByteArray := prog_1_method_8_code
def y_X1_add : MethodName := ⟨"LimbRows", "add", "(II)I"⟩
abbrev b_X0_addFrom : ByteArray := prog_2_method_10_code
def y_X0_addFrom : MethodName := ⟨"LimbRows$Row", "addFrom", "(ILLimbRows$Row;)V"⟩
abbrev b_X0_addLimbs : ByteArray := prog_2_method_12_code
def y_X0_addLimbs : MethodName := ⟨"LimbRows$Row", "addLimbs", "(ILLimbRows$Row;I)V"⟩
abbrev b_X0_unsigned : ByteArray := prog_2_method_2_code
def y_X0_unsigned : MethodName := ⟨"LimbRows$Row", "unsigned", "(I)J"⟩
abbrev b_X0_signum : ByteArray := prog_2_method_29_code
def y_X0_signum : MethodName := ⟨"LimbRows$Row", "signum", "()I"⟩
abbrev b_X0_isNegative : ByteArray := prog_2_method_3_code
def y_X0_isNegative : MethodName := ⟨"LimbRows$Row", "isNegative", "()Z"⟩
abbrev b_L_subtract : ByteArray := method_10_code
def y_L_subtract : MethodName := ⟨"LimbRowsLaw", "subtract", "(LLimbRows;II[J)I"⟩
abbrev b_X1_subtract : ByteArray := prog_1_method_9_code
def y_X1_subtract : MethodName := ⟨"LimbRows", "subtract", "(II)I"⟩
abbrev b_X0_subtractFrom : ByteArray := prog_2_method_11_code
def y_X0_subtractFrom : MethodName := ⟨"LimbRows$Row", "subtractFrom", "(ILLimbRows$Row;)V"⟩
abbrev b_L_addProduct : ByteArray := method_11_code
def y_L_addProduct : MethodName := ⟨"LimbRowsLaw", "addProduct", "(LLimbRows;III[J)I"⟩
abbrev b_X1_addProduct : ByteArray := prog_1_method_10_code
def y_X1_addProduct : MethodName := ⟨"LimbRows", "addProduct", "(III)I"⟩
abbrev b_X1_refuseOwnFactor : ByteArray := prog_1_method_23_code
def y_X1_refuseOwnFactor : MethodName := ⟨"LimbRows", "refuseOwnFactor", "(III)V"⟩
abbrev b_X0_addProductOf : ByteArray := prog_2_method_13_code
def y_X0_addProductOf : MethodName := ⟨"LimbRows$Row", "addProductOf", "(LLimbRows$Row;LLimbRows$Row;)V"⟩
abbrev b_X0_bitLength : ByteArray := prog_2_method_28_code
def y_X0_bitLength : MethodName := ⟨"LimbRows$Row", "bitLength", "()I"⟩
abbrev b_JI_numberOfLeadingZeros : ByteArray := prog_9_method_47_code
def y_JI_numberOfLeadingZeros : MethodName := ⟨"java/lang/Integer", "numberOfLeadingZeros", "(I)I"⟩
abbrev b_X0_addMultiple : ByteArray := prog_2_method_14_code
def y_X0_addMultiple : MethodName := ⟨"LimbRows$Row", "addMultiple", "(IJLLimbRows$Row;)V"⟩
abbrev b_L_subtractProduct : ByteArray := method_12_code
def y_L_subtractProduct : MethodName := ⟨"LimbRowsLaw", "subtractProduct", "(LLimbRows;III[J)I"⟩
abbrev b_X1_subtractProduct : ByteArray := prog_1_method_11_code
def y_X1_subtractProduct : MethodName := ⟨"LimbRows", "subtractProduct", "(III)I"⟩
abbrev b_X0_subtractProductOf : ByteArray := prog_2_method_15_code
def y_X0_subtractProductOf : MethodName := ⟨"LimbRows$Row", "subtractProductOf", "(LLimbRows$Row;LLimbRows$Row;)V"⟩
abbrev b_X0_complement : ByteArray := prog_2_method_16_code
def y_X0_complement : MethodName := ⟨"LimbRows$Row", "complement", "()V"⟩
abbrev b_L_times : ByteArray := method_13_code
def y_L_times : MethodName := ⟨"LimbRowsLaw", "times", "(LLimbRows;IJ[J)I"⟩
abbrev b_X1_times : ByteArray := prog_1_method_12_code
def y_X1_times : MethodName := ⟨"LimbRows", "times", "(IJ)I"⟩
abbrev b_X0_multiplyBy : ByteArray := prog_2_method_18_code
def y_X0_multiplyBy : MethodName := ⟨"LimbRows$Row", "multiplyBy", "(J)V"⟩
abbrev b_L_negate : ByteArray := method_14_code
def y_L_negate : MethodName := ⟨"LimbRowsLaw", "negate", "(LLimbRows;I[J)I"⟩
abbrev b_X1_negate : ByteArray := prog_1_method_13_code
def y_X1_negate : MethodName := ⟨"LimbRows", "negate", "(I)Z"⟩
abbrev b_X0_turnRound : ByteArray := prog_2_method_19_code
def y_X0_turnRound : MethodName := ⟨"LimbRows$Row", "turnRound", "()Z"⟩
abbrev b_X0_increment : ByteArray := prog_2_method_17_code
def y_X0_increment : MethodName := ⟨"LimbRows$Row", "increment", "()V"⟩
abbrev b_L_left : ByteArray := method_15_code
def y_L_left : MethodName := ⟨"LimbRowsLaw", "left", "(LLimbRows;II[J)I"⟩
abbrev b_X1_left : ByteArray := prog_1_method_14_code
def y_X1_left : MethodName := ⟨"LimbRows", "left", "(II)I"⟩
abbrev b_X1_refuseShift : ByteArray := prog_1_method_24_code
def y_X1_refuseShift : MethodName := ⟨"LimbRows", "refuseShift", "(I)V"⟩
abbrev b_X0_shiftUp : ByteArray := prog_2_method_21_code
def y_X0_shiftUp : MethodName := ⟨"LimbRows$Row", "shiftUp", "(I)V"⟩
abbrev b_X0_pairAt : ByteArray := prog_2_method_20_code
def y_X0_pairAt : MethodName := ⟨"LimbRows$Row", "pairAt", "(I)J"⟩
abbrev b_L_right : ByteArray := method_16_code
def y_L_right : MethodName := ⟨"LimbRowsLaw", "right", "(LLimbRows;II[J)I"⟩
abbrev b_X1_right : ByteArray := prog_1_method_15_code
def y_X1_right : MethodName := ⟨"LimbRows", "right", "(II)I"⟩
abbrev b_X0_shiftDown : ByteArray := prog_2_method_22_code
def y_X0_shiftDown : MethodName := ⟨"LimbRows$Row", "shiftDown", "(I)V"⟩
abbrev b_L_nearest : ByteArray := method_17_code
def y_L_nearest : MethodName := ⟨"LimbRowsLaw", "nearest", "(LLimbRows;II[J)I"⟩
abbrev b_X1_nearest : ByteArray := prog_1_method_16_code
def y_X1_nearest : MethodName := ⟨"LimbRows", "nearest", "(II)I"⟩
abbrev b_X0_roundsUp : ByteArray := prog_2_method_23_code
def y_X0_roundsUp : MethodName := ⟨"LimbRows$Row", "roundsUp", "(I)Z"⟩
abbrev b_X0_bitAt : ByteArray := prog_2_method_5_code
def y_X0_bitAt : MethodName := ⟨"LimbRows$Row", "bitAt", "(I)I"⟩
abbrev b_X0_trailingZeros : ByteArray := prog_2_method_27_code
def y_X0_trailingZeros : MethodName := ⟨"LimbRows$Row", "trailingZeros", "()I"⟩
abbrev b_JI_numberOfTrailingZeros : ByteArray := prog_9_method_48_code
def y_JI_numberOfTrailingZeros : MethodName := ⟨"java/lang/Integer", "numberOfTrailingZeros", "(I)I"⟩
abbrev b_L_divide : ByteArray := method_18_code
def y_L_divide : MethodName := ⟨"LimbRowsLaw", "divide", "(LLimbRows;IJ[J)I"⟩
abbrev b_X1_divide : ByteArray := prog_1_method_17_code
def y_X1_divide : MethodName := ⟨"LimbRows", "divide", "(IJ)J"⟩
abbrev b_X0_divideBy : ByteArray := prog_2_method_24_code
def y_X0_divideBy : MethodName := ⟨"LimbRows$Row", "divideBy", "(J)J"⟩
abbrev b_X0_divideLimbs : ByteArray := prog_2_method_25_code
def y_X0_divideLimbs : MethodName := ⟨"LimbRows$Row", "divideLimbs", "(J)J"⟩
abbrev b_X0_divideLimb : ByteArray := prog_2_method_26_code
def y_X0_divideLimb : MethodName := ⟨"LimbRows$Row", "divideLimb", "(IJJ)J"⟩
abbrev b_L_zeros : ByteArray := method_19_code
def y_L_zeros : MethodName := ⟨"LimbRowsLaw", "zeros", "(LLimbRows;I[J)I"⟩
abbrev b_X1_zeros : ByteArray := prog_1_method_18_code
def y_X1_zeros : MethodName := ⟨"LimbRows", "zeros", "(I)I"⟩
abbrev b_L_length : ByteArray := method_20_code
def y_L_length : MethodName := ⟨"LimbRowsLaw", "length", "(LLimbRows;I[J)I"⟩
abbrev b_X1_length : ByteArray := prog_1_method_19_code
def y_X1_length : MethodName := ⟨"LimbRows", "length", "(I)I"⟩
abbrev b_L_sign : ByteArray := method_21_code
def y_L_sign : MethodName := ⟨"LimbRowsLaw", "sign", "(LLimbRows;I[J)I"⟩
abbrev b_X1_sign : ByteArray := prog_1_method_20_code
def y_X1_sign : MethodName := ⟨"LimbRows", "sign", "(I)I"⟩
abbrev b_L_compare : ByteArray := method_22_code
def y_L_compare : MethodName := ⟨"LimbRowsLaw", "compare", "(LLimbRows;II[J)I"⟩
abbrev b_X1_compare : ByteArray := prog_1_method_21_code
def y_X1_compare : MethodName := ⟨"LimbRows", "compare", "(II)I"⟩
abbrev b_X0_order : ByteArray := prog_2_method_30_code
def y_X0_order : MethodName := ⟨"LimbRows$Row", "order", "(LLimbRows$Row;)I"⟩
abbrev b_JM_max : ByteArray := prog_11_method_65_code
def y_JM_max : MethodName := ⟨"java/lang/Math", "max", "(II)I"⟩
abbrev b_JL_compare : ByteArray := prog_10_method_42_code
def y_JL_compare : MethodName := ⟨"java/lang/Long", "compare", "(JJ)I"⟩
abbrev b_X2_init : ByteArray := prog_4_method_1_code
def y_X2_init : MethodName := ⟨"LimbRowsModel", "<init>", "()V"⟩
abbrev b_X2_thrown : ByteArray := prog_4_method_2_code
def y_X2_thrown : MethodName := ⟨"LimbRowsModel", "thrown", "()I"⟩
abbrev b_X2_widen : ByteArray := prog_4_method_18_code
def y_X2_widen : MethodName := ⟨"LimbRowsModel", "widen", "(II)Z"⟩
abbrev b_X2_isRow : ByteArray := prog_4_method_4_code
def y_X2_isRow : MethodName := ⟨"LimbRowsModel", "isRow", "(I)Z"⟩
abbrev b_X2_refuses : ByteArray := prog_4_method_3_code
def y_X2_refuses : MethodName := ⟨"LimbRowsModel", "refuses", "(I)Z"⟩
abbrev b_X2_load : ByteArray := prog_4_method_7_code
def y_X2_load : MethodName := ⟨"LimbRowsModel", "load", "(II)V"⟩
abbrev b_X2_clear : ByteArray := prog_4_method_5_code
def y_X2_clear : MethodName := ⟨"LimbRowsModel", "clear", "(I)V"⟩
abbrev b_X2_isZero : ByteArray := prog_4_method_6_code
def y_X2_isZero : MethodName := ⟨"LimbRowsModel", "isZero", "(I)Z"⟩
abbrev b_X2_store : ByteArray := prog_4_method_13_code
def y_X2_store : MethodName := ⟨"LimbRowsModel", "store", "(II)Z"⟩
abbrev b_X2_lengthOf : ByteArray := prog_4_method_12_code
def y_X2_lengthOf : MethodName := ⟨"LimbRowsModel", "lengthOf", "(I)I"⟩
abbrev b_X2_bits : ByteArray := prog_4_method_9_code
def y_X2_bits : MethodName := ⟨"LimbRowsModel", "bits", "(I)I"⟩
abbrev b_X2_zerosOf : ByteArray := prog_4_method_11_code
def y_X2_zerosOf : MethodName := ⟨"LimbRowsModel", "zerosOf", "(I)I"⟩
abbrev b_X2_bit : ByteArray := prog_4_method_10_code
def y_X2_bit : MethodName := ⟨"LimbRowsModel", "bit", "(II)I"⟩
abbrev b_X2_width : ByteArray := prog_4_method_19_code
def y_X2_width : MethodName := ⟨"LimbRowsModel", "width", "(I)I"⟩
abbrev b_X2_set : ByteArray := prog_4_method_20_code
def y_X2_set : MethodName := ⟨"LimbRowsModel", "set", "(IJ)Z"⟩
abbrev b_X2_loadLong : ByteArray := prog_4_method_8_code
def y_X2_loadLong : MethodName := ⟨"LimbRowsModel", "loadLong", "(IJ)V"⟩
abbrev b_X2_put : ByteArray := prog_4_method_22_code
def y_X2_put : MethodName := ⟨"LimbRowsModel", "put", "(III)I"⟩
abbrev b_X2_limbOf : ByteArray := prog_4_method_21_code
def y_X2_limbOf : MethodName := ⟨"LimbRowsModel", "limbOf", "(II)I"⟩
abbrev b_X2_limb : ByteArray := prog_4_method_23_code
def y_X2_limb : MethodName := ⟨"LimbRowsModel", "limb", "(II)I"⟩
abbrev b_X2_signOf : ByteArray := prog_4_method_14_code
def y_X2_signOf : MethodName := ⟨"LimbRowsModel", "signOf", "(I)I"⟩
abbrev b_X2_copy : ByteArray := prog_4_method_24_code
def y_X2_copy : MethodName := ⟨"LimbRowsModel", "copy", "(II)Z"⟩
abbrev b_X2_add : ByteArray := prog_4_method_27_code
def y_X2_add : MethodName := ⟨"LimbRowsModel", "add", "(II)I"⟩
abbrev b_X2_together : ByteArray := prog_4_method_26_code
def y_X2_together : MethodName := ⟨"LimbRowsModel", "together", "(IIZ)I"⟩
abbrev b_X2_combine : ByteArray := prog_4_method_16_code
def y_X2_combine : MethodName := ⟨"LimbRowsModel", "combine", "(IIZ)V"⟩
abbrev b_X2_compareSizes : ByteArray := prog_4_method_15_code
def y_X2_compareSizes : MethodName := ⟨"LimbRowsModel", "compareSizes", "(II)I"⟩
abbrev b_X2_kept : ByteArray := prog_4_method_25_code
def y_X2_kept : MethodName := ⟨"LimbRowsModel", "kept", "(II)I"⟩
abbrev b_X2_subtract : ByteArray := prog_4_method_28_code
def y_X2_subtract : MethodName := ⟨"LimbRowsModel", "subtract", "(II)I"⟩
abbrev b_X2_addProduct : ByteArray := prog_4_method_30_code
def y_X2_addProduct : MethodName := ⟨"LimbRowsModel", "addProduct", "(III)I"⟩
abbrev b_X2_product : ByteArray := prog_4_method_29_code
def y_X2_product : MethodName := ⟨"LimbRowsModel", "product", "(IIIZ)I"⟩
abbrev b_X2_multiply : ByteArray := prog_4_method_17_code
def y_X2_multiply : MethodName := ⟨"LimbRowsModel", "multiply", "()V"⟩
abbrev b_X2_subtractProduct : ByteArray := prog_4_method_31_code
def y_X2_subtractProduct : MethodName := ⟨"LimbRowsModel", "subtractProduct", "(III)I"⟩
abbrev b_X2_times : ByteArray := prog_4_method_32_code
def y_X2_times : MethodName := ⟨"LimbRowsModel", "times", "(IJ)I"⟩
abbrev b_X2_negate : ByteArray := prog_4_method_33_code
def y_X2_negate : MethodName := ⟨"LimbRowsModel", "negate", "(I)Z"⟩
abbrev b_X2_left : ByteArray := prog_4_method_34_code
def y_X2_left : MethodName := ⟨"LimbRowsModel", "left", "(II)I"⟩
abbrev b_X2_right : ByteArray := prog_4_method_36_code
def y_X2_right : MethodName := ⟨"LimbRowsModel", "right", "(II)I"⟩
abbrev b_X2_halve : ByteArray := prog_4_method_35_code
def y_X2_halve : MethodName := ⟨"LimbRowsModel", "halve", "(IZ)V"⟩
abbrev b_X2_nearest : ByteArray := prog_4_method_37_code
def y_X2_nearest : MethodName := ⟨"LimbRowsModel", "nearest", "(II)I"⟩
abbrev b_X2_divide : ByteArray := prog_4_method_38_code
def y_X2_divide : MethodName := ⟨"LimbRowsModel", "divide", "(IJ)J"⟩
abbrev b_X2_zeros : ByteArray := prog_4_method_39_code
def y_X2_zeros : MethodName := ⟨"LimbRowsModel", "zeros", "(I)I"⟩
abbrev b_X2_length : ByteArray := prog_4_method_40_code
def y_X2_length : MethodName := ⟨"LimbRowsModel", "length", "(I)I"⟩
abbrev b_X2_sign : ByteArray := prog_4_method_41_code
def y_X2_sign : MethodName := ⟨"LimbRowsModel", "sign", "(I)I"⟩
abbrev b_X2_compare : ByteArray := prog_4_method_42_code
def y_X2_compare : MethodName := ⟨"LimbRowsModel", "compare", "(II)I"⟩
end
section
/-! the words that a warmer table keeps, each by its place in lw_tbl -/
def gw : List Cond := lw_tbl.filter goodWord
theorem gw_mem {w : Cond} (k : Nat) (h : lw_tbl[k]? = some w) (hg : goodWord w = true) : w ∈ gw := List.mem_filter.mpr ⟨List.mem_of_getElem? h, hg⟩
theorem gw_tbl {w : Cond} (h : w ∈ gw) : w ∈ lw_tbl := (List.mem_filter.mp h).1
theorem gw_good : GoodIn gw gw := fun w h => ⟨h, good_of_word (List.mem_filter.mp h).2⟩
theorem gw_call {c : Cond} (h : c ∈ gw) : GoodIn gw (c :: gw) := fun w hw => (List.mem_cons.mp hw).elim (fun e => by rw [e]; exact gw_good _ h) (gw_good w)
theorem k_0 : (.selects "LimbRows" y_X1_rowAt y_X1_rowAt : Cond) ∈ gw := gw_mem 0 (by decide +kernel) (by decide +kernel)
theorem k_1 : (.selects "java/lang/Throwable" ⟨"java/lang/Throwable", "fillInStackTrace", "(I)Ljava/lang/Throwable;"⟩ ⟨"java/lang/Throwable", "fillInStackTrace", "(I)Ljava/lang/Throwable;"⟩ : Cond) ∈ gw := gw_mem 1 (by decide +kernel) (by decide +kernel)
theorem k_2 : (.selects "LimbRows$Row" y_X0_changeWidth y_X0_changeWidth : Cond) ∈ gw := gw_mem 2 (by decide +kernel) (by decide +kernel)
theorem k_3 : (.selects "LimbRows$Row" y_X0_fitsIn y_X0_fitsIn : Cond) ∈ gw := gw_mem 3 (by decide +kernel) (by decide +kernel)
theorem k_4 : (.selects "LimbRows$Row" y_X0_limbAt y_X0_limbAt : Cond) ∈ gw := gw_mem 4 (by decide +kernel) (by decide +kernel)
theorem k_5 : (.selects "LimbRows$Row" y_X0_keepLong y_X0_keepLong : Cond) ∈ gw := gw_mem 5 (by decide +kernel) (by decide +kernel)
theorem k_6 : (.selects "LimbRows$Row" y_X0_keepRow y_X0_keepRow : Cond) ∈ gw := gw_mem 6 (by decide +kernel) (by decide +kernel)
theorem k_7 : (.selects "LimbRows$Row" y_X0_addFrom y_X0_addFrom : Cond) ∈ gw := gw_mem 7 (by decide +kernel) (by decide +kernel)
theorem k_8 : (.selects "LimbRows$Row" y_X0_addLimbs y_X0_addLimbs : Cond) ∈ gw := gw_mem 8 (by decide +kernel) (by decide +kernel)
theorem k_9 : (.selects "LimbRows$Row" y_X0_signum y_X0_signum : Cond) ∈ gw := gw_mem 9 (by decide +kernel) (by decide +kernel)
theorem k_10 : (.selects "LimbRows$Row" y_X0_isNegative y_X0_isNegative : Cond) ∈ gw := gw_mem 10 (by decide +kernel) (by decide +kernel)
theorem k_11 : (.selects "LimbRows$Row" y_X0_subtractFrom y_X0_subtractFrom : Cond) ∈ gw := gw_mem 11 (by decide +kernel) (by decide +kernel)
theorem k_12 : (.selects "LimbRows$Row" y_X0_addProductOf y_X0_addProductOf : Cond) ∈ gw := gw_mem 12 (by decide +kernel) (by decide +kernel)
theorem k_13 : (.selects "LimbRows$Row" y_X0_bitLength y_X0_bitLength : Cond) ∈ gw := gw_mem 13 (by decide +kernel) (by decide +kernel)
theorem k_14 : (.selects "LimbRows$Row" y_X0_addMultiple y_X0_addMultiple : Cond) ∈ gw := gw_mem 14 (by decide +kernel) (by decide +kernel)
theorem k_15 : (.selects "LimbRows$Row" y_X0_subtractProductOf y_X0_subtractProductOf : Cond) ∈ gw := gw_mem 15 (by decide +kernel) (by decide +kernel)
theorem k_16 : (.selects "LimbRows$Row" y_X0_complement y_X0_complement : Cond) ∈ gw := gw_mem 16 (by decide +kernel) (by decide +kernel)
theorem k_17 : (.selects "LimbRows$Row" y_X0_multiplyBy y_X0_multiplyBy : Cond) ∈ gw := gw_mem 17 (by decide +kernel) (by decide +kernel)
theorem k_18 : (.selects "LimbRows$Row" y_X0_turnRound y_X0_turnRound : Cond) ∈ gw := gw_mem 18 (by decide +kernel) (by decide +kernel)
theorem k_19 : (.selects "LimbRows$Row" y_X0_increment y_X0_increment : Cond) ∈ gw := gw_mem 19 (by decide +kernel) (by decide +kernel)
theorem k_20 : (.selects "LimbRows$Row" y_X0_shiftUp y_X0_shiftUp : Cond) ∈ gw := gw_mem 20 (by decide +kernel) (by decide +kernel)
theorem k_21 : (.selects "LimbRows$Row" y_X0_pairAt y_X0_pairAt : Cond) ∈ gw := gw_mem 21 (by decide +kernel) (by decide +kernel)
theorem k_22 : (.selects "LimbRows$Row" y_X0_shiftDown y_X0_shiftDown : Cond) ∈ gw := gw_mem 22 (by decide +kernel) (by decide +kernel)
theorem k_23 : (.selects "LimbRows$Row" y_X0_roundsUp y_X0_roundsUp : Cond) ∈ gw := gw_mem 23 (by decide +kernel) (by decide +kernel)
theorem k_24 : (.selects "LimbRows$Row" y_X0_bitAt y_X0_bitAt : Cond) ∈ gw := gw_mem 24 (by decide +kernel) (by decide +kernel)
theorem k_25 : (.selects "LimbRows$Row" y_X0_trailingZeros y_X0_trailingZeros : Cond) ∈ gw := gw_mem 25 (by decide +kernel) (by decide +kernel)
theorem k_26 : (.selects "LimbRows$Row" y_X0_divideBy y_X0_divideBy : Cond) ∈ gw := gw_mem 26 (by decide +kernel) (by decide +kernel)
theorem k_27 : (.selects "LimbRows$Row" y_X0_divideLimbs y_X0_divideLimbs : Cond) ∈ gw := gw_mem 27 (by decide +kernel) (by decide +kernel)
theorem k_28 : (.selects "LimbRows$Row" y_X0_divideLimb y_X0_divideLimb : Cond) ∈ gw := gw_mem 28 (by decide +kernel) (by decide +kernel)
theorem k_29 : (.selects "LimbRows$Row" y_X0_order y_X0_order : Cond) ∈ gw := gw_mem 29 (by decide +kernel) (by decide +kernel)
theorem k_30 : (.selects "LimbRowsModel" y_X2_refuses y_X2_refuses : Cond) ∈ gw := gw_mem 30 (by decide +kernel) (by decide +kernel)
theorem k_31 : (.selects "LimbRowsModel" y_X2_load y_X2_load : Cond) ∈ gw := gw_mem 31 (by decide +kernel) (by decide +kernel)
theorem k_32 : (.selects "LimbRowsModel" y_X2_clear y_X2_clear : Cond) ∈ gw := gw_mem 32 (by decide +kernel) (by decide +kernel)
theorem k_33 : (.selects "LimbRowsModel" y_X2_isZero y_X2_isZero : Cond) ∈ gw := gw_mem 33 (by decide +kernel) (by decide +kernel)
theorem k_34 : (.selects "LimbRowsModel" y_X2_store y_X2_store : Cond) ∈ gw := gw_mem 34 (by decide +kernel) (by decide +kernel)
theorem k_35 : (.selects "LimbRowsModel" y_X2_lengthOf y_X2_lengthOf : Cond) ∈ gw := gw_mem 35 (by decide +kernel) (by decide +kernel)
theorem k_36 : (.selects "LimbRowsModel" y_X2_bits y_X2_bits : Cond) ∈ gw := gw_mem 36 (by decide +kernel) (by decide +kernel)
theorem k_37 : (.selects "LimbRowsModel" y_X2_zerosOf y_X2_zerosOf : Cond) ∈ gw := gw_mem 37 (by decide +kernel) (by decide +kernel)
theorem k_38 : (.selects "LimbRowsModel" y_X2_bit y_X2_bit : Cond) ∈ gw := gw_mem 38 (by decide +kernel) (by decide +kernel)
theorem k_39 : (.selects "LimbRowsModel" y_X2_loadLong y_X2_loadLong : Cond) ∈ gw := gw_mem 39 (by decide +kernel) (by decide +kernel)
theorem k_40 : (.selects "LimbRowsModel" y_X2_limbOf y_X2_limbOf : Cond) ∈ gw := gw_mem 40 (by decide +kernel) (by decide +kernel)
theorem k_41 : (.selects "LimbRowsModel" y_X2_signOf y_X2_signOf : Cond) ∈ gw := gw_mem 41 (by decide +kernel) (by decide +kernel)
theorem k_42 : (.selects "LimbRowsModel" y_X2_together y_X2_together : Cond) ∈ gw := gw_mem 42 (by decide +kernel) (by decide +kernel)
theorem k_43 : (.selects "LimbRowsModel" y_X2_combine y_X2_combine : Cond) ∈ gw := gw_mem 43 (by decide +kernel) (by decide +kernel)
theorem k_44 : (.selects "LimbRowsModel" y_X2_compareSizes y_X2_compareSizes : Cond) ∈ gw := gw_mem 44 (by decide +kernel) (by decide +kernel)
theorem k_45 : (.selects "LimbRowsModel" y_X2_kept y_X2_kept : Cond) ∈ gw := gw_mem 45 (by decide +kernel) (by decide +kernel)
theorem k_46 : (.selects "LimbRowsModel" y_X2_product y_X2_product : Cond) ∈ gw := gw_mem 46 (by decide +kernel) (by decide +kernel)
theorem k_47 : (.selects "LimbRowsModel" y_X2_multiply y_X2_multiply : Cond) ∈ gw := gw_mem 47 (by decide +kernel) (by decide +kernel)
theorem k_48 : (.selects "LimbRowsModel" y_X2_halve y_X2_halve : Cond) ∈ gw := gw_mem 48 (by decide +kernel) (by decide +kernel)
theorem k_49 : (.initialized "LimbRowsLaw" : Cond) ∈ gw := gw_mem 49 (by decide +kernel) (by decide +kernel)
theorem k_50 : (.initialized "LimbRows" : Cond) ∈ gw := gw_mem 50 (by decide +kernel) (by decide +kernel)
theorem k_51 : (.initialized "LimbRows$Row" : Cond) ∈ gw := gw_mem 51 (by decide +kernel) (by decide +kernel)
theorem k_52 : (.initialized "LimbRowsModel" : Cond) ∈ gw := gw_mem 52 (by decide +kernel) (by decide +kernel)
theorem k_53 : (.initialized "java/lang/Throwable" : Cond) ∈ gw := gw_mem 53 (by decide +kernel) (by decide +kernel)
theorem k_54 : (.initialized "java/lang/Exception" : Cond) ∈ gw := gw_mem 54 (by decide +kernel) (by decide +kernel)
theorem k_55 : (.initialized "java/lang/RuntimeException" : Cond) ∈ gw := gw_mem 55 (by decide +kernel) (by decide +kernel)
theorem k_56 : (.initialized "java/lang/IndexOutOfBoundsException" : Cond) ∈ gw := gw_mem 56 (by decide +kernel) (by decide +kernel)
theorem k_57 : (.initialized "java/lang/IllegalArgumentException" : Cond) ∈ gw := gw_mem 57 (by decide +kernel) (by decide +kernel)
theorem k_58 : (.initialized "java/util/Arrays" : Cond) ∈ gw := gw_mem 58 (by decide +kernel) (by decide +kernel)
theorem k_59 : (.initialized "java/lang/Math" : Cond) ∈ gw := gw_mem 59 (by decide +kernel) (by decide +kernel)
theorem k_60 : (.initialized "java/lang/System" : Cond) ∈ gw := gw_mem 60 (by decide +kernel) (by decide +kernel)
theorem k_61 : (.initialized "java/lang/Integer" : Cond) ∈ gw := gw_mem 61 (by decide +kernel) (by decide +kernel)
theorem k_62 : (.initialized "java/lang/Long" : Cond) ∈ gw := gw_mem 62 (by decide +kernel) (by decide +kernel)
theorem k_63 : (.classLink "LimbRowsLaw" (8) "LimbRows" : Cond) ∈ gw := gw_mem 63 (by decide +kernel) (by decide +kernel)
theorem k_64 : (.instantiable "LimbRows" (1) : Cond) ∈ gw := gw_mem 64 (by decide +kernel) (by decide +kernel)
theorem k_65 : (.methodLink "LimbRowsLaw" (81) y_X1_init : Cond) ∈ gw := gw_mem 65 (by decide +kernel) (by decide +kernel)
theorem k_66 : (.instanceMethod y_X1_init : Cond) ∈ gw := gw_mem 66 (by decide +kernel) (by decide +kernel)
theorem k_67 : (.code y_X1_init prog_1_method_1_code (2) none : Cond) ∈ gw := gw_mem 67 (by decide +kernel) (by decide +kernel)
theorem k_68 : (.methodLink "LimbRows" (1) ⟨"java/lang/Object", "<init>", "()V"⟩ : Cond) ∈ gw := gw_mem 68 (by decide +kernel) (by decide +kernel)
theorem k_69 : (.instanceMethod ⟨"java/lang/Object", "<init>", "()V"⟩ : Cond) ∈ gw := gw_mem 69 (by decide +kernel) (by decide +kernel)
theorem k_70 : (.code ⟨"java/lang/Object", "<init>", "()V"⟩ object_method_1_code (1) none : Cond) ∈ gw := gw_mem 70 (by decide +kernel) (by decide +kernel)
theorem k_71 : (.classLink "LimbRows" (9) "LimbRows$Row" : Cond) ∈ gw := gw_mem 71 (by decide +kernel) (by decide +kernel)
theorem kt_72 : lw_tbl[72]? = some (.arrayOver (.object "LimbRows$Row")) := by decide +kernel
theorem k_73 : (.instantiable "LimbRows$Row" (2) : Cond) ∈ gw := gw_mem 73 (by decide +kernel) (by decide +kernel)
theorem kt_74 : lw_tbl[74]? = some (.methodLinkNest "LimbRows" (15) y_X0_init "LimbRows") := by decide +kernel
theorem k_75 : (.instanceMethod y_X0_init : Cond) ∈ gw := gw_mem 75 (by decide +kernel) (by decide +kernel)
theorem k_76 : (.code y_X0_init prog_2_method_1_code (1) none : Cond) ∈ gw := gw_mem 76 (by decide +kernel) (by decide +kernel)
theorem k_77 : (.methodLink "LimbRows$Row" (3) ⟨"java/lang/Object", "<init>", "()V"⟩ : Cond) ∈ gw := gw_mem 77 (by decide +kernel) (by decide +kernel)
theorem k_78 : (.fieldLink "LimbRows$Row" (9) "LimbRows$Row" "limbs" "[I" : Cond) ∈ gw := gw_mem 78 (by decide +kernel) (by decide +kernel)
theorem kt_79 : lw_tbl[79]? = some (.fieldLinkNest "LimbRows" (44) "LimbRows$Row" "limbs" "[I" "LimbRows") := by decide +kernel
theorem k_80 : (.fieldLink "LimbRows$Row" (15) "LimbRows$Row" "width" "I" : Cond) ∈ gw := gw_mem 80 (by decide +kernel) (by decide +kernel)
theorem kt_81 : lw_tbl[81]? = some (.fieldLinkNest "LimbRows" (31) "LimbRows$Row" "width" "I" "LimbRows") := by decide +kernel
theorem k_82 : (.lays "LimbRows$Row" "LimbRows$Row" "limbs" "[I" : Cond) ∈ gw := gw_mem 82 (by decide +kernel) (by decide +kernel)
theorem k_83 : (.soleField "LimbRows$Row" "limbs" : Cond) ∈ gw := gw_mem 83 (by decide +kernel) (by decide +kernel)
theorem k_84 : (.lays "LimbRows$Row" "LimbRows$Row" "width" "I" : Cond) ∈ gw := gw_mem 84 (by decide +kernel) (by decide +kernel)
theorem k_85 : (.soleField "LimbRows$Row" "width" : Cond) ∈ gw := gw_mem 85 (by decide +kernel) (by decide +kernel)
theorem k_86 : (.superclass "LimbRows$Row" "java/lang/Object" : Cond) ∈ gw := gw_mem 86 (by decide +kernel) (by decide +kernel)
theorem k_87 : (.arrayClass .int : Cond) ∈ gw := gw_mem 87 (by decide +kernel) (by decide +kernel)
theorem k_88 : (.fieldLink "LimbRows" (11) "LimbRows" "rows" "[LLimbRows$Row;" : Cond) ∈ gw := gw_mem 88 (by decide +kernel) (by decide +kernel)
theorem k_89 : (.laysFinal "LimbRows" "LimbRows" "rows" "[LLimbRows$Row;" : Cond) ∈ gw := gw_mem 89 (by decide +kernel) (by decide +kernel)
theorem k_90 : (.soleField "LimbRows" "rows" : Cond) ∈ gw := gw_mem 90 (by decide +kernel) (by decide +kernel)
theorem k_91 : (.superclass "LimbRows" "java/lang/Object" : Cond) ∈ gw := gw_mem 91 (by decide +kernel) (by decide +kernel)
theorem k_92 : (.methodLink "LimbRowsLaw" (85) y_L_widen : Cond) ∈ gw := gw_mem 92 (by decide +kernel) (by decide +kernel)
theorem k_93 : (.static y_L_widen : Cond) ∈ gw := gw_mem 93 (by decide +kernel) (by decide +kernel)
theorem k_94 : (.codeWith y_L_widen method_3_code (5) (some .int) [((0), (17), (20), (13)), ((0), (17), (24), (15))] : Cond) ∈ gw := gw_mem 94 (by decide +kernel) (by decide +kernel)
theorem k_95 : (.classLink "LimbRowsLaw" (13) "java/lang/IndexOutOfBoundsException" : Cond) ∈ gw := gw_mem 95 (by decide +kernel) (by decide +kernel)
theorem k_96 : (.classLink "LimbRowsLaw" (15) "java/lang/IllegalArgumentException" : Cond) ∈ gw := gw_mem 96 (by decide +kernel) (by decide +kernel)
theorem k_97 : (.methodLink "LimbRowsLaw" (7) y_X1_widen : Cond) ∈ gw := gw_mem 97 (by decide +kernel) (by decide +kernel)
theorem k_98 : (.instanceMethod y_X1_widen : Cond) ∈ gw := gw_mem 98 (by decide +kernel) (by decide +kernel)
theorem k_99 : (.selects "LimbRows" y_X1_widen y_X1_widen : Cond) ∈ gw := gw_mem 99 (by decide +kernel) (by decide +kernel)
theorem k_100 : (.code y_X1_widen prog_1_method_2_code (4) (some .boolean) : Cond) ∈ gw := gw_mem 100 (by decide +kernel) (by decide +kernel)
theorem k_101 : (.methodLink "LimbRows" (16) y_X1_rowAt : Cond) ∈ gw := gw_mem 101 (by decide +kernel) (by decide +kernel)
theorem kt_102 : lw_tbl[102]? = some (.privateMethod y_X1_rowAt) := by decide +kernel
theorem k_103 : (.instanceMethod y_X1_rowAt : Cond) ∈ gw := gw_mem 103 (by decide +kernel) (by decide +kernel)
theorem k_104 : (.code y_X1_rowAt prog_1_method_22_code (2) (some (.object "LimbRows$Row")) : Cond) ∈ gw := gw_mem 104 (by decide +kernel) (by decide +kernel)
theorem k_105 : (.classLink "LimbRows" (39) "java/lang/IndexOutOfBoundsException" : Cond) ∈ gw := gw_mem 105 (by decide +kernel) (by decide +kernel)
theorem k_106 : (.instantiable "java/lang/IndexOutOfBoundsException" (6) : Cond) ∈ gw := gw_mem 106 (by decide +kernel) (by decide +kernel)
theorem kt_107 : lw_tbl[107]? = some (.castable "java/lang/IndexOutOfBoundsException" "java/lang/IndexOutOfBoundsException") := by decide +kernel
theorem kt_108 : lw_tbl[108]? = some (.declares ⟨"java/lang/RuntimeException", "<init>", "()V"⟩) := by decide +kernel
theorem kt_109 : lw_tbl[109]? = some (.declares ⟨"java/lang/RuntimeException", "<init>", "(Ljava/lang/String;)V"⟩) := by decide +kernel
theorem kt_110 : lw_tbl[110]? = some (.declares ⟨"java/lang/Exception", "<init>", "()V"⟩) := by decide +kernel
theorem kt_111 : lw_tbl[111]? = some (.declares ⟨"java/lang/Exception", "<init>", "(Ljava/lang/String;)V"⟩) := by decide +kernel
theorem kt_112 : lw_tbl[112]? = some (.declares ⟨"java/lang/Throwable", "<init>", "()V"⟩) := by decide +kernel
theorem kt_113 : lw_tbl[113]? = some (.declares ⟨"java/lang/Throwable", "<init>", "(Ljava/lang/String;)V"⟩) := by decide +kernel
theorem k_114 : (.selects "java/lang/IndexOutOfBoundsException" ⟨"java/lang/Throwable", "fillInStackTrace", "(I)Ljava/lang/Throwable;"⟩ ⟨"java/lang/Throwable", "fillInStackTrace", "(I)Ljava/lang/Throwable;"⟩ : Cond) ∈ gw := gw_mem 114 (by decide +kernel) (by decide +kernel)
theorem k_115 : (.selects "java/lang/IndexOutOfBoundsException" ⟨"java/lang/Throwable", "fillInStackTrace", "()Ljava/lang/Throwable;"⟩ ⟨"java/lang/Throwable", "fillInStackTrace", "()Ljava/lang/Throwable;"⟩ : Cond) ∈ gw := gw_mem 115 (by decide +kernel) (by decide +kernel)
theorem k_116 : (.lays "java/lang/IndexOutOfBoundsException" "java/lang/Throwable" "cause" "Ljava/lang/Throwable;" : Cond) ∈ gw := gw_mem 116 (by decide +kernel) (by decide +kernel)
theorem k_117 : (.lays "java/lang/Throwable" "java/lang/Throwable" "cause" "Ljava/lang/Throwable;" : Cond) ∈ gw := gw_mem 117 (by decide +kernel) (by decide +kernel)
theorem k_118 : (.lays "java/lang/IndexOutOfBoundsException" "java/lang/Throwable" "stackTrace" "[Ljava/lang/StackTraceElement;" : Cond) ∈ gw := gw_mem 118 (by decide +kernel) (by decide +kernel)
theorem k_119 : (.lays "java/lang/Throwable" "java/lang/Throwable" "stackTrace" "[Ljava/lang/StackTraceElement;" : Cond) ∈ gw := gw_mem 119 (by decide +kernel) (by decide +kernel)
theorem k_120 : (.lays "java/lang/IndexOutOfBoundsException" "java/lang/Throwable" "suppressedExceptions" "Ljava/util/List;" : Cond) ∈ gw := gw_mem 120 (by decide +kernel) (by decide +kernel)
theorem k_121 : (.lays "java/lang/Throwable" "java/lang/Throwable" "suppressedExceptions" "Ljava/util/List;" : Cond) ∈ gw := gw_mem 121 (by decide +kernel) (by decide +kernel)
theorem k_122 : (.lays "java/lang/IndexOutOfBoundsException" "java/lang/Throwable" "detailMessage" "Ljava/lang/String;" : Cond) ∈ gw := gw_mem 122 (by decide +kernel) (by decide +kernel)
theorem k_123 : (.lays "java/lang/Throwable" "java/lang/Throwable" "detailMessage" "Ljava/lang/String;" : Cond) ∈ gw := gw_mem 123 (by decide +kernel) (by decide +kernel)
theorem k_124 : (.lays "java/lang/IndexOutOfBoundsException" "java/lang/Throwable" "backtrace" "Ljava/lang/Object;" : Cond) ∈ gw := gw_mem 124 (by decide +kernel) (by decide +kernel)
theorem k_125 : (.lays "java/lang/Throwable" "java/lang/Throwable" "backtrace" "Ljava/lang/Object;" : Cond) ∈ gw := gw_mem 125 (by decide +kernel) (by decide +kernel)
theorem k_126 : (.fieldLink "java/lang/Throwable" (198) "java/lang/Throwable" "backtrace" "Ljava/lang/Object;" : Cond) ∈ gw := gw_mem 126 (by decide +kernel) (by decide +kernel)
theorem k_127 : (.superclass "java/lang/Throwable" "java/lang/Object" : Cond) ∈ gw := gw_mem 127 (by decide +kernel) (by decide +kernel)
theorem k_128 : (.instanceMethod ⟨"java/lang/Throwable", "<init>", "()V"⟩ : Cond) ∈ gw := gw_mem 128 (by decide +kernel) (by decide +kernel)
theorem k_129 : (.code ⟨"java/lang/Throwable", "<init>", "()V"⟩ prog_15_method_1_code (1) none : Cond) ∈ gw := gw_mem 129 (by decide +kernel) (by decide +kernel)
theorem k_130 : (.methodLink "java/lang/Throwable" (1) ⟨"java/lang/Object", "<init>", "()V"⟩ : Cond) ∈ gw := gw_mem 130 (by decide +kernel) (by decide +kernel)
theorem k_131 : (.fieldLink "java/lang/Throwable" (13) "java/lang/Throwable" "UNASSIGNED_STACK" "[Ljava/lang/StackTraceElement;" : Cond) ∈ gw := gw_mem 131 (by decide +kernel) (by decide +kernel)
theorem kt_132 : lw_tbl[132]? = some (.laysStatic "java/lang/Throwable" "UNASSIGNED_STACK" "[Ljava/lang/StackTraceElement;") := by decide +kernel
theorem k_133 : (.fieldLink "java/lang/Throwable" (20) "java/lang/Throwable" "SUPPRESSED_SENTINEL" "Ljava/util/List;" : Cond) ∈ gw := gw_mem 133 (by decide +kernel) (by decide +kernel)
theorem kt_134 : lw_tbl[134]? = some (.laysStatic "java/lang/Throwable" "SUPPRESSED_SENTINEL" "Ljava/util/List;") := by decide +kernel
theorem k_135 : (.methodLink "java/lang/Throwable" (27) ⟨"java/lang/Throwable", "fillInStackTrace", "()Ljava/lang/Throwable;"⟩ : Cond) ∈ gw := gw_mem 135 (by decide +kernel) (by decide +kernel)
theorem k_136 : (.instanceMethod ⟨"java/lang/Throwable", "fillInStackTrace", "()Ljava/lang/Throwable;"⟩ : Cond) ∈ gw := gw_mem 136 (by decide +kernel) (by decide +kernel)
theorem k_137 : (.sameMethod "java/lang/Throwable" "java/lang/Throwable" "fillInStackTrace" "()Ljava/lang/Throwable;" : Cond) ∈ gw := gw_mem 137 (by decide +kernel) (by decide +kernel)
theorem k_138 : (.selects "java/lang/IllegalArgumentException" ⟨"java/lang/Throwable", "fillInStackTrace", "()Ljava/lang/Throwable;"⟩ ⟨"java/lang/Throwable", "fillInStackTrace", "()Ljava/lang/Throwable;"⟩ : Cond) ∈ gw := gw_mem 138 (by decide +kernel) (by decide +kernel)
theorem k_139 : (.codeSync ⟨"java/lang/Throwable", "fillInStackTrace", "()Ljava/lang/Throwable;"⟩ prog_15_method_18_code (1) (some (.object "java/lang/Throwable")) : Cond) ∈ gw := gw_mem 139 (by decide +kernel) (by decide +kernel)
theorem k_140 : (.methodLink "java/lang/Throwable" (202) ⟨"java/lang/Throwable", "fillInStackTrace", "(I)Ljava/lang/Throwable;"⟩ : Cond) ∈ gw := gw_mem 140 (by decide +kernel) (by decide +kernel)
theorem kt_141 : lw_tbl[141]? = some (.privateMethod ⟨"java/lang/Throwable", "fillInStackTrace", "(I)Ljava/lang/Throwable;"⟩) := by decide +kernel
theorem k_142 : (.instanceMethod ⟨"java/lang/Throwable", "fillInStackTrace", "(I)Ljava/lang/Throwable;"⟩ : Cond) ∈ gw := gw_mem 142 (by decide +kernel) (by decide +kernel)
theorem k_143 : (.instantiable "java/lang/Throwable" (6) : Cond) ∈ gw := gw_mem 143 (by decide +kernel) (by decide +kernel)
theorem k_144 : (.native ⟨"java/lang/Throwable", "fillInStackTrace", "(I)Ljava/lang/Throwable;"⟩ : Cond) ∈ gw := gw_mem 144 (by decide +kernel) (by decide +kernel)
theorem kt_145 : lw_tbl[145]? = some (.stringRef "LimbRows" (120) "no such row") := by decide +kernel
theorem k_146 : (.methodLink "LimbRows" (43) ⟨"java/lang/IndexOutOfBoundsException", "<init>", "(Ljava/lang/String;)V"⟩ : Cond) ∈ gw := gw_mem 146 (by decide +kernel) (by decide +kernel)
theorem k_147 : (.instanceMethod ⟨"java/lang/IndexOutOfBoundsException", "<init>", "(Ljava/lang/String;)V"⟩ : Cond) ∈ gw := gw_mem 147 (by decide +kernel) (by decide +kernel)
theorem k_148 : (.code ⟨"java/lang/IndexOutOfBoundsException", "<init>", "(Ljava/lang/String;)V"⟩ prog_8_method_2_code (2) none : Cond) ∈ gw := gw_mem 148 (by decide +kernel) (by decide +kernel)
theorem k_149 : (.methodLink "java/lang/IndexOutOfBoundsException" (7) ⟨"java/lang/RuntimeException", "<init>", "(Ljava/lang/String;)V"⟩ : Cond) ∈ gw := gw_mem 149 (by decide +kernel) (by decide +kernel)
theorem k_150 : (.instanceMethod ⟨"java/lang/RuntimeException", "<init>", "(Ljava/lang/String;)V"⟩ : Cond) ∈ gw := gw_mem 150 (by decide +kernel) (by decide +kernel)
theorem k_151 : (.code ⟨"java/lang/RuntimeException", "<init>", "(Ljava/lang/String;)V"⟩ prog_12_method_2_code (2) none : Cond) ∈ gw := gw_mem 151 (by decide +kernel) (by decide +kernel)
theorem k_152 : (.methodLink "java/lang/RuntimeException" (7) ⟨"java/lang/Exception", "<init>", "(Ljava/lang/String;)V"⟩ : Cond) ∈ gw := gw_mem 152 (by decide +kernel) (by decide +kernel)
theorem k_153 : (.instanceMethod ⟨"java/lang/Exception", "<init>", "(Ljava/lang/String;)V"⟩ : Cond) ∈ gw := gw_mem 153 (by decide +kernel) (by decide +kernel)
theorem k_154 : (.code ⟨"java/lang/Exception", "<init>", "(Ljava/lang/String;)V"⟩ prog_6_method_2_code (2) none : Cond) ∈ gw := gw_mem 154 (by decide +kernel) (by decide +kernel)
theorem k_155 : (.methodLink "java/lang/Exception" (7) ⟨"java/lang/Throwable", "<init>", "(Ljava/lang/String;)V"⟩ : Cond) ∈ gw := gw_mem 155 (by decide +kernel) (by decide +kernel)
theorem k_156 : (.instanceMethod ⟨"java/lang/Throwable", "<init>", "(Ljava/lang/String;)V"⟩ : Cond) ∈ gw := gw_mem 156 (by decide +kernel) (by decide +kernel)
theorem k_157 : (.code ⟨"java/lang/Throwable", "<init>", "(Ljava/lang/String;)V"⟩ prog_15_method_2_code (2) none : Cond) ∈ gw := gw_mem 157 (by decide +kernel) (by decide +kernel)
theorem k_158 : (.fieldLink "java/lang/Throwable" (198) "java/lang/Throwable" "backtrace" "Ljava/lang/Object;" : Cond) ∈ gw := gw_mem 158 (by decide +kernel) (by decide +kernel)
theorem k_159 : (.fieldLink "java/lang/Throwable" (31) "java/lang/Throwable" "detailMessage" "Ljava/lang/String;" : Cond) ∈ gw := gw_mem 159 (by decide +kernel) (by decide +kernel)
theorem k_160 : (.fieldLink "java/lang/Throwable" (7) "java/lang/Throwable" "cause" "Ljava/lang/Throwable;" : Cond) ∈ gw := gw_mem 160 (by decide +kernel) (by decide +kernel)
theorem k_161 : (.fieldLink "java/lang/Throwable" (17) "java/lang/Throwable" "stackTrace" "[Ljava/lang/StackTraceElement;" : Cond) ∈ gw := gw_mem 161 (by decide +kernel) (by decide +kernel)
theorem k_162 : (.fieldLink "java/lang/Throwable" (24) "java/lang/Throwable" "suppressedExceptions" "Ljava/util/List;" : Cond) ∈ gw := gw_mem 162 (by decide +kernel) (by decide +kernel)
theorem k_163 : (.soleField "java/lang/Throwable" "backtrace" : Cond) ∈ gw := gw_mem 163 (by decide +kernel) (by decide +kernel)
theorem k_164 : (.soleField "java/lang/Throwable" "detailMessage" : Cond) ∈ gw := gw_mem 164 (by decide +kernel) (by decide +kernel)
theorem k_165 : (.soleField "java/lang/Throwable" "cause" : Cond) ∈ gw := gw_mem 165 (by decide +kernel) (by decide +kernel)
theorem k_166 : (.soleField "java/lang/Throwable" "stackTrace" : Cond) ∈ gw := gw_mem 166 (by decide +kernel) (by decide +kernel)
theorem k_167 : (.lays "java/lang/IndexOutOfBoundsException" "java/lang/Throwable" "depth" "I" : Cond) ∈ gw := gw_mem 167 (by decide +kernel) (by decide +kernel)
theorem k_168 : (.soleField "java/lang/Throwable" "depth" : Cond) ∈ gw := gw_mem 168 (by decide +kernel) (by decide +kernel)
theorem k_169 : (.soleField "java/lang/Throwable" "suppressedExceptions" : Cond) ∈ gw := gw_mem 169 (by decide +kernel) (by decide +kernel)
theorem k_170 : (.superclass "java/lang/IndexOutOfBoundsException" "java/lang/RuntimeException" : Cond) ∈ gw := gw_mem 170 (by decide +kernel) (by decide +kernel)
theorem k_171 : (.arrayClass .byte : Cond) ∈ gw := gw_mem 171 (by decide +kernel) (by decide +kernel)
theorem k_172 : (.classLink "LimbRows" (20) "java/lang/IllegalArgumentException" : Cond) ∈ gw := gw_mem 172 (by decide +kernel) (by decide +kernel)
theorem k_173 : (.instantiable "java/lang/IllegalArgumentException" (6) : Cond) ∈ gw := gw_mem 173 (by decide +kernel) (by decide +kernel)
theorem kt_174 : lw_tbl[174]? = some (.castable "java/lang/IllegalArgumentException" "java/lang/IllegalArgumentException") := by decide +kernel
theorem k_175 : (.selects "java/lang/IllegalArgumentException" ⟨"java/lang/Throwable", "fillInStackTrace", "(I)Ljava/lang/Throwable;"⟩ ⟨"java/lang/Throwable", "fillInStackTrace", "(I)Ljava/lang/Throwable;"⟩ : Cond) ∈ gw := gw_mem 175 (by decide +kernel) (by decide +kernel)
theorem k_176 : (.lays "java/lang/IllegalArgumentException" "java/lang/Throwable" "cause" "Ljava/lang/Throwable;" : Cond) ∈ gw := gw_mem 176 (by decide +kernel) (by decide +kernel)
theorem k_177 : (.lays "java/lang/IllegalArgumentException" "java/lang/Throwable" "stackTrace" "[Ljava/lang/StackTraceElement;" : Cond) ∈ gw := gw_mem 177 (by decide +kernel) (by decide +kernel)
theorem k_178 : (.lays "java/lang/IllegalArgumentException" "java/lang/Throwable" "suppressedExceptions" "Ljava/util/List;" : Cond) ∈ gw := gw_mem 178 (by decide +kernel) (by decide +kernel)
theorem k_179 : (.lays "java/lang/IllegalArgumentException" "java/lang/Throwable" "detailMessage" "Ljava/lang/String;" : Cond) ∈ gw := gw_mem 179 (by decide +kernel) (by decide +kernel)
theorem k_180 : (.lays "java/lang/IllegalArgumentException" "java/lang/Throwable" "backtrace" "Ljava/lang/Object;" : Cond) ∈ gw := gw_mem 180 (by decide +kernel) (by decide +kernel)
theorem kt_181 : lw_tbl[181]? = some (.stringRef "LimbRows" (22) "a width is 1 to 256 limbs") := by decide +kernel
theorem k_182 : (.methodLink "LimbRows" (24) ⟨"java/lang/IllegalArgumentException", "<init>", "(Ljava/lang/String;)V"⟩ : Cond) ∈ gw := gw_mem 182 (by decide +kernel) (by decide +kernel)
theorem k_183 : (.instanceMethod ⟨"java/lang/IllegalArgumentException", "<init>", "(Ljava/lang/String;)V"⟩ : Cond) ∈ gw := gw_mem 183 (by decide +kernel) (by decide +kernel)
theorem k_184 : (.code ⟨"java/lang/IllegalArgumentException", "<init>", "(Ljava/lang/String;)V"⟩ prog_7_method_2_code (2) none : Cond) ∈ gw := gw_mem 184 (by decide +kernel) (by decide +kernel)
theorem k_185 : (.methodLink "java/lang/IllegalArgumentException" (7) ⟨"java/lang/RuntimeException", "<init>", "(Ljava/lang/String;)V"⟩ : Cond) ∈ gw := gw_mem 185 (by decide +kernel) (by decide +kernel)
theorem k_186 : (.lays "java/lang/IllegalArgumentException" "java/lang/Throwable" "depth" "I" : Cond) ∈ gw := gw_mem 186 (by decide +kernel) (by decide +kernel)
theorem k_187 : (.superclass "java/lang/IllegalArgumentException" "java/lang/RuntimeException" : Cond) ∈ gw := gw_mem 187 (by decide +kernel) (by decide +kernel)
theorem kt_188 : lw_tbl[188]? = some (.methodLinkNest "LimbRows" (27) y_X0_changeWidth "LimbRows") := by decide +kernel
theorem kt_189 : lw_tbl[189]? = some (.privateMethod y_X0_changeWidth) := by decide +kernel
theorem k_190 : (.instanceMethod y_X0_changeWidth : Cond) ∈ gw := gw_mem 190 (by decide +kernel) (by decide +kernel)
theorem k_191 : (.code y_X0_changeWidth prog_2_method_7_code (5) (some .boolean) : Cond) ∈ gw := gw_mem 191 (by decide +kernel) (by decide +kernel)
theorem k_192 : (.methodLink "LimbRows$Row" (25) y_X0_fitsIn : Cond) ∈ gw := gw_mem 192 (by decide +kernel) (by decide +kernel)
theorem kt_193 : lw_tbl[193]? = some (.privateMethod y_X0_fitsIn) := by decide +kernel
theorem k_194 : (.instanceMethod y_X0_fitsIn : Cond) ∈ gw := gw_mem 194 (by decide +kernel) (by decide +kernel)
theorem k_195 : (.code y_X0_fitsIn prog_2_method_6_code (4) (some .boolean) : Cond) ∈ gw := gw_mem 195 (by decide +kernel) (by decide +kernel)
theorem k_196 : (.methodLink "LimbRows$Row" (21) y_X0_limbAt : Cond) ∈ gw := gw_mem 196 (by decide +kernel) (by decide +kernel)
theorem kt_197 : lw_tbl[197]? = some (.privateMethod y_X0_limbAt) := by decide +kernel
theorem k_198 : (.instanceMethod y_X0_limbAt : Cond) ∈ gw := gw_mem 198 (by decide +kernel) (by decide +kernel)
theorem k_199 : (.code y_X0_limbAt prog_2_method_4_code (2) (some .int) : Cond) ∈ gw := gw_mem 199 (by decide +kernel) (by decide +kernel)
theorem k_200 : (.methodLink "LimbRows$Row" (29) y_JA_copyOf : Cond) ∈ gw := gw_mem 200 (by decide +kernel) (by decide +kernel)
theorem k_201 : (.static y_JA_copyOf : Cond) ∈ gw := gw_mem 201 (by decide +kernel) (by decide +kernel)
theorem k_202 : (.code y_JA_copyOf prog_16_method_123_code (3) (some (.array .int)) : Cond) ∈ gw := gw_mem 202 (by decide +kernel) (by decide +kernel)
theorem k_203 : (.methodLink "java/util/Arrays" (316) ⟨"[I", "clone", "()Ljava/lang/Object;"⟩ : Cond) ∈ gw := gw_mem 203 (by decide +kernel) (by decide +kernel)
theorem k_204 : (.sameMethod "[I" "java/lang/Object" "clone" "()Ljava/lang/Object;" : Cond) ∈ gw := gw_mem 204 (by decide +kernel) (by decide +kernel)
theorem k_205 : (.native ⟨"java/lang/Object", "clone", "()Ljava/lang/Object;"⟩ : Cond) ∈ gw := gw_mem 205 (by decide +kernel) (by decide +kernel)
theorem k_206 : (.instanceMethod ⟨"java/lang/Object", "clone", "()Ljava/lang/Object;"⟩ : Cond) ∈ gw := gw_mem 206 (by decide +kernel) (by decide +kernel)
theorem k_207 : (.selects "[I" ⟨"[I", "clone", "()Ljava/lang/Object;"⟩ ⟨"java/lang/Object", "clone", "()Ljava/lang/Object;"⟩ : Cond) ∈ gw := gw_mem 207 (by decide +kernel) (by decide +kernel)
theorem kt_208 : lw_tbl[208]? = some (.castable "[I" "java/lang/Cloneable") := by decide +kernel
theorem k_209 : (.classLink "java/util/Arrays" (317) "[I" : Cond) ∈ gw := gw_mem 209 (by decide +kernel) (by decide +kernel)
theorem k_210 : (.methodLink "java/util/Arrays" (304) y_JM_min : Cond) ∈ gw := gw_mem 210 (by decide +kernel) (by decide +kernel)
theorem k_211 : (.static y_JM_min : Cond) ∈ gw := gw_mem 211 (by decide +kernel) (by decide +kernel)
theorem k_212 : (.code y_JM_min prog_11_method_69_code (2) (some .int) : Cond) ∈ gw := gw_mem 212 (by decide +kernel) (by decide +kernel)
theorem k_213 : (.methodLink "java/util/Arrays" (150) ⟨"java/lang/System", "arraycopy", "(Ljava/lang/Object;ILjava/lang/Object;II)V"⟩ : Cond) ∈ gw := gw_mem 213 (by decide +kernel) (by decide +kernel)
theorem k_214 : (.static ⟨"java/lang/System", "arraycopy", "(Ljava/lang/Object;ILjava/lang/Object;II)V"⟩ : Cond) ∈ gw := gw_mem 214 (by decide +kernel) (by decide +kernel)
theorem k_215 : (.native ⟨"java/lang/System", "arraycopy", "(Ljava/lang/Object;ILjava/lang/Object;II)V"⟩ : Cond) ∈ gw := gw_mem 215 (by decide +kernel) (by decide +kernel)
theorem k_216 : (.methodLink "LimbRowsLaw" (95) y_L_width : Cond) ∈ gw := gw_mem 216 (by decide +kernel) (by decide +kernel)
theorem k_217 : (.static y_L_width : Cond) ∈ gw := gw_mem 217 (by decide +kernel) (by decide +kernel)
theorem k_218 : (.codeWith y_L_width method_4_code (4) (some .int) [((0), (9), (12), (13))] : Cond) ∈ gw := gw_mem 218 (by decide +kernel) (by decide +kernel)
theorem k_219 : (.methodLink "LimbRowsLaw" (17) y_X1_width : Cond) ∈ gw := gw_mem 219 (by decide +kernel) (by decide +kernel)
theorem k_220 : (.instanceMethod y_X1_width : Cond) ∈ gw := gw_mem 220 (by decide +kernel) (by decide +kernel)
theorem k_221 : (.selects "LimbRows" y_X1_width y_X1_width : Cond) ∈ gw := gw_mem 221 (by decide +kernel) (by decide +kernel)
theorem k_222 : (.code y_X1_width prog_1_method_3_code (2) (some .int) : Cond) ∈ gw := gw_mem 222 (by decide +kernel) (by decide +kernel)
theorem k_223 : (.methodLink "LimbRowsLaw" (101) y_L_set : Cond) ∈ gw := gw_mem 223 (by decide +kernel) (by decide +kernel)
theorem k_224 : (.static y_L_set : Cond) ∈ gw := gw_mem 224 (by decide +kernel) (by decide +kernel)
theorem k_225 : (.codeWith y_L_set method_5_code (6) (some .int) [((0), (18), (21), (13))] : Cond) ∈ gw := gw_mem 225 (by decide +kernel) (by decide +kernel)
theorem k_226 : (.methodLink "LimbRowsLaw" (21) y_X1_set : Cond) ∈ gw := gw_mem 226 (by decide +kernel) (by decide +kernel)
theorem k_227 : (.instanceMethod y_X1_set : Cond) ∈ gw := gw_mem 227 (by decide +kernel) (by decide +kernel)
theorem k_228 : (.selects "LimbRows" y_X1_set y_X1_set : Cond) ∈ gw := gw_mem 228 (by decide +kernel) (by decide +kernel)
theorem k_229 : (.code y_X1_set prog_1_method_4_code (4) (some .boolean) : Cond) ∈ gw := gw_mem 229 (by decide +kernel) (by decide +kernel)
theorem kt_230 : lw_tbl[230]? = some (.methodLinkNest "LimbRows" (35) y_X0_keepLong "LimbRows") := by decide +kernel
theorem kt_231 : lw_tbl[231]? = some (.privateMethod y_X0_keepLong) := by decide +kernel
theorem k_232 : (.instanceMethod y_X0_keepLong : Cond) ∈ gw := gw_mem 232 (by decide +kernel) (by decide +kernel)
theorem k_233 : (.code y_X0_keepLong prog_2_method_8_code (6) (some .boolean) : Cond) ∈ gw := gw_mem 233 (by decide +kernel) (by decide +kernel)
theorem k_234 : (.methodLink "LimbRowsLaw" (105) y_L_put : Cond) ∈ gw := gw_mem 234 (by decide +kernel) (by decide +kernel)
theorem k_235 : (.static y_L_put : Cond) ∈ gw := gw_mem 235 (by decide +kernel) (by decide +kernel)
theorem k_236 : (.codeWith y_L_put method_6_code (6) (some .int) [((0), (12), (15), (13))] : Cond) ∈ gw := gw_mem 236 (by decide +kernel) (by decide +kernel)
theorem k_237 : (.methodLink "LimbRowsLaw" (25) y_X1_put : Cond) ∈ gw := gw_mem 237 (by decide +kernel) (by decide +kernel)
theorem k_238 : (.instanceMethod y_X1_put : Cond) ∈ gw := gw_mem 238 (by decide +kernel) (by decide +kernel)
theorem k_239 : (.selects "LimbRows" y_X1_put y_X1_put : Cond) ∈ gw := gw_mem 239 (by decide +kernel) (by decide +kernel)
theorem k_240 : (.code y_X1_put prog_1_method_5_code (6) (some .int) : Cond) ∈ gw := gw_mem 240 (by decide +kernel) (by decide +kernel)
theorem kt_241 : lw_tbl[241]? = some (.stringRef "LimbRows" (41) "no such limb") := by decide +kernel
theorem k_242 : (.methodLink "LimbRowsLaw" (109) y_L_limb : Cond) ∈ gw := gw_mem 242 (by decide +kernel) (by decide +kernel)
theorem k_243 : (.static y_L_limb : Cond) ∈ gw := gw_mem 243 (by decide +kernel) (by decide +kernel)
theorem k_244 : (.codeWith y_L_limb method_7_code (5) (some .int) [((0), (10), (13), (13))] : Cond) ∈ gw := gw_mem 244 (by decide +kernel) (by decide +kernel)
theorem k_245 : (.methodLink "LimbRowsLaw" (29) y_X1_limb : Cond) ∈ gw := gw_mem 245 (by decide +kernel) (by decide +kernel)
theorem k_246 : (.instanceMethod y_X1_limb : Cond) ∈ gw := gw_mem 246 (by decide +kernel) (by decide +kernel)
theorem k_247 : (.selects "LimbRows" y_X1_limb y_X1_limb : Cond) ∈ gw := gw_mem 247 (by decide +kernel) (by decide +kernel)
theorem k_248 : (.code y_X1_limb prog_1_method_6_code (4) (some .int) : Cond) ∈ gw := gw_mem 248 (by decide +kernel) (by decide +kernel)
theorem kt_249 : lw_tbl[249]? = some (.methodLinkNest "LimbRows" (48) y_X0_limbAt "LimbRows") := by decide +kernel
theorem k_250 : (.methodLink "LimbRowsLaw" (112) y_L_copy : Cond) ∈ gw := gw_mem 250 (by decide +kernel) (by decide +kernel)
theorem k_251 : (.static y_L_copy : Cond) ∈ gw := gw_mem 251 (by decide +kernel) (by decide +kernel)
theorem k_252 : (.codeWith y_L_copy method_8_code (5) (some .int) [((0), (17), (20), (13))] : Cond) ∈ gw := gw_mem 252 (by decide +kernel) (by decide +kernel)
theorem k_253 : (.methodLink "LimbRowsLaw" (33) y_X1_copy : Cond) ∈ gw := gw_mem 253 (by decide +kernel) (by decide +kernel)
theorem k_254 : (.instanceMethod y_X1_copy : Cond) ∈ gw := gw_mem 254 (by decide +kernel) (by decide +kernel)
theorem k_255 : (.selects "LimbRows" y_X1_copy y_X1_copy : Cond) ∈ gw := gw_mem 255 (by decide +kernel) (by decide +kernel)
theorem k_256 : (.code y_X1_copy prog_1_method_7_code (5) (some .boolean) : Cond) ∈ gw := gw_mem 256 (by decide +kernel) (by decide +kernel)
theorem kt_257 : lw_tbl[257]? = some (.methodLinkNest "LimbRows" (52) y_X0_keepRow "LimbRows") := by decide +kernel
theorem kt_258 : lw_tbl[258]? = some (.privateMethod y_X0_keepRow) := by decide +kernel
theorem k_259 : (.instanceMethod y_X0_keepRow : Cond) ∈ gw := gw_mem 259 (by decide +kernel) (by decide +kernel)
theorem k_260 : (.code y_X0_keepRow prog_2_method_9_code (4) (some .boolean) : Cond) ∈ gw := gw_mem 260 (by decide +kernel) (by decide +kernel)
theorem k_261 : (.methodLink "LimbRowsLaw" (115) y_L_add : Cond) ∈ gw := gw_mem 261 (by decide +kernel) (by decide +kernel)
theorem k_262 : (.static y_L_add : Cond) ∈ gw := gw_mem 262 (by decide +kernel) (by decide +kernel)
theorem k_263 : (.codeWith y_L_add method_9_code (5) (some .int) [((0), (10), (13), (13))] : Cond) ∈ gw := gw_mem 263 (by decide +kernel) (by decide +kernel)
theorem k_264 : (.methodLink "LimbRowsLaw" (36) y_X1_add : Cond) ∈ gw := gw_mem 264 (by decide +kernel) (by decide +kernel)
theorem k_265 : (.instanceMethod y_X1_add : Cond) ∈ gw := gw_mem 265 (by decide +kernel) (by decide +kernel)
theorem k_266 : (.selects "LimbRows" y_X1_add y_X1_add : Cond) ∈ gw := gw_mem 266 (by decide +kernel) (by decide +kernel)
theorem k_267 : (.code y_X1_add prog_1_method_8_code (5) (some .int) : Cond) ∈ gw := gw_mem 267 (by decide +kernel) (by decide +kernel)
theorem kt_268 : lw_tbl[268]? = some (.methodLinkNest "LimbRows" (56) y_X0_addFrom "LimbRows") := by decide +kernel
theorem kt_269 : lw_tbl[269]? = some (.privateMethod y_X0_addFrom) := by decide +kernel
theorem k_270 : (.instanceMethod y_X0_addFrom : Cond) ∈ gw := gw_mem 270 (by decide +kernel) (by decide +kernel)
theorem k_271 : (.code y_X0_addFrom prog_2_method_10_code (3) none : Cond) ∈ gw := gw_mem 271 (by decide +kernel) (by decide +kernel)
theorem k_272 : (.methodLink "LimbRows$Row" (35) y_X0_addLimbs : Cond) ∈ gw := gw_mem 272 (by decide +kernel) (by decide +kernel)
theorem kt_273 : lw_tbl[273]? = some (.privateMethod y_X0_addLimbs) := by decide +kernel
theorem k_274 : (.instanceMethod y_X0_addLimbs : Cond) ∈ gw := gw_mem 274 (by decide +kernel) (by decide +kernel)
theorem k_275 : (.code y_X0_addLimbs prog_2_method_12_code (9) none : Cond) ∈ gw := gw_mem 275 (by decide +kernel) (by decide +kernel)
theorem k_276 : (.methodLink "LimbRows$Row" (39) y_X0_unsigned : Cond) ∈ gw := gw_mem 276 (by decide +kernel) (by decide +kernel)
theorem k_277 : (.static y_X0_unsigned : Cond) ∈ gw := gw_mem 277 (by decide +kernel) (by decide +kernel)
theorem k_278 : (.code y_X0_unsigned prog_2_method_2_code (1) (some .long) : Cond) ∈ gw := gw_mem 278 (by decide +kernel) (by decide +kernel)
theorem k_279 : (.constantLong "LimbRows$Row" (19) (4294967295) : Cond) ∈ gw := gw_mem 279 (by decide +kernel) (by decide +kernel)
theorem kt_280 : lw_tbl[280]? = some (.methodLinkNest "LimbRows" (60) y_X0_signum "LimbRows") := by decide +kernel
theorem kt_281 : lw_tbl[281]? = some (.privateMethod y_X0_signum) := by decide +kernel
theorem k_282 : (.instanceMethod y_X0_signum : Cond) ∈ gw := gw_mem 282 (by decide +kernel) (by decide +kernel)
theorem k_283 : (.code y_X0_signum prog_2_method_29_code (2) (some .int) : Cond) ∈ gw := gw_mem 283 (by decide +kernel) (by decide +kernel)
theorem k_284 : (.methodLink "LimbRows$Row" (57) y_X0_isNegative : Cond) ∈ gw := gw_mem 284 (by decide +kernel) (by decide +kernel)
theorem kt_285 : lw_tbl[285]? = some (.privateMethod y_X0_isNegative) := by decide +kernel
theorem k_286 : (.instanceMethod y_X0_isNegative : Cond) ∈ gw := gw_mem 286 (by decide +kernel) (by decide +kernel)
theorem k_287 : (.code y_X0_isNegative prog_2_method_3_code (1) (some .boolean) : Cond) ∈ gw := gw_mem 287 (by decide +kernel) (by decide +kernel)
theorem k_288 : (.methodLink "LimbRowsLaw" (118) y_L_subtract : Cond) ∈ gw := gw_mem 288 (by decide +kernel) (by decide +kernel)
theorem k_289 : (.static y_L_subtract : Cond) ∈ gw := gw_mem 289 (by decide +kernel) (by decide +kernel)
theorem k_290 : (.codeWith y_L_subtract method_10_code (5) (some .int) [((0), (10), (13), (13))] : Cond) ∈ gw := gw_mem 290 (by decide +kernel) (by decide +kernel)
theorem k_291 : (.methodLink "LimbRowsLaw" (39) y_X1_subtract : Cond) ∈ gw := gw_mem 291 (by decide +kernel) (by decide +kernel)
theorem k_292 : (.instanceMethod y_X1_subtract : Cond) ∈ gw := gw_mem 292 (by decide +kernel) (by decide +kernel)
theorem k_293 : (.selects "LimbRows" y_X1_subtract y_X1_subtract : Cond) ∈ gw := gw_mem 293 (by decide +kernel) (by decide +kernel)
theorem k_294 : (.code y_X1_subtract prog_1_method_9_code (5) (some .int) : Cond) ∈ gw := gw_mem 294 (by decide +kernel) (by decide +kernel)
theorem kt_295 : lw_tbl[295]? = some (.methodLinkNest "LimbRows" (64) y_X0_subtractFrom "LimbRows") := by decide +kernel
theorem kt_296 : lw_tbl[296]? = some (.privateMethod y_X0_subtractFrom) := by decide +kernel
theorem k_297 : (.instanceMethod y_X0_subtractFrom : Cond) ∈ gw := gw_mem 297 (by decide +kernel) (by decide +kernel)
theorem k_298 : (.code y_X0_subtractFrom prog_2_method_11_code (3) none : Cond) ∈ gw := gw_mem 298 (by decide +kernel) (by decide +kernel)
theorem k_299 : (.methodLink "LimbRowsLaw" (121) y_L_addProduct : Cond) ∈ gw := gw_mem 299 (by decide +kernel) (by decide +kernel)
theorem k_300 : (.static y_L_addProduct : Cond) ∈ gw := gw_mem 300 (by decide +kernel) (by decide +kernel)
theorem k_301 : (.codeWith y_L_addProduct method_11_code (6) (some .int) [((0), (12), (15), (13)), ((0), (12), (19), (15))] : Cond) ∈ gw := gw_mem 301 (by decide +kernel) (by decide +kernel)
theorem k_302 : (.methodLink "LimbRowsLaw" (42) y_X1_addProduct : Cond) ∈ gw := gw_mem 302 (by decide +kernel) (by decide +kernel)
theorem k_303 : (.instanceMethod y_X1_addProduct : Cond) ∈ gw := gw_mem 303 (by decide +kernel) (by decide +kernel)
theorem k_304 : (.selects "LimbRows" y_X1_addProduct y_X1_addProduct : Cond) ∈ gw := gw_mem 304 (by decide +kernel) (by decide +kernel)
theorem k_305 : (.code y_X1_addProduct prog_1_method_10_code (7) (some .int) : Cond) ∈ gw := gw_mem 305 (by decide +kernel) (by decide +kernel)
theorem k_306 : (.methodLink "LimbRows" (67) y_X1_refuseOwnFactor : Cond) ∈ gw := gw_mem 306 (by decide +kernel) (by decide +kernel)
theorem k_307 : (.static y_X1_refuseOwnFactor : Cond) ∈ gw := gw_mem 307 (by decide +kernel) (by decide +kernel)
theorem k_308 : (.code y_X1_refuseOwnFactor prog_1_method_23_code (3) none : Cond) ∈ gw := gw_mem 308 (by decide +kernel) (by decide +kernel)
theorem kt_309 : lw_tbl[309]? = some (.stringRef "LimbRows" (122) "a row can't take a product of itself") := by decide +kernel
theorem kt_310 : lw_tbl[310]? = some (.methodLinkNest "LimbRows" (71) y_X0_addProductOf "LimbRows") := by decide +kernel
theorem kt_311 : lw_tbl[311]? = some (.privateMethod y_X0_addProductOf) := by decide +kernel
theorem k_312 : (.instanceMethod y_X0_addProductOf : Cond) ∈ gw := gw_mem 312 (by decide +kernel) (by decide +kernel)
theorem k_313 : (.code y_X0_addProductOf prog_2_method_13_code (6) none : Cond) ∈ gw := gw_mem 313 (by decide +kernel) (by decide +kernel)
theorem k_314 : (.methodLink "LimbRows$Row" (43) y_X0_bitLength : Cond) ∈ gw := gw_mem 314 (by decide +kernel) (by decide +kernel)
theorem kt_315 : lw_tbl[315]? = some (.privateMethod y_X0_bitLength) := by decide +kernel
theorem k_316 : (.instanceMethod y_X0_bitLength : Cond) ∈ gw := gw_mem 316 (by decide +kernel) (by decide +kernel)
theorem k_317 : (.code y_X0_bitLength prog_2_method_28_code (3) (some .int) : Cond) ∈ gw := gw_mem 317 (by decide +kernel) (by decide +kernel)
theorem k_318 : (.methodLink "LimbRows$Row" (97) y_JI_numberOfLeadingZeros : Cond) ∈ gw := gw_mem 318 (by decide +kernel) (by decide +kernel)
theorem k_319 : (.static y_JI_numberOfLeadingZeros : Cond) ∈ gw := gw_mem 319 (by decide +kernel) (by decide +kernel)
theorem k_320 : (.code y_JI_numberOfLeadingZeros prog_9_method_47_code (2) (some .int) : Cond) ∈ gw := gw_mem 320 (by decide +kernel) (by decide +kernel)
theorem k_321 : (.constant "java/lang/Integer" (264) (65536) : Cond) ∈ gw := gw_mem 321 (by decide +kernel) (by decide +kernel)
theorem k_322 : (.methodLink "LimbRows$Row" (47) y_JM_min : Cond) ∈ gw := gw_mem 322 (by decide +kernel) (by decide +kernel)
theorem k_323 : (.methodLink "LimbRows$Row" (53) y_X0_addMultiple : Cond) ∈ gw := gw_mem 323 (by decide +kernel) (by decide +kernel)
theorem kt_324 : lw_tbl[324]? = some (.privateMethod y_X0_addMultiple) := by decide +kernel
theorem k_325 : (.instanceMethod y_X0_addMultiple : Cond) ∈ gw := gw_mem 325 (by decide +kernel) (by decide +kernel)
theorem k_326 : (.code y_X0_addMultiple prog_2_method_14_code (10) none : Cond) ∈ gw := gw_mem 326 (by decide +kernel) (by decide +kernel)
theorem k_327 : (.methodLink "LimbRows$Row" (61) y_X0_subtractFrom : Cond) ∈ gw := gw_mem 327 (by decide +kernel) (by decide +kernel)
theorem k_328 : (.methodLink "LimbRowsLaw" (124) y_L_subtractProduct : Cond) ∈ gw := gw_mem 328 (by decide +kernel) (by decide +kernel)
theorem k_329 : (.static y_L_subtractProduct : Cond) ∈ gw := gw_mem 329 (by decide +kernel) (by decide +kernel)
theorem k_330 : (.codeWith y_L_subtractProduct method_12_code (6) (some .int) [((0), (12), (15), (13)), ((0), (12), (19), (15))] : Cond) ∈ gw := gw_mem 330 (by decide +kernel) (by decide +kernel)
theorem k_331 : (.methodLink "LimbRowsLaw" (45) y_X1_subtractProduct : Cond) ∈ gw := gw_mem 331 (by decide +kernel) (by decide +kernel)
theorem k_332 : (.instanceMethod y_X1_subtractProduct : Cond) ∈ gw := gw_mem 332 (by decide +kernel) (by decide +kernel)
theorem k_333 : (.selects "LimbRows" y_X1_subtractProduct y_X1_subtractProduct : Cond) ∈ gw := gw_mem 333 (by decide +kernel) (by decide +kernel)
theorem k_334 : (.code y_X1_subtractProduct prog_1_method_11_code (7) (some .int) : Cond) ∈ gw := gw_mem 334 (by decide +kernel) (by decide +kernel)
theorem kt_335 : lw_tbl[335]? = some (.methodLinkNest "LimbRows" (75) y_X0_subtractProductOf "LimbRows") := by decide +kernel
theorem kt_336 : lw_tbl[336]? = some (.privateMethod y_X0_subtractProductOf) := by decide +kernel
theorem k_337 : (.instanceMethod y_X0_subtractProductOf : Cond) ∈ gw := gw_mem 337 (by decide +kernel) (by decide +kernel)
theorem k_338 : (.code y_X0_subtractProductOf prog_2_method_15_code (3) none : Cond) ∈ gw := gw_mem 338 (by decide +kernel) (by decide +kernel)
theorem k_339 : (.methodLink "LimbRows$Row" (65) y_X0_complement : Cond) ∈ gw := gw_mem 339 (by decide +kernel) (by decide +kernel)
theorem kt_340 : lw_tbl[340]? = some (.privateMethod y_X0_complement) := by decide +kernel
theorem k_341 : (.instanceMethod y_X0_complement : Cond) ∈ gw := gw_mem 341 (by decide +kernel) (by decide +kernel)
theorem k_342 : (.code y_X0_complement prog_2_method_16_code (2) none : Cond) ∈ gw := gw_mem 342 (by decide +kernel) (by decide +kernel)
theorem k_343 : (.methodLink "LimbRows$Row" (68) y_X0_addProductOf : Cond) ∈ gw := gw_mem 343 (by decide +kernel) (by decide +kernel)
theorem k_344 : (.methodLink "LimbRowsLaw" (127) y_L_times : Cond) ∈ gw := gw_mem 344 (by decide +kernel) (by decide +kernel)
theorem k_345 : (.static y_L_times : Cond) ∈ gw := gw_mem 345 (by decide +kernel) (by decide +kernel)
theorem k_346 : (.codeWith y_L_times method_13_code (6) (some .int) [((0), (11), (14), (13))] : Cond) ∈ gw := gw_mem 346 (by decide +kernel) (by decide +kernel)
theorem k_347 : (.methodLink "LimbRowsLaw" (48) y_X1_times : Cond) ∈ gw := gw_mem 347 (by decide +kernel) (by decide +kernel)
theorem k_348 : (.instanceMethod y_X1_times : Cond) ∈ gw := gw_mem 348 (by decide +kernel) (by decide +kernel)
theorem k_349 : (.selects "LimbRows" y_X1_times y_X1_times : Cond) ∈ gw := gw_mem 349 (by decide +kernel) (by decide +kernel)
theorem k_350 : (.code y_X1_times prog_1_method_12_code (5) (some .int) : Cond) ∈ gw := gw_mem 350 (by decide +kernel) (by decide +kernel)
theorem kt_351 : lw_tbl[351]? = some (.methodLinkNest "LimbRows" (78) y_X0_multiplyBy "LimbRows") := by decide +kernel
theorem kt_352 : lw_tbl[352]? = some (.privateMethod y_X0_multiplyBy) := by decide +kernel
theorem k_353 : (.instanceMethod y_X0_multiplyBy : Cond) ∈ gw := gw_mem 353 (by decide +kernel) (by decide +kernel)
theorem k_354 : (.code y_X0_multiplyBy prog_2_method_18_code (14) none : Cond) ∈ gw := gw_mem 354 (by decide +kernel) (by decide +kernel)
theorem k_355 : (.methodLink "LimbRowsLaw" (130) y_L_negate : Cond) ∈ gw := gw_mem 355 (by decide +kernel) (by decide +kernel)
theorem k_356 : (.static y_L_negate : Cond) ∈ gw := gw_mem 356 (by decide +kernel) (by decide +kernel)
theorem k_357 : (.codeWith y_L_negate method_14_code (4) (some .int) [((0), (16), (19), (13))] : Cond) ∈ gw := gw_mem 357 (by decide +kernel) (by decide +kernel)
theorem k_358 : (.methodLink "LimbRowsLaw" (52) y_X1_negate : Cond) ∈ gw := gw_mem 358 (by decide +kernel) (by decide +kernel)
theorem k_359 : (.instanceMethod y_X1_negate : Cond) ∈ gw := gw_mem 359 (by decide +kernel) (by decide +kernel)
theorem k_360 : (.selects "LimbRows" y_X1_negate y_X1_negate : Cond) ∈ gw := gw_mem 360 (by decide +kernel) (by decide +kernel)
theorem k_361 : (.code y_X1_negate prog_1_method_13_code (2) (some .boolean) : Cond) ∈ gw := gw_mem 361 (by decide +kernel) (by decide +kernel)
theorem kt_362 : lw_tbl[362]? = some (.methodLinkNest "LimbRows" (82) y_X0_turnRound "LimbRows") := by decide +kernel
theorem kt_363 : lw_tbl[363]? = some (.privateMethod y_X0_turnRound) := by decide +kernel
theorem k_364 : (.instanceMethod y_X0_turnRound : Cond) ∈ gw := gw_mem 364 (by decide +kernel) (by decide +kernel)
theorem k_365 : (.code y_X0_turnRound prog_2_method_19_code (2) (some .boolean) : Cond) ∈ gw := gw_mem 365 (by decide +kernel) (by decide +kernel)
theorem k_366 : (.methodLink "LimbRows$Row" (72) y_X0_increment : Cond) ∈ gw := gw_mem 366 (by decide +kernel) (by decide +kernel)
theorem kt_367 : lw_tbl[367]? = some (.privateMethod y_X0_increment) := by decide +kernel
theorem k_368 : (.instanceMethod y_X0_increment : Cond) ∈ gw := gw_mem 368 (by decide +kernel) (by decide +kernel)
theorem k_369 : (.code y_X0_increment prog_2_method_17_code (2) none : Cond) ∈ gw := gw_mem 369 (by decide +kernel) (by decide +kernel)
theorem k_370 : (.methodLink "LimbRowsLaw" (133) y_L_left : Cond) ∈ gw := gw_mem 370 (by decide +kernel) (by decide +kernel)
theorem k_371 : (.static y_L_left : Cond) ∈ gw := gw_mem 371 (by decide +kernel) (by decide +kernel)
theorem k_372 : (.codeWith y_L_left method_15_code (5) (some .int) [((0), (10), (13), (13)), ((0), (10), (17), (15))] : Cond) ∈ gw := gw_mem 372 (by decide +kernel) (by decide +kernel)
theorem k_373 : (.methodLink "LimbRowsLaw" (56) y_X1_left : Cond) ∈ gw := gw_mem 373 (by decide +kernel) (by decide +kernel)
theorem k_374 : (.instanceMethod y_X1_left : Cond) ∈ gw := gw_mem 374 (by decide +kernel) (by decide +kernel)
theorem k_375 : (.selects "LimbRows" y_X1_left y_X1_left : Cond) ∈ gw := gw_mem 375 (by decide +kernel) (by decide +kernel)
theorem k_376 : (.code y_X1_left prog_1_method_14_code (4) (some .int) : Cond) ∈ gw := gw_mem 376 (by decide +kernel) (by decide +kernel)
theorem k_377 : (.methodLink "LimbRows" (86) y_X1_refuseShift : Cond) ∈ gw := gw_mem 377 (by decide +kernel) (by decide +kernel)
theorem k_378 : (.static y_X1_refuseShift : Cond) ∈ gw := gw_mem 378 (by decide +kernel) (by decide +kernel)
theorem k_379 : (.code y_X1_refuseShift prog_1_method_24_code (1) none : Cond) ∈ gw := gw_mem 379 (by decide +kernel) (by decide +kernel)
theorem kt_380 : lw_tbl[380]? = some (.stringRef "LimbRows" (124) "a shift is 0 to 8192 bits") := by decide +kernel
theorem kt_381 : lw_tbl[381]? = some (.methodLinkNest "LimbRows" (90) y_X0_shiftUp "LimbRows") := by decide +kernel
theorem kt_382 : lw_tbl[382]? = some (.privateMethod y_X0_shiftUp) := by decide +kernel
theorem k_383 : (.instanceMethod y_X0_shiftUp : Cond) ∈ gw := gw_mem 383 (by decide +kernel) (by decide +kernel)
theorem k_384 : (.code y_X0_shiftUp prog_2_method_21_code (5) none : Cond) ∈ gw := gw_mem 384 (by decide +kernel) (by decide +kernel)
theorem k_385 : (.methodLink "LimbRows$Row" (75) y_X0_pairAt : Cond) ∈ gw := gw_mem 385 (by decide +kernel) (by decide +kernel)
theorem kt_386 : lw_tbl[386]? = some (.privateMethod y_X0_pairAt) := by decide +kernel
theorem k_387 : (.instanceMethod y_X0_pairAt : Cond) ∈ gw := gw_mem 387 (by decide +kernel) (by decide +kernel)
theorem k_388 : (.code y_X0_pairAt prog_2_method_20_code (2) (some .long) : Cond) ∈ gw := gw_mem 388 (by decide +kernel) (by decide +kernel)
theorem k_389 : (.methodLink "LimbRowsLaw" (136) y_L_right : Cond) ∈ gw := gw_mem 389 (by decide +kernel) (by decide +kernel)
theorem k_390 : (.static y_L_right : Cond) ∈ gw := gw_mem 390 (by decide +kernel) (by decide +kernel)
theorem k_391 : (.codeWith y_L_right method_16_code (5) (some .int) [((0), (10), (13), (13)), ((0), (10), (17), (15))] : Cond) ∈ gw := gw_mem 391 (by decide +kernel) (by decide +kernel)
theorem k_392 : (.methodLink "LimbRowsLaw" (59) y_X1_right : Cond) ∈ gw := gw_mem 392 (by decide +kernel) (by decide +kernel)
theorem k_393 : (.instanceMethod y_X1_right : Cond) ∈ gw := gw_mem 393 (by decide +kernel) (by decide +kernel)
theorem k_394 : (.selects "LimbRows" y_X1_right y_X1_right : Cond) ∈ gw := gw_mem 394 (by decide +kernel) (by decide +kernel)
theorem k_395 : (.code y_X1_right prog_1_method_15_code (4) (some .int) : Cond) ∈ gw := gw_mem 395 (by decide +kernel) (by decide +kernel)
theorem kt_396 : lw_tbl[396]? = some (.methodLinkNest "LimbRows" (93) y_X0_shiftDown "LimbRows") := by decide +kernel
theorem kt_397 : lw_tbl[397]? = some (.privateMethod y_X0_shiftDown) := by decide +kernel
theorem k_398 : (.instanceMethod y_X0_shiftDown : Cond) ∈ gw := gw_mem 398 (by decide +kernel) (by decide +kernel)
theorem k_399 : (.code y_X0_shiftDown prog_2_method_22_code (5) none : Cond) ∈ gw := gw_mem 399 (by decide +kernel) (by decide +kernel)
theorem k_400 : (.methodLink "LimbRowsLaw" (139) y_L_nearest : Cond) ∈ gw := gw_mem 400 (by decide +kernel) (by decide +kernel)
theorem k_401 : (.static y_L_nearest : Cond) ∈ gw := gw_mem 401 (by decide +kernel) (by decide +kernel)
theorem k_402 : (.codeWith y_L_nearest method_17_code (5) (some .int) [((0), (10), (13), (13)), ((0), (10), (17), (15))] : Cond) ∈ gw := gw_mem 402 (by decide +kernel) (by decide +kernel)
theorem k_403 : (.methodLink "LimbRowsLaw" (62) y_X1_nearest : Cond) ∈ gw := gw_mem 403 (by decide +kernel) (by decide +kernel)
theorem k_404 : (.instanceMethod y_X1_nearest : Cond) ∈ gw := gw_mem 404 (by decide +kernel) (by decide +kernel)
theorem k_405 : (.selects "LimbRows" y_X1_nearest y_X1_nearest : Cond) ∈ gw := gw_mem 405 (by decide +kernel) (by decide +kernel)
theorem k_406 : (.code y_X1_nearest prog_1_method_16_code (5) (some .int) : Cond) ∈ gw := gw_mem 406 (by decide +kernel) (by decide +kernel)
theorem kt_407 : lw_tbl[407]? = some (.methodLinkNest "LimbRows" (96) y_X0_roundsUp "LimbRows") := by decide +kernel
theorem kt_408 : lw_tbl[408]? = some (.privateMethod y_X0_roundsUp) := by decide +kernel
theorem k_409 : (.instanceMethod y_X0_roundsUp : Cond) ∈ gw := gw_mem 409 (by decide +kernel) (by decide +kernel)
theorem k_410 : (.code y_X0_roundsUp prog_2_method_23_code (3) (some .boolean) : Cond) ∈ gw := gw_mem 410 (by decide +kernel) (by decide +kernel)
theorem k_411 : (.methodLink "LimbRows$Row" (78) y_X0_bitAt : Cond) ∈ gw := gw_mem 411 (by decide +kernel) (by decide +kernel)
theorem kt_412 : lw_tbl[412]? = some (.privateMethod y_X0_bitAt) := by decide +kernel
theorem k_413 : (.instanceMethod y_X0_bitAt : Cond) ∈ gw := gw_mem 413 (by decide +kernel) (by decide +kernel)
theorem k_414 : (.code y_X0_bitAt prog_2_method_5_code (2) (some .int) : Cond) ∈ gw := gw_mem 414 (by decide +kernel) (by decide +kernel)
theorem k_415 : (.methodLink "LimbRows$Row" (81) y_X0_trailingZeros : Cond) ∈ gw := gw_mem 415 (by decide +kernel) (by decide +kernel)
theorem kt_416 : lw_tbl[416]? = some (.privateMethod y_X0_trailingZeros) := by decide +kernel
theorem k_417 : (.instanceMethod y_X0_trailingZeros : Cond) ∈ gw := gw_mem 417 (by decide +kernel) (by decide +kernel)
theorem k_418 : (.code y_X0_trailingZeros prog_2_method_27_code (2) (some .int) : Cond) ∈ gw := gw_mem 418 (by decide +kernel) (by decide +kernel)
theorem k_419 : (.methodLink "LimbRows$Row" (92) y_JI_numberOfTrailingZeros : Cond) ∈ gw := gw_mem 419 (by decide +kernel) (by decide +kernel)
theorem k_420 : (.static y_JI_numberOfTrailingZeros : Cond) ∈ gw := gw_mem 420 (by decide +kernel) (by decide +kernel)
theorem k_421 : (.code y_JI_numberOfTrailingZeros prog_9_method_48_code (2) (some .int) : Cond) ∈ gw := gw_mem 421 (by decide +kernel) (by decide +kernel)
theorem kt_422 : lw_tbl[422]? = some (.methodLinkNest "LimbRows" (99) y_X0_increment "LimbRows") := by decide +kernel
theorem k_423 : (.methodLink "LimbRowsLaw" (142) y_L_divide : Cond) ∈ gw := gw_mem 423 (by decide +kernel) (by decide +kernel)
theorem k_424 : (.static y_L_divide : Cond) ∈ gw := gw_mem 424 (by decide +kernel) (by decide +kernel)
theorem k_425 : (.codeWith y_L_divide method_18_code (6) (some .int) [((0), (10), (13), (13)), ((0), (10), (17), (15))] : Cond) ∈ gw := gw_mem 425 (by decide +kernel) (by decide +kernel)
theorem k_426 : (.methodLink "LimbRowsLaw" (65) y_X1_divide : Cond) ∈ gw := gw_mem 426 (by decide +kernel) (by decide +kernel)
theorem k_427 : (.instanceMethod y_X1_divide : Cond) ∈ gw := gw_mem 427 (by decide +kernel) (by decide +kernel)
theorem k_428 : (.selects "LimbRows" y_X1_divide y_X1_divide : Cond) ∈ gw := gw_mem 428 (by decide +kernel) (by decide +kernel)
theorem k_429 : (.code y_X1_divide prog_1_method_17_code (5) (some .long) : Cond) ∈ gw := gw_mem 429 (by decide +kernel) (by decide +kernel)
theorem k_430 : (.constantLong "LimbRows" (102) (4611686018427387903) : Cond) ∈ gw := gw_mem 430 (by decide +kernel) (by decide +kernel)
theorem kt_431 : lw_tbl[431]? = some (.stringRef "LimbRows" (104) "a divisor is 1 to 2^62 - 1") := by decide +kernel
theorem kt_432 : lw_tbl[432]? = some (.methodLinkNest "LimbRows" (106) y_X0_divideBy "LimbRows") := by decide +kernel
theorem kt_433 : lw_tbl[433]? = some (.privateMethod y_X0_divideBy) := by decide +kernel
theorem k_434 : (.instanceMethod y_X0_divideBy : Cond) ∈ gw := gw_mem 434 (by decide +kernel) (by decide +kernel)
theorem k_435 : (.code y_X0_divideBy prog_2_method_24_code (5) (some .long) : Cond) ∈ gw := gw_mem 435 (by decide +kernel) (by decide +kernel)
theorem k_436 : (.methodLink "LimbRows$Row" (84) y_X0_divideLimbs : Cond) ∈ gw := gw_mem 436 (by decide +kernel) (by decide +kernel)
theorem kt_437 : lw_tbl[437]? = some (.privateMethod y_X0_divideLimbs) := by decide +kernel
theorem k_438 : (.instanceMethod y_X0_divideLimbs : Cond) ∈ gw := gw_mem 438 (by decide +kernel) (by decide +kernel)
theorem k_439 : (.code y_X0_divideLimbs prog_2_method_25_code (6) (some .long) : Cond) ∈ gw := gw_mem 439 (by decide +kernel) (by decide +kernel)
theorem k_440 : (.methodLink "LimbRows$Row" (88) y_X0_divideLimb : Cond) ∈ gw := gw_mem 440 (by decide +kernel) (by decide +kernel)
theorem kt_441 : lw_tbl[441]? = some (.privateMethod y_X0_divideLimb) := by decide +kernel
theorem k_442 : (.instanceMethod y_X0_divideLimb : Cond) ∈ gw := gw_mem 442 (by decide +kernel) (by decide +kernel)
theorem k_443 : (.code y_X0_divideLimb prog_2_method_26_code (10) (some .long) : Cond) ∈ gw := gw_mem 443 (by decide +kernel) (by decide +kernel)
theorem k_444 : (.methodLink "LimbRowsLaw" (145) y_L_zeros : Cond) ∈ gw := gw_mem 444 (by decide +kernel) (by decide +kernel)
theorem k_445 : (.static y_L_zeros : Cond) ∈ gw := gw_mem 445 (by decide +kernel) (by decide +kernel)
theorem k_446 : (.codeWith y_L_zeros method_19_code (4) (some .int) [((0), (9), (12), (13))] : Cond) ∈ gw := gw_mem 446 (by decide +kernel) (by decide +kernel)
theorem k_447 : (.methodLink "LimbRowsLaw" (69) y_X1_zeros : Cond) ∈ gw := gw_mem 447 (by decide +kernel) (by decide +kernel)
theorem k_448 : (.instanceMethod y_X1_zeros : Cond) ∈ gw := gw_mem 448 (by decide +kernel) (by decide +kernel)
theorem k_449 : (.selects "LimbRows" y_X1_zeros y_X1_zeros : Cond) ∈ gw := gw_mem 449 (by decide +kernel) (by decide +kernel)
theorem k_450 : (.code y_X1_zeros prog_1_method_18_code (2) (some .int) : Cond) ∈ gw := gw_mem 450 (by decide +kernel) (by decide +kernel)
theorem kt_451 : lw_tbl[451]? = some (.methodLinkNest "LimbRows" (110) y_X0_trailingZeros "LimbRows") := by decide +kernel
theorem k_452 : (.methodLink "LimbRowsLaw" (148) y_L_length : Cond) ∈ gw := gw_mem 452 (by decide +kernel) (by decide +kernel)
theorem k_453 : (.static y_L_length : Cond) ∈ gw := gw_mem 453 (by decide +kernel) (by decide +kernel)
theorem k_454 : (.codeWith y_L_length method_20_code (4) (some .int) [((0), (9), (12), (13))] : Cond) ∈ gw := gw_mem 454 (by decide +kernel) (by decide +kernel)
theorem k_455 : (.methodLink "LimbRowsLaw" (72) y_X1_length : Cond) ∈ gw := gw_mem 455 (by decide +kernel) (by decide +kernel)
theorem k_456 : (.instanceMethod y_X1_length : Cond) ∈ gw := gw_mem 456 (by decide +kernel) (by decide +kernel)
theorem k_457 : (.selects "LimbRows" y_X1_length y_X1_length : Cond) ∈ gw := gw_mem 457 (by decide +kernel) (by decide +kernel)
theorem k_458 : (.code y_X1_length prog_1_method_19_code (2) (some .int) : Cond) ∈ gw := gw_mem 458 (by decide +kernel) (by decide +kernel)
theorem kt_459 : lw_tbl[459]? = some (.methodLinkNest "LimbRows" (113) y_X0_bitLength "LimbRows") := by decide +kernel
theorem k_460 : (.methodLink "LimbRowsLaw" (151) y_L_sign : Cond) ∈ gw := gw_mem 460 (by decide +kernel) (by decide +kernel)
theorem k_461 : (.static y_L_sign : Cond) ∈ gw := gw_mem 461 (by decide +kernel) (by decide +kernel)
theorem k_462 : (.codeWith y_L_sign method_21_code (4) (some .int) [((0), (9), (12), (13))] : Cond) ∈ gw := gw_mem 462 (by decide +kernel) (by decide +kernel)
theorem k_463 : (.methodLink "LimbRowsLaw" (75) y_X1_sign : Cond) ∈ gw := gw_mem 463 (by decide +kernel) (by decide +kernel)
theorem k_464 : (.instanceMethod y_X1_sign : Cond) ∈ gw := gw_mem 464 (by decide +kernel) (by decide +kernel)
theorem k_465 : (.selects "LimbRows" y_X1_sign y_X1_sign : Cond) ∈ gw := gw_mem 465 (by decide +kernel) (by decide +kernel)
theorem k_466 : (.code y_X1_sign prog_1_method_20_code (2) (some .int) : Cond) ∈ gw := gw_mem 466 (by decide +kernel) (by decide +kernel)
theorem k_467 : (.methodLink "LimbRowsLaw" (154) y_L_compare : Cond) ∈ gw := gw_mem 467 (by decide +kernel) (by decide +kernel)
theorem k_468 : (.static y_L_compare : Cond) ∈ gw := gw_mem 468 (by decide +kernel) (by decide +kernel)
theorem k_469 : (.codeWith y_L_compare method_22_code (5) (some .int) [((0), (10), (13), (13))] : Cond) ∈ gw := gw_mem 469 (by decide +kernel) (by decide +kernel)
theorem k_470 : (.methodLink "LimbRowsLaw" (78) y_X1_compare : Cond) ∈ gw := gw_mem 470 (by decide +kernel) (by decide +kernel)
theorem k_471 : (.instanceMethod y_X1_compare : Cond) ∈ gw := gw_mem 471 (by decide +kernel) (by decide +kernel)
theorem k_472 : (.selects "LimbRows" y_X1_compare y_X1_compare : Cond) ∈ gw := gw_mem 472 (by decide +kernel) (by decide +kernel)
theorem k_473 : (.code y_X1_compare prog_1_method_21_code (5) (some .int) : Cond) ∈ gw := gw_mem 473 (by decide +kernel) (by decide +kernel)
theorem kt_474 : lw_tbl[474]? = some (.methodLinkNest "LimbRows" (116) y_X0_order "LimbRows") := by decide +kernel
theorem kt_475 : lw_tbl[475]? = some (.privateMethod y_X0_order) := by decide +kernel
theorem k_476 : (.instanceMethod y_X0_order : Cond) ∈ gw := gw_mem 476 (by decide +kernel) (by decide +kernel)
theorem k_477 : (.code y_X0_order prog_2_method_30_code (4) (some .int) : Cond) ∈ gw := gw_mem 477 (by decide +kernel) (by decide +kernel)
theorem k_478 : (.methodLink "LimbRows$Row" (100) y_JM_max : Cond) ∈ gw := gw_mem 478 (by decide +kernel) (by decide +kernel)
theorem k_479 : (.static y_JM_max : Cond) ∈ gw := gw_mem 479 (by decide +kernel) (by decide +kernel)
theorem k_480 : (.code y_JM_max prog_11_method_65_code (2) (some .int) : Cond) ∈ gw := gw_mem 480 (by decide +kernel) (by decide +kernel)
theorem k_481 : (.methodLink "LimbRows$Row" (103) y_JL_compare : Cond) ∈ gw := gw_mem 481 (by decide +kernel) (by decide +kernel)
theorem k_482 : (.static y_JL_compare : Cond) ∈ gw := gw_mem 482 (by decide +kernel) (by decide +kernel)
theorem k_483 : (.code y_JL_compare prog_10_method_42_code (4) (some .int) : Cond) ∈ gw := gw_mem 483 (by decide +kernel) (by decide +kernel)
theorem k_484 : (.classLink "LimbRowsLaw" (82) "LimbRowsModel" : Cond) ∈ gw := gw_mem 484 (by decide +kernel) (by decide +kernel)
theorem k_485 : (.instantiable "LimbRowsModel" (5) : Cond) ∈ gw := gw_mem 485 (by decide +kernel) (by decide +kernel)
theorem k_486 : (.methodLink "LimbRowsLaw" (84) y_X2_init : Cond) ∈ gw := gw_mem 486 (by decide +kernel) (by decide +kernel)
theorem k_487 : (.instanceMethod y_X2_init : Cond) ∈ gw := gw_mem 487 (by decide +kernel) (by decide +kernel)
theorem k_488 : (.code y_X2_init prog_4_method_1_code (2) none : Cond) ∈ gw := gw_mem 488 (by decide +kernel) (by decide +kernel)
theorem k_489 : (.methodLink "LimbRowsModel" (1) ⟨"java/lang/Object", "<init>", "()V"⟩ : Cond) ∈ gw := gw_mem 489 (by decide +kernel) (by decide +kernel)
theorem k_490 : (.constant "LimbRowsModel" (13) (32768) : Cond) ∈ gw := gw_mem 490 (by decide +kernel) (by decide +kernel)
theorem k_491 : (.fieldLink "LimbRowsModel" (23) "LimbRowsModel" "code" "I" : Cond) ∈ gw := gw_mem 491 (by decide +kernel) (by decide +kernel)
theorem k_492 : (.fieldLink "LimbRowsModel" (7) "LimbRowsModel" "widths" "[I" : Cond) ∈ gw := gw_mem 492 (by decide +kernel) (by decide +kernel)
theorem k_493 : (.fieldLink "LimbRowsModel" (14) "LimbRowsModel" "rows" "[I" : Cond) ∈ gw := gw_mem 493 (by decide +kernel) (by decide +kernel)
theorem k_494 : (.fieldLink "LimbRowsModel" (17) "LimbRowsModel" "signs" "[I" : Cond) ∈ gw := gw_mem 494 (by decide +kernel) (by decide +kernel)
theorem k_495 : (.fieldLink "LimbRowsModel" (20) "LimbRowsModel" "sizes" "[I" : Cond) ∈ gw := gw_mem 495 (by decide +kernel) (by decide +kernel)
theorem k_496 : (.lays "LimbRowsModel" "LimbRowsModel" "code" "I" : Cond) ∈ gw := gw_mem 496 (by decide +kernel) (by decide +kernel)
theorem k_497 : (.soleField "LimbRowsModel" "code" : Cond) ∈ gw := gw_mem 497 (by decide +kernel) (by decide +kernel)
theorem k_498 : (.laysFinal "LimbRowsModel" "LimbRowsModel" "widths" "[I" : Cond) ∈ gw := gw_mem 498 (by decide +kernel) (by decide +kernel)
theorem k_499 : (.soleField "LimbRowsModel" "widths" : Cond) ∈ gw := gw_mem 499 (by decide +kernel) (by decide +kernel)
theorem k_500 : (.laysFinal "LimbRowsModel" "LimbRowsModel" "rows" "[I" : Cond) ∈ gw := gw_mem 500 (by decide +kernel) (by decide +kernel)
theorem k_501 : (.soleField "LimbRowsModel" "rows" : Cond) ∈ gw := gw_mem 501 (by decide +kernel) (by decide +kernel)
theorem k_502 : (.laysFinal "LimbRowsModel" "LimbRowsModel" "signs" "[I" : Cond) ∈ gw := gw_mem 502 (by decide +kernel) (by decide +kernel)
theorem k_503 : (.soleField "LimbRowsModel" "signs" : Cond) ∈ gw := gw_mem 503 (by decide +kernel) (by decide +kernel)
theorem k_504 : (.laysFinal "LimbRowsModel" "LimbRowsModel" "sizes" "[I" : Cond) ∈ gw := gw_mem 504 (by decide +kernel) (by decide +kernel)
theorem k_505 : (.soleField "LimbRowsModel" "sizes" : Cond) ∈ gw := gw_mem 505 (by decide +kernel) (by decide +kernel)
theorem k_506 : (.superclass "LimbRowsModel" "java/lang/Object" : Cond) ∈ gw := gw_mem 506 (by decide +kernel) (by decide +kernel)
theorem k_507 : (.methodLink "LimbRowsLaw" (91) y_X2_thrown : Cond) ∈ gw := gw_mem 507 (by decide +kernel) (by decide +kernel)
theorem k_508 : (.instanceMethod y_X2_thrown : Cond) ∈ gw := gw_mem 508 (by decide +kernel) (by decide +kernel)
theorem k_509 : (.selects "LimbRowsModel" y_X2_thrown y_X2_thrown : Cond) ∈ gw := gw_mem 509 (by decide +kernel) (by decide +kernel)
theorem k_510 : (.code y_X2_thrown prog_4_method_2_code (1) (some .int) : Cond) ∈ gw := gw_mem 510 (by decide +kernel) (by decide +kernel)
theorem k_511 : (.methodLink "LimbRowsLaw" (90) y_X2_widen : Cond) ∈ gw := gw_mem 511 (by decide +kernel) (by decide +kernel)
theorem k_512 : (.instanceMethod y_X2_widen : Cond) ∈ gw := gw_mem 512 (by decide +kernel) (by decide +kernel)
theorem k_513 : (.selects "LimbRowsModel" y_X2_widen y_X2_widen : Cond) ∈ gw := gw_mem 513 (by decide +kernel) (by decide +kernel)
theorem k_514 : (.code y_X2_widen prog_4_method_18_code (3) (some .boolean) : Cond) ∈ gw := gw_mem 514 (by decide +kernel) (by decide +kernel)
theorem k_515 : (.methodLink "LimbRowsModel" (62) y_X2_isRow : Cond) ∈ gw := gw_mem 515 (by decide +kernel) (by decide +kernel)
theorem k_516 : (.static y_X2_isRow : Cond) ∈ gw := gw_mem 516 (by decide +kernel) (by decide +kernel)
theorem k_517 : (.code y_X2_isRow prog_4_method_4_code (1) (some .boolean) : Cond) ∈ gw := gw_mem 517 (by decide +kernel) (by decide +kernel)
theorem k_518 : (.methodLink "LimbRowsModel" (65) y_X2_refuses : Cond) ∈ gw := gw_mem 518 (by decide +kernel) (by decide +kernel)
theorem kt_519 : lw_tbl[519]? = some (.privateMethod y_X2_refuses) := by decide +kernel
theorem k_520 : (.instanceMethod y_X2_refuses : Cond) ∈ gw := gw_mem 520 (by decide +kernel) (by decide +kernel)
theorem k_521 : (.code y_X2_refuses prog_4_method_3_code (2) (some .boolean) : Cond) ∈ gw := gw_mem 521 (by decide +kernel) (by decide +kernel)
theorem k_522 : (.methodLink "LimbRowsModel" (53) y_X2_load : Cond) ∈ gw := gw_mem 522 (by decide +kernel) (by decide +kernel)
theorem kt_523 : lw_tbl[523]? = some (.privateMethod y_X2_load) := by decide +kernel
theorem k_524 : (.instanceMethod y_X2_load : Cond) ∈ gw := gw_mem 524 (by decide +kernel) (by decide +kernel)
theorem k_525 : (.code y_X2_load prog_4_method_7_code (8) none : Cond) ∈ gw := gw_mem 525 (by decide +kernel) (by decide +kernel)
theorem k_526 : (.methodLink "LimbRowsModel" (27) y_X2_clear : Cond) ∈ gw := gw_mem 526 (by decide +kernel) (by decide +kernel)
theorem kt_527 : lw_tbl[527]? = some (.privateMethod y_X2_clear) := by decide +kernel
theorem k_528 : (.instanceMethod y_X2_clear : Cond) ∈ gw := gw_mem 528 (by decide +kernel) (by decide +kernel)
theorem k_529 : (.code y_X2_clear prog_4_method_5_code (3) none : Cond) ∈ gw := gw_mem 529 (by decide +kernel) (by decide +kernel)
theorem k_530 : (.constant "LimbRowsModel" (31) (65535) : Cond) ∈ gw := gw_mem 530 (by decide +kernel) (by decide +kernel)
theorem k_531 : (.constant "LimbRowsModel" (32) (65536) : Cond) ∈ gw := gw_mem 531 (by decide +kernel) (by decide +kernel)
theorem k_532 : (.methodLink "LimbRowsModel" (33) y_X2_isZero : Cond) ∈ gw := gw_mem 532 (by decide +kernel) (by decide +kernel)
theorem kt_533 : lw_tbl[533]? = some (.privateMethod y_X2_isZero) := by decide +kernel
theorem k_534 : (.instanceMethod y_X2_isZero : Cond) ∈ gw := gw_mem 534 (by decide +kernel) (by decide +kernel)
theorem k_535 : (.code y_X2_isZero prog_4_method_6_code (4) (some .boolean) : Cond) ∈ gw := gw_mem 535 (by decide +kernel) (by decide +kernel)
theorem k_536 : (.methodLink "LimbRowsModel" (68) y_X2_store : Cond) ∈ gw := gw_mem 536 (by decide +kernel) (by decide +kernel)
theorem kt_537 : lw_tbl[537]? = some (.privateMethod y_X2_store) := by decide +kernel
theorem k_538 : (.instanceMethod y_X2_store : Cond) ∈ gw := gw_mem 538 (by decide +kernel) (by decide +kernel)
theorem k_539 : (.code y_X2_store prog_4_method_13_code (8) (some .boolean) : Cond) ∈ gw := gw_mem 539 (by decide +kernel) (by decide +kernel)
theorem k_540 : (.methodLink "LimbRowsModel" (50) y_X2_lengthOf : Cond) ∈ gw := gw_mem 540 (by decide +kernel) (by decide +kernel)
theorem kt_541 : lw_tbl[541]? = some (.privateMethod y_X2_lengthOf) := by decide +kernel
theorem k_542 : (.instanceMethod y_X2_lengthOf : Cond) ∈ gw := gw_mem 542 (by decide +kernel) (by decide +kernel)
theorem k_543 : (.code y_X2_lengthOf prog_4_method_12_code (3) (some .int) : Cond) ∈ gw := gw_mem 543 (by decide +kernel) (by decide +kernel)
theorem k_544 : (.methodLink "LimbRowsModel" (43) y_X2_bits : Cond) ∈ gw := gw_mem 544 (by decide +kernel) (by decide +kernel)
theorem kt_545 : lw_tbl[545]? = some (.privateMethod y_X2_bits) := by decide +kernel
theorem k_546 : (.instanceMethod y_X2_bits : Cond) ∈ gw := gw_mem 546 (by decide +kernel) (by decide +kernel)
theorem k_547 : (.code y_X2_bits prog_4_method_9_code (4) (some .int) : Cond) ∈ gw := gw_mem 547 (by decide +kernel) (by decide +kernel)
theorem k_548 : (.methodLink "LimbRowsModel" (47) y_X2_zerosOf : Cond) ∈ gw := gw_mem 548 (by decide +kernel) (by decide +kernel)
theorem kt_549 : lw_tbl[549]? = some (.privateMethod y_X2_zerosOf) := by decide +kernel
theorem k_550 : (.instanceMethod y_X2_zerosOf : Cond) ∈ gw := gw_mem 550 (by decide +kernel) (by decide +kernel)
theorem k_551 : (.code y_X2_zerosOf prog_4_method_11_code (3) (some .int) : Cond) ∈ gw := gw_mem 551 (by decide +kernel) (by decide +kernel)
theorem k_552 : (.methodLink "LimbRowsModel" (39) y_X2_bit : Cond) ∈ gw := gw_mem 552 (by decide +kernel) (by decide +kernel)
theorem kt_553 : lw_tbl[553]? = some (.privateMethod y_X2_bit) := by decide +kernel
theorem k_554 : (.instanceMethod y_X2_bit : Cond) ∈ gw := gw_mem 554 (by decide +kernel) (by decide +kernel)
theorem k_555 : (.code y_X2_bit prog_4_method_10_code (3) (some .int) : Cond) ∈ gw := gw_mem 555 (by decide +kernel) (by decide +kernel)
theorem k_556 : (.methodLink "LimbRowsLaw" (98) y_X2_width : Cond) ∈ gw := gw_mem 556 (by decide +kernel) (by decide +kernel)
theorem k_557 : (.instanceMethod y_X2_width : Cond) ∈ gw := gw_mem 557 (by decide +kernel) (by decide +kernel)
theorem k_558 : (.selects "LimbRowsModel" y_X2_width y_X2_width : Cond) ∈ gw := gw_mem 558 (by decide +kernel) (by decide +kernel)
theorem k_559 : (.code y_X2_width prog_4_method_19_code (2) (some .int) : Cond) ∈ gw := gw_mem 559 (by decide +kernel) (by decide +kernel)
theorem k_560 : (.methodLink "LimbRowsLaw" (104) y_X2_set : Cond) ∈ gw := gw_mem 560 (by decide +kernel) (by decide +kernel)
theorem k_561 : (.instanceMethod y_X2_set : Cond) ∈ gw := gw_mem 561 (by decide +kernel) (by decide +kernel)
theorem k_562 : (.selects "LimbRowsModel" y_X2_set y_X2_set : Cond) ∈ gw := gw_mem 562 (by decide +kernel) (by decide +kernel)
theorem k_563 : (.code y_X2_set prog_4_method_20_code (4) (some .boolean) : Cond) ∈ gw := gw_mem 563 (by decide +kernel) (by decide +kernel)
theorem k_564 : (.methodLink "LimbRowsModel" (72) y_X2_loadLong : Cond) ∈ gw := gw_mem 564 (by decide +kernel) (by decide +kernel)
theorem kt_565 : lw_tbl[565]? = some (.privateMethod y_X2_loadLong) := by decide +kernel
theorem k_566 : (.instanceMethod y_X2_loadLong : Cond) ∈ gw := gw_mem 566 (by decide +kernel) (by decide +kernel)
theorem k_567 : (.code y_X2_loadLong prog_4_method_8_code (7) none : Cond) ∈ gw := gw_mem 567 (by decide +kernel) (by decide +kernel)
theorem k_568 : (.constantLong "LimbRowsModel" (37) (65535) : Cond) ∈ gw := gw_mem 568 (by decide +kernel) (by decide +kernel)
theorem k_569 : (.methodLink "LimbRowsLaw" (108) y_X2_put : Cond) ∈ gw := gw_mem 569 (by decide +kernel) (by decide +kernel)
theorem k_570 : (.instanceMethod y_X2_put : Cond) ∈ gw := gw_mem 570 (by decide +kernel) (by decide +kernel)
theorem k_571 : (.selects "LimbRowsModel" y_X2_put y_X2_put : Cond) ∈ gw := gw_mem 571 (by decide +kernel) (by decide +kernel)
theorem k_572 : (.code y_X2_put prog_4_method_22_code (5) (some .int) : Cond) ∈ gw := gw_mem 572 (by decide +kernel) (by decide +kernel)
theorem k_573 : (.methodLink "LimbRowsModel" (76) y_X2_limbOf : Cond) ∈ gw := gw_mem 573 (by decide +kernel) (by decide +kernel)
theorem kt_574 : lw_tbl[574]? = some (.privateMethod y_X2_limbOf) := by decide +kernel
theorem k_575 : (.instanceMethod y_X2_limbOf : Cond) ∈ gw := gw_mem 575 (by decide +kernel) (by decide +kernel)
theorem k_576 : (.code y_X2_limbOf prog_4_method_21_code (3) (some .int) : Cond) ∈ gw := gw_mem 576 (by decide +kernel) (by decide +kernel)
theorem k_577 : (.methodLink "LimbRowsLaw" (111) y_X2_limb : Cond) ∈ gw := gw_mem 577 (by decide +kernel) (by decide +kernel)
theorem k_578 : (.instanceMethod y_X2_limb : Cond) ∈ gw := gw_mem 578 (by decide +kernel) (by decide +kernel)
theorem k_579 : (.selects "LimbRowsModel" y_X2_limb y_X2_limb : Cond) ∈ gw := gw_mem 579 (by decide +kernel) (by decide +kernel)
theorem k_580 : (.code y_X2_limb prog_4_method_23_code (3) (some .int) : Cond) ∈ gw := gw_mem 580 (by decide +kernel) (by decide +kernel)
theorem k_581 : (.methodLink "LimbRowsModel" (79) y_X2_signOf : Cond) ∈ gw := gw_mem 581 (by decide +kernel) (by decide +kernel)
theorem kt_582 : lw_tbl[582]? = some (.privateMethod y_X2_signOf) := by decide +kernel
theorem k_583 : (.instanceMethod y_X2_signOf : Cond) ∈ gw := gw_mem 583 (by decide +kernel) (by decide +kernel)
theorem k_584 : (.code y_X2_signOf prog_4_method_14_code (2) (some .int) : Cond) ∈ gw := gw_mem 584 (by decide +kernel) (by decide +kernel)
theorem k_585 : (.methodLink "LimbRowsLaw" (114) y_X2_copy : Cond) ∈ gw := gw_mem 585 (by decide +kernel) (by decide +kernel)
theorem k_586 : (.instanceMethod y_X2_copy : Cond) ∈ gw := gw_mem 586 (by decide +kernel) (by decide +kernel)
theorem k_587 : (.selects "LimbRowsModel" y_X2_copy y_X2_copy : Cond) ∈ gw := gw_mem 587 (by decide +kernel) (by decide +kernel)
theorem k_588 : (.code y_X2_copy prog_4_method_24_code (3) (some .boolean) : Cond) ∈ gw := gw_mem 588 (by decide +kernel) (by decide +kernel)
theorem k_589 : (.methodLink "LimbRowsLaw" (117) y_X2_add : Cond) ∈ gw := gw_mem 589 (by decide +kernel) (by decide +kernel)
theorem k_590 : (.instanceMethod y_X2_add : Cond) ∈ gw := gw_mem 590 (by decide +kernel) (by decide +kernel)
theorem k_591 : (.selects "LimbRowsModel" y_X2_add y_X2_add : Cond) ∈ gw := gw_mem 591 (by decide +kernel) (by decide +kernel)
theorem k_592 : (.code y_X2_add prog_4_method_27_code (3) (some .int) : Cond) ∈ gw := gw_mem 592 (by decide +kernel) (by decide +kernel)
theorem k_593 : (.methodLink "LimbRowsModel" (89) y_X2_together : Cond) ∈ gw := gw_mem 593 (by decide +kernel) (by decide +kernel)
theorem kt_594 : lw_tbl[594]? = some (.privateMethod y_X2_together) := by decide +kernel
theorem k_595 : (.instanceMethod y_X2_together : Cond) ∈ gw := gw_mem 595 (by decide +kernel) (by decide +kernel)
theorem k_596 : (.code y_X2_together prog_4_method_26_code (4) (some .int) : Cond) ∈ gw := gw_mem 596 (by decide +kernel) (by decide +kernel)
theorem k_597 : (.methodLink "LimbRowsModel" (82) y_X2_combine : Cond) ∈ gw := gw_mem 597 (by decide +kernel) (by decide +kernel)
theorem kt_598 : lw_tbl[598]? = some (.privateMethod y_X2_combine) := by decide +kernel
theorem k_599 : (.instanceMethod y_X2_combine : Cond) ∈ gw := gw_mem 599 (by decide +kernel) (by decide +kernel)
theorem k_600 : (.code y_X2_combine prog_4_method_16_code (11) none : Cond) ∈ gw := gw_mem 600 (by decide +kernel) (by decide +kernel)
theorem k_601 : (.methodLink "LimbRowsModel" (57) y_X2_compareSizes : Cond) ∈ gw := gw_mem 601 (by decide +kernel) (by decide +kernel)
theorem kt_602 : lw_tbl[602]? = some (.privateMethod y_X2_compareSizes) := by decide +kernel
theorem k_603 : (.instanceMethod y_X2_compareSizes : Cond) ∈ gw := gw_mem 603 (by decide +kernel) (by decide +kernel)
theorem k_604 : (.code y_X2_compareSizes prog_4_method_15_code (5) (some .int) : Cond) ∈ gw := gw_mem 604 (by decide +kernel) (by decide +kernel)
theorem k_605 : (.methodLink "LimbRowsModel" (86) y_X2_kept : Cond) ∈ gw := gw_mem 605 (by decide +kernel) (by decide +kernel)
theorem kt_606 : lw_tbl[606]? = some (.privateMethod y_X2_kept) := by decide +kernel
theorem k_607 : (.instanceMethod y_X2_kept : Cond) ∈ gw := gw_mem 607 (by decide +kernel) (by decide +kernel)
theorem k_608 : (.code y_X2_kept prog_4_method_25_code (3) (some .int) : Cond) ∈ gw := gw_mem 608 (by decide +kernel) (by decide +kernel)
theorem k_609 : (.methodLink "LimbRowsLaw" (120) y_X2_subtract : Cond) ∈ gw := gw_mem 609 (by decide +kernel) (by decide +kernel)
theorem k_610 : (.instanceMethod y_X2_subtract : Cond) ∈ gw := gw_mem 610 (by decide +kernel) (by decide +kernel)
theorem k_611 : (.selects "LimbRowsModel" y_X2_subtract y_X2_subtract : Cond) ∈ gw := gw_mem 611 (by decide +kernel) (by decide +kernel)
theorem k_612 : (.code y_X2_subtract prog_4_method_28_code (3) (some .int) : Cond) ∈ gw := gw_mem 612 (by decide +kernel) (by decide +kernel)
theorem k_613 : (.methodLink "LimbRowsLaw" (123) y_X2_addProduct : Cond) ∈ gw := gw_mem 613 (by decide +kernel) (by decide +kernel)
theorem k_614 : (.instanceMethod y_X2_addProduct : Cond) ∈ gw := gw_mem 614 (by decide +kernel) (by decide +kernel)
theorem k_615 : (.selects "LimbRowsModel" y_X2_addProduct y_X2_addProduct : Cond) ∈ gw := gw_mem 615 (by decide +kernel) (by decide +kernel)
theorem k_616 : (.code y_X2_addProduct prog_4_method_30_code (4) (some .int) : Cond) ∈ gw := gw_mem 616 (by decide +kernel) (by decide +kernel)
theorem k_617 : (.methodLink "LimbRowsModel" (96) y_X2_product : Cond) ∈ gw := gw_mem 617 (by decide +kernel) (by decide +kernel)
theorem kt_618 : lw_tbl[618]? = some (.privateMethod y_X2_product) := by decide +kernel
theorem k_619 : (.instanceMethod y_X2_product : Cond) ∈ gw := gw_mem 619 (by decide +kernel) (by decide +kernel)
theorem k_620 : (.code y_X2_product prog_4_method_29_code (5) (some .int) : Cond) ∈ gw := gw_mem 620 (by decide +kernel) (by decide +kernel)
theorem k_621 : (.methodLink "LimbRowsModel" (93) y_X2_multiply : Cond) ∈ gw := gw_mem 621 (by decide +kernel) (by decide +kernel)
theorem kt_622 : lw_tbl[622]? = some (.privateMethod y_X2_multiply) := by decide +kernel
theorem k_623 : (.instanceMethod y_X2_multiply : Cond) ∈ gw := gw_mem 623 (by decide +kernel) (by decide +kernel)
theorem k_624 : (.code y_X2_multiply prog_4_method_17_code (9) none : Cond) ∈ gw := gw_mem 624 (by decide +kernel) (by decide +kernel)
theorem k_625 : (.constantLong "LimbRowsModel" (60) (281474976710655) : Cond) ∈ gw := gw_mem 625 (by decide +kernel) (by decide +kernel)
theorem k_626 : (.methodLink "LimbRowsLaw" (126) y_X2_subtractProduct : Cond) ∈ gw := gw_mem 626 (by decide +kernel) (by decide +kernel)
theorem k_627 : (.instanceMethod y_X2_subtractProduct : Cond) ∈ gw := gw_mem 627 (by decide +kernel) (by decide +kernel)
theorem k_628 : (.selects "LimbRowsModel" y_X2_subtractProduct y_X2_subtractProduct : Cond) ∈ gw := gw_mem 628 (by decide +kernel) (by decide +kernel)
theorem k_629 : (.code y_X2_subtractProduct prog_4_method_31_code (4) (some .int) : Cond) ∈ gw := gw_mem 629 (by decide +kernel) (by decide +kernel)
theorem k_630 : (.methodLink "LimbRowsLaw" (129) y_X2_times : Cond) ∈ gw := gw_mem 630 (by decide +kernel) (by decide +kernel)
theorem k_631 : (.instanceMethod y_X2_times : Cond) ∈ gw := gw_mem 631 (by decide +kernel) (by decide +kernel)
theorem k_632 : (.selects "LimbRowsModel" y_X2_times y_X2_times : Cond) ∈ gw := gw_mem 632 (by decide +kernel) (by decide +kernel)
theorem k_633 : (.code y_X2_times prog_4_method_32_code (4) (some .int) : Cond) ∈ gw := gw_mem 633 (by decide +kernel) (by decide +kernel)
theorem k_634 : (.methodLink "LimbRowsLaw" (132) y_X2_negate : Cond) ∈ gw := gw_mem 634 (by decide +kernel) (by decide +kernel)
theorem k_635 : (.instanceMethod y_X2_negate : Cond) ∈ gw := gw_mem 635 (by decide +kernel) (by decide +kernel)
theorem k_636 : (.selects "LimbRowsModel" y_X2_negate y_X2_negate : Cond) ∈ gw := gw_mem 636 (by decide +kernel) (by decide +kernel)
theorem k_637 : (.code y_X2_negate prog_4_method_33_code (2) (some .boolean) : Cond) ∈ gw := gw_mem 637 (by decide +kernel) (by decide +kernel)
theorem k_638 : (.methodLink "LimbRowsLaw" (135) y_X2_left : Cond) ∈ gw := gw_mem 638 (by decide +kernel) (by decide +kernel)
theorem k_639 : (.instanceMethod y_X2_left : Cond) ∈ gw := gw_mem 639 (by decide +kernel) (by decide +kernel)
theorem k_640 : (.selects "LimbRowsModel" y_X2_left y_X2_left : Cond) ∈ gw := gw_mem 640 (by decide +kernel) (by decide +kernel)
theorem k_641 : (.code y_X2_left prog_4_method_34_code (5) (some .int) : Cond) ∈ gw := gw_mem 641 (by decide +kernel) (by decide +kernel)
theorem k_642 : (.methodLink "LimbRowsLaw" (138) y_X2_right : Cond) ∈ gw := gw_mem 642 (by decide +kernel) (by decide +kernel)
theorem k_643 : (.instanceMethod y_X2_right : Cond) ∈ gw := gw_mem 643 (by decide +kernel) (by decide +kernel)
theorem k_644 : (.selects "LimbRowsModel" y_X2_right y_X2_right : Cond) ∈ gw := gw_mem 644 (by decide +kernel) (by decide +kernel)
theorem k_645 : (.code y_X2_right prog_4_method_36_code (3) (some .int) : Cond) ∈ gw := gw_mem 645 (by decide +kernel) (by decide +kernel)
theorem k_646 : (.methodLink "LimbRowsModel" (100) y_X2_halve : Cond) ∈ gw := gw_mem 646 (by decide +kernel) (by decide +kernel)
theorem kt_647 : lw_tbl[647]? = some (.privateMethod y_X2_halve) := by decide +kernel
theorem k_648 : (.instanceMethod y_X2_halve : Cond) ∈ gw := gw_mem 648 (by decide +kernel) (by decide +kernel)
theorem k_649 : (.code y_X2_halve prog_4_method_35_code (5) none : Cond) ∈ gw := gw_mem 649 (by decide +kernel) (by decide +kernel)
theorem k_650 : (.methodLink "LimbRowsLaw" (141) y_X2_nearest : Cond) ∈ gw := gw_mem 650 (by decide +kernel) (by decide +kernel)
theorem k_651 : (.instanceMethod y_X2_nearest : Cond) ∈ gw := gw_mem 651 (by decide +kernel) (by decide +kernel)
theorem k_652 : (.selects "LimbRowsModel" y_X2_nearest y_X2_nearest : Cond) ∈ gw := gw_mem 652 (by decide +kernel) (by decide +kernel)
theorem k_653 : (.code y_X2_nearest prog_4_method_37_code (5) (some .int) : Cond) ∈ gw := gw_mem 653 (by decide +kernel) (by decide +kernel)
theorem k_654 : (.methodLink "LimbRowsLaw" (144) y_X2_divide : Cond) ∈ gw := gw_mem 654 (by decide +kernel) (by decide +kernel)
theorem k_655 : (.instanceMethod y_X2_divide : Cond) ∈ gw := gw_mem 655 (by decide +kernel) (by decide +kernel)
theorem k_656 : (.selects "LimbRowsModel" y_X2_divide y_X2_divide : Cond) ∈ gw := gw_mem 656 (by decide +kernel) (by decide +kernel)
theorem k_657 : (.code y_X2_divide prog_4_method_38_code (7) (some .long) : Cond) ∈ gw := gw_mem 657 (by decide +kernel) (by decide +kernel)
theorem k_658 : (.constantLong "LimbRowsModel" (104) (4611686018427387903) : Cond) ∈ gw := gw_mem 658 (by decide +kernel) (by decide +kernel)
theorem k_659 : (.constantLong "LimbRowsModel" (106) (2) : Cond) ∈ gw := gw_mem 659 (by decide +kernel) (by decide +kernel)
theorem k_660 : (.constantLong "LimbRowsModel" (108) (-1) : Cond) ∈ gw := gw_mem 660 (by decide +kernel) (by decide +kernel)
theorem k_661 : (.methodLink "LimbRowsLaw" (147) y_X2_zeros : Cond) ∈ gw := gw_mem 661 (by decide +kernel) (by decide +kernel)
theorem k_662 : (.instanceMethod y_X2_zeros : Cond) ∈ gw := gw_mem 662 (by decide +kernel) (by decide +kernel)
theorem k_663 : (.selects "LimbRowsModel" y_X2_zeros y_X2_zeros : Cond) ∈ gw := gw_mem 663 (by decide +kernel) (by decide +kernel)
theorem k_664 : (.code y_X2_zeros prog_4_method_39_code (2) (some .int) : Cond) ∈ gw := gw_mem 664 (by decide +kernel) (by decide +kernel)
theorem k_665 : (.methodLink "LimbRowsLaw" (150) y_X2_length : Cond) ∈ gw := gw_mem 665 (by decide +kernel) (by decide +kernel)
theorem k_666 : (.instanceMethod y_X2_length : Cond) ∈ gw := gw_mem 666 (by decide +kernel) (by decide +kernel)
theorem k_667 : (.selects "LimbRowsModel" y_X2_length y_X2_length : Cond) ∈ gw := gw_mem 667 (by decide +kernel) (by decide +kernel)
theorem k_668 : (.code y_X2_length prog_4_method_40_code (2) (some .int) : Cond) ∈ gw := gw_mem 668 (by decide +kernel) (by decide +kernel)
theorem k_669 : (.methodLink "LimbRowsLaw" (153) y_X2_sign : Cond) ∈ gw := gw_mem 669 (by decide +kernel) (by decide +kernel)
theorem k_670 : (.instanceMethod y_X2_sign : Cond) ∈ gw := gw_mem 670 (by decide +kernel) (by decide +kernel)
theorem k_671 : (.selects "LimbRowsModel" y_X2_sign y_X2_sign : Cond) ∈ gw := gw_mem 671 (by decide +kernel) (by decide +kernel)
theorem k_672 : (.code y_X2_sign prog_4_method_41_code (2) (some .int) : Cond) ∈ gw := gw_mem 672 (by decide +kernel) (by decide +kernel)
theorem k_673 : (.methodLink "LimbRowsLaw" (156) y_X2_compare : Cond) ∈ gw := gw_mem 673 (by decide +kernel) (by decide +kernel)
theorem k_674 : (.instanceMethod y_X2_compare : Cond) ∈ gw := gw_mem 674 (by decide +kernel) (by decide +kernel)
theorem k_675 : (.selects "LimbRowsModel" y_X2_compare y_X2_compare : Cond) ∈ gw := gw_mem 675 (by decide +kernel) (by decide +kernel)
theorem k_676 : (.code y_X2_compare prog_4_method_42_code (3) (some .int) : Cond) ∈ gw := gw_mem 676 (by decide +kernel) (by decide +kernel)
theorem k_677 : (.constantLong "LimbRowsLaw" (99) (4294967295) : Cond) ∈ gw := gw_mem 677 (by decide +kernel) (by decide +kernel)
theorem k_678 : (.arrayClass .long : Cond) ∈ gw := gw_mem 678 (by decide +kernel) (by decide +kernel)
theorem k_679 : (.sameMethod "java/lang/Throwable" "java/lang/Throwable" "fillInStackTrace" "(I)Ljava/lang/Throwable;" : Cond) ∈ gw := gw_mem 679 (by decide +kernel) (by decide +kernel)
end
section
theorem d_X0_init_0 : decode b_X0_init 0 = .ok (.aload_n 0, 1) := by decide +kernel
theorem d_X0_init_1 : decode b_X0_init 1 = .ok (.invokespecial 3, 3) := by decide +kernel
theorem d_X0_init_4 : decode b_X0_init 4 = .ok (.aload_n 0, 1) := by decide +kernel
theorem d_X0_init_5 : decode b_X0_init 5 = .ok (.iconst 1, 1) := by decide +kernel
theorem d_X0_init_6 : decode b_X0_init 6 = .ok (.newarray .int, 2) := by decide +kernel
theorem d_X0_init_8 : decode b_X0_init 8 = .ok (.putfield 9, 3) := by decide +kernel
theorem d_X0_init_11 : decode b_X0_init 11 = .ok (.aload_n 0, 1) := by decide +kernel
theorem d_X0_init_12 : decode b_X0_init 12 = .ok (.iconst 1, 1) := by decide +kernel
theorem d_X0_init_13 : decode b_X0_init 13 = .ok (.putfield 15, 3) := by decide +kernel
theorem d_X0_init_16 : decode b_X0_init 16 = .ok (.return_, 1) := by decide +kernel
theorem d_X0_changeWidth_0 : decode b_X0_changeWidth 0 = .ok (.aload_n 0, 1) := by decide +kernel
theorem d_X0_changeWidth_1 : decode b_X0_changeWidth 1 = .ok (.iload_n 1, 1) := by decide +kernel
theorem d_X0_changeWidth_2 : decode b_X0_changeWidth 2 = .ok (.invokevirtual 25, 3) := by decide +kernel
theorem d_X0_changeWidth_5 : decode b_X0_changeWidth 5 = .ok (.istore_n 2, 1) := by decide +kernel
theorem d_X0_changeWidth_6 : decode b_X0_changeWidth 6 = .ok (.aload_n 0, 1) := by decide +kernel
theorem d_X0_changeWidth_7 : decode b_X0_changeWidth 7 = .ok (.aload_n 0, 1) := by decide +kernel
theorem d_X0_changeWidth_8 : decode b_X0_changeWidth 8 = .ok (.getfield 15, 3) := by decide +kernel
theorem d_X0_changeWidth_11 : decode b_X0_changeWidth 11 = .ok (.invokevirtual 21, 3) := by decide +kernel
theorem d_X0_changeWidth_14 : decode b_X0_changeWidth 14 = .ok (.istore_n 3, 1) := by decide +kernel
theorem d_X0_changeWidth_15 : decode b_X0_changeWidth 15 = .ok (.iload_n 1, 1) := by decide +kernel
theorem d_X0_changeWidth_16 : decode b_X0_changeWidth 16 = .ok (.aload_n 0, 1) := by decide +kernel
theorem d_X0_changeWidth_17 : decode b_X0_changeWidth 17 = .ok (.getfield 9, 3) := by decide +kernel
theorem d_X0_changeWidth_20 : decode b_X0_changeWidth 20 = .ok (.arraylength, 1) := by decide +kernel
theorem d_X0_changeWidth_21 : decode b_X0_changeWidth 21 = .ok (.if_icmp .le 17, 3) := by decide +kernel
theorem d_X0_changeWidth_24 : decode b_X0_changeWidth 24 = .ok (.aload_n 0, 1) := by decide +kernel
theorem d_X0_changeWidth_25 : decode b_X0_changeWidth 25 = .ok (.aload_n 0, 1) := by decide +kernel
theorem d_X0_changeWidth_26 : decode b_X0_changeWidth 26 = .ok (.getfield 9, 3) := by decide +kernel
theorem d_X0_changeWidth_29 : decode b_X0_changeWidth 29 = .ok (.sipush 256, 3) := by decide +kernel
theorem d_X0_changeWidth_32 : decode b_X0_changeWidth 32 = .ok (.invokestatic 29, 3) := by decide +kernel
theorem d_X0_changeWidth_35 : decode b_X0_changeWidth 35 = .ok (.putfield 9, 3) := by decide +kernel
theorem d_X0_changeWidth_38 : decode b_X0_changeWidth 38 = .ok (.aload_n 0, 1) := by decide +kernel
theorem d_X0_changeWidth_39 : decode b_X0_changeWidth 39 = .ok (.getfield 15, 3) := by decide +kernel
theorem d_X0_changeWidth_42 : decode b_X0_changeWidth 42 = .ok (.istore 4, 2) := by decide +kernel
theorem d_X0_changeWidth_44 : decode b_X0_changeWidth 44 = .ok (.iload 4, 2) := by decide +kernel
theorem d_X0_changeWidth_46 : decode b_X0_changeWidth 46 = .ok (.iload_n 1, 1) := by decide +kernel
theorem d_X0_changeWidth_47 : decode b_X0_changeWidth 47 = .ok (.if_icmp .ge 17, 3) := by decide +kernel
theorem d_X0_changeWidth_50 : decode b_X0_changeWidth 50 = .ok (.aload_n 0, 1) := by decide +kernel
theorem d_X0_changeWidth_51 : decode b_X0_changeWidth 51 = .ok (.getfield 9, 3) := by decide +kernel
theorem d_X0_changeWidth_54 : decode b_X0_changeWidth 54 = .ok (.iload 4, 2) := by decide +kernel
theorem d_X0_changeWidth_56 : decode b_X0_changeWidth 56 = .ok (.iload_n 3, 1) := by decide +kernel
theorem d_X0_changeWidth_57 : decode b_X0_changeWidth 57 = .ok (.iastore, 1) := by decide +kernel
theorem d_X0_changeWidth_58 : decode b_X0_changeWidth 58 = .ok (.iinc 4 1, 3) := by decide +kernel
theorem d_X0_changeWidth_61 : decode b_X0_changeWidth 61 = .ok (.goto (-17), 3) := by decide +kernel
theorem d_X0_changeWidth_64 : decode b_X0_changeWidth 64 = .ok (.aload_n 0, 1) := by decide +kernel
theorem d_X0_changeWidth_65 : decode b_X0_changeWidth 65 = .ok (.iload_n 1, 1) := by decide +kernel
theorem d_X0_changeWidth_66 : decode b_X0_changeWidth 66 = .ok (.putfield 15, 3) := by decide +kernel
theorem d_X0_changeWidth_69 : decode b_X0_changeWidth 69 = .ok (.iload_n 2, 1) := by decide +kernel
theorem d_X0_changeWidth_70 : decode b_X0_changeWidth 70 = .ok (.ireturn, 1) := by decide +kernel
theorem d_X0_fitsIn_0 : decode b_X0_fitsIn 0 = .ok (.aload_n 0, 1) := by decide +kernel
theorem d_X0_fitsIn_1 : decode b_X0_fitsIn 1 = .ok (.iload_n 1, 1) := by decide +kernel
theorem d_X0_fitsIn_2 : decode b_X0_fitsIn 2 = .ok (.iconst 1, 1) := by decide +kernel
theorem d_X0_fitsIn_3 : decode b_X0_fitsIn 3 = .ok (.isub, 1) := by decide +kernel
theorem d_X0_fitsIn_4 : decode b_X0_fitsIn 4 = .ok (.invokevirtual 21, 3) := by decide +kernel
theorem d_X0_fitsIn_7 : decode b_X0_fitsIn 7 = .ok (.bipush 31, 2) := by decide +kernel
theorem d_X0_fitsIn_9 : decode b_X0_fitsIn 9 = .ok (.ishr, 1) := by decide +kernel
theorem d_X0_fitsIn_10 : decode b_X0_fitsIn 10 = .ok (.istore_n 2, 1) := by decide +kernel
theorem d_X0_fitsIn_11 : decode b_X0_fitsIn 11 = .ok (.iload_n 1, 1) := by decide +kernel
theorem d_X0_fitsIn_12 : decode b_X0_fitsIn 12 = .ok (.istore_n 3, 1) := by decide +kernel
theorem d_X0_fitsIn_13 : decode b_X0_fitsIn 13 = .ok (.iload_n 3, 1) := by decide +kernel
theorem d_X0_fitsIn_14 : decode b_X0_fitsIn 14 = .ok (.aload_n 0, 1) := by decide +kernel
theorem d_X0_fitsIn_15 : decode b_X0_fitsIn 15 = .ok (.getfield 15, 3) := by decide +kernel
theorem d_X0_fitsIn_18 : decode b_X0_fitsIn 18 = .ok (.if_icmp .ge 21, 3) := by decide +kernel
theorem d_X0_fitsIn_21 : decode b_X0_fitsIn 21 = .ok (.aload_n 0, 1) := by decide +kernel
theorem d_X0_fitsIn_22 : decode b_X0_fitsIn 22 = .ok (.getfield 9, 3) := by decide +kernel
theorem d_X0_fitsIn_25 : decode b_X0_fitsIn 25 = .ok (.iload_n 3, 1) := by decide +kernel
theorem d_X0_fitsIn_26 : decode b_X0_fitsIn 26 = .ok (.iaload, 1) := by decide +kernel
theorem d_X0_fitsIn_27 : decode b_X0_fitsIn 27 = .ok (.iload_n 2, 1) := by decide +kernel
theorem d_X0_fitsIn_28 : decode b_X0_fitsIn 28 = .ok (.if_icmp .eq 5, 3) := by decide +kernel
theorem d_X0_fitsIn_31 : decode b_X0_fitsIn 31 = .ok (.iconst 0, 1) := by decide +kernel
theorem d_X0_fitsIn_32 : decode b_X0_fitsIn 32 = .ok (.ireturn, 1) := by decide +kernel
theorem d_X0_fitsIn_33 : decode b_X0_fitsIn 33 = .ok (.iinc 3 1, 3) := by decide +kernel
theorem d_X0_fitsIn_36 : decode b_X0_fitsIn 36 = .ok (.goto (-23), 3) := by decide +kernel
theorem d_X0_fitsIn_39 : decode b_X0_fitsIn 39 = .ok (.iconst 1, 1) := by decide +kernel
theorem d_X0_fitsIn_40 : decode b_X0_fitsIn 40 = .ok (.ireturn, 1) := by decide +kernel
theorem d_X0_limbAt_0 : decode b_X0_limbAt 0 = .ok (.iload_n 1, 1) := by decide +kernel
theorem d_X0_limbAt_1 : decode b_X0_limbAt 1 = .ok (.ifCond .ge 5, 3) := by decide +kernel
theorem d_X0_limbAt_4 : decode b_X0_limbAt 4 = .ok (.iconst 0, 1) := by decide +kernel
theorem d_X0_limbAt_5 : decode b_X0_limbAt 5 = .ok (.ireturn, 1) := by decide +kernel
theorem d_X0_limbAt_6 : decode b_X0_limbAt 6 = .ok (.iload_n 1, 1) := by decide +kernel
theorem d_X0_limbAt_7 : decode b_X0_limbAt 7 = .ok (.aload_n 0, 1) := by decide +kernel
theorem d_X0_limbAt_8 : decode b_X0_limbAt 8 = .ok (.getfield 15, 3) := by decide +kernel
theorem d_X0_limbAt_11 : decode b_X0_limbAt 11 = .ok (.if_icmp .ge 12, 3) := by decide +kernel
theorem d_X0_limbAt_14 : decode b_X0_limbAt 14 = .ok (.aload_n 0, 1) := by decide +kernel
theorem d_X0_limbAt_15 : decode b_X0_limbAt 15 = .ok (.getfield 9, 3) := by decide +kernel
theorem d_X0_limbAt_18 : decode b_X0_limbAt 18 = .ok (.iload_n 1, 1) := by decide +kernel
theorem d_X0_limbAt_19 : decode b_X0_limbAt 19 = .ok (.iaload, 1) := by decide +kernel
theorem d_X0_limbAt_20 : decode b_X0_limbAt 20 = .ok (.goto 17, 3) := by decide +kernel
theorem d_X0_limbAt_23 : decode b_X0_limbAt 23 = .ok (.aload_n 0, 1) := by decide +kernel
theorem d_X0_limbAt_24 : decode b_X0_limbAt 24 = .ok (.getfield 9, 3) := by decide +kernel
theorem d_X0_limbAt_27 : decode b_X0_limbAt 27 = .ok (.aload_n 0, 1) := by decide +kernel
theorem d_X0_limbAt_28 : decode b_X0_limbAt 28 = .ok (.getfield 15, 3) := by decide +kernel
theorem d_X0_limbAt_31 : decode b_X0_limbAt 31 = .ok (.iconst 1, 1) := by decide +kernel
theorem d_X0_limbAt_32 : decode b_X0_limbAt 32 = .ok (.isub, 1) := by decide +kernel
theorem d_X0_limbAt_33 : decode b_X0_limbAt 33 = .ok (.iaload, 1) := by decide +kernel
theorem d_X0_limbAt_34 : decode b_X0_limbAt 34 = .ok (.bipush 31, 2) := by decide +kernel
theorem d_X0_limbAt_36 : decode b_X0_limbAt 36 = .ok (.ishr, 1) := by decide +kernel
theorem d_X0_limbAt_37 : decode b_X0_limbAt 37 = .ok (.ireturn, 1) := by decide +kernel
theorem d_X0_keepLong_0 : decode b_X0_keepLong 0 = .ok (.lload_n 1, 1) := by decide +kernel
theorem d_X0_keepLong_1 : decode b_X0_keepLong 1 = .ok (.lstore_n 3, 1) := by decide +kernel
theorem d_X0_keepLong_2 : decode b_X0_keepLong 2 = .ok (.iconst 0, 1) := by decide +kernel
theorem d_X0_keepLong_3 : decode b_X0_keepLong 3 = .ok (.istore 5, 2) := by decide +kernel
theorem d_X0_keepLong_5 : decode b_X0_keepLong 5 = .ok (.iload 5, 2) := by decide +kernel
theorem d_X0_keepLong_7 : decode b_X0_keepLong 7 = .ok (.aload_n 0, 1) := by decide +kernel
theorem d_X0_keepLong_8 : decode b_X0_keepLong 8 = .ok (.getfield 15, 3) := by decide +kernel
theorem d_X0_keepLong_11 : decode b_X0_keepLong 11 = .ok (.if_icmp .ge 23, 3) := by decide +kernel
theorem d_X0_keepLong_14 : decode b_X0_keepLong 14 = .ok (.aload_n 0, 1) := by decide +kernel
theorem d_X0_keepLong_15 : decode b_X0_keepLong 15 = .ok (.getfield 9, 3) := by decide +kernel
theorem d_X0_keepLong_18 : decode b_X0_keepLong 18 = .ok (.iload 5, 2) := by decide +kernel
theorem d_X0_keepLong_20 : decode b_X0_keepLong 20 = .ok (.lload_n 3, 1) := by decide +kernel
theorem d_X0_keepLong_21 : decode b_X0_keepLong 21 = .ok (.l2i, 1) := by decide +kernel
theorem d_X0_keepLong_22 : decode b_X0_keepLong 22 = .ok (.iastore, 1) := by decide +kernel
theorem d_X0_keepLong_23 : decode b_X0_keepLong 23 = .ok (.lload_n 3, 1) := by decide +kernel
theorem d_X0_keepLong_24 : decode b_X0_keepLong 24 = .ok (.bipush 32, 2) := by decide +kernel
theorem d_X0_keepLong_26 : decode b_X0_keepLong 26 = .ok (.lshr, 1) := by decide +kernel
theorem d_X0_keepLong_27 : decode b_X0_keepLong 27 = .ok (.lstore_n 3, 1) := by decide +kernel
theorem d_X0_keepLong_28 : decode b_X0_keepLong 28 = .ok (.iinc 5 1, 3) := by decide +kernel
theorem d_X0_keepLong_31 : decode b_X0_keepLong 31 = .ok (.goto (-26), 3) := by decide +kernel
theorem d_X0_keepLong_34 : decode b_X0_keepLong 34 = .ok (.aload_n 0, 1) := by decide +kernel
theorem d_X0_keepLong_35 : decode b_X0_keepLong 35 = .ok (.getfield 15, 3) := by decide +kernel
theorem d_X0_keepLong_38 : decode b_X0_keepLong 38 = .ok (.iconst 1, 1) := by decide +kernel
theorem d_X0_keepLong_39 : decode b_X0_keepLong 39 = .ok (.if_icmp .gt 11, 3) := by decide +kernel
theorem d_X0_keepLong_42 : decode b_X0_keepLong 42 = .ok (.lload_n 1, 1) := by decide +kernel
theorem d_X0_keepLong_43 : decode b_X0_keepLong 43 = .ok (.lload_n 1, 1) := by decide +kernel
theorem d_X0_keepLong_44 : decode b_X0_keepLong 44 = .ok (.l2i, 1) := by decide +kernel
theorem d_X0_keepLong_45 : decode b_X0_keepLong 45 = .ok (.i2l, 1) := by decide +kernel
theorem d_X0_keepLong_46 : decode b_X0_keepLong 46 = .ok (.lcmp, 1) := by decide +kernel
theorem d_X0_keepLong_47 : decode b_X0_keepLong 47 = .ok (.ifCond .ne 7, 3) := by decide +kernel
theorem d_X0_keepLong_50 : decode b_X0_keepLong 50 = .ok (.iconst 1, 1) := by decide +kernel
theorem d_X0_keepLong_51 : decode b_X0_keepLong 51 = .ok (.goto 4, 3) := by decide +kernel
theorem d_X0_keepLong_54 : decode b_X0_keepLong 54 = .ok (.iconst 0, 1) := by decide +kernel
theorem d_X0_keepLong_55 : decode b_X0_keepLong 55 = .ok (.ireturn, 1) := by decide +kernel
theorem d_X0_keepRow_0 : decode b_X0_keepRow 0 = .ok (.aload_n 1, 1) := by decide +kernel
theorem d_X0_keepRow_1 : decode b_X0_keepRow 1 = .ok (.aload_n 0, 1) := by decide +kernel
theorem d_X0_keepRow_2 : decode b_X0_keepRow 2 = .ok (.getfield 15, 3) := by decide +kernel
theorem d_X0_keepRow_5 : decode b_X0_keepRow 5 = .ok (.invokevirtual 25, 3) := by decide +kernel
theorem d_X0_keepRow_8 : decode b_X0_keepRow 8 = .ok (.istore_n 2, 1) := by decide +kernel
theorem d_X0_keepRow_9 : decode b_X0_keepRow 9 = .ok (.iconst 0, 1) := by decide +kernel
theorem d_X0_keepRow_10 : decode b_X0_keepRow 10 = .ok (.istore_n 3, 1) := by decide +kernel
theorem d_X0_keepRow_11 : decode b_X0_keepRow 11 = .ok (.iload_n 3, 1) := by decide +kernel
theorem d_X0_keepRow_12 : decode b_X0_keepRow 12 = .ok (.aload_n 0, 1) := by decide +kernel
theorem d_X0_keepRow_13 : decode b_X0_keepRow 13 = .ok (.getfield 15, 3) := by decide +kernel
theorem d_X0_keepRow_16 : decode b_X0_keepRow 16 = .ok (.if_icmp .ge 20, 3) := by decide +kernel
theorem d_X0_keepRow_19 : decode b_X0_keepRow 19 = .ok (.aload_n 0, 1) := by decide +kernel
theorem d_X0_keepRow_20 : decode b_X0_keepRow 20 = .ok (.getfield 9, 3) := by decide +kernel
theorem d_X0_keepRow_23 : decode b_X0_keepRow 23 = .ok (.iload_n 3, 1) := by decide +kernel
theorem d_X0_keepRow_24 : decode b_X0_keepRow 24 = .ok (.aload_n 1, 1) := by decide +kernel
theorem d_X0_keepRow_25 : decode b_X0_keepRow 25 = .ok (.iload_n 3, 1) := by decide +kernel
theorem d_X0_keepRow_26 : decode b_X0_keepRow 26 = .ok (.invokevirtual 21, 3) := by decide +kernel
theorem d_X0_keepRow_29 : decode b_X0_keepRow 29 = .ok (.iastore, 1) := by decide +kernel
theorem d_X0_keepRow_30 : decode b_X0_keepRow 30 = .ok (.iinc 3 1, 3) := by decide +kernel
theorem d_X0_keepRow_33 : decode b_X0_keepRow 33 = .ok (.goto (-22), 3) := by decide +kernel
theorem d_X0_keepRow_36 : decode b_X0_keepRow 36 = .ok (.iload_n 2, 1) := by decide +kernel
theorem d_X0_keepRow_37 : decode b_X0_keepRow 37 = .ok (.ireturn, 1) := by decide +kernel
theorem d_X0_addFrom_0 : decode b_X0_addFrom 0 = .ok (.aload_n 0, 1) := by decide +kernel
theorem d_X0_addFrom_1 : decode b_X0_addFrom 1 = .ok (.iload_n 1, 1) := by decide +kernel
theorem d_X0_addFrom_2 : decode b_X0_addFrom 2 = .ok (.aload_n 2, 1) := by decide +kernel
theorem d_X0_addFrom_3 : decode b_X0_addFrom 3 = .ok (.iconst 0, 1) := by decide +kernel
theorem d_X0_addFrom_4 : decode b_X0_addFrom 4 = .ok (.invokevirtual 35, 3) := by decide +kernel
theorem d_X0_addFrom_7 : decode b_X0_addFrom 7 = .ok (.return_, 1) := by decide +kernel
theorem d_X0_addLimbs_0 : decode b_X0_addLimbs 0 = .ok (.iload_n 3, 1) := by decide +kernel
theorem d_X0_addLimbs_1 : decode b_X0_addLimbs 1 = .ok (.iconst 1, 1) := by decide +kernel
theorem d_X0_addLimbs_2 : decode b_X0_addLimbs 2 = .ok (.iand, 1) := by decide +kernel
theorem d_X0_addLimbs_3 : decode b_X0_addLimbs 3 = .ok (.i2l, 1) := by decide +kernel
theorem d_X0_addLimbs_4 : decode b_X0_addLimbs 4 = .ok (.lstore 4, 2) := by decide +kernel
theorem d_X0_addLimbs_6 : decode b_X0_addLimbs 6 = .ok (.iload_n 1, 1) := by decide +kernel
theorem d_X0_addLimbs_7 : decode b_X0_addLimbs 7 = .ok (.istore 6, 2) := by decide +kernel
theorem d_X0_addLimbs_9 : decode b_X0_addLimbs 9 = .ok (.iload 6, 2) := by decide +kernel
theorem d_X0_addLimbs_11 : decode b_X0_addLimbs 11 = .ok (.aload_n 0, 1) := by decide +kernel
theorem d_X0_addLimbs_12 : decode b_X0_addLimbs 12 = .ok (.getfield 15, 3) := by decide +kernel
theorem d_X0_addLimbs_15 : decode b_X0_addLimbs 15 = .ok (.if_icmp .ge 55, 3) := by decide +kernel
theorem d_X0_addLimbs_18 : decode b_X0_addLimbs 18 = .ok (.aload_n 0, 1) := by decide +kernel
theorem d_X0_addLimbs_19 : decode b_X0_addLimbs 19 = .ok (.getfield 9, 3) := by decide +kernel
theorem d_X0_addLimbs_22 : decode b_X0_addLimbs 22 = .ok (.iload 6, 2) := by decide +kernel
theorem d_X0_addLimbs_24 : decode b_X0_addLimbs 24 = .ok (.iaload, 1) := by decide +kernel
theorem d_X0_addLimbs_25 : decode b_X0_addLimbs 25 = .ok (.invokestatic 39, 3) := by decide +kernel
theorem d_X0_addLimbs_28 : decode b_X0_addLimbs 28 = .ok (.aload_n 2, 1) := by decide +kernel
theorem d_X0_addLimbs_29 : decode b_X0_addLimbs 29 = .ok (.iload 6, 2) := by decide +kernel
theorem d_X0_addLimbs_31 : decode b_X0_addLimbs 31 = .ok (.iload_n 1, 1) := by decide +kernel
theorem d_X0_addLimbs_32 : decode b_X0_addLimbs 32 = .ok (.isub, 1) := by decide +kernel
theorem d_X0_addLimbs_33 : decode b_X0_addLimbs 33 = .ok (.invokevirtual 21, 3) := by decide +kernel
theorem d_X0_addLimbs_36 : decode b_X0_addLimbs 36 = .ok (.iload_n 3, 1) := by decide +kernel
theorem d_X0_addLimbs_37 : decode b_X0_addLimbs 37 = .ok (.ixor, 1) := by decide +kernel
theorem d_X0_addLimbs_38 : decode b_X0_addLimbs 38 = .ok (.invokestatic 39, 3) := by decide +kernel
theorem d_X0_addLimbs_41 : decode b_X0_addLimbs 41 = .ok (.ladd, 1) := by decide +kernel
theorem d_X0_addLimbs_42 : decode b_X0_addLimbs 42 = .ok (.lload 4, 2) := by decide +kernel
theorem d_X0_addLimbs_44 : decode b_X0_addLimbs 44 = .ok (.ladd, 1) := by decide +kernel
theorem d_X0_addLimbs_45 : decode b_X0_addLimbs 45 = .ok (.lstore 7, 2) := by decide +kernel
theorem d_X0_addLimbs_47 : decode b_X0_addLimbs 47 = .ok (.aload_n 0, 1) := by decide +kernel
theorem d_X0_addLimbs_48 : decode b_X0_addLimbs 48 = .ok (.getfield 9, 3) := by decide +kernel
theorem d_X0_addLimbs_51 : decode b_X0_addLimbs 51 = .ok (.iload 6, 2) := by decide +kernel
theorem d_X0_addLimbs_53 : decode b_X0_addLimbs 53 = .ok (.lload 7, 2) := by decide +kernel
theorem d_X0_addLimbs_55 : decode b_X0_addLimbs 55 = .ok (.l2i, 1) := by decide +kernel
theorem d_X0_addLimbs_56 : decode b_X0_addLimbs 56 = .ok (.iastore, 1) := by decide +kernel
theorem d_X0_addLimbs_57 : decode b_X0_addLimbs 57 = .ok (.lload 7, 2) := by decide +kernel
theorem d_X0_addLimbs_59 : decode b_X0_addLimbs 59 = .ok (.bipush 32, 2) := by decide +kernel
theorem d_X0_addLimbs_61 : decode b_X0_addLimbs 61 = .ok (.lushr, 1) := by decide +kernel
theorem d_X0_addLimbs_62 : decode b_X0_addLimbs 62 = .ok (.lstore 4, 2) := by decide +kernel
theorem d_X0_addLimbs_64 : decode b_X0_addLimbs 64 = .ok (.iinc 6 1, 3) := by decide +kernel
theorem d_X0_addLimbs_67 : decode b_X0_addLimbs 67 = .ok (.goto (-58), 3) := by decide +kernel
theorem d_X0_addLimbs_70 : decode b_X0_addLimbs 70 = .ok (.return_, 1) := by decide +kernel
theorem d_X0_unsigned_0 : decode b_X0_unsigned 0 = .ok (.iload_n 0, 1) := by decide +kernel
theorem d_X0_unsigned_1 : decode b_X0_unsigned 1 = .ok (.i2l, 1) := by decide +kernel
theorem d_X0_unsigned_2 : decode b_X0_unsigned 2 = .ok (.ldc2_w 19, 3) := by decide +kernel
theorem d_X0_unsigned_5 : decode b_X0_unsigned 5 = .ok (.land, 1) := by decide +kernel
theorem d_X0_unsigned_6 : decode b_X0_unsigned 6 = .ok (.lreturn, 1) := by decide +kernel
theorem d_X0_signum_0 : decode b_X0_signum 0 = .ok (.aload_n 0, 1) := by decide +kernel
theorem d_X0_signum_1 : decode b_X0_signum 1 = .ok (.invokevirtual 57, 3) := by decide +kernel
theorem d_X0_signum_4 : decode b_X0_signum 4 = .ok (.ifCond .eq 5, 3) := by decide +kernel
theorem d_X0_signum_7 : decode b_X0_signum 7 = .ok (.iconst (-1), 1) := by decide +kernel
theorem d_X0_signum_8 : decode b_X0_signum 8 = .ok (.ireturn, 1) := by decide +kernel
theorem d_X0_signum_9 : decode b_X0_signum 9 = .ok (.iconst 0, 1) := by decide +kernel
theorem d_X0_signum_10 : decode b_X0_signum 10 = .ok (.istore_n 1, 1) := by decide +kernel
theorem d_X0_signum_11 : decode b_X0_signum 11 = .ok (.iload_n 1, 1) := by decide +kernel
theorem d_X0_signum_12 : decode b_X0_signum 12 = .ok (.aload_n 0, 1) := by decide +kernel
theorem d_X0_signum_13 : decode b_X0_signum 13 = .ok (.getfield 15, 3) := by decide +kernel
theorem d_X0_signum_16 : decode b_X0_signum 16 = .ok (.if_icmp .ge 20, 3) := by decide +kernel
theorem d_X0_signum_19 : decode b_X0_signum 19 = .ok (.aload_n 0, 1) := by decide +kernel
theorem d_X0_signum_20 : decode b_X0_signum 20 = .ok (.getfield 9, 3) := by decide +kernel
theorem d_X0_signum_23 : decode b_X0_signum 23 = .ok (.iload_n 1, 1) := by decide +kernel
theorem d_X0_signum_24 : decode b_X0_signum 24 = .ok (.iaload, 1) := by decide +kernel
theorem d_X0_signum_25 : decode b_X0_signum 25 = .ok (.ifCond .eq 5, 3) := by decide +kernel
theorem d_X0_signum_28 : decode b_X0_signum 28 = .ok (.iconst 1, 1) := by decide +kernel
theorem d_X0_signum_29 : decode b_X0_signum 29 = .ok (.ireturn, 1) := by decide +kernel
theorem d_X0_signum_30 : decode b_X0_signum 30 = .ok (.iinc 1 1, 3) := by decide +kernel
theorem d_X0_signum_33 : decode b_X0_signum 33 = .ok (.goto (-22), 3) := by decide +kernel
theorem d_X0_signum_36 : decode b_X0_signum 36 = .ok (.iconst 0, 1) := by decide +kernel
theorem d_X0_signum_37 : decode b_X0_signum 37 = .ok (.ireturn, 1) := by decide +kernel
theorem d_X0_isNegative_0 : decode b_X0_isNegative 0 = .ok (.aload_n 0, 1) := by decide +kernel
theorem d_X0_isNegative_1 : decode b_X0_isNegative 1 = .ok (.getfield 9, 3) := by decide +kernel
theorem d_X0_isNegative_4 : decode b_X0_isNegative 4 = .ok (.aload_n 0, 1) := by decide +kernel
theorem d_X0_isNegative_5 : decode b_X0_isNegative 5 = .ok (.getfield 15, 3) := by decide +kernel
theorem d_X0_isNegative_8 : decode b_X0_isNegative 8 = .ok (.iconst 1, 1) := by decide +kernel
theorem d_X0_isNegative_9 : decode b_X0_isNegative 9 = .ok (.isub, 1) := by decide +kernel
theorem d_X0_isNegative_10 : decode b_X0_isNegative 10 = .ok (.iaload, 1) := by decide +kernel
theorem d_X0_isNegative_11 : decode b_X0_isNegative 11 = .ok (.ifCond .ge 7, 3) := by decide +kernel
theorem d_X0_isNegative_14 : decode b_X0_isNegative 14 = .ok (.iconst 1, 1) := by decide +kernel
theorem d_X0_isNegative_15 : decode b_X0_isNegative 15 = .ok (.goto 4, 3) := by decide +kernel
theorem d_X0_isNegative_18 : decode b_X0_isNegative 18 = .ok (.iconst 0, 1) := by decide +kernel
theorem d_X0_isNegative_19 : decode b_X0_isNegative 19 = .ok (.ireturn, 1) := by decide +kernel
theorem d_X0_subtractFrom_0 : decode b_X0_subtractFrom 0 = .ok (.aload_n 0, 1) := by decide +kernel
theorem d_X0_subtractFrom_1 : decode b_X0_subtractFrom 1 = .ok (.iload_n 1, 1) := by decide +kernel
theorem d_X0_subtractFrom_2 : decode b_X0_subtractFrom 2 = .ok (.aload_n 2, 1) := by decide +kernel
theorem d_X0_subtractFrom_3 : decode b_X0_subtractFrom 3 = .ok (.iconst (-1), 1) := by decide +kernel
theorem d_X0_subtractFrom_4 : decode b_X0_subtractFrom 4 = .ok (.invokevirtual 35, 3) := by decide +kernel
theorem d_X0_subtractFrom_7 : decode b_X0_subtractFrom 7 = .ok (.return_, 1) := by decide +kernel
theorem d_X0_addProductOf_0 : decode b_X0_addProductOf 0 = .ok (.aload_n 1, 1) := by decide +kernel
theorem d_X0_addProductOf_1 : decode b_X0_addProductOf 1 = .ok (.invokevirtual 43, 3) := by decide +kernel
theorem d_X0_addProductOf_4 : decode b_X0_addProductOf 4 = .ok (.bipush 32, 2) := by decide +kernel
theorem d_X0_addProductOf_6 : decode b_X0_addProductOf 6 = .ok (.idiv, 1) := by decide +kernel
theorem d_X0_addProductOf_7 : decode b_X0_addProductOf 7 = .ok (.iconst 1, 1) := by decide +kernel
theorem d_X0_addProductOf_8 : decode b_X0_addProductOf 8 = .ok (.iadd, 1) := by decide +kernel
theorem d_X0_addProductOf_9 : decode b_X0_addProductOf 9 = .ok (.istore_n 3, 1) := by decide +kernel
theorem d_X0_addProductOf_10 : decode b_X0_addProductOf 10 = .ok (.iload_n 3, 1) := by decide +kernel
theorem d_X0_addProductOf_11 : decode b_X0_addProductOf 11 = .ok (.aload_n 0, 1) := by decide +kernel
theorem d_X0_addProductOf_12 : decode b_X0_addProductOf 12 = .ok (.getfield 15, 3) := by decide +kernel
theorem d_X0_addProductOf_15 : decode b_X0_addProductOf 15 = .ok (.invokestatic 47, 3) := by decide +kernel
theorem d_X0_addProductOf_18 : decode b_X0_addProductOf 18 = .ok (.istore 4, 2) := by decide +kernel
theorem d_X0_addProductOf_20 : decode b_X0_addProductOf 20 = .ok (.iconst 0, 1) := by decide +kernel
theorem d_X0_addProductOf_21 : decode b_X0_addProductOf 21 = .ok (.istore 5, 2) := by decide +kernel
theorem d_X0_addProductOf_23 : decode b_X0_addProductOf 23 = .ok (.iload 5, 2) := by decide +kernel
theorem d_X0_addProductOf_25 : decode b_X0_addProductOf 25 = .ok (.iload 4, 2) := by decide +kernel
theorem d_X0_addProductOf_27 : decode b_X0_addProductOf 27 = .ok (.if_icmp .ge 26, 3) := by decide +kernel
theorem d_X0_addProductOf_30 : decode b_X0_addProductOf 30 = .ok (.aload_n 0, 1) := by decide +kernel
theorem d_X0_addProductOf_31 : decode b_X0_addProductOf 31 = .ok (.iload 5, 2) := by decide +kernel
theorem d_X0_addProductOf_33 : decode b_X0_addProductOf 33 = .ok (.aload_n 1, 1) := by decide +kernel
theorem d_X0_addProductOf_34 : decode b_X0_addProductOf 34 = .ok (.getfield 9, 3) := by decide +kernel
theorem d_X0_addProductOf_37 : decode b_X0_addProductOf 37 = .ok (.iload 5, 2) := by decide +kernel
theorem d_X0_addProductOf_39 : decode b_X0_addProductOf 39 = .ok (.iaload, 1) := by decide +kernel
theorem d_X0_addProductOf_40 : decode b_X0_addProductOf 40 = .ok (.invokestatic 39, 3) := by decide +kernel
theorem d_X0_addProductOf_43 : decode b_X0_addProductOf 43 = .ok (.aload_n 2, 1) := by decide +kernel
theorem d_X0_addProductOf_44 : decode b_X0_addProductOf 44 = .ok (.invokevirtual 53, 3) := by decide +kernel
theorem d_X0_addProductOf_47 : decode b_X0_addProductOf 47 = .ok (.iinc 5 1, 3) := by decide +kernel
theorem d_X0_addProductOf_50 : decode b_X0_addProductOf 50 = .ok (.goto (-27), 3) := by decide +kernel
theorem d_X0_addProductOf_53 : decode b_X0_addProductOf 53 = .ok (.aload_n 1, 1) := by decide +kernel
theorem d_X0_addProductOf_54 : decode b_X0_addProductOf 54 = .ok (.invokevirtual 57, 3) := by decide +kernel
theorem d_X0_addProductOf_57 : decode b_X0_addProductOf 57 = .ok (.ifCond .eq 9, 3) := by decide +kernel
theorem d_X0_addProductOf_60 : decode b_X0_addProductOf 60 = .ok (.aload_n 0, 1) := by decide +kernel
theorem d_X0_addProductOf_61 : decode b_X0_addProductOf 61 = .ok (.iload_n 3, 1) := by decide +kernel
theorem d_X0_addProductOf_62 : decode b_X0_addProductOf 62 = .ok (.aload_n 2, 1) := by decide +kernel
theorem d_X0_addProductOf_63 : decode b_X0_addProductOf 63 = .ok (.invokevirtual 61, 3) := by decide +kernel
theorem d_X0_addProductOf_66 : decode b_X0_addProductOf 66 = .ok (.return_, 1) := by decide +kernel
theorem d_X0_bitLength_0 : decode b_X0_bitLength 0 = .ok (.aload_n 0, 1) := by decide +kernel
theorem d_X0_bitLength_1 : decode b_X0_bitLength 1 = .ok (.aload_n 0, 1) := by decide +kernel
theorem d_X0_bitLength_2 : decode b_X0_bitLength 2 = .ok (.getfield 15, 3) := by decide +kernel
theorem d_X0_bitLength_5 : decode b_X0_bitLength 5 = .ok (.invokevirtual 21, 3) := by decide +kernel
theorem d_X0_bitLength_8 : decode b_X0_bitLength 8 = .ok (.istore_n 1, 1) := by decide +kernel
theorem d_X0_bitLength_9 : decode b_X0_bitLength 9 = .ok (.aload_n 0, 1) := by decide +kernel
theorem d_X0_bitLength_10 : decode b_X0_bitLength 10 = .ok (.getfield 15, 3) := by decide +kernel
theorem d_X0_bitLength_13 : decode b_X0_bitLength 13 = .ok (.iconst 1, 1) := by decide +kernel
theorem d_X0_bitLength_14 : decode b_X0_bitLength 14 = .ok (.isub, 1) := by decide +kernel
theorem d_X0_bitLength_15 : decode b_X0_bitLength 15 = .ok (.istore_n 2, 1) := by decide +kernel
theorem d_X0_bitLength_16 : decode b_X0_bitLength 16 = .ok (.iload_n 2, 1) := by decide +kernel
theorem d_X0_bitLength_17 : decode b_X0_bitLength 17 = .ok (.ifCond .lt 39, 3) := by decide +kernel
theorem d_X0_bitLength_20 : decode b_X0_bitLength 20 = .ok (.aload_n 0, 1) := by decide +kernel
theorem d_X0_bitLength_21 : decode b_X0_bitLength 21 = .ok (.getfield 9, 3) := by decide +kernel
theorem d_X0_bitLength_24 : decode b_X0_bitLength 24 = .ok (.iload_n 2, 1) := by decide +kernel
theorem d_X0_bitLength_25 : decode b_X0_bitLength 25 = .ok (.iaload, 1) := by decide +kernel
theorem d_X0_bitLength_26 : decode b_X0_bitLength 26 = .ok (.iload_n 1, 1) := by decide +kernel
theorem d_X0_bitLength_27 : decode b_X0_bitLength 27 = .ok (.if_icmp .eq 23, 3) := by decide +kernel
theorem d_X0_bitLength_30 : decode b_X0_bitLength 30 = .ok (.bipush 32, 2) := by decide +kernel
theorem d_X0_bitLength_32 : decode b_X0_bitLength 32 = .ok (.iload_n 2, 1) := by decide +kernel
theorem d_X0_bitLength_33 : decode b_X0_bitLength 33 = .ok (.imul, 1) := by decide +kernel
theorem d_X0_bitLength_34 : decode b_X0_bitLength 34 = .ok (.bipush 32, 2) := by decide +kernel
theorem d_X0_bitLength_36 : decode b_X0_bitLength 36 = .ok (.iadd, 1) := by decide +kernel
theorem d_X0_bitLength_37 : decode b_X0_bitLength 37 = .ok (.aload_n 0, 1) := by decide +kernel
theorem d_X0_bitLength_38 : decode b_X0_bitLength 38 = .ok (.getfield 9, 3) := by decide +kernel
theorem d_X0_bitLength_41 : decode b_X0_bitLength 41 = .ok (.iload_n 2, 1) := by decide +kernel
theorem d_X0_bitLength_42 : decode b_X0_bitLength 42 = .ok (.iaload, 1) := by decide +kernel
theorem d_X0_bitLength_43 : decode b_X0_bitLength 43 = .ok (.iload_n 1, 1) := by decide +kernel
theorem d_X0_bitLength_44 : decode b_X0_bitLength 44 = .ok (.ixor, 1) := by decide +kernel
theorem d_X0_bitLength_45 : decode b_X0_bitLength 45 = .ok (.invokestatic 97, 3) := by decide +kernel
theorem d_X0_bitLength_48 : decode b_X0_bitLength 48 = .ok (.isub, 1) := by decide +kernel
theorem d_X0_bitLength_49 : decode b_X0_bitLength 49 = .ok (.ireturn, 1) := by decide +kernel
theorem d_X0_bitLength_50 : decode b_X0_bitLength 50 = .ok (.iinc 2 (-1), 3) := by decide +kernel
theorem d_X0_bitLength_53 : decode b_X0_bitLength 53 = .ok (.goto (-37), 3) := by decide +kernel
theorem d_X0_bitLength_56 : decode b_X0_bitLength 56 = .ok (.iconst 0, 1) := by decide +kernel
theorem d_X0_bitLength_57 : decode b_X0_bitLength 57 = .ok (.ireturn, 1) := by decide +kernel
theorem d_X0_addMultiple_0 : decode b_X0_addMultiple 0 = .ok (.lconst 0, 1) := by decide +kernel
theorem d_X0_addMultiple_1 : decode b_X0_addMultiple 1 = .ok (.lstore 5, 2) := by decide +kernel
theorem d_X0_addMultiple_3 : decode b_X0_addMultiple 3 = .ok (.iload_n 1, 1) := by decide +kernel
theorem d_X0_addMultiple_4 : decode b_X0_addMultiple 4 = .ok (.istore 7, 2) := by decide +kernel
theorem d_X0_addMultiple_6 : decode b_X0_addMultiple 6 = .ok (.iload 7, 2) := by decide +kernel
theorem d_X0_addMultiple_8 : decode b_X0_addMultiple 8 = .ok (.aload_n 0, 1) := by decide +kernel
theorem d_X0_addMultiple_9 : decode b_X0_addMultiple 9 = .ok (.getfield 15, 3) := by decide +kernel
theorem d_X0_addMultiple_12 : decode b_X0_addMultiple 12 = .ok (.if_icmp .ge 56, 3) := by decide +kernel
theorem d_X0_addMultiple_15 : decode b_X0_addMultiple 15 = .ok (.lload_n 2, 1) := by decide +kernel
theorem d_X0_addMultiple_16 : decode b_X0_addMultiple 16 = .ok (.aload 4, 2) := by decide +kernel
theorem d_X0_addMultiple_18 : decode b_X0_addMultiple 18 = .ok (.iload 7, 2) := by decide +kernel
theorem d_X0_addMultiple_20 : decode b_X0_addMultiple 20 = .ok (.iload_n 1, 1) := by decide +kernel
theorem d_X0_addMultiple_21 : decode b_X0_addMultiple 21 = .ok (.isub, 1) := by decide +kernel
theorem d_X0_addMultiple_22 : decode b_X0_addMultiple 22 = .ok (.invokevirtual 21, 3) := by decide +kernel
theorem d_X0_addMultiple_25 : decode b_X0_addMultiple 25 = .ok (.invokestatic 39, 3) := by decide +kernel
theorem d_X0_addMultiple_28 : decode b_X0_addMultiple 28 = .ok (.lmul, 1) := by decide +kernel
theorem d_X0_addMultiple_29 : decode b_X0_addMultiple 29 = .ok (.aload_n 0, 1) := by decide +kernel
theorem d_X0_addMultiple_30 : decode b_X0_addMultiple 30 = .ok (.getfield 9, 3) := by decide +kernel
theorem d_X0_addMultiple_33 : decode b_X0_addMultiple 33 = .ok (.iload 7, 2) := by decide +kernel
theorem d_X0_addMultiple_35 : decode b_X0_addMultiple 35 = .ok (.iaload, 1) := by decide +kernel
theorem d_X0_addMultiple_36 : decode b_X0_addMultiple 36 = .ok (.invokestatic 39, 3) := by decide +kernel
theorem d_X0_addMultiple_39 : decode b_X0_addMultiple 39 = .ok (.ladd, 1) := by decide +kernel
theorem d_X0_addMultiple_40 : decode b_X0_addMultiple 40 = .ok (.lload 5, 2) := by decide +kernel
theorem d_X0_addMultiple_42 : decode b_X0_addMultiple 42 = .ok (.ladd, 1) := by decide +kernel
theorem d_X0_addMultiple_43 : decode b_X0_addMultiple 43 = .ok (.lstore 8, 2) := by decide +kernel
theorem d_X0_addMultiple_45 : decode b_X0_addMultiple 45 = .ok (.aload_n 0, 1) := by decide +kernel
theorem d_X0_addMultiple_46 : decode b_X0_addMultiple 46 = .ok (.getfield 9, 3) := by decide +kernel
theorem d_X0_addMultiple_49 : decode b_X0_addMultiple 49 = .ok (.iload 7, 2) := by decide +kernel
theorem d_X0_addMultiple_51 : decode b_X0_addMultiple 51 = .ok (.lload 8, 2) := by decide +kernel
theorem d_X0_addMultiple_53 : decode b_X0_addMultiple 53 = .ok (.l2i, 1) := by decide +kernel
theorem d_X0_addMultiple_54 : decode b_X0_addMultiple 54 = .ok (.iastore, 1) := by decide +kernel
theorem d_X0_addMultiple_55 : decode b_X0_addMultiple 55 = .ok (.lload 8, 2) := by decide +kernel
theorem d_X0_addMultiple_57 : decode b_X0_addMultiple 57 = .ok (.bipush 32, 2) := by decide +kernel
theorem d_X0_addMultiple_59 : decode b_X0_addMultiple 59 = .ok (.lushr, 1) := by decide +kernel
theorem d_X0_addMultiple_60 : decode b_X0_addMultiple 60 = .ok (.lstore 5, 2) := by decide +kernel
theorem d_X0_addMultiple_62 : decode b_X0_addMultiple 62 = .ok (.iinc 7 1, 3) := by decide +kernel
theorem d_X0_addMultiple_65 : decode b_X0_addMultiple 65 = .ok (.goto (-59), 3) := by decide +kernel
theorem d_X0_addMultiple_68 : decode b_X0_addMultiple 68 = .ok (.return_, 1) := by decide +kernel
theorem d_X0_subtractProductOf_0 : decode b_X0_subtractProductOf 0 = .ok (.aload_n 0, 1) := by decide +kernel
theorem d_X0_subtractProductOf_1 : decode b_X0_subtractProductOf 1 = .ok (.invokevirtual 65, 3) := by decide +kernel
theorem d_X0_subtractProductOf_4 : decode b_X0_subtractProductOf 4 = .ok (.aload_n 0, 1) := by decide +kernel
theorem d_X0_subtractProductOf_5 : decode b_X0_subtractProductOf 5 = .ok (.aload_n 1, 1) := by decide +kernel
theorem d_X0_subtractProductOf_6 : decode b_X0_subtractProductOf 6 = .ok (.aload_n 2, 1) := by decide +kernel
theorem d_X0_subtractProductOf_7 : decode b_X0_subtractProductOf 7 = .ok (.invokevirtual 68, 3) := by decide +kernel
theorem d_X0_subtractProductOf_10 : decode b_X0_subtractProductOf 10 = .ok (.aload_n 0, 1) := by decide +kernel
theorem d_X0_subtractProductOf_11 : decode b_X0_subtractProductOf 11 = .ok (.invokevirtual 65, 3) := by decide +kernel
theorem d_X0_subtractProductOf_14 : decode b_X0_subtractProductOf 14 = .ok (.return_, 1) := by decide +kernel
theorem d_X0_complement_0 : decode b_X0_complement 0 = .ok (.iconst 0, 1) := by decide +kernel
theorem d_X0_complement_1 : decode b_X0_complement 1 = .ok (.istore_n 1, 1) := by decide +kernel
theorem d_X0_complement_2 : decode b_X0_complement 2 = .ok (.iload_n 1, 1) := by decide +kernel
theorem d_X0_complement_3 : decode b_X0_complement 3 = .ok (.aload_n 0, 1) := by decide +kernel
theorem d_X0_complement_4 : decode b_X0_complement 4 = .ok (.getfield 15, 3) := by decide +kernel
theorem d_X0_complement_7 : decode b_X0_complement 7 = .ok (.if_icmp .ge 23, 3) := by decide +kernel
theorem d_X0_complement_10 : decode b_X0_complement 10 = .ok (.aload_n 0, 1) := by decide +kernel
theorem d_X0_complement_11 : decode b_X0_complement 11 = .ok (.getfield 9, 3) := by decide +kernel
theorem d_X0_complement_14 : decode b_X0_complement 14 = .ok (.iload_n 1, 1) := by decide +kernel
theorem d_X0_complement_15 : decode b_X0_complement 15 = .ok (.aload_n 0, 1) := by decide +kernel
theorem d_X0_complement_16 : decode b_X0_complement 16 = .ok (.getfield 9, 3) := by decide +kernel
theorem d_X0_complement_19 : decode b_X0_complement 19 = .ok (.iload_n 1, 1) := by decide +kernel
theorem d_X0_complement_20 : decode b_X0_complement 20 = .ok (.iaload, 1) := by decide +kernel
theorem d_X0_complement_21 : decode b_X0_complement 21 = .ok (.iconst (-1), 1) := by decide +kernel
theorem d_X0_complement_22 : decode b_X0_complement 22 = .ok (.ixor, 1) := by decide +kernel
theorem d_X0_complement_23 : decode b_X0_complement 23 = .ok (.iastore, 1) := by decide +kernel
theorem d_X0_complement_24 : decode b_X0_complement 24 = .ok (.iinc 1 1, 3) := by decide +kernel
theorem d_X0_complement_27 : decode b_X0_complement 27 = .ok (.goto (-25), 3) := by decide +kernel
theorem d_X0_complement_30 : decode b_X0_complement 30 = .ok (.return_, 1) := by decide +kernel
theorem d_X0_multiplyBy_0 : decode b_X0_multiplyBy 0 = .ok (.lload_n 1, 1) := by decide +kernel
theorem d_X0_multiplyBy_1 : decode b_X0_multiplyBy 1 = .ok (.ldc2_w 19, 3) := by decide +kernel
theorem d_X0_multiplyBy_4 : decode b_X0_multiplyBy 4 = .ok (.land, 1) := by decide +kernel
theorem d_X0_multiplyBy_5 : decode b_X0_multiplyBy 5 = .ok (.lstore_n 3, 1) := by decide +kernel
theorem d_X0_multiplyBy_6 : decode b_X0_multiplyBy 6 = .ok (.lload_n 1, 1) := by decide +kernel
theorem d_X0_multiplyBy_7 : decode b_X0_multiplyBy 7 = .ok (.bipush 32, 2) := by decide +kernel
theorem d_X0_multiplyBy_9 : decode b_X0_multiplyBy 9 = .ok (.lshr, 1) := by decide +kernel
theorem d_X0_multiplyBy_10 : decode b_X0_multiplyBy 10 = .ok (.lstore 5, 2) := by decide +kernel
theorem d_X0_multiplyBy_12 : decode b_X0_multiplyBy 12 = .ok (.lconst 0, 1) := by decide +kernel
theorem d_X0_multiplyBy_13 : decode b_X0_multiplyBy 13 = .ok (.lstore 7, 2) := by decide +kernel
theorem d_X0_multiplyBy_15 : decode b_X0_multiplyBy 15 = .ok (.iconst 0, 1) := by decide +kernel
theorem d_X0_multiplyBy_16 : decode b_X0_multiplyBy 16 = .ok (.istore 9, 2) := by decide +kernel
theorem d_X0_multiplyBy_18 : decode b_X0_multiplyBy 18 = .ok (.iload 9, 2) := by decide +kernel
theorem d_X0_multiplyBy_20 : decode b_X0_multiplyBy 20 = .ok (.aload_n 0, 1) := by decide +kernel
theorem d_X0_multiplyBy_21 : decode b_X0_multiplyBy 21 = .ok (.getfield 15, 3) := by decide +kernel
theorem d_X0_multiplyBy_24 : decode b_X0_multiplyBy 24 = .ok (.if_icmp .ge 63, 3) := by decide +kernel
theorem d_X0_multiplyBy_27 : decode b_X0_multiplyBy 27 = .ok (.aload_n 0, 1) := by decide +kernel
theorem d_X0_multiplyBy_28 : decode b_X0_multiplyBy 28 = .ok (.getfield 9, 3) := by decide +kernel
theorem d_X0_multiplyBy_31 : decode b_X0_multiplyBy 31 = .ok (.iload 9, 2) := by decide +kernel
theorem d_X0_multiplyBy_33 : decode b_X0_multiplyBy 33 = .ok (.iaload, 1) := by decide +kernel
theorem d_X0_multiplyBy_34 : decode b_X0_multiplyBy 34 = .ok (.invokestatic 39, 3) := by decide +kernel
theorem d_X0_multiplyBy_37 : decode b_X0_multiplyBy 37 = .ok (.lstore 10, 2) := by decide +kernel
theorem d_X0_multiplyBy_39 : decode b_X0_multiplyBy 39 = .ok (.lload 10, 2) := by decide +kernel
theorem d_X0_multiplyBy_41 : decode b_X0_multiplyBy 41 = .ok (.lload_n 3, 1) := by decide +kernel
theorem d_X0_multiplyBy_42 : decode b_X0_multiplyBy 42 = .ok (.lmul, 1) := by decide +kernel
theorem d_X0_multiplyBy_43 : decode b_X0_multiplyBy 43 = .ok (.lload 7, 2) := by decide +kernel
theorem d_X0_multiplyBy_45 : decode b_X0_multiplyBy 45 = .ok (.ldc2_w 19, 3) := by decide +kernel
theorem d_X0_multiplyBy_48 : decode b_X0_multiplyBy 48 = .ok (.land, 1) := by decide +kernel
theorem d_X0_multiplyBy_49 : decode b_X0_multiplyBy 49 = .ok (.ladd, 1) := by decide +kernel
theorem d_X0_multiplyBy_50 : decode b_X0_multiplyBy 50 = .ok (.lstore 12, 2) := by decide +kernel
theorem d_X0_multiplyBy_52 : decode b_X0_multiplyBy 52 = .ok (.aload_n 0, 1) := by decide +kernel
theorem d_X0_multiplyBy_53 : decode b_X0_multiplyBy 53 = .ok (.getfield 9, 3) := by decide +kernel
theorem d_X0_multiplyBy_56 : decode b_X0_multiplyBy 56 = .ok (.iload 9, 2) := by decide +kernel
theorem d_X0_multiplyBy_58 : decode b_X0_multiplyBy 58 = .ok (.lload 12, 2) := by decide +kernel
theorem d_X0_multiplyBy_60 : decode b_X0_multiplyBy 60 = .ok (.l2i, 1) := by decide +kernel
theorem d_X0_multiplyBy_61 : decode b_X0_multiplyBy 61 = .ok (.iastore, 1) := by decide +kernel
theorem d_X0_multiplyBy_62 : decode b_X0_multiplyBy 62 = .ok (.lload 10, 2) := by decide +kernel
end
section
/-! The form of all contracts here: one answer, one set of worlds behind. -/
def xQ (r : Option Value) (B : State → Prop) (A : Nat → Prop) : Array Value → State → Outcome → State → Prop := fun _ st oc t => oc = .returned r ∧ B t ∧ va_F A st t
def xB (D : va_G) (cl : List vw_C) (A : Nat → Prop) (Y : va_W → Prop) (t : State) : Prop := ∃ w : va_W, Y w ∧ va_P D cl w t.heap ∧ va_D A w
def xP (D : va_G) (cl : List vw_C) (tys : List (ClassId × FieldType)) (w0 : va_W) (sz : Nat) (U : State) : Prop := U.heap.size = sz ∧ va_P D cl w0 U.heap ∧ va_K D cl tys U ∧ va_D (fun _ => True) w0
/-- THE CONTRACT: with the arguments as and the world w0 it answers r, and the world is one of Y -/
def xC (l : Launch) (y : MethodName) (ws : List Cond) (rm : Room) (D : va_G) (cl : List vw_C) (tys : List (ClassId × FieldType)) (as : List Value) (w0 : va_W) (r : Option Value) (Y : va_W → Prop) (mc ms : Nat) : Prop :=
  ∀ sz : Nat, Met l y ws rm (va_Pc as (xP D cl tys w0 sz)) (xQ r (xB D cl (va_A w0 sz) Y) (va_A w0 sz)) mc ms (va_A w0 sz)
theorem xC.ofW {l : Launch} {y : MethodName} {ws ws' : List Cond} {rm : Room} {D : va_G} {cl : List vw_C} {tys : List (ClassId × FieldType)} {as : List Value} {w0 : va_W} {r : Option Value} {Y : va_W → Prop} {mc ms : Nat} {cc : ByteArray} {maxL : Nat} {ret : Option FieldType}
    (hy : plainName y.cls = true) (hw : ws = Cond.code y cc maxL ret :: ws') (hlen : (lg_sl as).length ≤ maxL)
    (body : ∀ (p : Program) (e : Env) (s : State) (m : MethodId) (below : List Frame) (meth : Method) (c : Code) (A : Nat → Prop) (ls : Array Slot), l.admits e → meth.name = y.name →
      p.tables.exec = Jvm.exec → c.code = cc → meth.sig.returnType = ret → c.maxLocals = maxL → s.vm.findClass y.cls = some m.cls → (∀ w ∈ ws, w.before as.toArray s = true) → meth.locks = false → (∀ q : Nat, s.heap.size ≤ q → A q) →
      va_K D cl tys s → va_P D cl w0 s.heap → va_D A w0 → va_S A s.heap s.heap [] → lv_has ls maxL (lv_args 0 as) →
      W p l e rm s m as.toArray below meth c s.heap [] 0 0 (MQ below (xQ r (xB D cl A Y) A) as.toArray s mc ms A) (F0 m 0 ls [])) : xC l y ws rm D cl tys as w0 r Y mc ms := by
  intro sz
  refine Met.ofW (cc := cc) (maxL := maxL) (ret := ret) hy hw ?_
  intro p e s m args below meth c s₁ B hml hv
  obtain ⟨rfl, rfl, hP, hK, hD0⟩ := hv
  have hl := lv_entry as (n := maxL) hlen
  rw [lg_entry_eq]
  generalize (lg_sl as ++ List.replicate (maxL - (lg_sl as).length) Slot.unset).toArray = ls at hl ⊢
  exact body p e s m below meth c (va_A w0 s.heap.size) ls (Stand.of_body B).admits (name_of_methodNamed B.named B.method).1 B.exec B.bytes B.returns hml (findClass_of_methodNamed B.named) (atoms_spec (ws := ws) B.pre) B.notSynchronized (fun q h => Or.inr h) hK hP hD0.self va_S.rf hl
section XB
variable {p : Program} {l : Launch} {e : Env} {R : Room} {s : State} {m : MethodId} {args : Array Value} {below : List Frame} {meth : Method} {c : Code} {H : Heap} {locs : List Loc} {cells slots : Nat} {Q : State → Prop}
variable {cc : ByteArray} {pc : Nat} {ls : Array Slot} {rest st0 : List Value} {D : va_G} {cl : List vw_C} {tys : List (ClassId × FieldType)} {A : Nat → Prop} {w : va_W} {Y : va_W → Prop} {r : Option Value}
theorem x_iret {v : Int32} (hx : p.tables.exec = Jvm.exec) (hb : c.code = cc) (hr : meth.sig.returnType = some .int) (hlocks : meth.locks = false) (hP : va_P D cl w H) (hD : va_D A w) (hS : va_S A s.heap H locs) (hdg : decode cc pc = .ok (.ireturn, 1)) (hv : some (Value.int v) = r) (hY : Y w) :
    W p l e R s m args below meth c H locs cells slots (MQ below (xQ r (xB D cl A Y) A) args s cells slots A) (F0 m pc ls [.int v]) :=
  W.iret hx hb hr (fun t ht hW => ⟨by rw [hv], ⟨w, hY, by rw [ht]; exact hP, hD⟩, hS.F ht⟩) hS.2.2 hdg hlocks
theorem x_zret {v : Int32} (hx : p.tables.exec = Jvm.exec) (hb : c.code = cc) (hr : meth.sig.returnType = some .boolean) (hlocks : meth.locks = false) (hP : va_P D cl w H) (hD : va_D A w) (hS : va_S A s.heap H locs) (hdg : decode cc pc = .ok (.ireturn, 1)) (hn : narrow .boolean (.int v) = .int v) (hv : some (Value.int v) = r) (hY : Y w) :
    W p l e R s m args below meth c H locs cells slots (MQ below (xQ r (xB D cl A Y) A) args s cells slots A) (F0 m pc ls [.int v]) :=
  W.zret hx hb hr hn (fun t ht hW => ⟨by rw [hv], ⟨w, hY, by rw [ht]; exact hP, hD⟩, hS.F ht⟩) hS.2.2 hdg hlocks
theorem x_lret {v : Int64} (hx : p.tables.exec = Jvm.exec) (hb : c.code = cc) (hr : meth.sig.returnType = some .long) (hlocks : meth.locks = false) (hP : va_P D cl w H) (hD : va_D A w) (hS : va_S A s.heap H locs) (hdg : decode cc pc = .ok (.lreturn, 1)) (hv : some (Value.long v) = r) (hY : Y w) :
    W p l e R s m args below meth c H locs cells slots (MQ below (xQ r (xB D cl A Y) A) args s cells slots A) (F0 m pc ls [.long v]) :=
  W.lret hx hb hr (fun t ht hW => ⟨by rw [hv], ⟨w, hY, by rw [ht]; exact hP, hD⟩, hS.F ht⟩) hS.2.2 hdg hlocks
theorem x_vret (hx : p.tables.exec = Jvm.exec) (hb : c.code = cc) (hr : meth.sig.returnType = none) (hlocks : meth.locks = false) (hP : va_P D cl w H) (hD : va_D A w) (hS : va_S A s.heap H locs) (hdg : decode cc pc = .ok (.return_, 1)) (hv : (none : Option Value) = r) (hY : Y w) :
    W p l e R s m args below meth c H locs cells slots (MQ below (xQ r (xB D cl A Y) A) args s cells slots A) (F0 m pc ls []) :=
  W.vret hx hb hr (fun t ht hW => ⟨by rw [hv], ⟨w, hY, by rw [ht]; exact hP, hD⟩, hS.F ht⟩) hS.2.2 hdg hlocks
theorem x_aret {v : Nat} {rt : FieldType} (hx : p.tables.exec = Jvm.exec) (hb : c.code = cc) (hr : meth.sig.returnType = some rt) (hrt : (∃ n, rt = .object n) ∨ ∃ t, rt = .array t) (hlocks : meth.locks = false) (hP : va_P D cl w H) (hD : va_D A w) (hS : va_S A s.heap H locs) (hdg : decode cc pc = .ok (.areturn, 1)) (hv : some (Value.ref v) = r) (hY : Y w) :
    W p l e R s m args below meth c H locs cells slots (MQ below (xQ r (xB D cl A Y) A) args s cells slots A) (F0 m pc ls [.ref v]) :=
  W.aret hx hb hr hrt (Or.inr ⟨v, rfl⟩) (fun t ht hW => ⟨by rw [hv], ⟨w, hY, by rw [ht]; exact hP, hD⟩, hS.F ht⟩) hS.2.2 hdg hlocks
variable {mc ms : Nat} {a : Array Value} {free : Addr → Prop} {A0 A1 : Nat → Prop} {H0 : Heap}
theorem x_call (hr : va_Run p l e R s m args below meth c H locs cells slots mc ms (F0 m pc ls st0) rest (xQ r (xB D cl A1 Y) A1 a) free) (hS : va_S A0 H0 H locs) (hA : ∀ q, A1 q → A0 q) (hf : ∀ q, free q → A0 q) {st1 : List Value} (he : r.toList ++ rest = st1)
    (kk : ∀ (w1 : va_W) (H1 : Heap) (locs1 : List Loc), Y w1 → va_P D cl w1 H1 → va_D A0 w1 → va_S A0 H0 H1 locs1 → W p l e R s m args below meth c H1 locs1 (cells + mc) (slots + ms) Q (F0 m (pc + 3) ls st1)) : W p l e R s m args below meth c H locs cells slots Q (F0 m pc ls st0) := by
  subst he
  intro T hT X
  obtain ⟨v, st₀, t, T', L, h0, X', hL, e1, e2, ⟨hv, ⟨w1, hY, hP1, hD1⟩, hz, hk⟩, st⟩ := hr T hT X
  cases hv
  rw [h0] at hz hk
  obtain ⟨t2, a1, b1⟩ := kk w1 T'.heap (locs ++ L) hY (by rw [e1]; exact hP1) (hD1.weaken (fun _ q _ h => hA q.1 h))
    ⟨Nat.le_trans hS.1 (by rw [e1]; exact hz), fun q h1 h2 => by rw [e1, hk q (Nat.lt_of_lt_of_le h1 hS.1) (fun z => h2 (hA q z))]; exact hS.2.1 q h1 h2, fun q hq => by
      rcases List.mem_append.mp hq with h | h
      · exact hS.2.2 q h
      · exact hf _ (hL q h)⟩ T' rfl X'
  exact ⟨t2, st t2 a1, b1⟩
/-- reading alone: the heap stays as it is -/
def xRQ (r : Option Value) : Array Value → State → Outcome → State → Prop := fun _ st oc t => oc = .returned r ∧ t.heap = st.heap
theorem x_callR (hr : va_Run p l e R s m args below meth c H locs cells slots 0 0 (F0 m pc ls st0) rest (xRQ r a) (fun _ => False)) {st1 : List Value} (he : r.toList ++ rest = st1)
    (kk : W p l e R s m args below meth c H locs cells slots Q (F0 m (pc + 3) ls st1)) : W p l e R s m args below meth c H locs cells slots Q (F0 m pc ls st0) := by
  subst he
  intro T hT X
  obtain ⟨v, st₀, t, T', L, h0, X', hL, e1, e2, ⟨hv, hh⟩, st⟩ := hr T hT X
  cases hv
  obtain ⟨t2, a1, b1⟩ := kk T' (by rw [e1, hh, h0]) (Stand.forget X' (fun q h => (hL q h).elim))
  exact ⟨t2, st t2 a1, b1⟩
theorem xr_iret {v : Int32} (hx : p.tables.exec = Jvm.exec) (hb : c.code = cc) (hr : meth.sig.returnType = some .int) (hlocks : meth.locks = false) (hdg : decode cc pc = .ok (.ireturn, 1)) (hv : some (Value.int v) = r) :
    W p l e R s m args below meth c s.heap [] cells slots (MQ below (xRQ r) args s cells slots (fun _ => False)) (F0 m pc ls [.int v]) :=
  W.iret hx hb hr (fun t ht hW => ⟨by rw [hv], ht⟩) (fun q h => by cases h) hdg hlocks
theorem xr_zret {v : Int32} (hx : p.tables.exec = Jvm.exec) (hb : c.code = cc) (hr : meth.sig.returnType = some .boolean) (hlocks : meth.locks = false) (hdg : decode cc pc = .ok (.ireturn, 1)) (hn : narrow .boolean (.int v) = .int v) (hv : some (Value.int v) = r) :
    W p l e R s m args below meth c s.heap [] cells slots (MQ below (xRQ r) args s cells slots (fun _ => False)) (F0 m pc ls [.int v]) :=
  W.zret hx hb hr hn (fun t ht hW => ⟨by rw [hv], ht⟩) (fun q h => by cases h) hdg hlocks
theorem xr_lret {v : Int64} (hx : p.tables.exec = Jvm.exec) (hb : c.code = cc) (hr : meth.sig.returnType = some .long) (hlocks : meth.locks = false) (hdg : decode cc pc = .ok (.lreturn, 1)) (hv : some (Value.long v) = r) :
    W p l e R s m args below meth c s.heap [] cells slots (MQ below (xRQ r) args s cells slots (fun _ => False)) (F0 m pc ls [.long v]) :=
  W.lret hx hb hr (fun t ht hW => ⟨by rw [hv], ht⟩) (fun q h => by cases h) hdg hlocks
theorem xr_aret {v : Nat} {rt : FieldType} (hx : p.tables.exec = Jvm.exec) (hb : c.code = cc) (hr : meth.sig.returnType = some rt) (hrt : (∃ n, rt = .object n) ∨ ∃ t, rt = .array t) (hlocks : meth.locks = false) (hdg : decode cc pc = .ok (.areturn, 1)) (hv : some (Value.ref v) = r) :
    W p l e R s m args below meth c s.heap [] cells slots (MQ below (xRQ r) args s cells slots (fun _ => False)) (F0 m pc ls [.ref v]) :=
  W.aret hx hb hr hrt (Or.inr ⟨v, rfl⟩) (fun t ht hW => ⟨by rw [hv], ht⟩) (fun q h => by cases h) hdg hlocks
theorem xr_vret (hx : p.tables.exec = Jvm.exec) (hb : c.code = cc) (hr : meth.sig.returnType = none) (hlocks : meth.locks = false) (hdg : decode cc pc = .ok (.return_, 1)) (hv : (none : Option Value) = r) :
    W p l e R s m args below meth c s.heap [] cells slots (MQ below (xRQ r) args s cells slots (fun _ => False)) (F0 m pc ls []) :=
  W.vret hx hb hr (fun t ht hW => ⟨by rw [hv], ht⟩) (fun q h => by cases h) hdg hlocks
end XB
def xR (l : Launch) (y : MethodName) (ws : List Cond) (rm : Room) (D : va_G) (cl : List vw_C) (tys : List (ClassId × FieldType)) (as : List Value) (w0 : va_W) (r : Option Value) : Prop :=
  ∀ sz : Nat, Met l y ws rm (va_Pc as (xP D cl tys w0 sz)) (xRQ r) 0 0 (fun _ => False)
theorem xR.ofW {l : Launch} {y : MethodName} {ws ws' : List Cond} {rm : Room} {D : va_G} {cl : List vw_C} {tys : List (ClassId × FieldType)} {as : List Value} {w0 : va_W} {r : Option Value} {cc : ByteArray} {maxL : Nat} {ret : Option FieldType}
    (hy : plainName y.cls = true) (hw : ws = Cond.code y cc maxL ret :: ws') (hlen : (lg_sl as).length ≤ maxL)
    (body : ∀ (p : Program) (e : Env) (s : State) (m : MethodId) (below : List Frame) (meth : Method) (c : Code) (A : Nat → Prop) (ls : Array Slot), l.admits e → meth.name = y.name →
      p.tables.exec = Jvm.exec → c.code = cc → meth.sig.returnType = ret → c.maxLocals = maxL → s.vm.findClass y.cls = some m.cls → (∀ w ∈ ws, w.before as.toArray s = true) → meth.locks = false → (∀ q : Nat, s.heap.size ≤ q → A q) →
      va_K D cl tys s → va_P D cl w0 s.heap → va_D A w0 → va_S A s.heap s.heap [] → lv_has ls maxL (lv_args 0 as) →
      W p l e rm s m as.toArray below meth c s.heap [] 0 0 (MQ below (xRQ r) as.toArray s 0 0 (fun _ => False)) (F0 m 0 ls [])) : xR l y ws rm D cl tys as w0 r := by
  intro sz
  refine Met.ofW (cc := cc) (maxL := maxL) (ret := ret) hy hw ?_
  intro p e s m args below meth c s₁ B hml hv
  obtain ⟨rfl, rfl, hP, hK, hD0⟩ := hv
  have hl := lv_entry as (n := maxL) hlen
  rw [lg_entry_eq]
  generalize (lg_sl as ++ List.replicate (maxL - (lg_sl as).length) Slot.unset).toArray = ls at hl ⊢
  exact body p e s m below meth c (va_A w0 s.heap.size) ls (Stand.of_body B).admits (name_of_methodNamed B.named B.method).1 B.exec B.bytes B.returns hml (findClass_of_methodNamed B.named) (atoms_spec (ws := ws) B.pre) B.notSynchronized (fun q h => Or.inr h) hK hP hD0.self va_S.rf hl
section XR
variable {p : Program} {l : Launch} {e : Env} {R : Room} {s : State} {m : MethodId} {args : Array Value} {below : List Frame} {meth : Method} {c : Code} {H : Heap} {locs : List Loc} {cells slots : Nat} {Q : State → Prop}
variable {cc : ByteArray} {pc : Nat} {ls : Array Slot} {rest st0 : List Value} {D : va_G} {cl : List vw_C} {tys : List (ClassId × FieldType)} {A : Nat → Prop} {w0 : va_W} {Y : va_W → Prop} {r : Option Value}
variable {y : MethodName} {bytes : ByteArray} {maxL nL mc ms n index : Nat} {ret : Option FieldType} {ws : List Cond} {rm : Room} {Qc : Array Value → State → Outcome → State → Prop} {free : Addr → Prop} {Ts : List Cond} {own C : String} {b : Nat} {As : List Value}
theorem x_blind {as : List Value} {sz : Nat} : FrameBlind (va_Pc as (xP D cl tys w0 sz)) := fun a U g mk q => by
  obtain ⟨q0, q1, qP, qK, qD⟩ := q
  exact ⟨q0, q1, qP, va_K.moved (u := U) (U := U.calling g mk a) (Vm.Alike.refl U.vm) qK, qD⟩
theorem x_pre (hK : va_K D cl tys s) (hP : va_P D cl w0 H) (hD : va_D A w0) {as : List Value} : ∀ U : State, U.heap = H → s.WarmedH U.vm → va_Pc as (xP D cl tys w0 H.size) as.toArray U := fun U hU hW =>
  ⟨rfl, by rw [hU], by rw [hU]; exact hP, va_K.moved hW.alike hK, hD.weaken (fun _ _ _ _ => trivial)⟩
theorem x_runV (S : CallFix p m c cc nL s args Ts own) (hM : Met l y ws rm (va_Pc (.ref b :: As) (xP D cl tys w0 H.size)) Qc mc ms free) (cw : CallW R s args own C index y bytes maxL ret ws rm mc ms n) (hK : va_K D cl tys s) (hP : va_P D cl w0 H) (hD : va_D A w0)
    (q0 ci : Nat) {fs : List Value} {T : u_T} {NN : Nat} (he : w0[q0]? = some (b, .inr (ci, fs))) (hc : cl[ci]? = some (C, T, NN))
    (hn : As.length = n) (hsize : ls.size = nL) (hst : st0 = As.reverse ++ .ref b :: rest) (hW : (rest.map fun v => v.category).sum ≤ 8) (hdg : decode cc pc = .ok (.invokevirtual index, 3)) (hf : cells + mc ≤ R.cells ∧ slots + ms ≤ R.slots) :
    va_Run p l e R s m args below meth c H locs cells slots mc ms (F0 m pc ls st0) rest (Qc (Value.ref b :: As).toArray) free :=
  va_runV S hM cw ⟨x_blind, va_recv hK hP hc he, x_pre hK hP hD⟩ rfl hn hsize hst (lv_room hW) hdg hf
theorem x_runS (S : CallFix p m c cc nL s args Ts own) (hM : Met l y ws rm (va_Pc As (xP D cl tys w0 H.size)) Qc mc ms free) (cw : CallB R s args own index y bytes maxL ret ws rm mc ms n ∧ (Cond.static y).before args s = true) (hK : va_K D cl tys s) (hP : va_P D cl w0 H) (hD : va_D A w0)
    (hn : As.length = n) (hsize : ls.size = nL) (hst : st0 = As.reverse ++ rest) (hW : (rest.map fun v => v.category).sum ≤ 8) (hdg : decode cc pc = .ok (.invokestatic index, 3)) (hf : cells + mc ≤ R.cells ∧ slots + ms ≤ R.slots) :
    va_Run p l e R s m args below meth c H locs cells slots mc ms (F0 m pc ls st0) rest (Qc As.toArray) free :=
  va_runS S hM cw ⟨x_blind, x_pre hK hP hD⟩ rfl hn hsize hst (lv_room hW) hdg hf
end XR
theorem gw_V {own C : String} {idx : Nat} {y : MethodName} {b : ByteArray} {n : Nat} {ret : Option FieldType} (h1 : Cond.methodLink own idx y ∈ gw) (h2 : Cond.instanceMethod y ∈ gw) (h3 : Cond.selects C y y ∈ gw) (h4 : Cond.initialized C ∈ gw) (h5 : Cond.code y b n ret ∈ gw) : GoodIn gw (wsV own idx C y (.code y b n ret :: gw)) := fun w hw => by
  unfold wsV at hw
  rcases List.mem_append.mp hw with h | h
  · simp only [List.mem_cons, List.not_mem_nil, or_false] at h
    rcases h with rfl | rfl | rfl | rfl
    · exact gw_good _ h1
    · exact gw_good _ h2
    · exact gw_good _ h3
    · exact gw_good _ h4
  · exact gw_call h5 w h
theorem gw_S {own : String} {idx : Nat} {y : MethodName} {b : ByteArray} {n : Nat} {ret : Option FieldType} (h1 : Cond.methodLink own idx y ∈ gw) (h2 : Cond.static y ∈ gw) (h4 : Cond.initialized own ∈ gw) (h5 : Cond.code y b n ret ∈ gw) : GoodIn gw (wsS own idx y (.code y b n ret :: gw)) := fun w hw => by
  unfold wsS at hw
  rcases List.mem_append.mp hw with h | h
  · simp only [List.mem_cons, List.not_mem_nil, or_false] at h
    rcases h with rfl | rfl | rfl
    · exact gw_good _ h1
    · exact gw_good _ h2
    · exact gw_good _ h4
  · exact gw_call h5 w h
end
section
/-! Rows for ints that are counted in Nat. -/
section XN
variable {p : Program} {l : Launch} {e : Env} {R : Room} {s : State} {m : MethodId} {args : Array Value} {below : List Frame} {meth : Method} {c : Code} {H : Heap} {locs : List Loc} {cells slots : Nat} {Q : State → Prop}
variable {cc : ByteArray} {pc : Nat} {ls : Array Slot} {rest : List Value}
theorem n_iadd (hx : p.tables.exec = Jvm.exec) (hb : c.code = cc) {a b : Nat} (hdg : decode cc pc = .ok (.iadd, 1)) 
    (k : W p l e R s m args below meth c H locs cells slots Q (F0 m (pc + 1) ls (.int (nI (a + b)) :: rest))) : W p l e R s m args below meth c H locs cells slots Q (F0 m pc ls (.int (nI b) :: .int (nI a) :: rest)) :=
  lv_iadd hx hb hdg (by rw [nI_add]; exact k)
theorem n_isub (hx : p.tables.exec = Jvm.exec) (hb : c.code = cc) {a b : Nat} (hdg : decode cc pc = .ok (.isub, 1)) (h : b ≤ a)
    (k : W p l e R s m args below meth c H locs cells slots Q (F0 m (pc + 1) ls (.int (nI (a - b)) :: rest))) : W p l e R s m args below meth c H locs cells slots Q (F0 m pc ls (.int (nI b) :: .int (nI a) :: rest)) :=
  lv_isub hx hb hdg (by rw [pk_sub h]; exact k)
theorem n_imul (hx : p.tables.exec = Jvm.exec) (hb : c.code = cc) {a b : Nat} (hdg : decode cc pc = .ok (.imul, 1)) 
    (k : W p l e R s m args below meth c H locs cells slots Q (F0 m (pc + 1) ls (.int (nI (a * b)) :: rest))) : W p l e R s m args below meth c H locs cells slots Q (F0 m pc ls (.int (nI b) :: .int (nI a) :: rest)) :=
  lv_imul hx hb hdg (by rw [pk_mul]; exact k)
theorem n_idiv (hx : p.tables.exec = Jvm.exec) (hb : c.code = cc) {a b : Nat} (hdg : decode cc pc = .ok (.idiv, 1)) (ha : a < 2 ^ 31) (h0 : 0 < b) (hb2 : b < 2 ^ 31)
    (k : W p l e R s m args below meth c H locs cells slots Q (F0 m (pc + 1) ls (.int (nI (a / b)) :: rest))) : W p l e R s m args below meth c H locs cells slots Q (F0 m pc ls (.int (nI b) :: .int (nI a) :: rest)) :=
  lv_idiv hx hb hdg (nI_ne0 h0 hb2) (by rw [pk_div ha h0 hb2]; exact k)
theorem n_irem (hx : p.tables.exec = Jvm.exec) (hb : c.code = cc) {a b : Nat} (hdg : decode cc pc = .ok (.irem, 1)) (ha : a < 2 ^ 31) (h0 : 0 < b) (hb2 : b < 2 ^ 31)
    (k : W p l e R s m args below meth c H locs cells slots Q (F0 m (pc + 1) ls (.int (nI (a % b)) :: rest))) : W p l e R s m args below meth c H locs cells slots Q (F0 m pc ls (.int (nI b) :: .int (nI a) :: rest)) :=
  lv_irem hx hb hdg (nI_ne0 h0 hb2) (by rw [pk_rem ha h0 hb2]; exact k)
theorem n_iinc (hx : p.tables.exec = Jvm.exec) (hb : c.code = cc) {i nL k a : Nat} {lv lv' : List (Nat × Value)} (hdg : decode cc pc = .ok (.iinc i 1, 3)) (h : lv_has ls nL lv) (hk : lv[k]? = some (i, .int (nI a))) (hn : i < nL) (hl : (i, Value.int (nI (a + 1))) :: lv.filter (fun q => !(q.1 == i) && !(q.1 + 1 == i && q.2.category == 2)) = lv')
    (kk : ∀ ls' : Array Slot, lv_has ls' nL lv' → W p l e R s m args below meth c H locs cells slots Q (F0 m (pc + 3) ls' rest)) : W p l e R s m args below meth c H locs cells slots Q (F0 m pc ls rest) :=
  lv_iinc (v := nI (a + 1)) hx hb hdg h hk (by rw [← nI_1]; rfl) hn hl kk
/-- a counter that goes down to -1: n - 1 -/
def nM (n : Nat) : Int32 := nI n + (-1)
theorem nM_succ (n : Nat) : nM (n + 1) = nI n := pk_m1 n
theorem nM_0 : nM 0 = -1 := by decide
theorem n_idec (hx : p.tables.exec = Jvm.exec) (hb : c.code = cc) {i nL k a : Nat} {lv lv' : List (Nat × Value)} (hdg : decode cc pc = .ok (.iinc i (-1), 3)) (h : lv_has ls nL lv) (hk : lv[k]? = some (i, .int (nI a))) (hn : i < nL) (hl : (i, Value.int (nM a)) :: lv.filter (fun q => !(q.1 == i) && !(q.1 + 1 == i && q.2.category == 2)) = lv')
    (kk : ∀ ls' : Array Slot, lv_has ls' nL lv' → W p l e R s m args below meth c H locs cells slots Q (F0 m (pc + 3) ls' rest)) : W p l e R s m args below meth c H locs cells slots Q (F0 m pc ls rest) :=
  lv_iinc (v := nM a) hx hb hdg h hk rfl hn hl kk
theorem n_icmp_eq (hx : p.tables.exec = Jvm.exec) (hb : c.code = cc) {a b : Nat} {off : Int} {tgt : Nat} (hdg : decode cc pc = .ok (.if_icmp .eq off, 3)) (ht : (pc : Int) + off = (tgt : Int)) (ha : a < 2 ^ 31) (hb2 : b < 2 ^ 31)
    (kt : a = b → W p l e R s m args below meth c H locs cells slots Q (F0 m tgt ls rest)) (kf : a ≠ b → W p l e R s m args below meth c H locs cells slots Q (F0 m (pc + 3) ls rest)) : W p l e R s m args below meth c H locs cells slots Q (F0 m pc ls (.int (nI b) :: .int (nI a) :: rest)) :=
  lv_icmp_eq hx hb hdg ht (fun q => kt ((nI_eq ha hb2).mp q)) (fun q => kf (fun z => q ((nI_eq ha hb2).mpr z)))
theorem n_icmp_ne (hx : p.tables.exec = Jvm.exec) (hb : c.code = cc) {a b : Nat} {off : Int} {tgt : Nat} (hdg : decode cc pc = .ok (.if_icmp .ne off, 3)) (ht : (pc : Int) + off = (tgt : Int)) (ha : a < 2 ^ 31) (hb2 : b < 2 ^ 31)
    (kt : a ≠ b → W p l e R s m args below meth c H locs cells slots Q (F0 m tgt ls rest)) (kf : a = b → W p l e R s m args below meth c H locs cells slots Q (F0 m (pc + 3) ls rest)) : W p l e R s m args below meth c H locs cells slots Q (F0 m pc ls (.int (nI b) :: .int (nI a) :: rest)) :=
  lv_icmp_ne hx hb hdg ht (fun q => kt (fun z => q ((nI_eq ha hb2).mpr z))) (fun q => kf ((nI_eq ha hb2).mp q))
theorem n_icmp_lt (hx : p.tables.exec = Jvm.exec) (hb : c.code = cc) {a b : Nat} {off : Int} {tgt : Nat} (hdg : decode cc pc = .ok (.if_icmp .lt off, 3)) (ht : (pc : Int) + off = (tgt : Int)) (ha : a < 2 ^ 31) (hb2 : b < 2 ^ 31)
    (kt : a < b → W p l e R s m args below meth c H locs cells slots Q (F0 m tgt ls rest)) (kf : b ≤ a → W p l e R s m args below meth c H locs cells slots Q (F0 m (pc + 3) ls rest)) : W p l e R s m args below meth c H locs cells slots Q (F0 m pc ls (.int (nI b) :: .int (nI a) :: rest)) :=
  lv_icmp_lt hx hb hdg ht (fun q => kt ((nI_ltI ha hb2).mp q)) (fun q => kf (Nat.le_of_not_lt (fun z => q ((nI_ltI ha hb2).mpr z))))
theorem n_icmp_ge (hx : p.tables.exec = Jvm.exec) (hb : c.code = cc) {a b : Nat} {off : Int} {tgt : Nat} (hdg : decode cc pc = .ok (.if_icmp .ge off, 3)) (ht : (pc : Int) + off = (tgt : Int)) (ha : a < 2 ^ 31) (hb2 : b < 2 ^ 31)
    (kt : b ≤ a → W p l e R s m args below meth c H locs cells slots Q (F0 m tgt ls rest)) (kf : a < b → W p l e R s m args below meth c H locs cells slots Q (F0 m (pc + 3) ls rest)) : W p l e R s m args below meth c H locs cells slots Q (F0 m pc ls (.int (nI b) :: .int (nI a) :: rest)) :=
  lv_icmp_ge hx hb hdg ht (fun q => kt ((nI_leI hb2 ha).mp q)) (fun q => kf (Nat.lt_of_not_le (fun z => q ((nI_leI hb2 ha).mpr z))))
theorem n_icmp_gt (hx : p.tables.exec = Jvm.exec) (hb : c.code = cc) {a b : Nat} {off : Int} {tgt : Nat} (hdg : decode cc pc = .ok (.if_icmp .gt off, 3)) (ht : (pc : Int) + off = (tgt : Int)) (ha : a < 2 ^ 31) (hb2 : b < 2 ^ 31)
    (kt : b < a → W p l e R s m args below meth c H locs cells slots Q (F0 m tgt ls rest)) (kf : a ≤ b → W p l e R s m args below meth c H locs cells slots Q (F0 m (pc + 3) ls rest)) : W p l e R s m args below meth c H locs cells slots Q (F0 m pc ls (.int (nI b) :: .int (nI a) :: rest)) :=
  lv_icmp_gt hx hb hdg ht (fun q => kt ((nI_ltI hb2 ha).mp q)) (fun q => kf (Nat.le_of_not_lt (fun z => q ((nI_ltI hb2 ha).mpr z))))
theorem n_icmp_le (hx : p.tables.exec = Jvm.exec) (hb : c.code = cc) {a b : Nat} {off : Int} {tgt : Nat} (hdg : decode cc pc = .ok (.if_icmp .le off, 3)) (ht : (pc : Int) + off = (tgt : Int)) (ha : a < 2 ^ 31) (hb2 : b < 2 ^ 31)
    (kt : a ≤ b → W p l e R s m args below meth c H locs cells slots Q (F0 m tgt ls rest)) (kf : b < a → W p l e R s m args below meth c H locs cells slots Q (F0 m (pc + 3) ls rest)) : W p l e R s m args below meth c H locs cells slots Q (F0 m pc ls (.int (nI b) :: .int (nI a) :: rest)) :=
  lv_icmp_le hx hb hdg ht (fun q => kt ((nI_leI ha hb2).mp q)) (fun q => kf (Nat.lt_of_not_le (fun z => q ((nI_leI ha hb2).mpr z))))
theorem nI_z {a : Nat} (ha : a < 2 ^ 31) : nI a = 0 ↔ a = 0 := by
  have := nI_eq (a := a) (b := 0) ha (by decide)
  rwa [nI_0] at this
theorem nI_p {a : Nat} (ha : a < 2 ^ 31) : 0 < nI a ↔ 0 < a := by
  have := nI_ltI (a := 0) (b := a) (by decide) ha
  rwa [nI_0] at this
theorem nI_q {a : Nat} (ha : a < 2 ^ 31) : nI a ≤ 0 ↔ a = 0 := by
  have := nI_leI (a := a) (b := 0) ha (by decide)
  rw [nI_0] at this
  rw [this]; omega
theorem n_if_eq (hx : p.tables.exec = Jvm.exec) (hb : c.code = cc) {a : Nat} {off : Int} {tgt : Nat} (hdg : decode cc pc = .ok (.ifCond .eq off, 3)) (ht : (pc : Int) + off = (tgt : Int)) (ha : a < 2 ^ 31)
    (kt : a = 0 → W p l e R s m args below meth c H locs cells slots Q (F0 m tgt ls rest)) (kf : a ≠ 0 → W p l e R s m args below meth c H locs cells slots Q (F0 m (pc + 3) ls rest)) : W p l e R s m args below meth c H locs cells slots Q (F0 m pc ls (.int (nI a) :: rest)) :=
  lv_if_eq hx hb hdg ht (fun q => kt ((nI_z ha).mp q)) (fun q => kf (fun z => q ((nI_z ha).mpr z)))
theorem n_if_ne (hx : p.tables.exec = Jvm.exec) (hb : c.code = cc) {a : Nat} {off : Int} {tgt : Nat} (hdg : decode cc pc = .ok (.ifCond .ne off, 3)) (ht : (pc : Int) + off = (tgt : Int)) (ha : a < 2 ^ 31)
    (kt : a ≠ 0 → W p l e R s m args below meth c H locs cells slots Q (F0 m tgt ls rest)) (kf : a = 0 → W p l e R s m args below meth c H locs cells slots Q (F0 m (pc + 3) ls rest)) : W p l e R s m args below meth c H locs cells slots Q (F0 m pc ls (.int (nI a) :: rest)) :=
  lv_if_ne hx hb hdg ht (fun q => kt (fun z => q ((nI_z ha).mpr z))) (fun q => kf ((nI_z ha).mp q))
theorem n_if_gt (hx : p.tables.exec = Jvm.exec) (hb : c.code = cc) {a : Nat} {off : Int} {tgt : Nat} (hdg : decode cc pc = .ok (.ifCond .gt off, 3)) (ht : (pc : Int) + off = (tgt : Int)) (ha : a < 2 ^ 31)
    (kt : 0 < a → W p l e R s m args below meth c H locs cells slots Q (F0 m tgt ls rest)) (kf : a = 0 → W p l e R s m args below meth c H locs cells slots Q (F0 m (pc + 3) ls rest)) : W p l e R s m args below meth c H locs cells slots Q (F0 m pc ls (.int (nI a) :: rest)) :=
  lv_if_gt hx hb hdg ht (fun q => kt ((nI_p ha).mp q)) (fun q => kf (Nat.eq_zero_of_not_pos (fun z => q ((nI_p ha).mpr z))))
theorem n_if_le (hx : p.tables.exec = Jvm.exec) (hb : c.code = cc) {a : Nat} {off : Int} {tgt : Nat} (hdg : decode cc pc = .ok (.ifCond .le off, 3)) (ht : (pc : Int) + off = (tgt : Int)) (ha : a < 2 ^ 31)
    (kt : a = 0 → W p l e R s m args below meth c H locs cells slots Q (F0 m tgt ls rest)) (kf : 0 < a → W p l e R s m args below meth c H locs cells slots Q (F0 m (pc + 3) ls rest)) : W p l e R s m args below meth c H locs cells slots Q (F0 m pc ls (.int (nI a) :: rest)) :=
  lv_if_le hx hb hdg ht (fun q => kt ((nI_q ha).mp q)) (fun q => kf (Nat.pos_of_ne_zero (fun z => q ((nI_q ha).mpr z))))
theorem n_if_lt (hx : p.tables.exec = Jvm.exec) (hb : c.code = cc) {a : Nat} {off : Int} {tgt : Nat} (hdg : decode cc pc = .ok (.ifCond .lt off, 3)) (ht : (pc : Int) + off = (tgt : Int)) (ha : a < 2 ^ 31)
    (kf : W p l e R s m args below meth c H locs cells slots Q (F0 m (pc + 3) ls rest)) : W p l e R s m args below meth c H locs cells slots Q (F0 m pc ls (.int (nI a) :: rest)) :=
  lv_if_lt hx hb hdg ht (fun q => absurd q (nI_pos ha)) (fun _ => kf)
theorem n_if_ge (hx : p.tables.exec = Jvm.exec) (hb : c.code = cc) {a : Nat} {off : Int} {tgt : Nat} (hdg : decode cc pc = .ok (.ifCond .ge off, 3)) (ht : (pc : Int) + off = (tgt : Int)) (ha : a < 2 ^ 31)
    (kt : W p l e R s m args below meth c H locs cells slots Q (F0 m tgt ls rest)) : W p l e R s m args below meth c H locs cells slots Q (F0 m pc ls (.int (nI a) :: rest)) :=
  lv_if_ge hx hb hdg ht (fun _ => kt) (fun q => absurd (nI_pos' ha) q)
end XN
end
section
/-! The classes, and the cells of the 64 rows. -/
def R_Row : String := "LimbRows$Row"
def T_Row : u_T := fun k => match k with
  | 0 => ("LimbRows$Row", "limbs", "[I", false)
  | _ => ("LimbRows$Row", "width", "I", false)
def t_Row : Nat → FieldType := fun k => match k with
  | 0 => .array .int
  | _ => .int
def R_LR : String := "LimbRows"
def T_LR : u_T := fun _ => ("LimbRows", "rows", "[LLimbRows$Row;", true)
def t_LR : Nat → FieldType := fun _ => .array (.object "LimbRows$Row")
def R_Md : String := "LimbRowsModel"
def T_Md : u_T := fun k => match k with
  | 0 => ("LimbRowsModel", "code", "I", false)
  | 1 => ("LimbRowsModel", "widths", "[I", true)
  | 2 => ("LimbRowsModel", "rows", "[I", true)
  | 3 => ("LimbRowsModel", "signs", "[I", true)
  | _ => ("LimbRowsModel", "sizes", "[I", true)
def t_Md : Nat → FieldType := fun k => match k with
  | 0 => .int
  | _ => .array .int
abbrev cls0 : List vw_C := [(R_Row, T_Row, 2), (R_LR, T_LR, 1), (R_Md, T_Md, 5)]
abbrev ty3 (cA cR cL : ClassId) : List (ClassId × FieldType) := [(cA, .int), (cR, .object "LimbRows$Row"), (cL, .long)]
theorem n_Row : ∀ a, a < 2 → ∀ b, b < 2 → a ≠ b → (T_Row a).2.1 ≠ (T_Row b).2.1 := by decide +kernel
theorem t_Row_ok : ∀ k, k < 2 → parseFieldDescriptor (T_Row k).2.2.1 = some (t_Row k) := by decide +kernel
theorem n_LR : ∀ a, a < 1 → ∀ b, b < 1 → a ≠ b → (T_LR a).2.1 ≠ (T_LR b).2.1 := by decide +kernel
theorem t_LR_ok : ∀ k, k < 1 → parseFieldDescriptor (T_LR k).2.2.1 = some (t_LR k) := by decide +kernel
theorem n_Md : ∀ a, a < 5 → ∀ b, b < 5 → a ≠ b → (T_Md a).2.1 ≠ (T_Md b).2.1 := by decide +kernel
theorem t_Md_ok : ∀ k, k < 5 → parseFieldDescriptor (T_Md k).2.2.1 = some (t_Md k) := by decide +kernel
/-- the rows and their limbs, behind any other cells -/
def rw (Rs : va_W) (cA : ClassId) (ro la cap wd : Nat → Nat) (F : Nat → Nat → Int32) : va_W :=
  Rs ++ ((List.range 64).map (fun i => (ro i, (.inr (0, [.ref (la i), .int (nI (wd i))]) : va_E))) ++ (List.range 64).map (fun i => (la i, (.inl (cA, cap i, .inl (F i)) : va_E))))
def rwOk (cap wd : Nat → Nat) : Prop := ∀ i, i < 64 → 1 ≤ wd i ∧ wd i ≤ cap i ∧ cap i ≤ 256
section RW
variable {Rs : va_W} {cA cR cL : ClassId} {ro la cap wd : Nat → Nat} {F : Nat → Nat → Int32}
theorem rw_row {i : Nat} (hi : i < 64) : (rw Rs cA ro la cap wd F)[Rs.length + i]? = some (ro i, .inr (0, [.ref (la i), .int (nI (wd i))])) := by
  unfold rw
  rw [List.getElem?_append_right (by omega), show Rs.length + i - Rs.length = i by omega, List.getElem?_append_left (by simpa using hi)]
  simp [hi]
theorem rw_lim {i : Nat} (hi : i < 64) : (rw Rs cA ro la cap wd F)[Rs.length + 64 + i]? = some (la i, .inl (cA, cap i, .inl (F i))) := by
  unfold rw
  rw [List.getElem?_append_right (by omega), show Rs.length + 64 + i - Rs.length = 64 + i by omega, List.getElem?_append_right (by simp)]
  simp [hi]
theorem rw_setF {i : Nat} (hi : i < 64) (g : Nat → Int32) : (rw Rs cA ro la cap wd F).set (Rs.length + 64 + i) (la i, .inl (cA, cap i, .inl g)) = rw Rs cA ro la cap wd (va_up F i g) := by
  unfold rw
  rw [List.set_append_right _ _ (by omega), show Rs.length + 64 + i - Rs.length = 64 + i by omega, List.set_append_right _ _ (by simp)]
  congr 2
  apply List.ext_getElem?
  intro j
  simp only [List.length_map, List.length_range, show 64 + i - 64 = i by omega, List.getElem?_set, List.getElem?_map]
  by_cases hj : i = j
  · subst hj
    simp [hi, va_up]
  · have hj' : j ≠ i := fun e => hj e.symm
    by_cases h6 : j < 64
    · simp [hj, va_up, hj', h6]
    · simp [hj, h6]
theorem rw_setW {i : Nat} (hi : i < 64) (n : Nat) : (rw Rs cA ro la cap wd F).set (Rs.length + i) (ro i, .inr (0, [.ref (la i), .int (nI n)])) = rw Rs cA ro la cap (va_up wd i n) F := by
  unfold rw
  rw [List.set_append_right _ _ (by omega), show Rs.length + i - Rs.length = i by omega, List.set_append_left _ _ (by simpa using hi)]
  congr 2
  apply List.ext_getElem?
  intro j
  simp only [List.getElem?_set, List.getElem?_map, List.length_map, List.length_range]
  by_cases hj : i = j
  · subst hj
    simp [hi, va_up]
  · have hj' : j ≠ i := fun e => hj e.symm
    by_cases h6 : j < 64
    · simp [hj, va_up, hj', h6]
    · simp [hj, h6]
variable {p : Program} {l : Launch} {e : Env} {R : Room} {s : State} {m : MethodId} {args : Array Value} {below : List Frame} {meth : Method} {c : Code} {H : Heap} {locs : List Loc} {cells slots : Nat} {Q : State → Prop}
variable {cc : ByteArray} {pc : Nat} {ls : Array Slot} {rest : List Value} {D : va_G} {A : Nat → Prop} {H0 : Heap}
theorem i_Row : ∀ w ∈ u_ws R_Row T_Row 2, w ∈ gw := List.forall_mem_cons.mpr ⟨k_82, List.forall_mem_cons.mpr ⟨k_84, fun _ h => absurd h List.not_mem_nil⟩⟩
theorem i_LR : ∀ w ∈ u_ws R_LR T_LR 1, w ∈ gw := List.forall_mem_cons.mpr ⟨k_89, fun _ h => absurd h List.not_mem_nil⟩
theorem i_Md : ∀ w ∈ u_ws R_Md T_Md 5, w ∈ gw := List.forall_mem_cons.mpr ⟨k_496, List.forall_mem_cons.mpr ⟨k_498, List.forall_mem_cons.mpr ⟨k_500, List.forall_mem_cons.mpr ⟨k_502, List.forall_mem_cons.mpr ⟨k_504, fun _ h => absurd h List.not_mem_nil⟩⟩⟩⟩⟩
/-- row i's limbs and width, read in its own class -/
theorem c_getL (hx : p.tables.exec = Jvm.exec) (hb : c.code = cc) (hts : ∀ w ∈ gw, w.before args s = true) (hown : s.vm.findClass R_Row = some m.cls) (hK : va_K D cls0 (ty3 cA cR cL) s) (hP : va_P D cls0 (rw Rs cA ro la cap wd F) H) {i : Nat} (hi : i < 64) (hdg : decode cc pc = .ok (.getfield 9, 3))
    (kk : W p l e R s m args below meth c H locs cells slots Q (F0 m (pc + 3) ls (.ref (la i) :: rest))) : W p l e R s m args below meth c H locs cells slots Q (F0 m pc ls (.ref (ro i) :: rest)) :=
  va_get (D := D) (ci := 0) (v := .ref (la i)) (C := R_Row) (T := T_Row) (N := 2) (own := R_Row) (ref := "LimbRows$Row") hx hb hts i_Row hown hK hP _ (rw_row hi) rfl 0 (by decide) (hts (.fieldLink R_Row 9 "LimbRows$Row" "limbs" "[I") k_78) (fun _ h9 => h9) rfl hdg kk
theorem c_getW (hx : p.tables.exec = Jvm.exec) (hb : c.code = cc) (hts : ∀ w ∈ gw, w.before args s = true) (hown : s.vm.findClass R_Row = some m.cls) (hK : va_K D cls0 (ty3 cA cR cL) s) (hP : va_P D cls0 (rw Rs cA ro la cap wd F) H) {i : Nat} (hi : i < 64) (hdg : decode cc pc = .ok (.getfield 15, 3))
    (kk : W p l e R s m args below meth c H locs cells slots Q (F0 m (pc + 3) ls (.int (nI (wd i)) :: rest))) : W p l e R s m args below meth c H locs cells slots Q (F0 m pc ls (.ref (ro i) :: rest)) :=
  va_get (D := D) (ci := 0) (v := .int (nI (wd i))) (C := R_Row) (T := T_Row) (N := 2) (own := R_Row) (ref := "LimbRows$Row") hx hb hts i_Row hown hK hP _ (rw_row hi) rfl 1 (by decide) (hts (.fieldLink R_Row 15 "LimbRows$Row" "width" "I") k_80) (fun _ h9 => h9) rfl hdg kk
theorem c_ald (hx : p.tables.exec = Jvm.exec) (hb : c.code = cc) (hK : va_K D cls0 (ty3 cA cR cL) s) (hP : va_P D cls0 (rw Rs cA ro la cap wd F) H) {i k : Nat} (hi : i < 64) (hk : k < cap i) (hc : cap i ≤ 256) (hdg : decode cc pc = .ok (.iaload, 1))
    (kk : W p l e R s m args below meth c H locs cells slots Q (F0 m (pc + 1) ls (.int (F i k) :: rest))) : W p l e R s m args below meth c H locs cells slots Q (F0 m pc ls (.int (nI k) :: .ref (la i) :: rest)) :=
  va_iald hx hb hK hP _ 0 (rw_lim hi) rfl (vp_in_nI hk (by omega)) hdg (by rw [nI_clamp (by omega)]; exact kk)
theorem c_ast (hx : p.tables.exec = Jvm.exec) (hb : c.code = cc) (hK : va_K D cls0 (ty3 cA cR cL) s) (hP : va_P D cls0 (rw Rs cA ro la cap wd F) H) (hD : va_D A (rw Rs cA ro la cap wd F)) (hS : va_S A H0 H locs) {i k : Nat} {x : Int32} (hi : i < 64) (hk : k < cap i) (hc : cap i ≤ 256) (hdg : decode cc pc = .ok (.iastore, 1))
    (kk : ∀ (H1 : Heap) (locs1 : List Loc), va_P D cls0 (rw Rs cA ro la cap wd (va_up F i (upd (F i) k x))) H1 → va_D A (rw Rs cA ro la cap wd (va_up F i (upd (F i) k x))) → va_S A H0 H1 locs1 → W p l e R s m args below meth c H1 locs1 cells slots Q (F0 m (pc + 1) ls rest)) : W p l e R s m args below meth c H locs cells slots Q (F0 m pc ls (.int x :: .int (nI k) :: .ref (la i) :: rest)) :=
  va_iast hx hb hK hP hD hS _ 0 (rw_lim hi) rfl (vp_in_nI hk (by omega)) hdg (fun H1 locs1 hP hD hS => by
    rw [nI_clamp (by omega), rw_setF hi] at hP hD
    exact kk H1 locs1 hP hD hS)
end RW
end
section
/-! Digits of a whole number in a base, by floor division; rows of digits that keep a number. -/
/-- digit k of x in base B -/
def lm_lb (B x : Int) (k : Nat) : Int := x / B ^ k % B
theorem lm_pw {B : Int} (hB : 0 < B) (k : Nat) : 0 < B ^ k := Int.pow_pos hB
theorem lm_uq {x m q r : Int} (hm : 0 < m) (h : r + m * q = x) (h0 : 0 ≤ r) (h1 : r < m) : x / m = q ∧ x % m = r := (Int.ediv_emod_unique hm).mpr ⟨h, h0, h1⟩
theorem lm_dm (x m : Int) : m * (x / m) + x % m = x := Int.mul_ediv_add_emod x m
theorem lm_lb0 {B : Int} (hB : 0 < B) (x : Int) (k : Nat) : 0 ≤ lm_lb B x k := Int.emod_nonneg _ (by omega)
theorem lm_lb1 {B : Int} (hB : 0 < B) (x : Int) (k : Nat) : lm_lb B x k < B := Int.emod_lt_of_pos _ hB
theorem lm_dd {B : Int} (hB : 0 < B) (x : Int) (k : Nat) : x / B ^ (k + 1) = x / B ^ k / B := by
  rw [Int.pow_succ, Int.ediv_ediv_of_nonneg (Int.le_of_lt (lm_pw hB k))]
theorem lm_dj {B : Int} (hB : 0 < B) (x : Int) (j k : Nat) : x / B ^ (j + k) = x / B ^ j / B ^ k := by
  rw [Int.pow_add, Int.ediv_ediv_of_nonneg (Int.le_of_lt (lm_pw hB j))]
/-- one digit more -/
theorem lm_md {B : Int} (hB : 0 < B) (x : Int) (k : Nat) : x % B ^ (k + 1) = x % B ^ k + B ^ k * lm_lb B x k := by
  have hp := lm_pw hB k
  have e1 := lm_dm x (B ^ k)
  have e2 := lm_dm (x / B ^ k) B
  have b0 := Int.emod_nonneg x (show B ^ k ≠ 0 by omega)
  have b1 := Int.emod_lt_of_pos x hp
  have d0 := lm_lb0 hB x k
  have d1 := lm_lb1 hB x k
  have hm : B ^ k * lm_lb B x k ≤ B ^ k * (B - 1) := Int.mul_le_mul_of_nonneg_left (by omega) (by omega)
  have hn : 0 ≤ B ^ k * lm_lb B x k := Int.mul_nonneg (by omega) d0
  refine (lm_uq (q := x / B ^ k / B) (lm_pw hB (k + 1)) ?_ (by omega) ?_).2
  · rw [Int.pow_succ]; unfold lm_lb; grind
  · rw [Int.pow_succ]; rw [Int.mul_sub, Int.mul_one] at hm; omega
/-- a digit depends on the number below the next power alone -/
theorem lm_lbm {B : Int} (hB : 0 < B) (x : Int) {k n : Nat} (h : k < n) : lm_lb B (x % B ^ n) k = lm_lb B x k := by
  obtain ⟨j, rfl⟩ : ∃ j, n = k + (1 + j) := ⟨n - k - 1, by omega⟩
  have e := lm_dm x (B ^ (k + (1 + j)))
  unfold lm_lb
  have h1 : x = x % B ^ (k + (1 + j)) + B ^ k * (B * (B ^ j * (x / B ^ (k + (1 + j))))) := by
    have : B ^ (k + (1 + j)) = B ^ k * (B * B ^ j) := by rw [Int.pow_add, Int.pow_add, Int.pow_one]
    grind
  conv => rhs; rw [h1]
  rw [Int.add_mul_ediv_left _ _ (by have := lm_pw hB k; omega), Int.add_mul_emod_self_left]
/-- all digits alike: alike below the power -/
theorem lm_ext {B : Int} (hB : 0 < B) {x y : Int} {n : Nat} (h : ∀ k, k < n → lm_lb B x k = lm_lb B y k) : x % B ^ n = y % B ^ n := by
  induction n with
  | zero => simp [Int.emod_one]
  | succ n ih => rw [lm_md hB, lm_md hB, ih (fun k hk => h k (by omega)), h n (by omega)]
theorem lm_ext' {B : Int} (hB : 0 < B) {x y : Int} {n : Nat} (h : x % B ^ n = y % B ^ n) : ∀ k, k < n → lm_lb B x k = lm_lb B y k := fun k hk => by
  rw [← lm_lbm hB x hk, ← lm_lbm hB y hk, h]
theorem lm_m3 (a b c n : Int) : (a % n + b % n + c) % n = (c + (a + b)) % n := by
  rw [show a % n + b % n + c = a % n + (b % n + c) by omega, Int.emod_add_emod, show a + (b % n + c) = b % n + (a + c) by omega, Int.emod_add_emod]
  congr 1
  omega
/-- the carry of a sum at digit k -/
theorem lm_add {B : Int} (hB : 0 < B) (x y c : Int) (k : Nat) :
    lm_lb B (x + y + c) k = (lm_lb B x k + lm_lb B y k + (x % B ^ k + y % B ^ k + c) / B ^ k) % B ∧
    (x % B ^ (k + 1) + y % B ^ (k + 1) + c) / B ^ (k + 1) = (lm_lb B x k + lm_lb B y k + (x % B ^ k + y % B ^ k + c) / B ^ k) / B := by
  have hp := lm_pw hB k
  constructor
  · unfold lm_lb
    have e1 := lm_dm x (B ^ k)
    have e2 := lm_dm y (B ^ k)
    have h1 : x + y + c = (x % B ^ k + y % B ^ k + c) + B ^ k * (x / B ^ k + y / B ^ k) := by grind
    rw [h1, Int.add_mul_ediv_left _ _ (by omega)]
    exact (lm_m3 _ _ _ B).symm
  · rw [lm_md hB, lm_md hB, Int.pow_succ, ← Int.ediv_ediv_of_nonneg (Int.le_of_lt hp)]
    congr 1
    have h1 : x % B ^ k + B ^ k * lm_lb B x k + (y % B ^ k + B ^ k * lm_lb B y k) + c = (x % B ^ k + y % B ^ k + c) + B ^ k * (lm_lb B x k + lm_lb B y k) := by grind
    rw [h1, Int.add_mul_ediv_left _ _ (by omega)]
    omega
/-- the number that a row of digits is -/
def lm_val (B : Int) (d : Nat → Int) : Nat → Int
  | 0 => 0
  | n + 1 => lm_val B d n + B ^ n * d n
theorem lm_val_congr {B : Int} {d e : Nat → Int} {n : Nat} (h : ∀ k, k < n → d k = e k) : lm_val B d n = lm_val B e n := by
  induction n with
  | zero => rfl
  | succ n ih =>
    show lm_val B d n + B ^ n * d n = lm_val B e n + B ^ n * e n
    rw [ih (fun k hk => h k (by omega)), h n (by omega)]
/-- digits of x make x, below the power -/
theorem lm_val_lb {B : Int} (hB : 0 < B) {d : Nat → Int} {x : Int} {n : Nat} (h : ∀ k, k < n → d k = lm_lb B x k) : lm_val B d n = x % B ^ n := by
  induction n with
  | zero => simp [lm_val, Int.emod_one]
  | succ n ih =>
    show lm_val B d n + B ^ n * d n = x % B ^ (n + 1)
    rw [lm_md hB, ih (fun k hk => h k (by omega)), h n (by omega)]
theorem lm_val_in {B : Int} (hB : 0 < B) {d : Nat → Int} {n : Nat} (h : ∀ k, k < n → 0 ≤ d k ∧ d k < B) : 0 ≤ lm_val B d n ∧ lm_val B d n < B ^ n := by
  induction n with
  | zero => simp [lm_val]
  | succ n ih =>
    obtain ⟨h1, h2⟩ := ih (fun k hk => h k (by omega))
    obtain ⟨h3, h4⟩ := h n (by omega)
    have hp := lm_pw hB n
    have h5 : B ^ n * d n ≤ B ^ n * (B - 1) := Int.mul_le_mul_of_nonneg_left (by omega) (by omega)
    have h6 : 0 ≤ B ^ n * d n := Int.mul_nonneg (by omega) h3
    rw [Int.mul_sub, Int.mul_one] at h5
    show 0 ≤ lm_val B d n + B ^ n * d n ∧ lm_val B d n + B ^ n * d n < B ^ (n + 1)
    rw [Int.pow_succ]
    omega
/-- ... and the number has these digits -/
theorem lm_lb_val {B : Int} (hB : 0 < B) {d : Nat → Int} {n : Nat} (h : ∀ k, k < n → 0 ≤ d k ∧ d k < B) : ∀ k, k < n → lm_lb B (lm_val B d n) k = d k := by
  induction n with
  | zero => intro k hk; omega
  | succ n ih =>
    intro k hk
    obtain ⟨h1, h2⟩ := lm_val_in hB (fun k hk => h k (by omega : k < n + 1)) (n := n)
    obtain ⟨h3, h4⟩ := h n (by omega)
    have hp := lm_pw hB n
    show lm_lb B (lm_val B d n + B ^ n * d n) k = d k
    by_cases hkn : k = n
    · subst hkn
      unfold lm_lb
      rw [Int.add_mul_ediv_left _ _ (by omega), Int.ediv_eq_zero_of_lt h1 h2, Int.zero_add, Int.emod_eq_of_lt h3 h4]
    · rw [← lm_lbm hB _ (show k < n by omega), Int.add_mul_emod_self_left, lm_lbm hB _ (show k < n by omega)]
      exact ih (fun k hk => h k (by omega)) k (by omega)
end
section
/-! What the methods of Row do, as functions. -/
abbrev j_iu (x y : Int32) : Int32 := (x.toUInt32 >>> (y.toUInt32 &&& Int32.toUInt32 31)).toInt32
abbrev j_lu (x : Int64) (y : Int32) : Int64 := (x.toUInt64 >>> (y.toInt64.toUInt64 &&& Int64.toUInt64 63)).toInt64
abbrev j_ll (x : Int64) (y : Int32) : Int64 := x <<< (y.toInt64 &&& 63)
abbrev j_lr (x : Int64) (y : Int32) : Int64 := x >>> (y.toInt64 &&& 63)
def rUn (x : Int32) : Int64 := x.toInt64 &&& 4294967295
def rNeg (w : Nat) (f : Nat → Int32) : Int32 := if f (w - 1) < 0 then nI 1 else nI 0
def rAt (w : Nat) (f : Nat → Int32) (x : Int32) : Int32 := if x < 0 then nI 0 else if x < nI w then f x.toNatClampNeg else f (w - 1) >>> (nI 31 &&& 31)
def rSgL (f : Nat → Int32) : Nat → Nat → Int32
  | 0, _ => nI 0
  | n + 1, k => if f k = 0 then rSgL f n (k + 1) else nI 1
def rSg (w : Nat) (f : Nat → Int32) : Int32 := if rNeg w f = 0 then rSgL f w 0 else -1
def rFitL (f : Nat → Int32) (a : Int32) : Nat → Nat → Int32
  | 0, _ => nI 1
  | n + 1, k => if f k = a then rFitL f a n (k + 1) else nI 0
def rFit (w : Nat) (f : Nat → Int32) (n : Nat) : Int32 := rFitL f (rAt w f (nI (n - 1)) >>> (nI 31 &&& 31)) (w - n) n
def rBit (w : Nat) (f : Nat → Int32) (x : Int32) : Int32 := j_iu (rAt w f (x >>> (nI 5 &&& 31))) (x &&& nI 31) &&& nI 1
def rPair (w : Nat) (f : Nat → Int32) (x : Int32) : Int64 := j_ll (rUn (rAt w f (x + nI 1))) (nI 32) ||| rUn (rAt w f x)
theorem rNeg_b (w : Nat) (f : Nat → Int32) : narrow .boolean (.int (rNeg w f)) = .int (rNeg w f) := by unfold rNeg; split <;> rfl
theorem rFitL_b (f : Nat → Int32) (a : Int32) : ∀ n k : Nat, narrow .boolean (.int (rFitL f a n k)) = .int (rFitL f a n k)
  | 0, _ => by unfold rFitL; rfl
  | n + 1, k => by
    unfold rFitL
    split
    · exact rFitL_b f a n (k + 1)
    · rfl
end
section
abbrev w_X0_unsigned : List Cond := .code y_X0_unsigned b_X0_unsigned 1 (some .long) :: gw
set_option maxHeartbeats 4000000 in
set_option maxRecDepth 100000 in
theorem c_X0_unsigned {l : Launch} {D : va_G} {Rs : va_W} {cA cR cL : ClassId} {ro la cap wd : Nat → Nat} {F : Nat → Nat → Int32} (hw : rwOk cap wd) (x : Int32) : xR l y_X0_unsigned w_X0_unsigned ({ frames := 0, cells := 0, slots := 0, locals := 0 }) D cls0 (ty3 cA cR cL) [.int x] (rw Rs cA ro la cap wd F) (some (.long (rUn x))) := by
  refine xR.ofW (cc := b_X0_unsigned) (maxL := 1) (ret := some .long) (by decide) rfl (Nat.le_of_ble_eq_true rfl) ?_
  intro p e s m below meth c A ls _ hin hx hb hr hml hown hts hlocks hA hK hP hD hS hl
  have hts : ∀ w ∈ gw, w.before ([.int x]).toArray s = true := fun w h => hts w (List.mem_cons_of_mem _ h)
  have hown : s.vm.findClass R_Row = some m.cls := hown
  have hl : lv_has ls 1 [(0, .int x)] := hl
  refine lv_iload_n hx hb d_X0_unsigned_0 rfl (lv_at hl 0 rfl) ?_
  refine lv_i2l (v := x.toInt64) hx hb d_X0_unsigned_1 rfl ?_
  refine lv_ldc2 (v := 4294967295) hx hb hown (hts (.constantLong "LimbRows$Row" 19 4294967295) k_279) d_X0_unsigned_2 ?_
  refine lv_land hx hb d_X0_unsigned_5 ?_
  exact xr_lret hx hb hr hlocks d_X0_unsigned_6 rfl
abbrev w_X0_isNegative : List Cond := .code y_X0_isNegative b_X0_isNegative 1 (some .boolean) :: gw
set_option maxHeartbeats 4000000 in
set_option maxRecDepth 100000 in
theorem c_X0_isNegative {l : Launch} {D : va_G} {Rs : va_W} {cA cR cL : ClassId} {ro la cap wd : Nat → Nat} {F : Nat → Nat → Int32} (hw : rwOk cap wd) {i : Nat} (hi : i < 64) : xR l y_X0_isNegative w_X0_isNegative ({ frames := 0, cells := 0, slots := 0, locals := 0 }) D cls0 (ty3 cA cR cL) [.ref (ro i)] (rw Rs cA ro la cap wd F) (some (.int (rNeg (wd i) (F i)))) := by
  refine xR.ofW (cc := b_X0_isNegative) (maxL := 1) (ret := some .boolean) (by decide) rfl (Nat.le_of_ble_eq_true rfl) ?_
  intro p e s m below meth c A ls _ hin hx hb hr hml hown hts hlocks hA hK hP hD hS hl
  have hts : ∀ w ∈ gw, w.before ([.ref (ro i)]).toArray s = true := fun w h => hts w (List.mem_cons_of_mem _ h)
  have hown : s.vm.findClass R_Row = some m.cls := hown
  have hl : lv_has ls 1 [(0, .ref (ro i))] := hl
  have hwi := hw i hi
  refine lv_aload_n hx hb d_X0_isNegative_0 rfl (lv_at hl 0 rfl) ?_
  refine c_getL hx hb hts hown hK hP (i := i) hi d_X0_isNegative_1 ?_
  refine lv_aload_n hx hb d_X0_isNegative_4 rfl (lv_at hl 0 rfl) ?_
  refine c_getW hx hb hts hown hK hP (i := i) hi d_X0_isNegative_5 ?_
  refine lv_iconst (v := nI 1) hx hb d_X0_isNegative_8 (by decide) ?_
  refine n_isub hx hb d_X0_isNegative_9 (by omega) ?_
  have hq_10 := hw i hi
  refine c_ald hx hb hK hP (i := i) (k := (wd i) - 1) hi (by omega) (by omega) d_X0_isNegative_10 ?_
  refine lv_if_ge (tgt := 18) hx hb d_X0_isNegative_11 (by decide) (fun c_1 => ?_) (fun c_1 => ?_)
  · refine lv_iconst (v := nI 0) hx hb d_X0_isNegative_18 (by decide) ?_
    exact xr_zret hx hb hr hlocks d_X0_isNegative_19 (by decide) (by unfold rNeg; first | rw [if_neg (Int32.not_lt.mpr (by assumption))] | rw [if_pos (Int32.not_le.mp (by assumption))])
  · refine lv_iconst (v := nI 1) hx hb d_X0_isNegative_14 (by decide) ?_
    refine lv_goto (tgt := 19) hx hb d_X0_isNegative_15 (by decide) ?_
    exact xr_zret hx hb hr hlocks d_X0_isNegative_19 (by decide) (by unfold rNeg; first | rw [if_neg (Int32.not_lt.mpr (by assumption))] | rw [if_pos (Int32.not_le.mp (by assumption))])
abbrev w_X0_limbAt : List Cond := .code y_X0_limbAt b_X0_limbAt 2 (some .int) :: gw
set_option maxHeartbeats 4000000 in
set_option maxRecDepth 100000 in
theorem c_X0_limbAt {l : Launch} {D : va_G} {Rs : va_W} {cA cR cL : ClassId} {ro la cap wd : Nat → Nat} {F : Nat → Nat → Int32} (hw : rwOk cap wd) {i : Nat} (hi : i < 64) (x : Int32) : xR l y_X0_limbAt w_X0_limbAt ({ frames := 0, cells := 0, slots := 0, locals := 0 }) D cls0 (ty3 cA cR cL) [.ref (ro i), .int x] (rw Rs cA ro la cap wd F) (some (.int (rAt (wd i) (F i) x))) := by
  refine xR.ofW (cc := b_X0_limbAt) (maxL := 2) (ret := some .int) (by decide) rfl (Nat.le_of_ble_eq_true rfl) ?_
  intro p e s m below meth c A ls _ hin hx hb hr hml hown hts hlocks hA hK hP hD hS hl
  have hts : ∀ w ∈ gw, w.before ([.ref (ro i), .int x]).toArray s = true := fun w h => hts w (List.mem_cons_of_mem _ h)
  have hown : s.vm.findClass R_Row = some m.cls := hown
  have hl : lv_has ls 2 [(0, .ref (ro i)), (1, .int x)] := hl
  have hwi := hw i hi
  refine lv_iload_n hx hb d_X0_limbAt_0 rfl (lv_at hl 1 rfl) ?_
  refine lv_if_ge (tgt := 6) hx hb d_X0_limbAt_1 (by decide) (fun c_1 => ?_) (fun c_1 => ?_)
  · refine lv_iload_n hx hb d_X0_limbAt_6 rfl (lv_at hl 1 rfl) ?_
    refine lv_aload_n hx hb d_X0_limbAt_7 rfl (lv_at hl 0 rfl) ?_
    refine c_getW hx hb hts hown hK hP (i := i) hi d_X0_limbAt_8 ?_
    refine lv_icmp_ge (tgt := 23) hx hb d_X0_limbAt_11 (by decide) (fun c_2 => ?_) (fun c_2 => ?_)
    · refine lv_aload_n hx hb d_X0_limbAt_23 rfl (lv_at hl 0 rfl) ?_
      refine c_getL hx hb hts hown hK hP (i := i) hi d_X0_limbAt_24 ?_
      refine lv_aload_n hx hb d_X0_limbAt_27 rfl (lv_at hl 0 rfl) ?_
      refine c_getW hx hb hts hown hK hP (i := i) hi d_X0_limbAt_28 ?_
      refine lv_iconst (v := nI 1) hx hb d_X0_limbAt_31 (by decide) ?_
      refine n_isub hx hb d_X0_limbAt_32 (by omega) ?_
      have hq_33 := hw i hi
      refine c_ald hx hb hK hP (i := i) (k := (wd i) - 1) hi (by omega) (by omega) d_X0_limbAt_33 ?_
      refine lv_bipush (v := nI 31) hx hb d_X0_limbAt_34 (by decide) ?_
      refine lv_ishr hx hb d_X0_limbAt_36 ?_
      exact xr_iret hx hb hr hlocks d_X0_limbAt_37 (by unfold rAt; rw [if_neg (Int32.not_lt.mpr (by assumption)), if_neg (Int32.not_lt.mpr (by assumption))])
    · obtain ⟨k, hk, rfl⟩ : ∃ k : Nat, k < wd i ∧ x = nI k := by
        rcases pk_ix x (n := wd i) (by omega) with h | h | h
        · exact absurd h (Int32.not_lt.mpr (by assumption))
        · exact absurd h (by assumption)
        · exact h
      refine lv_aload_n hx hb d_X0_limbAt_14 rfl (lv_at hl 0 rfl) ?_
      refine c_getL hx hb hts hown hK hP (i := i) hi d_X0_limbAt_15 ?_
      refine lv_iload_n hx hb d_X0_limbAt_18 rfl (lv_at hl 1 rfl) ?_
      have hq_19 := hw i hi
      refine c_ald hx hb hK hP (i := i) (k := k) hi (by omega) (by omega) d_X0_limbAt_19 ?_
      refine lv_goto (tgt := 37) hx hb d_X0_limbAt_20 (by decide) ?_
      exact xr_iret hx hb hr hlocks d_X0_limbAt_37 (by unfold rAt; rw [if_neg (nI_pos (by omega)), if_pos (nI_lt hk (by omega)), nI_clamp (by omega)])
  · refine lv_iconst (v := nI 0) hx hb d_X0_limbAt_4 (by decide) ?_
    exact xr_iret hx hb hr hlocks d_X0_limbAt_5 (by unfold rAt; rw [if_pos (Int32.not_le.mp (by assumption))])
end
