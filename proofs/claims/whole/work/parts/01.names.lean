-- ===== PART A: goes FIRST, ahead of the names: the tables' words, and 'selects' of the private methods out of them =====
/-- a private method of a class that the tables say can be made, by its rows of tables_1 -/
def lw_okq (q : MethodName × Nat) : Prop := (q.1.cls ≠ "java/lang/invoke/MethodHandle" ∧ q.1.cls ≠ "java/lang/invoke/VarHandle") ∧ Cond.instantiable q.1.cls q.2 ∈ tables_1 ∧ Cond.privateMethod q.1 ∈ tables_1 ∧ Cond.instanceMethod q.1 ∈ tables_1
theorem lw_p0 : lw_okq (⟨"LimbRows", "rowAt", "(I)LLimbRows$Row;"⟩, 1) := ⟨⟨by decide +kernel, by decide +kernel⟩, List.mem_of_getElem? (i := 14) (by decide +kernel), List.mem_of_getElem? (i := 52) (by decide +kernel), List.mem_of_getElem? (i := 53) (by decide +kernel)⟩
theorem lw_p1 : lw_okq (⟨"java/lang/Throwable", "fillInStackTrace", "(I)Ljava/lang/Throwable;"⟩, 6) := ⟨⟨by decide +kernel, by decide +kernel⟩, List.mem_of_getElem? (i := 93) (by decide +kernel), List.mem_of_getElem? (i := 91) (by decide +kernel), List.mem_of_getElem? (i := 92) (by decide +kernel)⟩
theorem lw_p2 : lw_okq (⟨"LimbRows$Row", "changeWidth", "(I)Z"⟩, 2) := ⟨⟨by decide +kernel, by decide +kernel⟩, List.mem_of_getElem? (i := 23) (by decide +kernel), List.mem_of_getElem? (i := 139) (by decide +kernel), List.mem_of_getElem? (i := 140) (by decide +kernel)⟩
theorem lw_p3 : lw_okq (⟨"LimbRows$Row", "fitsIn", "(I)Z"⟩, 2) := ⟨⟨by decide +kernel, by decide +kernel⟩, List.mem_of_getElem? (i := 23) (by decide +kernel), List.mem_of_getElem? (i := 143) (by decide +kernel), List.mem_of_getElem? (i := 144) (by decide +kernel)⟩
theorem lw_p4 : lw_okq (⟨"LimbRows$Row", "limbAt", "(I)I"⟩, 2) := ⟨⟨by decide +kernel, by decide +kernel⟩, List.mem_of_getElem? (i := 23) (by decide +kernel), List.mem_of_getElem? (i := 147) (by decide +kernel), List.mem_of_getElem? (i := 148) (by decide +kernel)⟩
theorem lw_p5 : lw_okq (⟨"LimbRows$Row", "keepLong", "(J)Z"⟩, 2) := ⟨⟨by decide +kernel, by decide +kernel⟩, List.mem_of_getElem? (i := 23) (by decide +kernel), List.mem_of_getElem? (i := 181) (by decide +kernel), List.mem_of_getElem? (i := 182) (by decide +kernel)⟩
theorem lw_p6 : lw_okq (⟨"LimbRows$Row", "keepRow", "(LLimbRows$Row;)Z"⟩, 2) := ⟨⟨by decide +kernel, by decide +kernel⟩, List.mem_of_getElem? (i := 23) (by decide +kernel), List.mem_of_getElem? (i := 208) (by decide +kernel), List.mem_of_getElem? (i := 209) (by decide +kernel)⟩
theorem lw_p7 : lw_okq (⟨"LimbRows$Row", "addFrom", "(ILLimbRows$Row;)V"⟩, 2) := ⟨⟨by decide +kernel, by decide +kernel⟩, List.mem_of_getElem? (i := 23) (by decide +kernel), List.mem_of_getElem? (i := 219) (by decide +kernel), List.mem_of_getElem? (i := 220) (by decide +kernel)⟩
theorem lw_p8 : lw_okq (⟨"LimbRows$Row", "addLimbs", "(ILLimbRows$Row;I)V"⟩, 2) := ⟨⟨by decide +kernel, by decide +kernel⟩, List.mem_of_getElem? (i := 23) (by decide +kernel), List.mem_of_getElem? (i := 223) (by decide +kernel), List.mem_of_getElem? (i := 224) (by decide +kernel)⟩
theorem lw_p9 : lw_okq (⟨"LimbRows$Row", "signum", "()I"⟩, 2) := ⟨⟨by decide +kernel, by decide +kernel⟩, List.mem_of_getElem? (i := 23) (by decide +kernel), List.mem_of_getElem? (i := 231) (by decide +kernel), List.mem_of_getElem? (i := 232) (by decide +kernel)⟩
theorem lw_p10 : lw_okq (⟨"LimbRows$Row", "isNegative", "()Z"⟩, 2) := ⟨⟨by decide +kernel, by decide +kernel⟩, List.mem_of_getElem? (i := 23) (by decide +kernel), List.mem_of_getElem? (i := 235) (by decide +kernel), List.mem_of_getElem? (i := 236) (by decide +kernel)⟩
theorem lw_p11 : lw_okq (⟨"LimbRows$Row", "subtractFrom", "(ILLimbRows$Row;)V"⟩, 2) := ⟨⟨by decide +kernel, by decide +kernel⟩, List.mem_of_getElem? (i := 23) (by decide +kernel), List.mem_of_getElem? (i := 246) (by decide +kernel), List.mem_of_getElem? (i := 247) (by decide +kernel)⟩
theorem lw_p12 : lw_okq (⟨"LimbRows$Row", "addProductOf", "(LLimbRows$Row;LLimbRows$Row;)V"⟩, 2) := ⟨⟨by decide +kernel, by decide +kernel⟩, List.mem_of_getElem? (i := 23) (by decide +kernel), List.mem_of_getElem? (i := 261) (by decide +kernel), List.mem_of_getElem? (i := 262) (by decide +kernel)⟩
theorem lw_p13 : lw_okq (⟨"LimbRows$Row", "bitLength", "()I"⟩, 2) := ⟨⟨by decide +kernel, by decide +kernel⟩, List.mem_of_getElem? (i := 23) (by decide +kernel), List.mem_of_getElem? (i := 265) (by decide +kernel), List.mem_of_getElem? (i := 266) (by decide +kernel)⟩
theorem lw_p14 : lw_okq (⟨"LimbRows$Row", "addMultiple", "(IJLLimbRows$Row;)V"⟩, 2) := ⟨⟨by decide +kernel, by decide +kernel⟩, List.mem_of_getElem? (i := 23) (by decide +kernel), List.mem_of_getElem? (i := 274) (by decide +kernel), List.mem_of_getElem? (i := 275) (by decide +kernel)⟩
theorem lw_p15 : lw_okq (⟨"LimbRows$Row", "subtractProductOf", "(LLimbRows$Row;LLimbRows$Row;)V"⟩, 2) := ⟨⟨by decide +kernel, by decide +kernel⟩, List.mem_of_getElem? (i := 23) (by decide +kernel), List.mem_of_getElem? (i := 286) (by decide +kernel), List.mem_of_getElem? (i := 287) (by decide +kernel)⟩
def lw_privs_1 : List (MethodName × Nat) := [(⟨"LimbRows", "rowAt", "(I)LLimbRows$Row;"⟩, 1), (⟨"java/lang/Throwable", "fillInStackTrace", "(I)Ljava/lang/Throwable;"⟩, 6), (⟨"LimbRows$Row", "changeWidth", "(I)Z"⟩, 2), (⟨"LimbRows$Row", "fitsIn", "(I)Z"⟩, 2), (⟨"LimbRows$Row", "limbAt", "(I)I"⟩, 2), (⟨"LimbRows$Row", "keepLong", "(J)Z"⟩, 2), (⟨"LimbRows$Row", "keepRow", "(LLimbRows$Row;)Z"⟩, 2), (⟨"LimbRows$Row", "addFrom", "(ILLimbRows$Row;)V"⟩, 2), (⟨"LimbRows$Row", "addLimbs", "(ILLimbRows$Row;I)V"⟩, 2), (⟨"LimbRows$Row", "signum", "()I"⟩, 2), (⟨"LimbRows$Row", "isNegative", "()Z"⟩, 2), (⟨"LimbRows$Row", "subtractFrom", "(ILLimbRows$Row;)V"⟩, 2), (⟨"LimbRows$Row", "addProductOf", "(LLimbRows$Row;LLimbRows$Row;)V"⟩, 2), (⟨"LimbRows$Row", "bitLength", "()I"⟩, 2), (⟨"LimbRows$Row", "addMultiple", "(IJLLimbRows$Row;)V"⟩, 2), (⟨"LimbRows$Row", "subtractProductOf", "(LLimbRows$Row;LLimbRows$Row;)V"⟩, 2)]
theorem lw_r1 : ∀ q ∈ lw_privs_1, lw_okq q := List.forall_mem_cons.mpr ⟨lw_p0, List.forall_mem_cons.mpr ⟨lw_p1, List.forall_mem_cons.mpr ⟨lw_p2, List.forall_mem_cons.mpr ⟨lw_p3, List.forall_mem_cons.mpr ⟨lw_p4, List.forall_mem_cons.mpr ⟨lw_p5, List.forall_mem_cons.mpr ⟨lw_p6, List.forall_mem_cons.mpr ⟨lw_p7, List.forall_mem_cons.mpr ⟨lw_p8, List.forall_mem_cons.mpr ⟨lw_p9, List.forall_mem_cons.mpr ⟨lw_p10, List.forall_mem_cons.mpr ⟨lw_p11, List.forall_mem_cons.mpr ⟨lw_p12, List.forall_mem_cons.mpr ⟨lw_p13, List.forall_mem_cons.mpr ⟨lw_p14, List.forall_mem_cons.mpr ⟨lw_p15, fun _ h => absurd h List.not_mem_nil⟩⟩⟩⟩⟩⟩⟩⟩⟩⟩⟩⟩⟩⟩⟩⟩
theorem lw_p16 : lw_okq (⟨"LimbRows$Row", "complement", "()V"⟩, 2) := ⟨⟨by decide +kernel, by decide +kernel⟩, List.mem_of_getElem? (i := 23) (by decide +kernel), List.mem_of_getElem? (i := 290) (by decide +kernel), List.mem_of_getElem? (i := 291) (by decide +kernel)⟩
theorem lw_p17 : lw_okq (⟨"LimbRows$Row", "multiplyBy", "(J)V"⟩, 2) := ⟨⟨by decide +kernel, by decide +kernel⟩, List.mem_of_getElem? (i := 23) (by decide +kernel), List.mem_of_getElem? (i := 302) (by decide +kernel), List.mem_of_getElem? (i := 303) (by decide +kernel)⟩
theorem lw_p18 : lw_okq (⟨"LimbRows$Row", "turnRound", "()Z"⟩, 2) := ⟨⟨by decide +kernel, by decide +kernel⟩, List.mem_of_getElem? (i := 23) (by decide +kernel), List.mem_of_getElem? (i := 313) (by decide +kernel), List.mem_of_getElem? (i := 314) (by decide +kernel)⟩
theorem lw_p19 : lw_okq (⟨"LimbRows$Row", "increment", "()V"⟩, 2) := ⟨⟨by decide +kernel, by decide +kernel⟩, List.mem_of_getElem? (i := 23) (by decide +kernel), List.mem_of_getElem? (i := 317) (by decide +kernel), List.mem_of_getElem? (i := 318) (by decide +kernel)⟩
theorem lw_p20 : lw_okq (⟨"LimbRows$Row", "shiftUp", "(I)V"⟩, 2) := ⟨⟨by decide +kernel, by decide +kernel⟩, List.mem_of_getElem? (i := 23) (by decide +kernel), List.mem_of_getElem? (i := 332) (by decide +kernel), List.mem_of_getElem? (i := 333) (by decide +kernel)⟩
theorem lw_p21 : lw_okq (⟨"LimbRows$Row", "pairAt", "(I)J"⟩, 2) := ⟨⟨by decide +kernel, by decide +kernel⟩, List.mem_of_getElem? (i := 23) (by decide +kernel), List.mem_of_getElem? (i := 336) (by decide +kernel), List.mem_of_getElem? (i := 337) (by decide +kernel)⟩
theorem lw_p22 : lw_okq (⟨"LimbRows$Row", "shiftDown", "(I)V"⟩, 2) := ⟨⟨by decide +kernel, by decide +kernel⟩, List.mem_of_getElem? (i := 23) (by decide +kernel), List.mem_of_getElem? (i := 347) (by decide +kernel), List.mem_of_getElem? (i := 348) (by decide +kernel)⟩
theorem lw_p23 : lw_okq (⟨"LimbRows$Row", "roundsUp", "(I)Z"⟩, 2) := ⟨⟨by decide +kernel, by decide +kernel⟩, List.mem_of_getElem? (i := 23) (by decide +kernel), List.mem_of_getElem? (i := 358) (by decide +kernel), List.mem_of_getElem? (i := 359) (by decide +kernel)⟩
theorem lw_p24 : lw_okq (⟨"LimbRows$Row", "bitAt", "(I)I"⟩, 2) := ⟨⟨by decide +kernel, by decide +kernel⟩, List.mem_of_getElem? (i := 23) (by decide +kernel), List.mem_of_getElem? (i := 362) (by decide +kernel), List.mem_of_getElem? (i := 363) (by decide +kernel)⟩
theorem lw_p25 : lw_okq (⟨"LimbRows$Row", "trailingZeros", "()I"⟩, 2) := ⟨⟨by decide +kernel, by decide +kernel⟩, List.mem_of_getElem? (i := 23) (by decide +kernel), List.mem_of_getElem? (i := 366) (by decide +kernel), List.mem_of_getElem? (i := 367) (by decide +kernel)⟩
theorem lw_p26 : lw_okq (⟨"LimbRows$Row", "divideBy", "(J)J"⟩, 2) := ⟨⟨by decide +kernel, by decide +kernel⟩, List.mem_of_getElem? (i := 23) (by decide +kernel), List.mem_of_getElem? (i := 383) (by decide +kernel), List.mem_of_getElem? (i := 384) (by decide +kernel)⟩
theorem lw_p27 : lw_okq (⟨"LimbRows$Row", "divideLimbs", "(J)J"⟩, 2) := ⟨⟨by decide +kernel, by decide +kernel⟩, List.mem_of_getElem? (i := 23) (by decide +kernel), List.mem_of_getElem? (i := 387) (by decide +kernel), List.mem_of_getElem? (i := 388) (by decide +kernel)⟩
theorem lw_p28 : lw_okq (⟨"LimbRows$Row", "divideLimb", "(IJJ)J"⟩, 2) := ⟨⟨by decide +kernel, by decide +kernel⟩, List.mem_of_getElem? (i := 23) (by decide +kernel), List.mem_of_getElem? (i := 391) (by decide +kernel), List.mem_of_getElem? (i := 392) (by decide +kernel)⟩
theorem lw_p29 : lw_okq (⟨"LimbRows$Row", "order", "(LLimbRows$Row;)I"⟩, 2) := ⟨⟨by decide +kernel, by decide +kernel⟩, List.mem_of_getElem? (i := 23) (by decide +kernel), List.mem_of_getElem? (i := 425) (by decide +kernel), List.mem_of_getElem? (i := 426) (by decide +kernel)⟩
theorem lw_p30 : lw_okq (⟨"LimbRowsModel", "refuses", "(I)Z"⟩, 5) := ⟨⟨by decide +kernel, by decide +kernel⟩, List.mem_of_getElem? (i := 432) (by decide +kernel), List.mem_of_getElem? (i := 466) (by decide +kernel), List.mem_of_getElem? (i := 467) (by decide +kernel)⟩
theorem lw_p31 : lw_okq (⟨"LimbRowsModel", "load", "(II)V"⟩, 5) := ⟨⟨by decide +kernel, by decide +kernel⟩, List.mem_of_getElem? (i := 432) (by decide +kernel), List.mem_of_getElem? (i := 470) (by decide +kernel), List.mem_of_getElem? (i := 471) (by decide +kernel)⟩
def lw_privs_2 : List (MethodName × Nat) := [(⟨"LimbRows$Row", "complement", "()V"⟩, 2), (⟨"LimbRows$Row", "multiplyBy", "(J)V"⟩, 2), (⟨"LimbRows$Row", "turnRound", "()Z"⟩, 2), (⟨"LimbRows$Row", "increment", "()V"⟩, 2), (⟨"LimbRows$Row", "shiftUp", "(I)V"⟩, 2), (⟨"LimbRows$Row", "pairAt", "(I)J"⟩, 2), (⟨"LimbRows$Row", "shiftDown", "(I)V"⟩, 2), (⟨"LimbRows$Row", "roundsUp", "(I)Z"⟩, 2), (⟨"LimbRows$Row", "bitAt", "(I)I"⟩, 2), (⟨"LimbRows$Row", "trailingZeros", "()I"⟩, 2), (⟨"LimbRows$Row", "divideBy", "(J)J"⟩, 2), (⟨"LimbRows$Row", "divideLimbs", "(J)J"⟩, 2), (⟨"LimbRows$Row", "divideLimb", "(IJJ)J"⟩, 2), (⟨"LimbRows$Row", "order", "(LLimbRows$Row;)I"⟩, 2), (⟨"LimbRowsModel", "refuses", "(I)Z"⟩, 5), (⟨"LimbRowsModel", "load", "(II)V"⟩, 5)]
theorem lw_r2 : ∀ q ∈ lw_privs_2, lw_okq q := List.forall_mem_cons.mpr ⟨lw_p16, List.forall_mem_cons.mpr ⟨lw_p17, List.forall_mem_cons.mpr ⟨lw_p18, List.forall_mem_cons.mpr ⟨lw_p19, List.forall_mem_cons.mpr ⟨lw_p20, List.forall_mem_cons.mpr ⟨lw_p21, List.forall_mem_cons.mpr ⟨lw_p22, List.forall_mem_cons.mpr ⟨lw_p23, List.forall_mem_cons.mpr ⟨lw_p24, List.forall_mem_cons.mpr ⟨lw_p25, List.forall_mem_cons.mpr ⟨lw_p26, List.forall_mem_cons.mpr ⟨lw_p27, List.forall_mem_cons.mpr ⟨lw_p28, List.forall_mem_cons.mpr ⟨lw_p29, List.forall_mem_cons.mpr ⟨lw_p30, List.forall_mem_cons.mpr ⟨lw_p31, fun _ h => absurd h List.not_mem_nil⟩⟩⟩⟩⟩⟩⟩⟩⟩⟩⟩⟩⟩⟩⟩⟩
theorem lw_p32 : lw_okq (⟨"LimbRowsModel", "clear", "(I)V"⟩, 5) := ⟨⟨by decide +kernel, by decide +kernel⟩, List.mem_of_getElem? (i := 432) (by decide +kernel), List.mem_of_getElem? (i := 474) (by decide +kernel), List.mem_of_getElem? (i := 475) (by decide +kernel)⟩
theorem lw_p33 : lw_okq (⟨"LimbRowsModel", "isZero", "(I)Z"⟩, 5) := ⟨⟨by decide +kernel, by decide +kernel⟩, List.mem_of_getElem? (i := 432) (by decide +kernel), List.mem_of_getElem? (i := 480) (by decide +kernel), List.mem_of_getElem? (i := 481) (by decide +kernel)⟩
theorem lw_p34 : lw_okq (⟨"LimbRowsModel", "store", "(II)Z"⟩, 5) := ⟨⟨by decide +kernel, by decide +kernel⟩, List.mem_of_getElem? (i := 432) (by decide +kernel), List.mem_of_getElem? (i := 484) (by decide +kernel), List.mem_of_getElem? (i := 485) (by decide +kernel)⟩
theorem lw_p35 : lw_okq (⟨"LimbRowsModel", "lengthOf", "(I)I"⟩, 5) := ⟨⟨by decide +kernel, by decide +kernel⟩, List.mem_of_getElem? (i := 432) (by decide +kernel), List.mem_of_getElem? (i := 488) (by decide +kernel), List.mem_of_getElem? (i := 489) (by decide +kernel)⟩
theorem lw_p36 : lw_okq (⟨"LimbRowsModel", "bits", "(I)I"⟩, 5) := ⟨⟨by decide +kernel, by decide +kernel⟩, List.mem_of_getElem? (i := 432) (by decide +kernel), List.mem_of_getElem? (i := 492) (by decide +kernel), List.mem_of_getElem? (i := 493) (by decide +kernel)⟩
theorem lw_p37 : lw_okq (⟨"LimbRowsModel", "zerosOf", "(I)I"⟩, 5) := ⟨⟨by decide +kernel, by decide +kernel⟩, List.mem_of_getElem? (i := 432) (by decide +kernel), List.mem_of_getElem? (i := 496) (by decide +kernel), List.mem_of_getElem? (i := 497) (by decide +kernel)⟩
theorem lw_p38 : lw_okq (⟨"LimbRowsModel", "bit", "(II)I"⟩, 5) := ⟨⟨by decide +kernel, by decide +kernel⟩, List.mem_of_getElem? (i := 432) (by decide +kernel), List.mem_of_getElem? (i := 500) (by decide +kernel), List.mem_of_getElem? (i := 501) (by decide +kernel)⟩
theorem lw_p39 : lw_okq (⟨"LimbRowsModel", "loadLong", "(IJ)V"⟩, 5) := ⟨⟨by decide +kernel, by decide +kernel⟩, List.mem_of_getElem? (i := 432) (by decide +kernel), List.mem_of_getElem? (i := 512) (by decide +kernel), List.mem_of_getElem? (i := 513) (by decide +kernel)⟩
theorem lw_p40 : lw_okq (⟨"LimbRowsModel", "limbOf", "(II)I"⟩, 5) := ⟨⟨by decide +kernel, by decide +kernel⟩, List.mem_of_getElem? (i := 432) (by decide +kernel), List.mem_of_getElem? (i := 521) (by decide +kernel), List.mem_of_getElem? (i := 522) (by decide +kernel)⟩
theorem lw_p41 : lw_okq (⟨"LimbRowsModel", "signOf", "(I)I"⟩, 5) := ⟨⟨by decide +kernel, by decide +kernel⟩, List.mem_of_getElem? (i := 432) (by decide +kernel), List.mem_of_getElem? (i := 529) (by decide +kernel), List.mem_of_getElem? (i := 530) (by decide +kernel)⟩
theorem lw_p42 : lw_okq (⟨"LimbRowsModel", "together", "(IIZ)I"⟩, 5) := ⟨⟨by decide +kernel, by decide +kernel⟩, List.mem_of_getElem? (i := 432) (by decide +kernel), List.mem_of_getElem? (i := 541) (by decide +kernel), List.mem_of_getElem? (i := 542) (by decide +kernel)⟩
theorem lw_p43 : lw_okq (⟨"LimbRowsModel", "combine", "(IIZ)V"⟩, 5) := ⟨⟨by decide +kernel, by decide +kernel⟩, List.mem_of_getElem? (i := 432) (by decide +kernel), List.mem_of_getElem? (i := 545) (by decide +kernel), List.mem_of_getElem? (i := 546) (by decide +kernel)⟩
theorem lw_p44 : lw_okq (⟨"LimbRowsModel", "compareSizes", "(II)I"⟩, 5) := ⟨⟨by decide +kernel, by decide +kernel⟩, List.mem_of_getElem? (i := 432) (by decide +kernel), List.mem_of_getElem? (i := 549) (by decide +kernel), List.mem_of_getElem? (i := 550) (by decide +kernel)⟩
theorem lw_p45 : lw_okq (⟨"LimbRowsModel", "kept", "(II)I"⟩, 5) := ⟨⟨by decide +kernel, by decide +kernel⟩, List.mem_of_getElem? (i := 432) (by decide +kernel), List.mem_of_getElem? (i := 553) (by decide +kernel), List.mem_of_getElem? (i := 554) (by decide +kernel)⟩
theorem lw_p46 : lw_okq (⟨"LimbRowsModel", "product", "(IIIZ)I"⟩, 5) := ⟨⟨by decide +kernel, by decide +kernel⟩, List.mem_of_getElem? (i := 432) (by decide +kernel), List.mem_of_getElem? (i := 565) (by decide +kernel), List.mem_of_getElem? (i := 566) (by decide +kernel)⟩
theorem lw_p47 : lw_okq (⟨"LimbRowsModel", "multiply", "()V"⟩, 5) := ⟨⟨by decide +kernel, by decide +kernel⟩, List.mem_of_getElem? (i := 432) (by decide +kernel), List.mem_of_getElem? (i := 569) (by decide +kernel), List.mem_of_getElem? (i := 570) (by decide +kernel)⟩
def lw_privs_3 : List (MethodName × Nat) := [(⟨"LimbRowsModel", "clear", "(I)V"⟩, 5), (⟨"LimbRowsModel", "isZero", "(I)Z"⟩, 5), (⟨"LimbRowsModel", "store", "(II)Z"⟩, 5), (⟨"LimbRowsModel", "lengthOf", "(I)I"⟩, 5), (⟨"LimbRowsModel", "bits", "(I)I"⟩, 5), (⟨"LimbRowsModel", "zerosOf", "(I)I"⟩, 5), (⟨"LimbRowsModel", "bit", "(II)I"⟩, 5), (⟨"LimbRowsModel", "loadLong", "(IJ)V"⟩, 5), (⟨"LimbRowsModel", "limbOf", "(II)I"⟩, 5), (⟨"LimbRowsModel", "signOf", "(I)I"⟩, 5), (⟨"LimbRowsModel", "together", "(IIZ)I"⟩, 5), (⟨"LimbRowsModel", "combine", "(IIZ)V"⟩, 5), (⟨"LimbRowsModel", "compareSizes", "(II)I"⟩, 5), (⟨"LimbRowsModel", "kept", "(II)I"⟩, 5), (⟨"LimbRowsModel", "product", "(IIIZ)I"⟩, 5), (⟨"LimbRowsModel", "multiply", "()V"⟩, 5)]
theorem lw_r3 : ∀ q ∈ lw_privs_3, lw_okq q := List.forall_mem_cons.mpr ⟨lw_p32, List.forall_mem_cons.mpr ⟨lw_p33, List.forall_mem_cons.mpr ⟨lw_p34, List.forall_mem_cons.mpr ⟨lw_p35, List.forall_mem_cons.mpr ⟨lw_p36, List.forall_mem_cons.mpr ⟨lw_p37, List.forall_mem_cons.mpr ⟨lw_p38, List.forall_mem_cons.mpr ⟨lw_p39, List.forall_mem_cons.mpr ⟨lw_p40, List.forall_mem_cons.mpr ⟨lw_p41, List.forall_mem_cons.mpr ⟨lw_p42, List.forall_mem_cons.mpr ⟨lw_p43, List.forall_mem_cons.mpr ⟨lw_p44, List.forall_mem_cons.mpr ⟨lw_p45, List.forall_mem_cons.mpr ⟨lw_p46, List.forall_mem_cons.mpr ⟨lw_p47, fun _ h => absurd h List.not_mem_nil⟩⟩⟩⟩⟩⟩⟩⟩⟩⟩⟩⟩⟩⟩⟩⟩
theorem lw_p48 : lw_okq (⟨"LimbRowsModel", "halve", "(IZ)V"⟩, 5) := ⟨⟨by decide +kernel, by decide +kernel⟩, List.mem_of_getElem? (i := 432) (by decide +kernel), List.mem_of_getElem? (i := 594) (by decide +kernel), List.mem_of_getElem? (i := 595) (by decide +kernel)⟩
def lw_privs_4 : List (MethodName × Nat) := [(⟨"LimbRowsModel", "halve", "(IZ)V"⟩, 5)]
theorem lw_r4 : ∀ q ∈ lw_privs_4, lw_okq q := List.forall_mem_cons.mpr ⟨lw_p48, fun _ h => absurd h List.not_mem_nil⟩
def lw_privs : List (MethodName × Nat) := lw_privs_1 ++ (lw_privs_2 ++ (lw_privs_3 ++ (lw_privs_4)))
def lw_tbl : List Cond := k2_sels lw_privs ++ tables_1
theorem lw_privs_ok : ∀ q ∈ lw_privs, lw_okq q := by
  show ∀ q ∈ lw_privs_1 ++ (lw_privs_2 ++ (lw_privs_3 ++ (lw_privs_4))), lw_okq q
  exact List.forall_mem_append.mpr ⟨lw_r1, List.forall_mem_append.mpr ⟨lw_r2, List.forall_mem_append.mpr ⟨lw_r3, lw_r4⟩⟩⟩

/-! names of methods -/
abbrev b_X1_init : ByteArray := prog_1_method_1_code
def y_X1_init : MethodName := ⟨"LimbRows", "<init>", "()V"⟩
abbrev b_X0_init : ByteArray := prog_2_method_1_code
def y_X0_init : MethodName := ⟨"LimbRows$Row", "<init>", "()V"⟩
abbrev b_L_widen : ByteArray := method_3_code
def y_L_widen : MethodName := ⟨"LimbRowsLaw", "widen", "(LLimbRows;II[J)I"⟩
abbrev b_X1_widen : ByteArray := prog_1_method_2_code
def y_X1_widen : MethodName := ⟨"LimbRows", "widen", "(II)Z"⟩
abbrev b_X1_rowAt : ByteArray := prog_1_method_22_code
def y_X1_rowAt : MethodName := ⟨"LimbRows", "rowAt", "(I)LLimbRows$Row;"⟩
abbrev b_X0_changeWidth : ByteArray := prog_2_method_7_code
def y_X0_changeWidth : MethodName := ⟨"LimbRows$Row", "changeWidth", "(I)Z"⟩
abbrev b_X0_fitsIn : ByteArray := prog_2_method_6_code
def y_X0_fitsIn : MethodName := ⟨"LimbRows$Row", "fitsIn", "(I)Z"⟩
abbrev b_X0_limbAt : ByteArray := prog_2_method_4_code
def y_X0_limbAt : MethodName := ⟨"LimbRows$Row", "limbAt", "(I)I"⟩
abbrev b_JA_copyOf : ByteArray := prog_15_method_123_code
def y_JA_copyOf : MethodName := ⟨"java/util/Arrays", "copyOf", "([II)[I"⟩
abbrev b_JM_min : ByteArray := prog_10_method_69_code
def y_JM_min : MethodName := ⟨"java/lang/Math", "min", "(II)I"⟩
abbrev b_L_width : ByteArray := method_4_code
def y_L_width : MethodName := ⟨"LimbRowsLaw", "width", "(LLimbRows;I[J)I"⟩
abbrev b_X1_width : ByteArray := prog_1_method_3_code
def y_X1_width : MethodName := ⟨"LimbRows", "width", "(I)I"⟩
abbrev b_L_set : ByteArray := method_5_code
def y_L_set : MethodName := ⟨"LimbRowsLaw", "set", "(LLimbRows;IJ[J)I"⟩
abbrev b_X1_set : ByteArray := prog_1_method_4_code
def y_X1_set : MethodName := ⟨"LimbRows", "set", "(IJ)Z"⟩
abbrev b_X0_keepLong : ByteArray := prog_2_method_8_code
def y_X0_keepLong : MethodName := ⟨"LimbRows$Row", "keepLong", "(J)Z"⟩
abbrev b_L_put : ByteArray := method_6_code
def y_L_put : MethodName := ⟨"LimbRowsLaw", "put", "(LLimbRows;III[J)I"⟩
abbrev b_X1_put : ByteArray := prog_1_method_5_code
def y_X1_put : MethodName := ⟨"LimbRows", "put", "(III)I"⟩
abbrev b_L_limb : ByteArray := method_7_code
def y_L_limb : MethodName := ⟨"LimbRowsLaw", "limb", "(LLimbRows;II[J)I"⟩
abbrev b_X1_limb : ByteArray := prog_1_method_6_code
def y_X1_limb : MethodName := ⟨"LimbRows", "limb", "(II)I"⟩
abbrev b_L_copy : ByteArray := method_8_code
def y_L_copy : MethodName := ⟨"LimbRowsLaw", "copy", "(LLimbRows;II[J)I"⟩
abbrev b_X1_copy : ByteArray := prog_1_method_7_code
def y_X1_copy : MethodName := ⟨"LimbRows", "copy", "(II)Z"⟩
abbrev b_X0_keepRow : ByteArray := prog_2_method_9_code
def y_X0_keepRow : MethodName := ⟨"LimbRows$Row", "keepRow", "(LLimbRows$Row;)Z"⟩
abbrev b_L_add : ByteArray := method_9_code
def y_L_add : MethodName := ⟨"LimbRowsLaw", "add", "(LLimbRows;II[J)I"⟩
abbrev b_X1_add : ByteArray := prog_1_method_8_code
def y_X1_add : MethodName := ⟨"LimbRows", "add", "(II)I"⟩
abbrev b_X0_addFrom : ByteArray := prog_2_method_10_code
def y_X0_addFrom : MethodName := ⟨"LimbRows$Row", "addFrom", "(ILLimbRows$Row;)V"⟩
abbrev b_X0_addLimbs : ByteArray := prog_2_method_12_code
def y_X0_addLimbs : MethodName := ⟨"LimbRows$Row", "addLimbs", "(ILLimbRows$Row;I)V"⟩
abbrev b_X0_unsigned : ByteArray := prog_2_method_2_code
def y_X0_unsigned : MethodName := ⟨"LimbRows$Row", "unsigned", "(I)J"⟩
abbrev b_X0_signum : ByteArray := prog_2_method_29_code
def y_X0_signum : MethodName := ⟨"LimbRows$Row", "signum", "()I"⟩
abbrev b_X0_isNegative : ByteArray := prog_2_method_3_code
def y_X0_isNegative : MethodName := ⟨"LimbRows$Row", "isNegative", "()Z"⟩
abbrev b_L_subtract : ByteArray := method_10_code
def y_L_subtract : MethodName := ⟨"LimbRowsLaw", "subtract", "(LLimbRows;II[J)I"⟩
abbrev b_X1_subtract : ByteArray := prog_1_method_9_code
def y_X1_subtract : MethodName := ⟨"LimbRows", "subtract", "(II)I"⟩
abbrev b_X0_subtractFrom : ByteArray := prog_2_method_11_code
def y_X0_subtractFrom : MethodName := ⟨"LimbRows$Row", "subtractFrom", "(ILLimbRows$Row;)V"⟩
abbrev b_L_addProduct : ByteArray := method_11_code
def y_L_addProduct : MethodName := ⟨"LimbRowsLaw", "addProduct", "(LLimbRows;III[J)I"⟩
abbrev b_X1_addProduct : ByteArray := prog_1_method_10_code
def y_X1_addProduct : MethodName := ⟨"LimbRows", "addProduct", "(III)I"⟩
abbrev b_X1_refuseOwnFactor : ByteArray := prog_1_method_23_code
def y_X1_refuseOwnFactor : MethodName := ⟨"LimbRows", "refuseOwnFactor", "(III)V"⟩
abbrev b_X0_addProductOf : ByteArray := prog_2_method_13_code
def y_X0_addProductOf : MethodName := ⟨"LimbRows$Row", "addProductOf", "(LLimbRows$Row;LLimbRows$Row;)V"⟩
abbrev b_X0_bitLength : ByteArray := prog_2_method_28_code
def y_X0_bitLength : MethodName := ⟨"LimbRows$Row", "bitLength", "()I"⟩
abbrev b_JI_numberOfLeadingZeros : ByteArray := prog_9_method_47_code
def y_JI_numberOfLeadingZeros : MethodName := ⟨"java/lang/Integer", "numberOfLeadingZeros", "(I)I"⟩
abbrev b_X0_addMultiple : ByteArray := prog_2_method_14_code
def y_X0_addMultiple : MethodName := ⟨"LimbRows$Row", "addMultiple", "(IJLLimbRows$Row;)V"⟩
abbrev b_L_subtractProduct : ByteArray := method_12_code
def y_L_subtractProduct : MethodName := ⟨"LimbRowsLaw", "subtractProduct", "(LLimbRows;III[J)I"⟩
abbrev b_X1_subtractProduct : ByteArray := prog_1_method_11_code
def y_X1_subtractProduct : MethodName := ⟨"LimbRows", "subtractProduct", "(III)I"⟩
abbrev b_X0_subtractProductOf : ByteArray := prog_2_method_15_code
def y_X0_subtractProductOf : MethodName := ⟨"LimbRows$Row", "subtractProductOf", "(LLimbRows$Row;LLimbRows$Row;)V"⟩
abbrev b_X0_complement : ByteArray := prog_2_method_16_code
def y_X0_complement : MethodName := ⟨"LimbRows$Row", "complement", "()V"⟩
abbrev b_L_times : ByteArray := method_13_code
def y_L_times : MethodName := ⟨"LimbRowsLaw", "times", "(LLimbRows;IJ[J)I"⟩
abbrev b_X1_times : ByteArray := prog_1_method_12_code
def y_X1_times : MethodName := ⟨"LimbRows", "times", "(IJ)I"⟩
abbrev b_X0_multiplyBy : ByteArray := prog_2_method_18_code
def y_X0_multiplyBy : MethodName := ⟨"LimbRows$Row", "multiplyBy", "(J)V"⟩
abbrev b_L_negate : ByteArray := method_14_code
def y_L_negate : MethodName := ⟨"LimbRowsLaw", "negate", "(LLimbRows;I[J)I"⟩
abbrev b_X1_negate : ByteArray := prog_1_method_13_code
def y_X1_negate : MethodName := ⟨"LimbRows", "negate", "(I)Z"⟩
abbrev b_X0_turnRound : ByteArray := prog_2_method_19_code
def y_X0_turnRound : MethodName := ⟨"LimbRows$Row", "turnRound", "()Z"⟩
abbrev b_X0_increment : ByteArray := prog_2_method_17_code
def y_X0_increment : MethodName := ⟨"LimbRows$Row", "increment", "()V"⟩
abbrev b_L_left : ByteArray := method_15_code
def y_L_left : MethodName := ⟨"LimbRowsLaw", "left", "(LLimbRows;II[J)I"⟩
abbrev b_X1_left : ByteArray := prog_1_method_14_code
def y_X1_left : MethodName := ⟨"LimbRows", "left", "(II)I"⟩
abbrev b_X1_refuseShift : ByteArray := prog_1_method_24_code
def y_X1_refuseShift : MethodName := ⟨"LimbRows", "refuseShift", "(I)V"⟩
abbrev b_X0_shiftUp : ByteArray := prog_2_method_21_code
def y_X0_shiftUp : MethodName := ⟨"LimbRows$Row", "shiftUp", "(I)V"⟩
abbrev b_X0_pairAt : ByteArray := prog_2_method_20_code
def y_X0_pairAt : MethodName := ⟨"LimbRows$Row", "pairAt", "(I)J"⟩
abbrev b_L_right : ByteArray := method_16_code
def y_L_right : MethodName := ⟨"LimbRowsLaw", "right", "(LLimbRows;II[J)I"⟩
abbrev b_X1_right : ByteArray := prog_1_method_15_code
def y_X1_right : MethodName := ⟨"LimbRows", "right", "(II)I"⟩
abbrev b_X0_shiftDown : ByteArray := prog_2_method_22_code
def y_X0_shiftDown : MethodName := ⟨"LimbRows$Row", "shiftDown", "(I)V"⟩
abbrev b_L_nearest : ByteArray := method_17_code
def y_L_nearest : MethodName := ⟨"LimbRowsLaw", "nearest", "(LLimbRows;II[J)I"⟩
abbrev b_X1_nearest : ByteArray := prog_1_method_16_code
def y_X1_nearest : MethodName := ⟨"LimbRows", "nearest", "(II)I"⟩
abbrev b_X0_roundsUp : ByteArray := prog_2_method_23_code
def y_X0_roundsUp : MethodName := ⟨"LimbRows$Row", "roundsUp", "(I)Z"⟩
abbrev b_X0_bitAt : ByteArray := prog_2_method_5_code
def y_X0_bitAt : MethodName := ⟨"LimbRows$Row", "bitAt", "(I)I"⟩
abbrev b_X0_trailingZeros : ByteArray := prog_2_method_27_code
def y_X0_trailingZeros : MethodName := ⟨"LimbRows$Row", "trailingZeros", "()I"⟩
abbrev b_JI_numberOfTrailingZeros : ByteArray := prog_9_method_48_code
def y_JI_numberOfTrailingZeros : MethodName := ⟨"java/lang/Integer", "numberOfTrailingZeros", "(I)I"⟩
abbrev b_L_divide : ByteArray := method_18_code
def y_L_divide : MethodName := ⟨"LimbRowsLaw", "divide", "(LLimbRows;IJ[J)I"⟩
abbrev b_X1_divide : ByteArray := prog_1_method_17_code
def y_X1_divide : MethodName := ⟨"LimbRows", "divide", "(IJ)J"⟩
abbrev b_X0_divideBy : ByteArray := prog_2_method_24_code
def y_X0_divideBy : MethodName := ⟨"LimbRows$Row", "divideBy", "(J)J"⟩
abbrev b_X0_divideLimbs : ByteArray := prog_2_method_25_code
def y_X0_divideLimbs : MethodName := ⟨"LimbRows$Row", "divideLimbs", "(J)J"⟩
abbrev b_X0_divideLimb : ByteArray := prog_2_method_26_code
def y_X0_divideLimb : MethodName := ⟨"LimbRows$Row", "divideLimb", "(IJJ)J"⟩
abbrev b_L_zeros : ByteArray := method_19_code
def y_L_zeros : MethodName := ⟨"LimbRowsLaw", "zeros", "(LLimbRows;I[J)I"⟩
abbrev b_X1_zeros : ByteArray := prog_1_method_18_code
def y_X1_zeros : MethodName := ⟨"LimbRows", "zeros", "(I)I"⟩
abbrev b_L_length : ByteArray := method_20_code
def y_L_length : MethodName := ⟨"LimbRowsLaw", "length", "(LLimbRows;I[J)I"⟩
abbrev b_X1_length : ByteArray := prog_1_method_19_code
def y_X1_length : MethodName := ⟨"LimbRows", "length", "(I)I"⟩
abbrev b_L_sign : ByteArray := method_21_code
def y_L_sign : MethodName := ⟨"LimbRowsLaw", "sign", "(LLimbRows;I[J)I"⟩
abbrev b_X1_sign : ByteArray := prog_1_method_20_code
def y_X1_sign : MethodName := ⟨"LimbRows", "sign", "(I)I"⟩
abbrev b_L_compare : ByteArray := method_22_code
def y_L_compare : MethodName := ⟨"LimbRowsLaw", "compare", "(LLimbRows;II[J)I"⟩
abbrev b_X1_compare : ByteArray := prog_1_method_21_code
def y_X1_compare : MethodName := ⟨"LimbRows", "compare", "(II)I"⟩
abbrev b_X0_order : ByteArray := prog_2_method_30_code
def y_X0_order : MethodName := ⟨"LimbRows$Row", "order", "(LLimbRows$Row;)I"⟩
abbrev b_JM_max : ByteArray := prog_10_method_65_code
def y_JM_max : MethodName := ⟨"java/lang/Math", "max", "(II)I"⟩
abbrev b_X2_init : ByteArray := prog_4_method_1_code
def y_X2_init : MethodName := ⟨"LimbRowsModel", "<init>", "()V"⟩
abbrev b_X2_thrown : ByteArray := prog_4_method_2_code
def y_X2_thrown : MethodName := ⟨"LimbRowsModel", "thrown", "()I"⟩
abbrev b_X2_widen : ByteArray := prog_4_method_18_code
def y_X2_widen : MethodName := ⟨"LimbRowsModel", "widen", "(II)Z"⟩
abbrev b_X2_isRow : ByteArray := prog_4_method_4_code
def y_X2_isRow : MethodName := ⟨"LimbRowsModel", "isRow", "(I)Z"⟩
abbrev b_X2_refuses : ByteArray := prog_4_method_3_code
def y_X2_refuses : MethodName := ⟨"LimbRowsModel", "refuses", "(I)Z"⟩
abbrev b_X2_load : ByteArray := prog_4_method_7_code
def y_X2_load : MethodName := ⟨"LimbRowsModel", "load", "(II)V"⟩
abbrev b_X2_clear : ByteArray := prog_4_method_5_code
def y_X2_clear : MethodName := ⟨"LimbRowsModel", "clear", "(I)V"⟩
abbrev b_X2_isZero : ByteArray := prog_4_method_6_code
def y_X2_isZero : MethodName := ⟨"LimbRowsModel", "isZero", "(I)Z"⟩
abbrev b_X2_store : ByteArray := prog_4_method_13_code
def y_X2_store : MethodName := ⟨"LimbRowsModel", "store", "(II)Z"⟩
abbrev b_X2_lengthOf : ByteArray := prog_4_method_12_code
def y_X2_lengthOf : MethodName := ⟨"LimbRowsModel", "lengthOf", "(I)I"⟩
abbrev b_X2_bits : ByteArray := prog_4_method_9_code
def y_X2_bits : MethodName := ⟨"LimbRowsModel", "bits", "(I)I"⟩
abbrev b_X2_zerosOf : ByteArray := prog_4_method_11_code
def y_X2_zerosOf : MethodName := ⟨"LimbRowsModel", "zerosOf", "(I)I"⟩
abbrev b_X2_bit : ByteArray := prog_4_method_10_code
def y_X2_bit : MethodName := ⟨"LimbRowsModel", "bit", "(II)I"⟩
abbrev b_X2_width : ByteArray := prog_4_method_19_code
def y_X2_width : MethodName := ⟨"LimbRowsModel", "width", "(I)I"⟩
abbrev b_X2_set : ByteArray := prog_4_method_20_code
def y_X2_set : MethodName := ⟨"LimbRowsModel", "set", "(IJ)Z"⟩
abbrev b_X2_loadLong : ByteArray := prog_4_method_8_code
def y_X2_loadLong : MethodName := ⟨"LimbRowsModel", "loadLong", "(IJ)V"⟩
abbrev b_X2_put : ByteArray := prog_4_method_22_code
def y_X2_put : MethodName := ⟨"LimbRowsModel", "put", "(III)I"⟩
abbrev b_X2_limbOf : ByteArray := prog_4_method_21_code
def y_X2_limbOf : MethodName := ⟨"LimbRowsModel", "limbOf", "(II)I"⟩
abbrev b_X2_limb : ByteArray := prog_4_method_23_code
def y_X2_limb : MethodName := ⟨"LimbRowsModel", "limb", "(II)I"⟩
abbrev b_X2_signOf : ByteArray := prog_4_method_14_code
def y_X2_signOf : MethodName := ⟨"LimbRowsModel", "signOf", "(I)I"⟩
abbrev b_X2_copy : ByteArray := prog_4_method_24_code
def y_X2_copy : MethodName := ⟨"LimbRowsModel", "copy", "(II)Z"⟩
abbrev b_X2_add : ByteArray := prog_4_method_27_code
def y_X2_add : MethodName := ⟨"LimbRowsModel", "add", "(II)I"⟩
abbrev b_X2_together : ByteArray := prog_4_method_26_code
def y_X2_together : MethodName := ⟨"LimbRowsModel", "together", "(IIZ)I"⟩
abbrev b_X2_combine : ByteArray := prog_4_method_16_code
def y_X2_combine : MethodName := ⟨"LimbRowsModel", "combine", "(IIZ)V"⟩
abbrev b_X2_compareSizes : ByteArray := prog_4_method_15_code
def y_X2_compareSizes : MethodName := ⟨"LimbRowsModel", "compareSizes", "(II)I"⟩
abbrev b_X2_kept : ByteArray := prog_4_method_25_code
def y_X2_kept : MethodName := ⟨"LimbRowsModel", "kept", "(II)I"⟩
abbrev b_X2_subtract : ByteArray := prog_4_method_28_code
def y_X2_subtract : MethodName := ⟨"LimbRowsModel", "subtract", "(II)I"⟩
abbrev b_X2_addProduct : ByteArray := prog_4_method_30_code
def y_X2_addProduct : MethodName := ⟨"LimbRowsModel", "addProduct", "(III)I"⟩
abbrev b_X2_product : ByteArray := prog_4_method_29_code
def y_X2_product : MethodName := ⟨"LimbRowsModel", "product", "(IIIZ)I"⟩
abbrev b_X2_multiply : ByteArray := prog_4_method_17_code
def y_X2_multiply : MethodName := ⟨"LimbRowsModel", "multiply", "()V"⟩
abbrev b_X2_subtractProduct : ByteArray := prog_4_method_31_code
def y_X2_subtractProduct : MethodName := ⟨"LimbRowsModel", "subtractProduct", "(III)I"⟩
abbrev b_X2_times : ByteArray := prog_4_method_32_code
def y_X2_times : MethodName := ⟨"LimbRowsModel", "times", "(IJ)I"⟩
abbrev b_X2_negate : ByteArray := prog_4_method_33_code
def y_X2_negate : MethodName := ⟨"LimbRowsModel", "negate", "(I)Z"⟩
abbrev b_X2_left : ByteArray := prog_4_method_34_code
def y_X2_left : MethodName := ⟨"LimbRowsModel", "left", "(II)I"⟩
abbrev b_X2_right : ByteArray := prog_4_method_36_code
def y_X2_right : MethodName := ⟨"LimbRowsModel", "right", "(II)I"⟩
abbrev b_X2_halve : ByteArray := prog_4_method_35_code
def y_X2_halve : MethodName := ⟨"LimbRowsModel", "halve", "(IZ)V"⟩
abbrev b_X2_nearest : ByteArray := prog_4_method_37_code
def y_X2_nearest : MethodName := ⟨"LimbRowsModel", "nearest", "(II)I"⟩
abbrev b_X2_divide : ByteArray := prog_4_method_38_code
def y_X2_divide : MethodName := ⟨"LimbRowsModel", "divide", "(IJ)J"⟩
abbrev b_X2_zeros : ByteArray := prog_4_method_39_code
def y_X2_zeros : MethodName := ⟨"LimbRowsModel", "zeros", "(I)I"⟩
abbrev b_X2_length : ByteArray := prog_4_method_40_code
def y_X2_length : MethodName := ⟨"LimbRowsModel", "length", "(I)I"⟩
abbrev b_X2_sign : ByteArray := prog_4_method_41_code
def y_X2_sign : MethodName := ⟨"LimbRowsModel", "sign", "(I)I"⟩
abbrev b_X2_compare : ByteArray := prog_4_method_42_code
def y_X2_compare : MethodName := ⟨"LimbRowsModel", "compare", "(II)I"⟩
